theorem zi_24 : (24 : Int32).toInt = 24 := by decide
theorem zj_100 : (100 : Int64).toInt = 100 := by decide
theorem zj_18 : (18 : Int64).toInt = 18 := by decide
set_option maxHeartbeats 8000000 in
set_option maxRecDepth 100000 in
theorem g_X12_sumFrom (l : Launch) (D : va_G) (cA : Nat → ClassId) (h0 : Nat) (m_thrown : Int32) (m_qworld : Nat) (m_qimages : Nat) (m_qhasImage : Nat) (m_qtape : Nat) (m_taped : Int32) (m_qfive : Nat) (m_size : Int32) (m_at : Int32) (m_from : Int32) (m_token : Int32) (m_value : Int32) (m_faultKind : Int32) (m_faultPlace : Int32) (m_qfresh : Nat) (m_startOne : Int32) (m_startOther : Int32) (m_latest : Int32) (m_leftBeats : Int32) (m_signed : Int32) (m_metMany : Int32) (m_qsums : Nat) (m_qpairs : Nat) (m_qgoesWith : Nat) (m_qsaid : Nat) (m_saidMany : Int32) (m_firstWait : Int32) (m_qfirstOrder : Nat) (m_bundleFirst : Int32) (m_qtiredBy : Nat) (m_tiredMany : Int32) (m_qmany : Nat) (m_qwidth : Nat) (m_qnumbers : Nat) (m_qmoving : Nat) (m_csums : Nat → Int32) (p0 : Int32) (p1 : Int32) (h_m_taped : 0 ≤ (m_taped : Int32).toInt ∧ (m_taped : Int32).toInt ≤ 800) (h_m_size : 0 ≤ (m_size : Int32).toInt ∧ (m_size : Int32).toInt ≤ 800) (h_m_at : 0 ≤ (m_at : Int32).toInt ∧ (m_at : Int32).toInt ≤ 800) (h_m_from : 0 ≤ (m_from : Int32).toInt ∧ (m_from : Int32).toInt ≤ 800) (h_m_saidMany : 0 ≤ (m_saidMany : Int32).toInt ∧ (m_saidMany : Int32).toInt ≤ 60) (h_m_tiredMany : 0 ≤ (m_tiredMany : Int32).toInt ∧ (m_tiredMany : Int32).toInt ≤ 240) (h_p0 : 0 ≤ (p0 : Int32).toInt ∧ (p0 : Int32).toInt ≤ 8) (h_p1 : 0 ≤ (p1 : Int32).toInt ∧ (p1 : Int32).toInt ≤ 255) : Met l yX12_sumFrom (Cond.code yX12_sumFrom cX12_sumFrom 3 (some .int) :: TB) (rmd 0 0 0) (PP D cA [(h0, .inr (12, [.int m_thrown, .ref m_qworld, .ref m_qimages, .ref m_qhasImage, .ref m_qtape, .int m_taped, .ref m_qfive, .int m_size, .int m_at, .int m_from, .int m_token, .int m_value, .int m_faultKind, .int m_faultPlace, .ref m_qfresh, .int m_startOne, .int m_startOther, .int m_latest, .int m_leftBeats, .int m_signed, .int m_metMany, .ref m_qsums, .ref m_qpairs, .ref m_qgoesWith, .ref m_qsaid, .int m_saidMany, .int m_firstWait, .ref m_qfirstOrder, .int m_bundleFirst, .ref m_qtiredBy, .int m_tiredMany, .ref m_qmany, .ref m_qwidth, .ref m_qnumbers, .ref m_qmoving])), (m_qsums, .inl (cA 1, 2304, .inl m_csums))] [.ref h0, .int p0, .int p1]) (vp_Si (fun r => True)) 0 0 (fun _ => False) := by
  refine Met.ofW (cc := cX12_sumFrom) (maxL := 3) (ret := (some .int)) (by decide) rfl ?_
  intro p e s m args below meth c s₁ B hml hv
  obtain ⟨rfl, hP, hKN⟩ := hv
  have hx := B.exec
  have hb := B.bytes
  have hr := B.returns
  have hts : ∀ w ∈ TB, w.before _ s = true := fun w h => atoms_spec B.pre w (List.mem_cons_of_mem _ h)
  have hown : s.vm.findClass RX12 = some m.cls := findClass_of_methodNamed B.named
  have hlocks := B.notSynchronized
  have hl := lv_entry ([.ref h0, .int p0, .int p1]) (n := 3) (Nat.le_of_ble_eq_true rfl)
  rw [lg_entry_eq]
  generalize (lg_sl ([.ref h0, .int p0, .int p1]) ++ List.replicate (3 - (lg_sl ([.ref h0, .int p0, .int p1])).length) Slot.unset).toArray = ls at hl ⊢
  have hl : lv_has ls 3 [(0, .ref h0), (1, .int p0), (2, .int p1)] := hl
  refine lv_aload_n hx hb dX12_sumFrom_0 rfl (lv_at hl 0 rfl) ?_
  refine va_get (D := D) (ci := 12) (v := .ref m_qsums) (C := RX12) (T := TX12) (N := 35) hx hb hts inX12 hown hKN.1 hP 0 rfl rfl 21 (by decide) (hts _ tw_1440) (fun _ h9 => h9) rfl dX12_sumFrom_1 ?_
  refine lv_iload_n hx hb dX12_sumFrom_4 rfl (lv_at hl 1 rfl) ?_
  refine lv_bipush (v := 8) hx hb dX12_sumFrom_5 (by decide) ?_
  refine lv_ishl hx hb dX12_sumFrom_7 ?_
  refine lv_topi (fun x_1 ex_1 => ?_)
  have k_2 := ar_shl8 ex_1 (by omega) (by omega)
  refine lv_iload_n hx hb dX12_sumFrom_8 rfl (lv_at hl 2 rfl) ?_
  refine lv_ior hx hb dX12_sumFrom_9 ?_
  refine lv_topi (fun x_3 ex_3 => ?_)
  have k_4 := ar_or8 rfl rfl ex_3 (by omega) (by omega) (by omega)
  refine va_iald hx hb hKN.1 hP 1 1 rfl rfl (vp_in_iff.mpr ⟨by omega, by omega⟩) dX12_sumFrom_10 ?_
  refine lv_topi (fun x_5 ex_5 => ?_)
  exact W.iret (v := x_5) hx hb hr (fun t ht hW => ⟨x_5, rfl, trivial, ht⟩) (fun _ h => by cases h) dX12_sumFrom_11
set_option maxHeartbeats 8000000 in
set_option maxRecDepth 100000 in
theorem g_X12_layMatch (l : Launch) (D : va_G) (cA : Nat → ClassId) (sz : Nat) (h0 : Nat) (m_thrown : Int32) (m_qworld : Nat) (m_qimages : Nat) (m_qhasImage : Nat) (m_qtape : Nat) (m_taped : Int32) (m_qfive : Nat) (m_size : Int32) (m_at : Int32) (m_from : Int32) (m_token : Int32) (m_value : Int32) (m_faultKind : Int32) (m_faultPlace : Int32) (m_qfresh : Nat) (m_startOne : Int32) (m_startOther : Int32) (m_latest : Int32) (m_leftBeats : Int32) (m_signed : Int32) (m_metMany : Int32) (m_qsums : Nat) (m_qpairs : Nat) (m_qgoesWith : Nat) (m_qsaid : Nat) (m_saidMany : Int32) (m_firstWait : Int32) (m_qfirstOrder : Nat) (m_bundleFirst : Int32) (m_qtiredBy : Nat) (m_tiredMany : Int32) (m_qmany : Nat) (m_qwidth : Nat) (m_qnumbers : Nat) (m_qmoving : Nat) (m_cworld : Nat → Int32) (m_csums : Nat → Int32) (m_cpairs : Nat → Int32) (p0 : Int32) (h_m_taped : 0 ≤ (m_taped : Int32).toInt ∧ (m_taped : Int32).toInt ≤ 800) (h_m_size : 0 ≤ (m_size : Int32).toInt ∧ (m_size : Int32).toInt ≤ 800) (h_m_at : 0 ≤ (m_at : Int32).toInt ∧ (m_at : Int32).toInt ≤ 800) (h_m_from : 0 ≤ (m_from : Int32).toInt ∧ (m_from : Int32).toInt ≤ 800) (h_m_saidMany : 0 ≤ (m_saidMany : Int32).toInt ∧ (m_saidMany : Int32).toInt ≤ 60) (h_m_tiredMany : 0 ≤ (m_tiredMany : Int32).toInt ∧ (m_tiredMany : Int32).toInt ≤ 240) (a_m_cworld_0 : WI m_cworld) : Met l yX12_layMatch (Cond.code yX12_layMatch cX12_layMatch 8 none :: TB) (rmd 4 0 0) (PM D cA sz [(h0, .inr (12, [.int m_thrown, .ref m_qworld, .ref m_qimages, .ref m_qhasImage, .ref m_qtape, .int m_taped, .ref m_qfive, .int m_size, .int m_at, .int m_from, .int m_token, .int m_value, .int m_faultKind, .int m_faultPlace, .ref m_qfresh, .int m_startOne, .int m_startOther, .int m_latest, .int m_leftBeats, .int m_signed, .int m_metMany, .ref m_qsums, .ref m_qpairs, .ref m_qgoesWith, .ref m_qsaid, .int m_saidMany, .int m_firstWait, .ref m_qfirstOrder, .int m_bundleFirst, .ref m_qtiredBy, .int m_tiredMany, .ref m_qmany, .ref m_qwidth, .ref m_qnumbers, .ref m_qmoving])), (m_qworld, .inl (cA 1, 122, .inl m_cworld)), (m_qsums, .inl (cA 1, 2304, .inl m_csums)), (m_qpairs, .inl (cA 1, 2304, .inl m_cpairs))] [.ref h0, .int p0]) (va_Qv (fun (u : SU) => True) (fun u t => va_P D vwCl [(h0, .inr (12, [.int m_thrown, .ref m_qworld, .ref m_qimages, .ref m_qhasImage, .ref m_qtape, .int m_taped, .ref m_qfive, .int m_size, .int m_at, .int m_from, .int m_token, .int m_value, .int m_faultKind, .int m_faultPlace, .ref m_qfresh, .int m_startOne, .int m_startOther, .int m_latest, .int m_leftBeats, .int m_signed, .int m_metMany, .ref m_qsums, .ref m_qpairs, .ref m_qgoesWith, .ref m_qsaid, .int m_saidMany, .int m_firstWait, .ref m_qfirstOrder, .int m_bundleFirst, .ref m_qtiredBy, .int m_tiredMany, .ref m_qmany, .ref m_qwidth, .ref m_qnumbers, .ref m_qmoving])), (m_qworld, .inl (cA 1, 122, .inl m_cworld)), (m_qsums, .inl (cA 1, 2304, .inl (u.2.2.1 0))), (m_qpairs, .inl (cA 1, 2304, .inl (u.2.2.1 1)))] t.heap ∧ va_D (va_A [(h0, .inr (12, [.int m_thrown, .ref m_qworld, .ref m_qimages, .ref m_qhasImage, .ref m_qtape, .int m_taped, .ref m_qfive, .int m_size, .int m_at, .int m_from, .int m_token, .int m_value, .int m_faultKind, .int m_faultPlace, .ref m_qfresh, .int m_startOne, .int m_startOther, .int m_latest, .int m_leftBeats, .int m_signed, .int m_metMany, .ref m_qsums, .ref m_qpairs, .ref m_qgoesWith, .ref m_qsaid, .int m_saidMany, .int m_firstWait, .ref m_qfirstOrder, .int m_bundleFirst, .ref m_qtiredBy, .int m_tiredMany, .ref m_qmany, .ref m_qwidth, .ref m_qnumbers, .ref m_qmoving])), (m_qworld, .inl (cA 1, 122, .inl m_cworld)), (m_qsums, .inl (cA 1, 2304, .inl m_csums)), (m_qpairs, .inl (cA 1, 2304, .inl m_cpairs))] sz) [(h0, .inr (12, [.int m_thrown, .ref m_qworld, .ref m_qimages, .ref m_qhasImage, .ref m_qtape, .int m_taped, .ref m_qfive, .int m_size, .int m_at, .int m_from, .int m_token, .int m_value, .int m_faultKind, .int m_faultPlace, .ref m_qfresh, .int m_startOne, .int m_startOther, .int m_latest, .int m_leftBeats, .int m_signed, .int m_metMany, .ref m_qsums, .ref m_qpairs, .ref m_qgoesWith, .ref m_qsaid, .int m_saidMany, .int m_firstWait, .ref m_qfirstOrder, .int m_bundleFirst, .ref m_qtiredBy, .int m_tiredMany, .ref m_qmany, .ref m_qwidth, .ref m_qnumbers, .ref m_qmoving])), (m_qworld, .inl (cA 1, 122, .inl m_cworld)), (m_qsums, .inl (cA 1, 2304, .inl (u.2.2.1 0))), (m_qpairs, .inl (cA 1, 2304, .inl (u.2.2.1 1)))]) (va_A [(h0, .inr (12, [.int m_thrown, .ref m_qworld, .ref m_qimages, .ref m_qhasImage, .ref m_qtape, .int m_taped, .ref m_qfive, .int m_size, .int m_at, .int m_from, .int m_token, .int m_value, .int m_faultKind, .int m_faultPlace, .ref m_qfresh, .int m_startOne, .int m_startOther, .int m_latest, .int m_leftBeats, .int m_signed, .int m_metMany, .ref m_qsums, .ref m_qpairs, .ref m_qgoesWith, .ref m_qsaid, .int m_saidMany, .int m_firstWait, .ref m_qfirstOrder, .int m_bundleFirst, .ref m_qtiredBy, .int m_tiredMany, .ref m_qmany, .ref m_qwidth, .ref m_qnumbers, .ref m_qmoving])), (m_qworld, .inl (cA 1, 122, .inl m_cworld)), (m_qsums, .inl (cA 1, 2304, .inl m_csums)), (m_qpairs, .inl (cA 1, 2304, .inl m_cpairs))] sz)) 0 0 (va_A [(h0, .inr (12, [.int m_thrown, .ref m_qworld, .ref m_qimages, .ref m_qhasImage, .ref m_qtape, .int m_taped, .ref m_qfive, .int m_size, .int m_at, .int m_from, .int m_token, .int m_value, .int m_faultKind, .int m_faultPlace, .ref m_qfresh, .int m_startOne, .int m_startOther, .int m_latest, .int m_leftBeats, .int m_signed, .int m_metMany, .ref m_qsums, .ref m_qpairs, .ref m_qgoesWith, .ref m_qsaid, .int m_saidMany, .int m_firstWait, .ref m_qfirstOrder, .int m_bundleFirst, .ref m_qtiredBy, .int m_tiredMany, .ref m_qmany, .ref m_qwidth, .ref m_qnumbers, .ref m_qmoving])), (m_qworld, .inl (cA 1, 122, .inl m_cworld)), (m_qsums, .inl (cA 1, 2304, .inl m_csums)), (m_qpairs, .inl (cA 1, 2304, .inl m_cpairs))] sz) := by
  refine Met.ofW (cc := cX12_layMatch) (maxL := 8) (ret := none) (by decide) rfl ?_
  intro p e s m args below meth c s₁ B hml hv
  obtain ⟨rfl, hsz, hP, hKN, hD0⟩ := hv
  have hx := B.exec
  have hb := B.bytes
  have hr := B.returns
  have hts : ∀ w ∈ TB, w.before _ s = true := fun w h => atoms_spec B.pre w (List.mem_cons_of_mem _ h)
  have hown : s.vm.findClass RX12 = some m.cls := findClass_of_methodNamed B.named
  have hlocks := B.notSynchronized
  subst hsz
  have hD := hD0.self (sz := s.heap.size)
  generalize hAe : va_A [(h0, .inr (12, [.int m_thrown, .ref m_qworld, .ref m_qimages, .ref m_qhasImage, .ref m_qtape, .int m_taped, .ref m_qfive, .int m_size, .int m_at, .int m_from, .int m_token, .int m_value, .int m_faultKind, .int m_faultPlace, .ref m_qfresh, .int m_startOne, .int m_startOther, .int m_latest, .int m_leftBeats, .int m_signed, .int m_metMany, .ref m_qsums, .ref m_qpairs, .ref m_qgoesWith, .ref m_qsaid, .int m_saidMany, .int m_firstWait, .ref m_qfirstOrder, .int m_bundleFirst, .ref m_qtiredBy, .int m_tiredMany, .ref m_qmany, .ref m_qwidth, .ref m_qnumbers, .ref m_qmoving])), (m_qworld, .inl (cA 1, 122, .inl m_cworld)), (m_qsums, .inl (cA 1, 2304, .inl m_csums)), (m_qpairs, .inl (cA 1, 2304, .inl m_cpairs))] s.heap.size = A at hD ⊢
  have hA : ∀ q : Nat, s.heap.size ≤ q → A q := fun q h => by rw [← hAe]; exact Or.inr h
  have hS : va_S A s.heap s.heap [] := va_S.rf
  have hl := lv_entry ([.ref h0, .int p0]) (n := 8) (Nat.le_of_ble_eq_true rfl)
  rw [lg_entry_eq]
  generalize (lg_sl ([.ref h0, .int p0]) ++ List.replicate (8 - (lg_sl ([.ref h0, .int p0])).length) Slot.unset).toArray = ls at hl ⊢
  have hl : lv_has ls 8 [(0, .ref h0), (1, .int p0)] := hl
  refine lv_aload_n hx hb dX12_layMatch_0 rfl (lv_at hl 0 rfl) ?_
  refine va_get (D := D) (ci := 12) (v := .ref m_qworld) (C := RX12) (T := TX12) (N := 35) hx hb hts inX12 hown hKN.1 hP 0 rfl rfl 1 (by decide) (hts _ tw_1420) (fun _ h9 => h9) rfl dX12_layMatch_1 ?_
  refine lv_iconst (v := 4) hx hb dX12_layMatch_4 (by decide) ?_
  refine va_iald hx hb hKN.1 hP 1 1 rfl rfl (by unfold vp_in; decide) dX12_layMatch_5 ?_
  refine W.eq (g2 := F0 m 6 ls [.int (m_cworld 4)]) rfl ?_
  have k_1 := a_m_cworld_0.1.1.2.2.2.1 (4) (by decide) (by decide)
  refine lv_istore_n (lv' := [(2, .int (m_cworld 4)), (0, .ref h0), (1, .int p0)]) hx hb dX12_layMatch_6 rfl hl (by decide) rfl (fun ls hl => ?_)
  refine lv_iload_n hx hb dX12_layMatch_7 rfl (lv_at hl 0 rfl) ?_
  refine lv_istore_n (lv' := [(3, .int (m_cworld 4)), (2, .int (m_cworld 4)), (0, .ref h0), (1, .int p0)]) hx hb dX12_layMatch_8 rfl hl (by decide) rfl (fun ls hl => ?_)
  refine loopW (σ := Int32 × (Nat → Int32) × (Nat → Int32)) (fun _ => []) (fun ⟨L3_32297, F1_32297, F2_32297⟩ H locs ls => (-1 ≤ L3_32297.toInt ∧ L3_32297.toInt ≤ 8) ∧ (L3_32297.toInt ≤ (m_cworld 4).toInt) ∧ va_P D vwCl [(h0, .inr (12, [.int m_thrown, .ref m_qworld, .ref m_qimages, .ref m_qhasImage, .ref m_qtape, .int m_taped, .ref m_qfive, .int m_size, .int m_at, .int m_from, .int m_token, .int m_value, .int m_faultKind, .int m_faultPlace, .ref m_qfresh, .int m_startOne, .int m_startOther, .int m_latest, .int m_leftBeats, .int m_signed, .int m_metMany, .ref m_qsums, .ref m_qpairs, .ref m_qgoesWith, .ref m_qsaid, .int m_saidMany, .int m_firstWait, .ref m_qfirstOrder, .int m_bundleFirst, .ref m_qtiredBy, .int m_tiredMany, .ref m_qmany, .ref m_qwidth, .ref m_qnumbers, .ref m_qmoving])), (m_qworld, .inl (cA 1, 122, .inl m_cworld)), (m_qsums, .inl (cA 1, 2304, .inl F1_32297)), (m_qpairs, .inl (cA 1, 2304, .inl F2_32297))] H ∧ va_D A [(h0, .inr (12, [.int m_thrown, .ref m_qworld, .ref m_qimages, .ref m_qhasImage, .ref m_qtape, .int m_taped, .ref m_qfive, .int m_size, .int m_at, .int m_from, .int m_token, .int m_value, .int m_faultKind, .int m_faultPlace, .ref m_qfresh, .int m_startOne, .int m_startOther, .int m_latest, .int m_leftBeats, .int m_signed, .int m_metMany, .ref m_qsums, .ref m_qpairs, .ref m_qgoesWith, .ref m_qsaid, .int m_saidMany, .int m_firstWait, .ref m_qfirstOrder, .int m_bundleFirst, .ref m_qtiredBy, .int m_tiredMany, .ref m_qmany, .ref m_qwidth, .ref m_qnumbers, .ref m_qmoving])), (m_qworld, .inl (cA 1, 122, .inl m_cworld)), (m_qsums, .inl (cA 1, 2304, .inl F1_32297)), (m_qpairs, .inl (cA 1, 2304, .inl F2_32297))] ∧ va_S A s.heap H locs ∧ lv_has ls 8 [(3, .int L3_32297), (2, .int (m_cworld 4)), (0, .ref h0), (1, .int p0)]) (fun ⟨L3_32297, F1_32297, F2_32297⟩ => (L3_32297.toInt + 2147483648).toNat) ?_ (((m_cworld 4), m_csums, m_cpairs) : Int32 × (Nat → Int32) × (Nat → Int32)) ⟨(show -1 ≤ (m_cworld 4).toInt ∧ (m_cworld 4).toInt ≤ 8 from by omega), (show (m_cworld 4).toInt ≤ (m_cworld 4).toInt from by first | omega | decide), hP, hD, hS, hl⟩
  intro x_32297 H locs ls hI_32297 ih_32297
  obtain ⟨L3_32297, F1_32297, F2_32297⟩ := x_32297
  obtain ⟨k0_32297, k1_32297, hP, hD, hS, hl⟩ := hI_32297
  have hP : va_P D vwCl [(h0, .inr (12, [.int m_thrown, .ref m_qworld, .ref m_qimages, .ref m_qhasImage, .ref m_qtape, .int m_taped, .ref m_qfive, .int m_size, .int m_at, .int m_from, .int m_token, .int m_value, .int m_faultKind, .int m_faultPlace, .ref m_qfresh, .int m_startOne, .int m_startOther, .int m_latest, .int m_leftBeats, .int m_signed, .int m_metMany, .ref m_qsums, .ref m_qpairs, .ref m_qgoesWith, .ref m_qsaid, .int m_saidMany, .int m_firstWait, .ref m_qfirstOrder, .int m_bundleFirst, .ref m_qtiredBy, .int m_tiredMany, .ref m_qmany, .ref m_qwidth, .ref m_qnumbers, .ref m_qmoving])), (m_qworld, .inl (cA 1, 122, .inl m_cworld)), (m_qsums, .inl (cA 1, 2304, .inl F1_32297)), (m_qpairs, .inl (cA 1, 2304, .inl F2_32297))] H := hP
  have hD : va_D A [(h0, .inr (12, [.int m_thrown, .ref m_qworld, .ref m_qimages, .ref m_qhasImage, .ref m_qtape, .int m_taped, .ref m_qfive, .int m_size, .int m_at, .int m_from, .int m_token, .int m_value, .int m_faultKind, .int m_faultPlace, .ref m_qfresh, .int m_startOne, .int m_startOther, .int m_latest, .int m_leftBeats, .int m_signed, .int m_metMany, .ref m_qsums, .ref m_qpairs, .ref m_qgoesWith, .ref m_qsaid, .int m_saidMany, .int m_firstWait, .ref m_qfirstOrder, .int m_bundleFirst, .ref m_qtiredBy, .int m_tiredMany, .ref m_qmany, .ref m_qwidth, .ref m_qnumbers, .ref m_qmoving])), (m_qworld, .inl (cA 1, 122, .inl m_cworld)), (m_qsums, .inl (cA 1, 2304, .inl F1_32297)), (m_qpairs, .inl (cA 1, 2304, .inl F2_32297))] := hD
  have hl : lv_has ls 8 [(3, .int L3_32297), (2, .int (m_cworld 4)), (0, .ref h0), (1, .int p0)] := hl
  refine lv_iload_n hx hb dX12_layMatch_9 rfl (lv_at hl 0 rfl) ?_
  refine lv_if_lt (tgt := 231) hx hb dX12_layMatch_10 (by decide) (fun c_32298 => ?_) (fun c_32298 => ?_)
  · skip
    have k_32299 := kk_lt rfl zi_0 c_32298
    have hP9 := hP.sub (ws' := [(h0, .inr (12, [.int m_thrown, .ref m_qworld, .ref m_qimages, .ref m_qhasImage, .ref m_qtape, .int m_taped, .ref m_qfive, .int m_size, .int m_at, .int m_from, .int m_token, .int m_value, .int m_faultKind, .int m_faultPlace, .ref m_qfresh, .int m_startOne, .int m_startOther, .int m_latest, .int m_leftBeats, .int m_signed, .int m_metMany, .ref m_qsums, .ref m_qpairs, .ref m_qgoesWith, .ref m_qsaid, .int m_saidMany, .int m_firstWait, .ref m_qfirstOrder, .int m_bundleFirst, .ref m_qtiredBy, .int m_tiredMany, .ref m_qmany, .ref m_qwidth, .ref m_qnumbers, .ref m_qmoving])), (m_qworld, .inl (cA 1, 122, .inl m_cworld)), (m_qsums, .inl (cA 1, 2304, .inl F1_32297)), (m_qpairs, .inl (cA 1, 2304, .inl F2_32297))]) [0, 1, 2, 3] rfl
    have hD9 := hD.sub (ws' := [(h0, .inr (12, [.int m_thrown, .ref m_qworld, .ref m_qimages, .ref m_qhasImage, .ref m_qtape, .int m_taped, .ref m_qfive, .int m_size, .int m_at, .int m_from, .int m_token, .int m_value, .int m_faultKind, .int m_faultPlace, .ref m_qfresh, .int m_startOne, .int m_startOther, .int m_latest, .int m_leftBeats, .int m_signed, .int m_metMany, .ref m_qsums, .ref m_qpairs, .ref m_qgoesWith, .ref m_qsaid, .int m_saidMany, .int m_firstWait, .ref m_qfirstOrder, .int m_bundleFirst, .ref m_qtiredBy, .int m_tiredMany, .ref m_qmany, .ref m_qwidth, .ref m_qnumbers, .ref m_qmoving])), (m_qworld, .inl (cA 1, 122, .inl m_cworld)), (m_qsums, .inl (cA 1, 2304, .inl F1_32297)), (m_qpairs, .inl (cA 1, 2304, .inl F2_32297))]) [0, 1, 2, 3] (by decide) rfl
    exact W.vret hx hb hr (fun t ht hW => ⟨⟨((fun _ => 0), (fun _ => 0), (selF [F1_32297, F2_32297]), (fun _ _ => 0)), rfl, trivial, by rw [ht]; exact hP9, hD9⟩, hS.F ht⟩) hS.2.2 dX12_layMatch_231
  · skip
    have k_32300 := kk_nlt rfl zi_0 c_32298
    refine lv_iconst (v := 0) hx hb dX12_layMatch_13 (by decide) ?_
    refine lv_istore (lv' := [(4, .int 0), (3, .int L3_32297), (2, .int (m_cworld 4)), (0, .ref h0), (1, .int p0)]) hx hb dX12_layMatch_14 hl (by decide) rfl (fun ls hl => ?_)
    refine loopW (σ := Int32 × (Nat → Int32) × (Nat → Int32)) (fun _ => []) (fun ⟨L4_41523, F1_41523, F2_41523⟩ H locs ls => (0 ≤ L4_41523.toInt ∧ L4_41523.toInt ≤ 256) ∧ va_P D vwCl [(h0, .inr (12, [.int m_thrown, .ref m_qworld, .ref m_qimages, .ref m_qhasImage, .ref m_qtape, .int m_taped, .ref m_qfive, .int m_size, .int m_at, .int m_from, .int m_token, .int m_value, .int m_faultKind, .int m_faultPlace, .ref m_qfresh, .int m_startOne, .int m_startOther, .int m_latest, .int m_leftBeats, .int m_signed, .int m_metMany, .ref m_qsums, .ref m_qpairs, .ref m_qgoesWith, .ref m_qsaid, .int m_saidMany, .int m_firstWait, .ref m_qfirstOrder, .int m_bundleFirst, .ref m_qtiredBy, .int m_tiredMany, .ref m_qmany, .ref m_qwidth, .ref m_qnumbers, .ref m_qmoving])), (m_qworld, .inl (cA 1, 122, .inl m_cworld)), (m_qsums, .inl (cA 1, 2304, .inl F1_41523)), (m_qpairs, .inl (cA 1, 2304, .inl F2_41523))] H ∧ va_D A [(h0, .inr (12, [.int m_thrown, .ref m_qworld, .ref m_qimages, .ref m_qhasImage, .ref m_qtape, .int m_taped, .ref m_qfive, .int m_size, .int m_at, .int m_from, .int m_token, .int m_value, .int m_faultKind, .int m_faultPlace, .ref m_qfresh, .int m_startOne, .int m_startOther, .int m_latest, .int m_leftBeats, .int m_signed, .int m_metMany, .ref m_qsums, .ref m_qpairs, .ref m_qgoesWith, .ref m_qsaid, .int m_saidMany, .int m_firstWait, .ref m_qfirstOrder, .int m_bundleFirst, .ref m_qtiredBy, .int m_tiredMany, .ref m_qmany, .ref m_qwidth, .ref m_qnumbers, .ref m_qmoving])), (m_qworld, .inl (cA 1, 122, .inl m_cworld)), (m_qsums, .inl (cA 1, 2304, .inl F1_41523)), (m_qpairs, .inl (cA 1, 2304, .inl F2_41523))] ∧ va_S A s.heap H locs ∧ lv_has ls 8 [(4, .int L4_41523), (3, .int L3_32297), (2, .int (m_cworld 4)), (0, .ref h0), (1, .int p0)]) (fun ⟨L4_41523, F1_41523, F2_41523⟩ => (2147483647 - L4_41523.toInt).toNat) ?_ ((0, F1_32297, F2_32297) : Int32 × (Nat → Int32) × (Nat → Int32)) ⟨(by decide), hP, hD, hS, hl⟩
    intro x_41523 H locs ls hI_41523 ih_41523
    obtain ⟨L4_41523, F1_41523, F2_41523⟩ := x_41523
    obtain ⟨k0_41523, hP, hD, hS, hl⟩ := hI_41523
    have hP : va_P D vwCl [(h0, .inr (12, [.int m_thrown, .ref m_qworld, .ref m_qimages, .ref m_qhasImage, .ref m_qtape, .int m_taped, .ref m_qfive, .int m_size, .int m_at, .int m_from, .int m_token, .int m_value, .int m_faultKind, .int m_faultPlace, .ref m_qfresh, .int m_startOne, .int m_startOther, .int m_latest, .int m_leftBeats, .int m_signed, .int m_metMany, .ref m_qsums, .ref m_qpairs, .ref m_qgoesWith, .ref m_qsaid, .int m_saidMany, .int m_firstWait, .ref m_qfirstOrder, .int m_bundleFirst, .ref m_qtiredBy, .int m_tiredMany, .ref m_qmany, .ref m_qwidth, .ref m_qnumbers, .ref m_qmoving])), (m_qworld, .inl (cA 1, 122, .inl m_cworld)), (m_qsums, .inl (cA 1, 2304, .inl F1_41523)), (m_qpairs, .inl (cA 1, 2304, .inl F2_41523))] H := hP
    have hD : va_D A [(h0, .inr (12, [.int m_thrown, .ref m_qworld, .ref m_qimages, .ref m_qhasImage, .ref m_qtape, .int m_taped, .ref m_qfive, .int m_size, .int m_at, .int m_from, .int m_token, .int m_value, .int m_faultKind, .int m_faultPlace, .ref m_qfresh, .int m_startOne, .int m_startOther, .int m_latest, .int m_leftBeats, .int m_signed, .int m_metMany, .ref m_qsums, .ref m_qpairs, .ref m_qgoesWith, .ref m_qsaid, .int m_saidMany, .int m_firstWait, .ref m_qfirstOrder, .int m_bundleFirst, .ref m_qtiredBy, .int m_tiredMany, .ref m_qmany, .ref m_qwidth, .ref m_qnumbers, .ref m_qmoving])), (m_qworld, .inl (cA 1, 122, .inl m_cworld)), (m_qsums, .inl (cA 1, 2304, .inl F1_41523)), (m_qpairs, .inl (cA 1, 2304, .inl F2_41523))] := hD
    have hl : lv_has ls 8 [(4, .int L4_41523), (3, .int L3_32297), (2, .int (m_cworld 4)), (0, .ref h0), (1, .int p0)] := hl
    refine lv_iload hx hb dX12_layMatch_16 (lv_at hl 0 rfl) ?_
    refine lv_iconst (v := 1) hx hb dX12_layMatch_18 (by decide) ?_
    refine lv_iload_n hx hb dX12_layMatch_19 rfl (lv_at hl 2 rfl) ?_
    refine lv_ishl hx hb dX12_layMatch_20 ?_
    refine lv_topi (fun x_41524 ex_41524 => ?_)
    have k_41525 := ar_shl1 ex_41524 (by omega) (by omega)
    refine lv_icmp_ge (tgt := 225) hx hb dX12_layMatch_21 (by decide) (fun c_41526 => ?_) (fun c_41526 => ?_)
    · skip
      have k_41527 := kk_le rfl rfl c_41526
      obtain ⟨x_41528, ex_41528⟩ : ∃ y : Int32, L3_32297 + Int32.ofInt (-1) = y := ⟨_, rfl⟩
      have k_41529 := ar_add (b := (-1)) rfl zi_m1 ex_41528.symm (by omega) (by omega)
      refine lv_iinc (v := x_41528) (lv' := [(3, .int x_41528), (4, .int L4_41523), (2, .int (m_cworld 4)), (0, .ref h0), (1, .int p0)]) hx hb dX12_layMatch_225 hl (k := 1) rfl ex_41528 (by decide) rfl (fun ls hl => ?_)
      refine lv_goto (tgt := 9) hx hb dX12_layMatch_228 (by decide) ?_
      exact ih_32297 (x_41528, F1_41523, F2_41523) _ _ _ ⟨(show -1 ≤ x_41528.toInt ∧ x_41528.toInt ≤ 8 from by omega), (show x_41528.toInt ≤ (m_cworld 4).toInt from by first | omega | decide), hP.sub [0, 1, 2, 3] rfl, hD.sub [0, 1, 2, 3] (by decide) rfl, hS, lv_sub hl [0, 2, 3, 4] rfl⟩ (by show (x_41528.toInt + 2147483648).toNat < (L3_32297.toInt + 2147483648).toNat; omega)
    · skip
      have k_41530 := kk_nle rfl rfl c_41526
      refine lv_iload_n hx hb dX12_layMatch_24 rfl (lv_at hl 1 rfl) ?_
      refine lv_iload_n hx hb dX12_layMatch_25 rfl (lv_at hl 2 rfl) ?_
      refine lv_icmp_ne (tgt := 33) hx hb dX12_layMatch_26 (by decide) (fun c_41531 => ?_) (fun c_41531 => ?_)
      · skip
        have k_41532 := kk_ne rfl rfl c_41531
        refine lv_aload_n hx hb dX12_layMatch_33 rfl (lv_at hl 3 rfl) ?_
        refine lv_iload_n hx hb dX12_layMatch_34 rfl (lv_at hl 1 rfl) ?_
        refine lv_iconst (v := 1) hx hb dX12_layMatch_35 (by decide) ?_
        refine lv_iadd hx hb dX12_layMatch_36 ?_
        refine lv_topi (fun x_41533 ex_41533 => ?_)
        have k_41534 := ar_add rfl zi_1 ex_41533 (by omega) (by omega)
        refine lv_iload hx hb dX12_layMatch_37 (lv_at hl 0 rfl) ?_
        refine cpVi (rest := []) ⟨hx, hb, hml, hown, hts⟩ hKN (hP.sub (ws' := [(h0, .inr (12, [.int m_thrown, .ref m_qworld, .ref m_qimages, .ref m_qhasImage, .ref m_qtape, .int m_taped, .ref m_qfive, .int m_size, .int m_at, .int m_from, .int m_token, .int m_value, .int m_faultKind, .int m_faultPlace, .ref m_qfresh, .int m_startOne, .int m_startOther, .int m_latest, .int m_leftBeats, .int m_signed, .int m_metMany, .ref m_qsums, .ref m_qpairs, .ref m_qgoesWith, .ref m_qsaid, .int m_saidMany, .int m_firstWait, .ref m_qfirstOrder, .int m_bundleFirst, .ref m_qtiredBy, .int m_tiredMany, .ref m_qmany, .ref m_qwidth, .ref m_qnumbers, .ref m_qmoving])), (m_qsums, .inl (cA 1, 2304, .inl F1_41523))]) [0, 2] rfl) (g_X12_sumFrom l D cA h0 m_thrown m_qworld m_qimages m_qhasImage m_qtape m_taped m_qfive m_size m_at m_from m_token m_value m_faultKind m_faultPlace m_qfresh m_startOne m_startOther m_latest m_leftBeats m_signed m_metMany m_qsums m_qpairs m_qgoesWith m_qsaid m_saidMany m_firstWait m_qfirstOrder m_bundleFirst m_qtiredBy m_tiredMany m_qmany m_qwidth m_qnumbers m_qmoving F1_41523 x_41533 L4_41523 (by omega) (by omega) (by omega) (by omega) (by omega) (by omega) (by omega) (by omega)) (tb_V tw_1803 tw_1805 tw_71 tw_114 tw_1806) hdX12_sumFrom ⟨rfl, rfl, Nat.le_of_ble_eq_true rfl, Nat.le_of_ble_eq_true rfl⟩ ⟨Nat.le_of_ble_eq_true rfl, Nat.le_of_ble_eq_true rfl⟩ rfl rfl rfl hl.1 rfl (Nat.le_of_ble_eq_true rfl) dX12_layMatch_39 (fun r_41535 hr_41535 => ?_)
        refine lv_istore (lv' := [(5, .int r_41535), (4, .int L4_41523), (3, .int L3_32297), (2, .int (m_cworld 4)), (0, .ref h0), (1, .int p0)]) hx hb dX12_layMatch_42 hl (by decide) rfl (fun ls hl => ?_)
        refine lv_iload_n hx hb dX12_layMatch_44 rfl (lv_at hl 2 rfl) ?_
        refine lv_iload_n hx hb dX12_layMatch_45 rfl (lv_at hl 3 rfl) ?_
        refine lv_icmp_ne (tgt := 53) hx hb dX12_layMatch_46 (by decide) (fun c_41536 => ?_) (fun c_41536 => ?_)
        · skip
          have k_41537 := kk_ne rfl rfl c_41536
          refine lv_aload_n hx hb dX12_layMatch_53 rfl (lv_at hl 4 rfl) ?_
          refine va_get (D := D) (ci := 12) (v := .ref m_qpairs) (C := RX12) (T := TX12) (N := 35) hx hb hts inX12 hown hKN.1 hP 0 rfl rfl 22 (by decide) (hts _ tw_1441) (fun _ h9 => h9) rfl dX12_layMatch_54 ?_
          refine lv_iload_n hx hb dX12_layMatch_57 rfl (lv_at hl 2 rfl) ?_
          refine lv_iconst (v := 1) hx hb dX12_layMatch_58 (by decide) ?_
          refine lv_iadd hx hb dX12_layMatch_59 ?_
          refine lv_topi (fun x_41538 ex_41538 => ?_)
          obtain rfl : x_41533 = x_41538 := ex_41533.trans ex_41538.symm
          refine lv_bipush (v := 8) hx hb dX12_layMatch_60 (by decide) ?_
          refine lv_ishl hx hb dX12_layMatch_62 ?_
          refine lv_topi (fun x_41539 ex_41539 => ?_)
          have k_41540 := ar_shl8 ex_41539 (by omega) (by omega)
          refine lv_iload hx hb dX12_layMatch_63 (lv_at hl 1 rfl) ?_
          refine lv_ior hx hb dX12_layMatch_65 ?_
          refine lv_topi (fun x_41541 ex_41541 => ?_)
          have k_41542 := ar_or8 rfl rfl ex_41541 (by omega) (by omega) (by omega)
          refine va_iald hx hb hKN.1 hP 3 1 rfl rfl (vp_in_iff.mpr ⟨by omega, by omega⟩) dX12_layMatch_66 ?_
          refine lv_topi (fun x_41543 ex_41543 => ?_)
          refine lv_istore (lv' := [(6, .int x_41543), (5, .int r_41535), (4, .int L4_41523), (3, .int L3_32297), (2, .int (m_cworld 4)), (0, .ref h0), (1, .int p0)]) hx hb dX12_layMatch_67 hl (by decide) rfl (fun ls hl => ?_)
          refine lv_iconst (v := 0) hx hb dX12_layMatch_69 (by decide) ?_
          refine lv_istore (lv' := [(7, .int 0), (6, .int x_41543), (5, .int r_41535), (4, .int L4_41523), (3, .int L3_32297), (2, .int (m_cworld 4)), (0, .ref h0), (1, .int p0)]) hx hb dX12_layMatch_70 hl (by decide) rfl (fun ls hl => ?_)
          have b_41835 := i32_bd x_41543
          have b_41836 := i32_bd r_41535
          refine loopW (σ := Int32 × Int32 × Int32) (fun _ => []) (fun ⟨L7_41834, L6_41834, L5_41834⟩ H locs ls => (0 ≤ L7_41834.toInt ∧ L7_41834.toInt ≤ 8) ∧ va_P D vwCl [(h0, .inr (12, [.int m_thrown, .ref m_qworld, .ref m_qimages, .ref m_qhasImage, .ref m_qtape, .int m_taped, .ref m_qfive, .int m_size, .int m_at, .int m_from, .int m_token, .int m_value, .int m_faultKind, .int m_faultPlace, .ref m_qfresh, .int m_startOne, .int m_startOther, .int m_latest, .int m_leftBeats, .int m_signed, .int m_metMany, .ref m_qsums, .ref m_qpairs, .ref m_qgoesWith, .ref m_qsaid, .int m_saidMany, .int m_firstWait, .ref m_qfirstOrder, .int m_bundleFirst, .ref m_qtiredBy, .int m_tiredMany, .ref m_qmany, .ref m_qwidth, .ref m_qnumbers, .ref m_qmoving])), (m_qworld, .inl (cA 1, 122, .inl m_cworld)), (m_qsums, .inl (cA 1, 2304, .inl F1_41523)), (m_qpairs, .inl (cA 1, 2304, .inl F2_41523))] H ∧ va_D A [(h0, .inr (12, [.int m_thrown, .ref m_qworld, .ref m_qimages, .ref m_qhasImage, .ref m_qtape, .int m_taped, .ref m_qfive, .int m_size, .int m_at, .int m_from, .int m_token, .int m_value, .int m_faultKind, .int m_faultPlace, .ref m_qfresh, .int m_startOne, .int m_startOther, .int m_latest, .int m_leftBeats, .int m_signed, .int m_metMany, .ref m_qsums, .ref m_qpairs, .ref m_qgoesWith, .ref m_qsaid, .int m_saidMany, .int m_firstWait, .ref m_qfirstOrder, .int m_bundleFirst, .ref m_qtiredBy, .int m_tiredMany, .ref m_qmany, .ref m_qwidth, .ref m_qnumbers, .ref m_qmoving])), (m_qworld, .inl (cA 1, 122, .inl m_cworld)), (m_qsums, .inl (cA 1, 2304, .inl F1_41523)), (m_qpairs, .inl (cA 1, 2304, .inl F2_41523))] ∧ va_S A s.heap H locs ∧ lv_has ls 8 [(7, .int L7_41834), (6, .int L6_41834), (5, .int L5_41834), (4, .int L4_41523), (3, .int L3_32297), (2, .int (m_cworld 4)), (0, .ref h0), (1, .int p0)]) (fun ⟨L7_41834, L6_41834, L5_41834⟩ => (2147483647 - L7_41834.toInt).toNat) ?_ ((0, x_41543, r_41535) : Int32 × Int32 × Int32) ⟨(by decide), hP, hD, hS, hl⟩
          intro x_41834 H locs ls hI_41834 ih_41834
          obtain ⟨L7_41834, L6_41834, L5_41834⟩ := x_41834
          obtain ⟨k0_41834, hP, hD, hS, hl⟩ := hI_41834
          have hP : va_P D vwCl [(h0, .inr (12, [.int m_thrown, .ref m_qworld, .ref m_qimages, .ref m_qhasImage, .ref m_qtape, .int m_taped, .ref m_qfive, .int m_size, .int m_at, .int m_from, .int m_token, .int m_value, .int m_faultKind, .int m_faultPlace, .ref m_qfresh, .int m_startOne, .int m_startOther, .int m_latest, .int m_leftBeats, .int m_signed, .int m_metMany, .ref m_qsums, .ref m_qpairs, .ref m_qgoesWith, .ref m_qsaid, .int m_saidMany, .int m_firstWait, .ref m_qfirstOrder, .int m_bundleFirst, .ref m_qtiredBy, .int m_tiredMany, .ref m_qmany, .ref m_qwidth, .ref m_qnumbers, .ref m_qmoving])), (m_qworld, .inl (cA 1, 122, .inl m_cworld)), (m_qsums, .inl (cA 1, 2304, .inl F1_41523)), (m_qpairs, .inl (cA 1, 2304, .inl F2_41523))] H := hP
          have hD : va_D A [(h0, .inr (12, [.int m_thrown, .ref m_qworld, .ref m_qimages, .ref m_qhasImage, .ref m_qtape, .int m_taped, .ref m_qfive, .int m_size, .int m_at, .int m_from, .int m_token, .int m_value, .int m_faultKind, .int m_faultPlace, .ref m_qfresh, .int m_startOne, .int m_startOther, .int m_latest, .int m_leftBeats, .int m_signed, .int m_metMany, .ref m_qsums, .ref m_qpairs, .ref m_qgoesWith, .ref m_qsaid, .int m_saidMany, .int m_firstWait, .ref m_qfirstOrder, .int m_bundleFirst, .ref m_qtiredBy, .int m_tiredMany, .ref m_qmany, .ref m_qwidth, .ref m_qnumbers, .ref m_qmoving])), (m_qworld, .inl (cA 1, 122, .inl m_cworld)), (m_qsums, .inl (cA 1, 2304, .inl F1_41523)), (m_qpairs, .inl (cA 1, 2304, .inl F2_41523))] := hD
          have hl : lv_has ls 8 [(7, .int L7_41834), (6, .int L6_41834), (5, .int L5_41834), (4, .int L4_41523), (3, .int L3_32297), (2, .int (m_cworld 4)), (0, .ref h0), (1, .int p0)] := hl
          refine lv_iload hx hb dX12_layMatch_72 (lv_at hl 0 rfl) ?_
          refine lv_iload_n hx hb dX12_layMatch_74 rfl (lv_at hl 5 rfl) ?_
          refine lv_icmp_ge (tgt := 191) hx hb dX12_layMatch_75 (by decide) (fun c_41837 => ?_) (fun c_41837 => ?_)
          · skip
            have k_41838 := kk_le rfl rfl c_41837
            refine lv_aload_n hx hb dX12_layMatch_191 rfl (lv_at hl 6 rfl) ?_
            refine va_get (D := D) (ci := 12) (v := .ref m_qsums) (C := RX12) (T := TX12) (N := 35) hx hb hts inX12 hown hKN.1 hP 0 rfl rfl 21 (by decide) (hts _ tw_1440) (fun _ h9 => h9) rfl dX12_layMatch_192 ?_
            refine lv_iload_n hx hb dX12_layMatch_195 rfl (lv_at hl 4 rfl) ?_
            refine lv_bipush (v := 8) hx hb dX12_layMatch_196 (by decide) ?_
            refine lv_ishl hx hb dX12_layMatch_198 ?_
            refine lv_topi (fun x_41839 ex_41839 => ?_)
            have k_41840 := ar_shl8 ex_41839 (by omega) (by omega)
            refine lv_iload hx hb dX12_layMatch_199 (lv_at hl 3 rfl) ?_
            refine lv_ior hx hb dX12_layMatch_201 ?_
            refine lv_topi (fun x_41841 ex_41841 => ?_)
            have k_41842 := ar_or8 rfl rfl ex_41841 (by omega) (by omega) (by omega)
            refine lv_iload hx hb dX12_layMatch_202 (lv_at hl 2 rfl) ?_
            refine va_iast hx hb hKN.1 hP hD hS 2 1 rfl rfl (vp_in_iff.mpr ⟨by omega, by omega⟩) dX12_layMatch_204 (fun H locs hP hD hS => ?_)
            have hP : va_P D vwCl [(h0, .inr (12, [.int m_thrown, .ref m_qworld, .ref m_qimages, .ref m_qhasImage, .ref m_qtape, .int m_taped, .ref m_qfive, .int m_size, .int m_at, .int m_from, .int m_token, .int m_value, .int m_faultKind, .int m_faultPlace, .ref m_qfresh, .int m_startOne, .int m_startOther, .int m_latest, .int m_leftBeats, .int m_signed, .int m_metMany, .ref m_qsums, .ref m_qpairs, .ref m_qgoesWith, .ref m_qsaid, .int m_saidMany, .int m_firstWait, .ref m_qfirstOrder, .int m_bundleFirst, .ref m_qtiredBy, .int m_tiredMany, .ref m_qmany, .ref m_qwidth, .ref m_qnumbers, .ref m_qmoving])), (m_qworld, .inl (cA 1, 122, .inl m_cworld)), (m_qsums, .inl (cA 1, 2304, .inl (upd F1_41523 x_41841.toNatClampNeg L5_41834))), (m_qpairs, .inl (cA 1, 2304, .inl F2_41523))] H := hP
            have hD : va_D A [(h0, .inr (12, [.int m_thrown, .ref m_qworld, .ref m_qimages, .ref m_qhasImage, .ref m_qtape, .int m_taped, .ref m_qfive, .int m_size, .int m_at, .int m_from, .int m_token, .int m_value, .int m_faultKind, .int m_faultPlace, .ref m_qfresh, .int m_startOne, .int m_startOther, .int m_latest, .int m_leftBeats, .int m_signed, .int m_metMany, .ref m_qsums, .ref m_qpairs, .ref m_qgoesWith, .ref m_qsaid, .int m_saidMany, .int m_firstWait, .ref m_qfirstOrder, .int m_bundleFirst, .ref m_qtiredBy, .int m_tiredMany, .ref m_qmany, .ref m_qwidth, .ref m_qnumbers, .ref m_qmoving])), (m_qworld, .inl (cA 1, 122, .inl m_cworld)), (m_qsums, .inl (cA 1, 2304, .inl (upd F1_41523 x_41841.toNatClampNeg L5_41834))), (m_qpairs, .inl (cA 1, 2304, .inl F2_41523))] := hD
            generalize ef_41843 : (upd F1_41523 x_41841.toNatClampNeg L5_41834) = f_41843 at hP hD
            refine lv_aload_n hx hb dX12_layMatch_205 rfl (lv_at hl 6 rfl) ?_
            refine va_get (D := D) (ci := 12) (v := .ref m_qpairs) (C := RX12) (T := TX12) (N := 35) hx hb hts inX12 hown hKN.1 hP 0 rfl rfl 22 (by decide) (hts _ tw_1441) (fun _ h9 => h9) rfl dX12_layMatch_206 ?_
            refine lv_iload_n hx hb dX12_layMatch_209 rfl (lv_at hl 4 rfl) ?_
            refine lv_bipush (v := 8) hx hb dX12_layMatch_210 (by decide) ?_
            refine lv_ishl hx hb dX12_layMatch_212 ?_
            refine lv_topi (fun x_41844 ex_41844 => ?_)
            obtain rfl : x_41839 = x_41844 := ex_41839.trans ex_41844.symm
            refine lv_iload hx hb dX12_layMatch_213 (lv_at hl 3 rfl) ?_
            refine lv_ior hx hb dX12_layMatch_215 ?_
            refine lv_topi (fun x_41845 ex_41845 => ?_)
            obtain rfl : x_41841 = x_41845 := ex_41841.trans ex_41845.symm
            refine lv_iload hx hb dX12_layMatch_216 (lv_at hl 1 rfl) ?_
            refine va_iast hx hb hKN.1 hP hD hS 3 1 rfl rfl (vp_in_iff.mpr ⟨by omega, by omega⟩) dX12_layMatch_218 (fun H locs hP hD hS => ?_)
            have hP : va_P D vwCl [(h0, .inr (12, [.int m_thrown, .ref m_qworld, .ref m_qimages, .ref m_qhasImage, .ref m_qtape, .int m_taped, .ref m_qfive, .int m_size, .int m_at, .int m_from, .int m_token, .int m_value, .int m_faultKind, .int m_faultPlace, .ref m_qfresh, .int m_startOne, .int m_startOther, .int m_latest, .int m_leftBeats, .int m_signed, .int m_metMany, .ref m_qsums, .ref m_qpairs, .ref m_qgoesWith, .ref m_qsaid, .int m_saidMany, .int m_firstWait, .ref m_qfirstOrder, .int m_bundleFirst, .ref m_qtiredBy, .int m_tiredMany, .ref m_qmany, .ref m_qwidth, .ref m_qnumbers, .ref m_qmoving])), (m_qworld, .inl (cA 1, 122, .inl m_cworld)), (m_qsums, .inl (cA 1, 2304, .inl f_41843)), (m_qpairs, .inl (cA 1, 2304, .inl (upd F2_41523 x_41841.toNatClampNeg L6_41834)))] H := hP
            have hD : va_D A [(h0, .inr (12, [.int m_thrown, .ref m_qworld, .ref m_qimages, .ref m_qhasImage, .ref m_qtape, .int m_taped, .ref m_qfive, .int m_size, .int m_at, .int m_from, .int m_token, .int m_value, .int m_faultKind, .int m_faultPlace, .ref m_qfresh, .int m_startOne, .int m_startOther, .int m_latest, .int m_leftBeats, .int m_signed, .int m_metMany, .ref m_qsums, .ref m_qpairs, .ref m_qgoesWith, .ref m_qsaid, .int m_saidMany, .int m_firstWait, .ref m_qfirstOrder, .int m_bundleFirst, .ref m_qtiredBy, .int m_tiredMany, .ref m_qmany, .ref m_qwidth, .ref m_qnumbers, .ref m_qmoving])), (m_qworld, .inl (cA 1, 122, .inl m_cworld)), (m_qsums, .inl (cA 1, 2304, .inl f_41843)), (m_qpairs, .inl (cA 1, 2304, .inl (upd F2_41523 x_41841.toNatClampNeg L6_41834)))] := hD
            generalize ef_41846 : (upd F2_41523 x_41841.toNatClampNeg L6_41834) = f_41846 at hP hD
            obtain ⟨x_41847, ex_41847⟩ : ∃ y : Int32, L4_41523 + Int32.ofInt 1 = y := ⟨_, rfl⟩
            have k_41848 := ar_add (b := 1) rfl zi_1 ex_41847.symm (by omega) (by omega)
            refine lv_iinc (v := x_41847) (lv' := [(4, .int x_41847), (7, .int L7_41834), (6, .int L6_41834), (5, .int L5_41834), (3, .int L3_32297), (2, .int (m_cworld 4)), (0, .ref h0), (1, .int p0)]) hx hb dX12_layMatch_219 hl (k := 3) rfl ex_41847 (by decide) rfl (fun ls hl => ?_)
            refine lv_goto (tgt := 16) hx hb dX12_layMatch_222 (by decide) ?_
            exact ih_41523 (x_41847, f_41843, f_41846) _ _ _ ⟨(show 0 ≤ x_41847.toInt ∧ x_41847.toInt ≤ 256 from by omega), hP.sub [0, 1, 2, 3] rfl, hD.sub [0, 1, 2, 3] (by decide) rfl, hS, lv_sub hl [0, 4, 5, 6, 7] rfl⟩ (by show (2147483647 - x_41847.toInt).toNat < (2147483647 - L4_41523.toInt).toNat; omega)
          · skip
            have k_41849 := kk_nle rfl rfl c_41837
            refine lv_iload_n hx hb dX12_layMatch_78 rfl (lv_at hl 4 rfl) ?_
            refine lv_iload_n hx hb dX12_layMatch_79 rfl (lv_at hl 5 rfl) ?_
            refine lv_icmp_ge (tgt := 191) hx hb dX12_layMatch_80 (by decide) (fun c_41850 => ?_) (fun c_41850 => ?_)
            · skip
              have k_41851 := kk_le rfl rfl c_41850
              refine lv_aload_n hx hb dX12_layMatch_191 rfl (lv_at hl 6 rfl) ?_
              refine va_get (D := D) (ci := 12) (v := .ref m_qsums) (C := RX12) (T := TX12) (N := 35) hx hb hts inX12 hown hKN.1 hP 0 rfl rfl 21 (by decide) (hts _ tw_1440) (fun _ h9 => h9) rfl dX12_layMatch_192 ?_
              refine lv_iload_n hx hb dX12_layMatch_195 rfl (lv_at hl 4 rfl) ?_
              refine lv_bipush (v := 8) hx hb dX12_layMatch_196 (by decide) ?_
              refine lv_ishl hx hb dX12_layMatch_198 ?_
              refine lv_topi (fun x_41852 ex_41852 => ?_)
              have k_41853 := ar_shl8 ex_41852 (by omega) (by omega)
              refine lv_iload hx hb dX12_layMatch_199 (lv_at hl 3 rfl) ?_
              refine lv_ior hx hb dX12_layMatch_201 ?_
              refine lv_topi (fun x_41854 ex_41854 => ?_)
              have k_41855 := ar_or8 rfl rfl ex_41854 (by omega) (by omega) (by omega)
              refine lv_iload hx hb dX12_layMatch_202 (lv_at hl 2 rfl) ?_
              refine va_iast hx hb hKN.1 hP hD hS 2 1 rfl rfl (vp_in_iff.mpr ⟨by omega, by omega⟩) dX12_layMatch_204 (fun H locs hP hD hS => ?_)
              have hP : va_P D vwCl [(h0, .inr (12, [.int m_thrown, .ref m_qworld, .ref m_qimages, .ref m_qhasImage, .ref m_qtape, .int m_taped, .ref m_qfive, .int m_size, .int m_at, .int m_from, .int m_token, .int m_value, .int m_faultKind, .int m_faultPlace, .ref m_qfresh, .int m_startOne, .int m_startOther, .int m_latest, .int m_leftBeats, .int m_signed, .int m_metMany, .ref m_qsums, .ref m_qpairs, .ref m_qgoesWith, .ref m_qsaid, .int m_saidMany, .int m_firstWait, .ref m_qfirstOrder, .int m_bundleFirst, .ref m_qtiredBy, .int m_tiredMany, .ref m_qmany, .ref m_qwidth, .ref m_qnumbers, .ref m_qmoving])), (m_qworld, .inl (cA 1, 122, .inl m_cworld)), (m_qsums, .inl (cA 1, 2304, .inl (upd F1_41523 x_41854.toNatClampNeg L5_41834))), (m_qpairs, .inl (cA 1, 2304, .inl F2_41523))] H := hP
              have hD : va_D A [(h0, .inr (12, [.int m_thrown, .ref m_qworld, .ref m_qimages, .ref m_qhasImage, .ref m_qtape, .int m_taped, .ref m_qfive, .int m_size, .int m_at, .int m_from, .int m_token, .int m_value, .int m_faultKind, .int m_faultPlace, .ref m_qfresh, .int m_startOne, .int m_startOther, .int m_latest, .int m_leftBeats, .int m_signed, .int m_metMany, .ref m_qsums, .ref m_qpairs, .ref m_qgoesWith, .ref m_qsaid, .int m_saidMany, .int m_firstWait, .ref m_qfirstOrder, .int m_bundleFirst, .ref m_qtiredBy, .int m_tiredMany, .ref m_qmany, .ref m_qwidth, .ref m_qnumbers, .ref m_qmoving])), (m_qworld, .inl (cA 1, 122, .inl m_cworld)), (m_qsums, .inl (cA 1, 2304, .inl (upd F1_41523 x_41854.toNatClampNeg L5_41834))), (m_qpairs, .inl (cA 1, 2304, .inl F2_41523))] := hD
              generalize ef_41856 : (upd F1_41523 x_41854.toNatClampNeg L5_41834) = f_41856 at hP hD
              refine lv_aload_n hx hb dX12_layMatch_205 rfl (lv_at hl 6 rfl) ?_
              refine va_get (D := D) (ci := 12) (v := .ref m_qpairs) (C := RX12) (T := TX12) (N := 35) hx hb hts inX12 hown hKN.1 hP 0 rfl rfl 22 (by decide) (hts _ tw_1441) (fun _ h9 => h9) rfl dX12_layMatch_206 ?_
              refine lv_iload_n hx hb dX12_layMatch_209 rfl (lv_at hl 4 rfl) ?_
              refine lv_bipush (v := 8) hx hb dX12_layMatch_210 (by decide) ?_
              refine lv_ishl hx hb dX12_layMatch_212 ?_
              refine lv_topi (fun x_41857 ex_41857 => ?_)
              obtain rfl : x_41852 = x_41857 := ex_41852.trans ex_41857.symm
              refine lv_iload hx hb dX12_layMatch_213 (lv_at hl 3 rfl) ?_
              refine lv_ior hx hb dX12_layMatch_215 ?_
              refine lv_topi (fun x_41858 ex_41858 => ?_)
              obtain rfl : x_41854 = x_41858 := ex_41854.trans ex_41858.symm
              refine lv_iload hx hb dX12_layMatch_216 (lv_at hl 1 rfl) ?_
              refine va_iast hx hb hKN.1 hP hD hS 3 1 rfl rfl (vp_in_iff.mpr ⟨by omega, by omega⟩) dX12_layMatch_218 (fun H locs hP hD hS => ?_)
              have hP : va_P D vwCl [(h0, .inr (12, [.int m_thrown, .ref m_qworld, .ref m_qimages, .ref m_qhasImage, .ref m_qtape, .int m_taped, .ref m_qfive, .int m_size, .int m_at, .int m_from, .int m_token, .int m_value, .int m_faultKind, .int m_faultPlace, .ref m_qfresh, .int m_startOne, .int m_startOther, .int m_latest, .int m_leftBeats, .int m_signed, .int m_metMany, .ref m_qsums, .ref m_qpairs, .ref m_qgoesWith, .ref m_qsaid, .int m_saidMany, .int m_firstWait, .ref m_qfirstOrder, .int m_bundleFirst, .ref m_qtiredBy, .int m_tiredMany, .ref m_qmany, .ref m_qwidth, .ref m_qnumbers, .ref m_qmoving])), (m_qworld, .inl (cA 1, 122, .inl m_cworld)), (m_qsums, .inl (cA 1, 2304, .inl f_41856)), (m_qpairs, .inl (cA 1, 2304, .inl (upd F2_41523 x_41854.toNatClampNeg L6_41834)))] H := hP
              have hD : va_D A [(h0, .inr (12, [.int m_thrown, .ref m_qworld, .ref m_qimages, .ref m_qhasImage, .ref m_qtape, .int m_taped, .ref m_qfive, .int m_size, .int m_at, .int m_from, .int m_token, .int m_value, .int m_faultKind, .int m_faultPlace, .ref m_qfresh, .int m_startOne, .int m_startOther, .int m_latest, .int m_leftBeats, .int m_signed, .int m_metMany, .ref m_qsums, .ref m_qpairs, .ref m_qgoesWith, .ref m_qsaid, .int m_saidMany, .int m_firstWait, .ref m_qfirstOrder, .int m_bundleFirst, .ref m_qtiredBy, .int m_tiredMany, .ref m_qmany, .ref m_qwidth, .ref m_qnumbers, .ref m_qmoving])), (m_qworld, .inl (cA 1, 122, .inl m_cworld)), (m_qsums, .inl (cA 1, 2304, .inl f_41856)), (m_qpairs, .inl (cA 1, 2304, .inl (upd F2_41523 x_41854.toNatClampNeg L6_41834)))] := hD
              generalize ef_41859 : (upd F2_41523 x_41854.toNatClampNeg L6_41834) = f_41859 at hP hD
              obtain ⟨x_41860, ex_41860⟩ : ∃ y : Int32, L4_41523 + Int32.ofInt 1 = y := ⟨_, rfl⟩
              have k_41861 := ar_add (b := 1) rfl zi_1 ex_41860.symm (by omega) (by omega)
              refine lv_iinc (v := x_41860) (lv' := [(4, .int x_41860), (7, .int L7_41834), (6, .int L6_41834), (5, .int L5_41834), (3, .int L3_32297), (2, .int (m_cworld 4)), (0, .ref h0), (1, .int p0)]) hx hb dX12_layMatch_219 hl (k := 3) rfl ex_41860 (by decide) rfl (fun ls hl => ?_)
              refine lv_goto (tgt := 16) hx hb dX12_layMatch_222 (by decide) ?_
              exact ih_41523 (x_41860, f_41856, f_41859) _ _ _ ⟨(show 0 ≤ x_41860.toInt ∧ x_41860.toInt ≤ 256 from by omega), hP.sub [0, 1, 2, 3] rfl, hD.sub [0, 1, 2, 3] (by decide) rfl, hS, lv_sub hl [0, 4, 5, 6, 7] rfl⟩ (by show (2147483647 - x_41860.toInt).toNat < (2147483647 - L4_41523.toInt).toNat; omega)
            · skip
              have k_41862 := kk_nle rfl rfl c_41850
              refine lv_aload_n hx hb dX12_layMatch_83 rfl (lv_at hl 6 rfl) ?_
              refine lv_iload_n hx hb dX12_layMatch_84 rfl (lv_at hl 4 rfl) ?_
              refine lv_iconst (v := 0) hx hb dX12_layMatch_85 (by decide) ?_
              have z_41863 := zi_0
              refine cpVi (rest := []) ⟨hx, hb, hml, hown, hts⟩ hKN (hP.sub (ws' := [(h0, .inr (12, [.int m_thrown, .ref m_qworld, .ref m_qimages, .ref m_qhasImage, .ref m_qtape, .int m_taped, .ref m_qfive, .int m_size, .int m_at, .int m_from, .int m_token, .int m_value, .int m_faultKind, .int m_faultPlace, .ref m_qfresh, .int m_startOne, .int m_startOther, .int m_latest, .int m_leftBeats, .int m_signed, .int m_metMany, .ref m_qsums, .ref m_qpairs, .ref m_qgoesWith, .ref m_qsaid, .int m_saidMany, .int m_firstWait, .ref m_qfirstOrder, .int m_bundleFirst, .ref m_qtiredBy, .int m_tiredMany, .ref m_qmany, .ref m_qwidth, .ref m_qnumbers, .ref m_qmoving])), (m_qworld, .inl (cA 1, 122, .inl m_cworld))]) [0, 1] rfl) (g_X12_of l D cA h0 m_thrown m_qworld m_qimages m_qhasImage m_qtape m_taped m_qfive m_size m_at m_from m_token m_value m_faultKind m_faultPlace m_qfresh m_startOne m_startOther m_latest m_leftBeats m_signed m_metMany m_qsums m_qpairs m_qgoesWith m_qsaid m_saidMany m_firstWait m_qfirstOrder m_bundleFirst m_qtiredBy m_tiredMany m_qmany m_qwidth m_qnumbers m_qmoving m_cworld L3_32297 0 (by omega) (by omega) (by omega) (by omega) (by omega) (by omega) (by omega) (by decide) a_m_cworld_0) (tb_V tw_1640 tw_1642 tw_50 tw_114 tw_1643) hdX12_of ⟨rfl, rfl, Nat.le_of_ble_eq_true rfl, Nat.le_of_ble_eq_true rfl⟩ ⟨Nat.le_of_ble_eq_true rfl, Nat.le_of_ble_eq_true rfl⟩ rfl rfl rfl hl.1 rfl (Nat.le_of_ble_eq_true rfl) dX12_layMatch_86 (fun r_41864 hr_41864 => ?_)
              obtain ⟨k_41864_0_0, k_41864_0_1⟩ := hr_41864
              refine lv_if_ne (tgt := 185) hx hb dX12_layMatch_89 (by decide) (fun c_41865 => ?_) (fun c_41865 => ?_)
              · skip
                have k_41866 := kk_ne rfl zi_0 c_41865
                obtain ⟨x_41867, ex_41867⟩ : ∃ y : Int32, L7_41834 + Int32.ofInt 1 = y := ⟨_, rfl⟩
                have k_41868 := ar_add (b := 1) rfl zi_1 ex_41867.symm (by omega) (by omega)
                refine lv_iinc (v := x_41867) (lv' := [(7, .int x_41867), (6, .int L6_41834), (5, .int L5_41834), (4, .int L4_41523), (3, .int L3_32297), (2, .int (m_cworld 4)), (0, .ref h0), (1, .int p0)]) hx hb dX12_layMatch_185 hl (k := 0) rfl ex_41867 (by decide) rfl (fun ls hl => ?_)
                refine lv_goto (tgt := 72) hx hb dX12_layMatch_188 (by decide) ?_
                exact ih_41834 (x_41867, L6_41834, L5_41834) _ _ _ ⟨(show 0 ≤ x_41867.toInt ∧ x_41867.toInt ≤ 8 from by omega), hP.sub [0, 1, 2, 3] rfl, hD.sub [0, 1, 2, 3] (by decide) rfl, hS, lv_sub hl [0, 1, 2, 3, 4, 5, 6, 7] rfl⟩ (by show (2147483647 - x_41867.toInt).toNat < (2147483647 - L7_41834.toInt).toNat; omega)
              · skip
                have k_41869 := kk_eq rfl zi_0 c_41865
                refine lv_aload_n hx hb dX12_layMatch_92 rfl (lv_at hl 6 rfl) ?_
                refine lv_iload hx hb dX12_layMatch_93 (lv_at hl 0 rfl) ?_
                refine lv_iconst (v := 0) hx hb dX12_layMatch_95 (by decide) ?_
                refine cpVi (rest := []) ⟨hx, hb, hml, hown, hts⟩ hKN (hP.sub (ws' := [(h0, .inr (12, [.int m_thrown, .ref m_qworld, .ref m_qimages, .ref m_qhasImage, .ref m_qtape, .int m_taped, .ref m_qfive, .int m_size, .int m_at, .int m_from, .int m_token, .int m_value, .int m_faultKind, .int m_faultPlace, .ref m_qfresh, .int m_startOne, .int m_startOther, .int m_latest, .int m_leftBeats, .int m_signed, .int m_metMany, .ref m_qsums, .ref m_qpairs, .ref m_qgoesWith, .ref m_qsaid, .int m_saidMany, .int m_firstWait, .ref m_qfirstOrder, .int m_bundleFirst, .ref m_qtiredBy, .int m_tiredMany, .ref m_qmany, .ref m_qwidth, .ref m_qnumbers, .ref m_qmoving])), (m_qworld, .inl (cA 1, 122, .inl m_cworld))]) [0, 1] rfl) (g_X12_of l D cA h0 m_thrown m_qworld m_qimages m_qhasImage m_qtape m_taped m_qfive m_size m_at m_from m_token m_value m_faultKind m_faultPlace m_qfresh m_startOne m_startOther m_latest m_leftBeats m_signed m_metMany m_qsums m_qpairs m_qgoesWith m_qsaid m_saidMany m_firstWait m_qfirstOrder m_bundleFirst m_qtiredBy m_tiredMany m_qmany m_qwidth m_qnumbers m_qmoving m_cworld L7_41834 0 (by omega) (by omega) (by omega) (by omega) (by omega) (by omega) (by omega) (by decide) a_m_cworld_0) (tb_V tw_1640 tw_1642 tw_50 tw_114 tw_1643) hdX12_of ⟨rfl, rfl, Nat.le_of_ble_eq_true rfl, Nat.le_of_ble_eq_true rfl⟩ ⟨Nat.le_of_ble_eq_true rfl, Nat.le_of_ble_eq_true rfl⟩ rfl rfl rfl hl.1 rfl (Nat.le_of_ble_eq_true rfl) dX12_layMatch_96 (fun r_41870 hr_41870 => ?_)
                obtain ⟨k_41870_0_0, k_41870_0_1⟩ := hr_41870
                refine lv_iconst (v := 1) hx hb dX12_layMatch_99 (by decide) ?_
                refine lv_icmp_ne (tgt := 185) hx hb dX12_layMatch_100 (by decide) (fun c_41871 => ?_) (fun c_41871 => ?_)
                · skip
                  have k_41872 := kk_ne rfl zi_1 c_41871
                  obtain ⟨x_41873, ex_41873⟩ : ∃ y : Int32, L7_41834 + Int32.ofInt 1 = y := ⟨_, rfl⟩
                  have k_41874 := ar_add (b := 1) rfl zi_1 ex_41873.symm (by omega) (by omega)
                  refine lv_iinc (v := x_41873) (lv' := [(7, .int x_41873), (6, .int L6_41834), (5, .int L5_41834), (4, .int L4_41523), (3, .int L3_32297), (2, .int (m_cworld 4)), (0, .ref h0), (1, .int p0)]) hx hb dX12_layMatch_185 hl (k := 0) rfl ex_41873 (by decide) rfl (fun ls hl => ?_)
                  refine lv_goto (tgt := 72) hx hb dX12_layMatch_188 (by decide) ?_
                  exact ih_41834 (x_41873, L6_41834, L5_41834) _ _ _ ⟨(show 0 ≤ x_41873.toInt ∧ x_41873.toInt ≤ 8 from by omega), hP.sub [0, 1, 2, 3] rfl, hD.sub [0, 1, 2, 3] (by decide) rfl, hS, lv_sub hl [0, 1, 2, 3, 4, 5, 6, 7] rfl⟩ (by show (2147483647 - x_41873.toInt).toNat < (2147483647 - L7_41834.toInt).toNat; omega)
                · skip
                  have k_41875 := kk_eq rfl zi_1 c_41871
                  refine lv_iload hx hb dX12_layMatch_103 (lv_at hl 3 rfl) ?_
                  refine lv_iload hx hb dX12_layMatch_105 (lv_at hl 0 rfl) ?_
                  refine cpSi (rest := []) ⟨hx, hb, hml, hown, hts⟩ hKN (hP.sub (ws' := []) [] rfl) (g_X12_bit l D cA L4_41523 L7_41834) (tb_S tw_1807 tw_1808 tw_114 tw_1809) hdX12_bit ⟨rfl, rfl, Nat.le_of_ble_eq_true rfl, Nat.le_of_ble_eq_true rfl⟩ ⟨Nat.le_of_ble_eq_true rfl, Nat.le_of_ble_eq_true rfl⟩ rfl hl.1 rfl (Nat.le_of_ble_eq_true rfl) dX12_layMatch_107 (fun r_41876 hr_41876 => ?_)
                  refine lv_iconst (v := 1) hx hb dX12_layMatch_110 (by decide) ?_
                  refine lv_icmp_ne (tgt := 117) hx hb dX12_layMatch_111 (by decide) (fun c_41877 => ?_) (fun c_41877 => ?_)
                  · skip
                    have k_41878 := kk_ne rfl zi_1 c_41877
                    refine lv_iload hx hb dX12_layMatch_117 (lv_at hl 2 rfl) ?_
                    refine lv_aload_n hx hb dX12_layMatch_119 rfl (lv_at hl 6 rfl) ?_
                    refine lv_iload_n hx hb dX12_layMatch_120 rfl (lv_at hl 4 rfl) ?_
                    refine lv_iload hx hb dX12_layMatch_121 (lv_at hl 0 rfl) ?_
                    refine cpVi (rest := [.int L5_41834]) ⟨hx, hb, hml, hown, hts⟩ hKN (hP.sub (ws' := [(h0, .inr (12, [.int m_thrown, .ref m_qworld, .ref m_qimages, .ref m_qhasImage, .ref m_qtape, .int m_taped, .ref m_qfive, .int m_size, .int m_at, .int m_from, .int m_token, .int m_value, .int m_faultKind, .int m_faultPlace, .ref m_qfresh, .int m_startOne, .int m_startOther, .int m_latest, .int m_leftBeats, .int m_signed, .int m_metMany, .ref m_qsums, .ref m_qpairs, .ref m_qgoesWith, .ref m_qsaid, .int m_saidMany, .int m_firstWait, .ref m_qfirstOrder, .int m_bundleFirst, .ref m_qtiredBy, .int m_tiredMany, .ref m_qmany, .ref m_qwidth, .ref m_qnumbers, .ref m_qmoving])), (m_qworld, .inl (cA 1, 122, .inl m_cworld))]) [0, 1] rfl) (g_X12_holdOf l D cA h0 m_thrown m_qworld m_qimages m_qhasImage m_qtape m_taped m_qfive m_size m_at m_from m_token m_value m_faultKind m_faultPlace m_qfresh m_startOne m_startOther m_latest m_leftBeats m_signed m_metMany m_qsums m_qpairs m_qgoesWith m_qsaid m_saidMany m_firstWait m_qfirstOrder m_bundleFirst m_qtiredBy m_tiredMany m_qmany m_qwidth m_qnumbers m_qmoving m_cworld L3_32297 L7_41834 (by omega) (by omega) (by omega) (by omega) (by omega) (by omega) (by omega) (by omega) a_m_cworld_0) (tb_V tw_1700 tw_1702 tw_63 tw_114 tw_1703) hdX12_holdOf ⟨rfl, rfl, Nat.le_of_ble_eq_true rfl, Nat.le_of_ble_eq_true rfl⟩ ⟨Nat.le_of_ble_eq_true rfl, Nat.le_of_ble_eq_true rfl⟩ rfl rfl rfl hl.1 rfl (Nat.le_of_ble_eq_true rfl) dX12_layMatch_123 (fun r_41879 hr_41879 => ?_)
                    refine lv_aload_n hx hb dX12_layMatch_126 rfl (lv_at hl 6 rfl) ?_
                    refine lv_iload_n hx hb dX12_layMatch_127 rfl (lv_at hl 4 rfl) ?_
                    refine lv_iconst (v := 1) hx hb dX12_layMatch_128 (by decide) ?_
                    refine lv_iadd hx hb dX12_layMatch_129 ?_
                    refine lv_topi (fun x_41880 ex_41880 => ?_)
                    obtain rfl : x_41533 = x_41880 := ex_41533.trans ex_41880.symm
                    refine lv_iload hx hb dX12_layMatch_130 (lv_at hl 3 rfl) ?_
                    refine lv_iconst (v := 1) hx hb dX12_layMatch_132 (by decide) ?_
                    refine lv_iload hx hb dX12_layMatch_133 (lv_at hl 0 rfl) ?_
                    refine lv_ishl hx hb dX12_layMatch_135 ?_
                    refine lv_topi (fun x_41881 ex_41881 => ?_)
                    have k_41882 := ar_shl1 ex_41881 (by omega) (by omega)
                    refine lv_ior hx hb dX12_layMatch_136 ?_
                    refine lv_topi (fun x_41883 ex_41883 => ?_)
                    have k_41884 := ar_or (n := 8) (M := 256) rfl rfl ex_41883 (by decide) (by decide) (by omega) (by omega)
                    refine cpVi (rest := [.int r_41879, .int L5_41834]) ⟨hx, hb, hml, hown, hts⟩ hKN (hP.sub (ws' := [(h0, .inr (12, [.int m_thrown, .ref m_qworld, .ref m_qimages, .ref m_qhasImage, .ref m_qtape, .int m_taped, .ref m_qfive, .int m_size, .int m_at, .int m_from, .int m_token, .int m_value, .int m_faultKind, .int m_faultPlace, .ref m_qfresh, .int m_startOne, .int m_startOther, .int m_latest, .int m_leftBeats, .int m_signed, .int m_metMany, .ref m_qsums, .ref m_qpairs, .ref m_qgoesWith, .ref m_qsaid, .int m_saidMany, .int m_firstWait, .ref m_qfirstOrder, .int m_bundleFirst, .ref m_qtiredBy, .int m_tiredMany, .ref m_qmany, .ref m_qwidth, .ref m_qnumbers, .ref m_qmoving])), (m_qsums, .inl (cA 1, 2304, .inl F1_41523))]) [0, 2] rfl) (g_X12_sumFrom l D cA h0 m_thrown m_qworld m_qimages m_qhasImage m_qtape m_taped m_qfive m_size m_at m_from m_token m_value m_faultKind m_faultPlace m_qfresh m_startOne m_startOther m_latest m_leftBeats m_signed m_metMany m_qsums m_qpairs m_qgoesWith m_qsaid m_saidMany m_firstWait m_qfirstOrder m_bundleFirst m_qtiredBy m_tiredMany m_qmany m_qwidth m_qnumbers m_qmoving F1_41523 x_41533 x_41883 (by omega) (by omega) (by omega) (by omega) (by omega) (by omega) (by omega) (by omega)) (tb_V tw_1803 tw_1805 tw_71 tw_114 tw_1806) hdX12_sumFrom ⟨rfl, rfl, Nat.le_of_ble_eq_true rfl, Nat.le_of_ble_eq_true rfl⟩ ⟨Nat.le_of_ble_eq_true rfl, Nat.le_of_ble_eq_true rfl⟩ rfl rfl rfl hl.1 rfl (Nat.le_of_ble_eq_true rfl) dX12_layMatch_137 (fun r_41885 hr_41885 => ?_)
                    refine lv_iadd hx hb dX12_layMatch_140 ?_
                    refine lv_topi (fun x_41886 ex_41886 => ?_)
                    refine cpSi (rest := []) ⟨hx, hb, hml, hown, hts⟩ hKN (hP.sub (ws' := []) [] rfl) (g_J9_max_7cf53 l D cA L5_41834 x_41886) (tb_S tw_1735 tw_779 tw_115 tw_780) hdJ9_max_7cf53 ⟨rfl, rfl, Nat.le_of_ble_eq_true rfl, Nat.le_of_ble_eq_true rfl⟩ ⟨Nat.le_of_ble_eq_true rfl, Nat.le_of_ble_eq_true rfl⟩ rfl hl.1 rfl (Nat.le_of_ble_eq_true rfl) dX12_layMatch_141 (fun r_41888 hr_41888 => ?_)
                    obtain ⟨k_41888_0_0, k_41888_0_1, k_41888_0_2⟩ := hr_41888
                    refine lv_istore (lv' := [(5, .int r_41888), (7, .int L7_41834), (6, .int L6_41834), (4, .int L4_41523), (3, .int L3_32297), (2, .int (m_cworld 4)), (0, .ref h0), (1, .int p0)]) hx hb dX12_layMatch_144 hl (by decide) rfl (fun ls hl => ?_)
                    refine lv_aload_n hx hb dX12_layMatch_146 rfl (lv_at hl 6 rfl) ?_
                    refine lv_iload_n hx hb dX12_layMatch_147 rfl (lv_at hl 4 rfl) ?_
                    refine lv_iload hx hb dX12_layMatch_148 (lv_at hl 1 rfl) ?_
                    refine cpVi (rest := []) ⟨hx, hb, hml, hown, hts⟩ hKN (hP.sub (ws' := [(h0, .inr (12, [.int m_thrown, .ref m_qworld, .ref m_qimages, .ref m_qhasImage, .ref m_qtape, .int m_taped, .ref m_qfive, .int m_size, .int m_at, .int m_from, .int m_token, .int m_value, .int m_faultKind, .int m_faultPlace, .ref m_qfresh, .int m_startOne, .int m_startOther, .int m_latest, .int m_leftBeats, .int m_signed, .int m_metMany, .ref m_qsums, .ref m_qpairs, .ref m_qgoesWith, .ref m_qsaid, .int m_saidMany, .int m_firstWait, .ref m_qfirstOrder, .int m_bundleFirst, .ref m_qtiredBy, .int m_tiredMany, .ref m_qmany, .ref m_qwidth, .ref m_qnumbers, .ref m_qmoving])), (m_qworld, .inl (cA 1, 122, .inl m_cworld))]) [0, 1] rfl) (g_X12_holdOf l D cA h0 m_thrown m_qworld m_qimages m_qhasImage m_qtape m_taped m_qfive m_size m_at m_from m_token m_value m_faultKind m_faultPlace m_qfresh m_startOne m_startOther m_latest m_leftBeats m_signed m_metMany m_qsums m_qpairs m_qgoesWith m_qsaid m_saidMany m_firstWait m_qfirstOrder m_bundleFirst m_qtiredBy m_tiredMany m_qmany m_qwidth m_qnumbers m_qmoving m_cworld L3_32297 L7_41834 (by omega) (by omega) (by omega) (by omega) (by omega) (by omega) (by omega) (by omega) a_m_cworld_0) (tb_V tw_1700 tw_1702 tw_63 tw_114 tw_1703) hdX12_holdOf ⟨rfl, rfl, Nat.le_of_ble_eq_true rfl, Nat.le_of_ble_eq_true rfl⟩ ⟨Nat.le_of_ble_eq_true rfl, Nat.le_of_ble_eq_true rfl⟩ rfl rfl rfl hl.1 rfl (Nat.le_of_ble_eq_true rfl) dX12_layMatch_150 (fun r_41889 hr_41889 => ?_)
                    refine lv_iload_n hx hb dX12_layMatch_153 rfl (lv_at hl 7 rfl) ?_
                    refine lv_icmp_lt (tgt := 185) hx hb dX12_layMatch_154 (by decide) (fun c_41890 => ?_) (fun c_41890 => ?_)
                    · skip
                      have b_41892 := i32_bd r_41889
                      have b_41893 := i32_bd p0
                      have k_41891 := kk_lt rfl rfl c_41890
                      obtain ⟨x_41894, ex_41894⟩ : ∃ y : Int32, L7_41834 + Int32.ofInt 1 = y := ⟨_, rfl⟩
                      have k_41895 := ar_add (b := 1) rfl zi_1 ex_41894.symm (by omega) (by omega)
                      refine lv_iinc (v := x_41894) (lv' := [(7, .int x_41894), (5, .int r_41888), (6, .int L6_41834), (4, .int L4_41523), (3, .int L3_32297), (2, .int (m_cworld 4)), (0, .ref h0), (1, .int p0)]) hx hb dX12_layMatch_185 hl (k := 1) rfl ex_41894 (by decide) rfl (fun ls hl => ?_)
                      refine lv_goto (tgt := 72) hx hb dX12_layMatch_188 (by decide) ?_
                      exact ih_41834 (x_41894, L6_41834, r_41888) _ _ _ ⟨(show 0 ≤ x_41894.toInt ∧ x_41894.toInt ≤ 8 from by omega), hP.sub [0, 1, 2, 3] rfl, hD.sub [0, 1, 2, 3] (by decide) rfl, hS, lv_sub hl [0, 2, 1, 3, 4, 5, 6, 7] rfl⟩ (by show (2147483647 - x_41894.toInt).toNat < (2147483647 - L7_41834.toInt).toNat; omega)
                    · skip
                      have b_41897 := i32_bd r_41889
                      have b_41898 := i32_bd p0
                      have k_41896 := kk_nlt rfl rfl c_41890
                      refine lv_iload hx hb dX12_layMatch_157 (lv_at hl 2 rfl) ?_
                      refine lv_iconst (v := 1) hx hb dX12_layMatch_159 (by decide) ?_
                      refine lv_aload_n hx hb dX12_layMatch_160 rfl (lv_at hl 6 rfl) ?_
                      refine va_get (D := D) (ci := 12) (v := .ref m_qpairs) (C := RX12) (T := TX12) (N := 35) hx hb hts inX12 hown hKN.1 hP 0 rfl rfl 22 (by decide) (hts _ tw_1441) (fun _ h9 => h9) rfl dX12_layMatch_161 ?_
                      refine lv_iload_n hx hb dX12_layMatch_164 rfl (lv_at hl 4 rfl) ?_
                      refine lv_iconst (v := 1) hx hb dX12_layMatch_165 (by decide) ?_
                      refine lv_iadd hx hb dX12_layMatch_166 ?_
                      refine lv_topi (fun x_41899 ex_41899 => ?_)
                      obtain rfl : x_41533 = x_41899 := ex_41533.trans ex_41899.symm
                      refine lv_bipush (v := 8) hx hb dX12_layMatch_167 (by decide) ?_
                      refine lv_ishl hx hb dX12_layMatch_169 ?_
                      refine lv_topi (fun x_41900 ex_41900 => ?_)
                      obtain rfl : x_41539 = x_41900 := ex_41539.trans ex_41900.symm
                      refine lv_iload hx hb dX12_layMatch_170 (lv_at hl 3 rfl) ?_
                      refine lv_ior hx hb dX12_layMatch_172 ?_
                      refine lv_topi (fun x_41901 ex_41901 => ?_)
                      obtain rfl : x_41541 = x_41901 := ex_41541.trans ex_41901.symm
                      refine lv_iconst (v := 1) hx hb dX12_layMatch_173 (by decide) ?_
                      refine lv_iload hx hb dX12_layMatch_174 (lv_at hl 1 rfl) ?_
                      refine lv_ishl hx hb dX12_layMatch_176 ?_
                      refine lv_topi (fun x_41902 ex_41902 => ?_)
                      obtain rfl : x_41881 = x_41902 := ex_41881.trans ex_41902.symm
                      refine lv_ior hx hb dX12_layMatch_177 ?_
                      refine lv_topi (fun x_41903 ex_41903 => ?_)
                      have k_41904 := ar_orb rfl rfl ex_41903 (by omega) (by omega)
                      refine va_iald hx hb hKN.1 hP 3 1 rfl rfl (vp_in_iff.mpr ⟨by omega, by omega⟩) dX12_layMatch_178 ?_
                      refine lv_topi (fun x_41905 ex_41905 => ?_)
                      refine lv_iadd hx hb dX12_layMatch_179 ?_
                      refine lv_topi (fun x_41906 ex_41906 => ?_)
                      refine cpSi (rest := []) ⟨hx, hb, hml, hown, hts⟩ hKN (hP.sub (ws' := []) [] rfl) (g_J9_max_7cf53 l D cA L6_41834 x_41906) (tb_S tw_1735 tw_779 tw_115 tw_780) hdJ9_max_7cf53 ⟨rfl, rfl, Nat.le_of_ble_eq_true rfl, Nat.le_of_ble_eq_true rfl⟩ ⟨Nat.le_of_ble_eq_true rfl, Nat.le_of_ble_eq_true rfl⟩ rfl hl.1 rfl (Nat.le_of_ble_eq_true rfl) dX12_layMatch_180 (fun r_41908 hr_41908 => ?_)
                      obtain ⟨k_41908_0_0, k_41908_0_1, k_41908_0_2⟩ := hr_41908
                      refine lv_istore (lv' := [(6, .int r_41908), (5, .int r_41888), (7, .int L7_41834), (4, .int L4_41523), (3, .int L3_32297), (2, .int (m_cworld 4)), (0, .ref h0), (1, .int p0)]) hx hb dX12_layMatch_183 hl (by decide) rfl (fun ls hl => ?_)
                      obtain ⟨x_41909, ex_41909⟩ : ∃ y : Int32, L7_41834 + Int32.ofInt 1 = y := ⟨_, rfl⟩
                      have k_41910 := ar_add (b := 1) rfl zi_1 ex_41909.symm (by omega) (by omega)
                      refine lv_iinc (v := x_41909) (lv' := [(7, .int x_41909), (6, .int r_41908), (5, .int r_41888), (4, .int L4_41523), (3, .int L3_32297), (2, .int (m_cworld 4)), (0, .ref h0), (1, .int p0)]) hx hb dX12_layMatch_185 hl (k := 2) rfl ex_41909 (by decide) rfl (fun ls hl => ?_)
                      refine lv_goto (tgt := 72) hx hb dX12_layMatch_188 (by decide) ?_
                      exact ih_41834 (x_41909, r_41908, r_41888) _ _ _ ⟨(show 0 ≤ x_41909.toInt ∧ x_41909.toInt ≤ 8 from by omega), hP.sub [0, 1, 2, 3] rfl, hD.sub [0, 1, 2, 3] (by decide) rfl, hS, lv_sub hl [0, 1, 2, 3, 4, 5, 6, 7] rfl⟩ (by show (2147483647 - x_41909.toInt).toNat < (2147483647 - L7_41834.toInt).toNat; omega)
                  · skip
                    have k_41911 := kk_eq rfl zi_1 c_41877
                    refine lv_goto (tgt := 185) hx hb dX12_layMatch_114 (by decide) ?_
                    obtain ⟨x_41912, ex_41912⟩ : ∃ y : Int32, L7_41834 + Int32.ofInt 1 = y := ⟨_, rfl⟩
                    have k_41913 := ar_add (b := 1) rfl zi_1 ex_41912.symm (by omega) (by omega)
                    refine lv_iinc (v := x_41912) (lv' := [(7, .int x_41912), (6, .int L6_41834), (5, .int L5_41834), (4, .int L4_41523), (3, .int L3_32297), (2, .int (m_cworld 4)), (0, .ref h0), (1, .int p0)]) hx hb dX12_layMatch_185 hl (k := 0) rfl ex_41912 (by decide) rfl (fun ls hl => ?_)
                    refine lv_goto (tgt := 72) hx hb dX12_layMatch_188 (by decide) ?_
                    exact ih_41834 (x_41912, L6_41834, L5_41834) _ _ _ ⟨(show 0 ≤ x_41912.toInt ∧ x_41912.toInt ≤ 8 from by omega), hP.sub [0, 1, 2, 3] rfl, hD.sub [0, 1, 2, 3] (by decide) rfl, hS, lv_sub hl [0, 1, 2, 3, 4, 5, 6, 7] rfl⟩ (by show (2147483647 - x_41912.toInt).toNat < (2147483647 - L7_41834.toInt).toNat; omega)
        · skip
          have k_41914 := kk_eq rfl rfl c_41536
          refine lv_iconst (v := 0) hx hb dX12_layMatch_49 (by decide) ?_
          refine lv_goto (tgt := 67) hx hb dX12_layMatch_50 (by decide) ?_
          refine lv_istore (lv' := [(6, .int 0), (5, .int r_41535), (4, .int L4_41523), (3, .int L3_32297), (2, .int (m_cworld 4)), (0, .ref h0), (1, .int p0)]) hx hb dX12_layMatch_67 hl (by decide) rfl (fun ls hl => ?_)
          refine lv_iconst (v := 0) hx hb dX12_layMatch_69 (by decide) ?_
          refine lv_istore (lv' := [(7, .int 0), (6, .int 0), (5, .int r_41535), (4, .int L4_41523), (3, .int L3_32297), (2, .int (m_cworld 4)), (0, .ref h0), (1, .int p0)]) hx hb dX12_layMatch_70 hl (by decide) rfl (fun ls hl => ?_)
          have b_42216 := i32_bd r_41535
          refine loopW (σ := Int32 × Int32 × Int32) (fun _ => []) (fun ⟨L7_42215, L6_42215, L5_42215⟩ H locs ls => (0 ≤ L7_42215.toInt ∧ L7_42215.toInt ≤ 7) ∧ (0 ≤ L6_42215.toInt) ∧ va_P D vwCl [(h0, .inr (12, [.int m_thrown, .ref m_qworld, .ref m_qimages, .ref m_qhasImage, .ref m_qtape, .int m_taped, .ref m_qfive, .int m_size, .int m_at, .int m_from, .int m_token, .int m_value, .int m_faultKind, .int m_faultPlace, .ref m_qfresh, .int m_startOne, .int m_startOther, .int m_latest, .int m_leftBeats, .int m_signed, .int m_metMany, .ref m_qsums, .ref m_qpairs, .ref m_qgoesWith, .ref m_qsaid, .int m_saidMany, .int m_firstWait, .ref m_qfirstOrder, .int m_bundleFirst, .ref m_qtiredBy, .int m_tiredMany, .ref m_qmany, .ref m_qwidth, .ref m_qnumbers, .ref m_qmoving])), (m_qworld, .inl (cA 1, 122, .inl m_cworld)), (m_qsums, .inl (cA 1, 2304, .inl F1_41523)), (m_qpairs, .inl (cA 1, 2304, .inl F2_41523))] H ∧ va_D A [(h0, .inr (12, [.int m_thrown, .ref m_qworld, .ref m_qimages, .ref m_qhasImage, .ref m_qtape, .int m_taped, .ref m_qfive, .int m_size, .int m_at, .int m_from, .int m_token, .int m_value, .int m_faultKind, .int m_faultPlace, .ref m_qfresh, .int m_startOne, .int m_startOther, .int m_latest, .int m_leftBeats, .int m_signed, .int m_metMany, .ref m_qsums, .ref m_qpairs, .ref m_qgoesWith, .ref m_qsaid, .int m_saidMany, .int m_firstWait, .ref m_qfirstOrder, .int m_bundleFirst, .ref m_qtiredBy, .int m_tiredMany, .ref m_qmany, .ref m_qwidth, .ref m_qnumbers, .ref m_qmoving])), (m_qworld, .inl (cA 1, 122, .inl m_cworld)), (m_qsums, .inl (cA 1, 2304, .inl F1_41523)), (m_qpairs, .inl (cA 1, 2304, .inl F2_41523))] ∧ va_S A s.heap H locs ∧ lv_has ls 8 [(7, .int L7_42215), (6, .int L6_42215), (5, .int L5_42215), (4, .int L4_41523), (3, .int L3_32297), (2, .int (m_cworld 4)), (0, .ref h0), (1, .int p0)]) (fun ⟨L7_42215, L6_42215, L5_42215⟩ => (2147483647 - L7_42215.toInt).toNat) ?_ ((0, 0, r_41535) : Int32 × Int32 × Int32) ⟨(by decide), (by decide), hP, hD, hS, hl⟩
          intro x_42215 H locs ls hI_42215 ih_42215
          obtain ⟨L7_42215, L6_42215, L5_42215⟩ := x_42215
          obtain ⟨k0_42215, k1_42215, hP, hD, hS, hl⟩ := hI_42215
          have hP : va_P D vwCl [(h0, .inr (12, [.int m_thrown, .ref m_qworld, .ref m_qimages, .ref m_qhasImage, .ref m_qtape, .int m_taped, .ref m_qfive, .int m_size, .int m_at, .int m_from, .int m_token, .int m_value, .int m_faultKind, .int m_faultPlace, .ref m_qfresh, .int m_startOne, .int m_startOther, .int m_latest, .int m_leftBeats, .int m_signed, .int m_metMany, .ref m_qsums, .ref m_qpairs, .ref m_qgoesWith, .ref m_qsaid, .int m_saidMany, .int m_firstWait, .ref m_qfirstOrder, .int m_bundleFirst, .ref m_qtiredBy, .int m_tiredMany, .ref m_qmany, .ref m_qwidth, .ref m_qnumbers, .ref m_qmoving])), (m_qworld, .inl (cA 1, 122, .inl m_cworld)), (m_qsums, .inl (cA 1, 2304, .inl F1_41523)), (m_qpairs, .inl (cA 1, 2304, .inl F2_41523))] H := hP
          have hD : va_D A [(h0, .inr (12, [.int m_thrown, .ref m_qworld, .ref m_qimages, .ref m_qhasImage, .ref m_qtape, .int m_taped, .ref m_qfive, .int m_size, .int m_at, .int m_from, .int m_token, .int m_value, .int m_faultKind, .int m_faultPlace, .ref m_qfresh, .int m_startOne, .int m_startOther, .int m_latest, .int m_leftBeats, .int m_signed, .int m_metMany, .ref m_qsums, .ref m_qpairs, .ref m_qgoesWith, .ref m_qsaid, .int m_saidMany, .int m_firstWait, .ref m_qfirstOrder, .int m_bundleFirst, .ref m_qtiredBy, .int m_tiredMany, .ref m_qmany, .ref m_qwidth, .ref m_qnumbers, .ref m_qmoving])), (m_qworld, .inl (cA 1, 122, .inl m_cworld)), (m_qsums, .inl (cA 1, 2304, .inl F1_41523)), (m_qpairs, .inl (cA 1, 2304, .inl F2_41523))] := hD
          have hl : lv_has ls 8 [(7, .int L7_42215), (6, .int L6_42215), (5, .int L5_42215), (4, .int L4_41523), (3, .int L3_32297), (2, .int (m_cworld 4)), (0, .ref h0), (1, .int p0)] := hl
          refine lv_iload hx hb dX12_layMatch_72 (lv_at hl 0 rfl) ?_
          refine lv_iload_n hx hb dX12_layMatch_74 rfl (lv_at hl 5 rfl) ?_
          refine lv_icmp_ge (tgt := 191) hx hb dX12_layMatch_75 (by decide) (fun c_42217 => ?_) (fun c_42217 => ?_)
          · skip
            have k_42218 := kk_le rfl rfl c_42217
            refine lv_aload_n hx hb dX12_layMatch_191 rfl (lv_at hl 6 rfl) ?_
            refine va_get (D := D) (ci := 12) (v := .ref m_qsums) (C := RX12) (T := TX12) (N := 35) hx hb hts inX12 hown hKN.1 hP 0 rfl rfl 21 (by decide) (hts _ tw_1440) (fun _ h9 => h9) rfl dX12_layMatch_192 ?_
            refine lv_iload_n hx hb dX12_layMatch_195 rfl (lv_at hl 4 rfl) ?_
            refine lv_bipush (v := 8) hx hb dX12_layMatch_196 (by decide) ?_
            refine lv_ishl hx hb dX12_layMatch_198 ?_
            refine lv_topi (fun x_42219 ex_42219 => ?_)
            have k_42220 := ar_shl8 ex_42219 (by omega) (by omega)
            refine lv_iload hx hb dX12_layMatch_199 (lv_at hl 3 rfl) ?_
            refine lv_ior hx hb dX12_layMatch_201 ?_
            refine lv_topi (fun x_42221 ex_42221 => ?_)
            have k_42222 := ar_or8 rfl rfl ex_42221 (by omega) (by omega) (by omega)
            refine lv_iload hx hb dX12_layMatch_202 (lv_at hl 2 rfl) ?_
            refine va_iast hx hb hKN.1 hP hD hS 2 1 rfl rfl (vp_in_iff.mpr ⟨by omega, by omega⟩) dX12_layMatch_204 (fun H locs hP hD hS => ?_)
            have hP : va_P D vwCl [(h0, .inr (12, [.int m_thrown, .ref m_qworld, .ref m_qimages, .ref m_qhasImage, .ref m_qtape, .int m_taped, .ref m_qfive, .int m_size, .int m_at, .int m_from, .int m_token, .int m_value, .int m_faultKind, .int m_faultPlace, .ref m_qfresh, .int m_startOne, .int m_startOther, .int m_latest, .int m_leftBeats, .int m_signed, .int m_metMany, .ref m_qsums, .ref m_qpairs, .ref m_qgoesWith, .ref m_qsaid, .int m_saidMany, .int m_firstWait, .ref m_qfirstOrder, .int m_bundleFirst, .ref m_qtiredBy, .int m_tiredMany, .ref m_qmany, .ref m_qwidth, .ref m_qnumbers, .ref m_qmoving])), (m_qworld, .inl (cA 1, 122, .inl m_cworld)), (m_qsums, .inl (cA 1, 2304, .inl (upd F1_41523 x_42221.toNatClampNeg L5_42215))), (m_qpairs, .inl (cA 1, 2304, .inl F2_41523))] H := hP
            have hD : va_D A [(h0, .inr (12, [.int m_thrown, .ref m_qworld, .ref m_qimages, .ref m_qhasImage, .ref m_qtape, .int m_taped, .ref m_qfive, .int m_size, .int m_at, .int m_from, .int m_token, .int m_value, .int m_faultKind, .int m_faultPlace, .ref m_qfresh, .int m_startOne, .int m_startOther, .int m_latest, .int m_leftBeats, .int m_signed, .int m_metMany, .ref m_qsums, .ref m_qpairs, .ref m_qgoesWith, .ref m_qsaid, .int m_saidMany, .int m_firstWait, .ref m_qfirstOrder, .int m_bundleFirst, .ref m_qtiredBy, .int m_tiredMany, .ref m_qmany, .ref m_qwidth, .ref m_qnumbers, .ref m_qmoving])), (m_qworld, .inl (cA 1, 122, .inl m_cworld)), (m_qsums, .inl (cA 1, 2304, .inl (upd F1_41523 x_42221.toNatClampNeg L5_42215))), (m_qpairs, .inl (cA 1, 2304, .inl F2_41523))] := hD
            generalize ef_42223 : (upd F1_41523 x_42221.toNatClampNeg L5_42215) = f_42223 at hP hD
            refine lv_aload_n hx hb dX12_layMatch_205 rfl (lv_at hl 6 rfl) ?_
            refine va_get (D := D) (ci := 12) (v := .ref m_qpairs) (C := RX12) (T := TX12) (N := 35) hx hb hts inX12 hown hKN.1 hP 0 rfl rfl 22 (by decide) (hts _ tw_1441) (fun _ h9 => h9) rfl dX12_layMatch_206 ?_
            refine lv_iload_n hx hb dX12_layMatch_209 rfl (lv_at hl 4 rfl) ?_
            refine lv_bipush (v := 8) hx hb dX12_layMatch_210 (by decide) ?_
            refine lv_ishl hx hb dX12_layMatch_212 ?_
            refine lv_topi (fun x_42224 ex_42224 => ?_)
            obtain rfl : x_42219 = x_42224 := ex_42219.trans ex_42224.symm
            refine lv_iload hx hb dX12_layMatch_213 (lv_at hl 3 rfl) ?_
            refine lv_ior hx hb dX12_layMatch_215 ?_
            refine lv_topi (fun x_42225 ex_42225 => ?_)
            obtain rfl : x_42221 = x_42225 := ex_42221.trans ex_42225.symm
            refine lv_iload hx hb dX12_layMatch_216 (lv_at hl 1 rfl) ?_
            refine va_iast hx hb hKN.1 hP hD hS 3 1 rfl rfl (vp_in_iff.mpr ⟨by omega, by omega⟩) dX12_layMatch_218 (fun H locs hP hD hS => ?_)
            have hP : va_P D vwCl [(h0, .inr (12, [.int m_thrown, .ref m_qworld, .ref m_qimages, .ref m_qhasImage, .ref m_qtape, .int m_taped, .ref m_qfive, .int m_size, .int m_at, .int m_from, .int m_token, .int m_value, .int m_faultKind, .int m_faultPlace, .ref m_qfresh, .int m_startOne, .int m_startOther, .int m_latest, .int m_leftBeats, .int m_signed, .int m_metMany, .ref m_qsums, .ref m_qpairs, .ref m_qgoesWith, .ref m_qsaid, .int m_saidMany, .int m_firstWait, .ref m_qfirstOrder, .int m_bundleFirst, .ref m_qtiredBy, .int m_tiredMany, .ref m_qmany, .ref m_qwidth, .ref m_qnumbers, .ref m_qmoving])), (m_qworld, .inl (cA 1, 122, .inl m_cworld)), (m_qsums, .inl (cA 1, 2304, .inl f_42223)), (m_qpairs, .inl (cA 1, 2304, .inl (upd F2_41523 x_42221.toNatClampNeg L6_42215)))] H := hP
            have hD : va_D A [(h0, .inr (12, [.int m_thrown, .ref m_qworld, .ref m_qimages, .ref m_qhasImage, .ref m_qtape, .int m_taped, .ref m_qfive, .int m_size, .int m_at, .int m_from, .int m_token, .int m_value, .int m_faultKind, .int m_faultPlace, .ref m_qfresh, .int m_startOne, .int m_startOther, .int m_latest, .int m_leftBeats, .int m_signed, .int m_metMany, .ref m_qsums, .ref m_qpairs, .ref m_qgoesWith, .ref m_qsaid, .int m_saidMany, .int m_firstWait, .ref m_qfirstOrder, .int m_bundleFirst, .ref m_qtiredBy, .int m_tiredMany, .ref m_qmany, .ref m_qwidth, .ref m_qnumbers, .ref m_qmoving])), (m_qworld, .inl (cA 1, 122, .inl m_cworld)), (m_qsums, .inl (cA 1, 2304, .inl f_42223)), (m_qpairs, .inl (cA 1, 2304, .inl (upd F2_41523 x_42221.toNatClampNeg L6_42215)))] := hD
            generalize ef_42226 : (upd F2_41523 x_42221.toNatClampNeg L6_42215) = f_42226 at hP hD
            obtain ⟨x_42227, ex_42227⟩ : ∃ y : Int32, L4_41523 + Int32.ofInt 1 = y := ⟨_, rfl⟩
            have k_42228 := ar_add (b := 1) rfl zi_1 ex_42227.symm (by omega) (by omega)
            refine lv_iinc (v := x_42227) (lv' := [(4, .int x_42227), (7, .int L7_42215), (6, .int L6_42215), (5, .int L5_42215), (3, .int L3_32297), (2, .int (m_cworld 4)), (0, .ref h0), (1, .int p0)]) hx hb dX12_layMatch_219 hl (k := 3) rfl ex_42227 (by decide) rfl (fun ls hl => ?_)
            refine lv_goto (tgt := 16) hx hb dX12_layMatch_222 (by decide) ?_
            exact ih_41523 (x_42227, f_42223, f_42226) _ _ _ ⟨(show 0 ≤ x_42227.toInt ∧ x_42227.toInt ≤ 256 from by omega), hP.sub [0, 1, 2, 3] rfl, hD.sub [0, 1, 2, 3] (by decide) rfl, hS, lv_sub hl [0, 4, 5, 6, 7] rfl⟩ (by show (2147483647 - x_42227.toInt).toNat < (2147483647 - L4_41523.toInt).toNat; omega)
          · skip
            have k_42229 := kk_nle rfl rfl c_42217
            refine lv_iload_n hx hb dX12_layMatch_78 rfl (lv_at hl 4 rfl) ?_
            refine lv_iload_n hx hb dX12_layMatch_79 rfl (lv_at hl 5 rfl) ?_
            refine lv_icmp_ge (tgt := 191) hx hb dX12_layMatch_80 (by decide) (fun c_42230 => ?_) (fun c_42230 => ?_)
            · skip
              have k_42231 := kk_le rfl rfl c_42230
              refine lv_aload_n hx hb dX12_layMatch_191 rfl (lv_at hl 6 rfl) ?_
              refine va_get (D := D) (ci := 12) (v := .ref m_qsums) (C := RX12) (T := TX12) (N := 35) hx hb hts inX12 hown hKN.1 hP 0 rfl rfl 21 (by decide) (hts _ tw_1440) (fun _ h9 => h9) rfl dX12_layMatch_192 ?_
              refine lv_iload_n hx hb dX12_layMatch_195 rfl (lv_at hl 4 rfl) ?_
              refine lv_bipush (v := 8) hx hb dX12_layMatch_196 (by decide) ?_
              refine lv_ishl hx hb dX12_layMatch_198 ?_
              refine lv_topi (fun x_42232 ex_42232 => ?_)
              have k_42233 := ar_shl8 ex_42232 (by omega) (by omega)
              refine lv_iload hx hb dX12_layMatch_199 (lv_at hl 3 rfl) ?_
              refine lv_ior hx hb dX12_layMatch_201 ?_
              refine lv_topi (fun x_42234 ex_42234 => ?_)
              have k_42235 := ar_or8 rfl rfl ex_42234 (by omega) (by omega) (by omega)
              refine lv_iload hx hb dX12_layMatch_202 (lv_at hl 2 rfl) ?_
              refine va_iast hx hb hKN.1 hP hD hS 2 1 rfl rfl (vp_in_iff.mpr ⟨by omega, by omega⟩) dX12_layMatch_204 (fun H locs hP hD hS => ?_)
              have hP : va_P D vwCl [(h0, .inr (12, [.int m_thrown, .ref m_qworld, .ref m_qimages, .ref m_qhasImage, .ref m_qtape, .int m_taped, .ref m_qfive, .int m_size, .int m_at, .int m_from, .int m_token, .int m_value, .int m_faultKind, .int m_faultPlace, .ref m_qfresh, .int m_startOne, .int m_startOther, .int m_latest, .int m_leftBeats, .int m_signed, .int m_metMany, .ref m_qsums, .ref m_qpairs, .ref m_qgoesWith, .ref m_qsaid, .int m_saidMany, .int m_firstWait, .ref m_qfirstOrder, .int m_bundleFirst, .ref m_qtiredBy, .int m_tiredMany, .ref m_qmany, .ref m_qwidth, .ref m_qnumbers, .ref m_qmoving])), (m_qworld, .inl (cA 1, 122, .inl m_cworld)), (m_qsums, .inl (cA 1, 2304, .inl (upd F1_41523 x_42234.toNatClampNeg L5_42215))), (m_qpairs, .inl (cA 1, 2304, .inl F2_41523))] H := hP
              have hD : va_D A [(h0, .inr (12, [.int m_thrown, .ref m_qworld, .ref m_qimages, .ref m_qhasImage, .ref m_qtape, .int m_taped, .ref m_qfive, .int m_size, .int m_at, .int m_from, .int m_token, .int m_value, .int m_faultKind, .int m_faultPlace, .ref m_qfresh, .int m_startOne, .int m_startOther, .int m_latest, .int m_leftBeats, .int m_signed, .int m_metMany, .ref m_qsums, .ref m_qpairs, .ref m_qgoesWith, .ref m_qsaid, .int m_saidMany, .int m_firstWait, .ref m_qfirstOrder, .int m_bundleFirst, .ref m_qtiredBy, .int m_tiredMany, .ref m_qmany, .ref m_qwidth, .ref m_qnumbers, .ref m_qmoving])), (m_qworld, .inl (cA 1, 122, .inl m_cworld)), (m_qsums, .inl (cA 1, 2304, .inl (upd F1_41523 x_42234.toNatClampNeg L5_42215))), (m_qpairs, .inl (cA 1, 2304, .inl F2_41523))] := hD
              generalize ef_42236 : (upd F1_41523 x_42234.toNatClampNeg L5_42215) = f_42236 at hP hD
              refine lv_aload_n hx hb dX12_layMatch_205 rfl (lv_at hl 6 rfl) ?_
              refine va_get (D := D) (ci := 12) (v := .ref m_qpairs) (C := RX12) (T := TX12) (N := 35) hx hb hts inX12 hown hKN.1 hP 0 rfl rfl 22 (by decide) (hts _ tw_1441) (fun _ h9 => h9) rfl dX12_layMatch_206 ?_
              refine lv_iload_n hx hb dX12_layMatch_209 rfl (lv_at hl 4 rfl) ?_
              refine lv_bipush (v := 8) hx hb dX12_layMatch_210 (by decide) ?_
              refine lv_ishl hx hb dX12_layMatch_212 ?_
              refine lv_topi (fun x_42237 ex_42237 => ?_)
              obtain rfl : x_42232 = x_42237 := ex_42232.trans ex_42237.symm
              refine lv_iload hx hb dX12_layMatch_213 (lv_at hl 3 rfl) ?_
              refine lv_ior hx hb dX12_layMatch_215 ?_
              refine lv_topi (fun x_42238 ex_42238 => ?_)
              obtain rfl : x_42234 = x_42238 := ex_42234.trans ex_42238.symm
              refine lv_iload hx hb dX12_layMatch_216 (lv_at hl 1 rfl) ?_
              refine va_iast hx hb hKN.1 hP hD hS 3 1 rfl rfl (vp_in_iff.mpr ⟨by omega, by omega⟩) dX12_layMatch_218 (fun H locs hP hD hS => ?_)
              have hP : va_P D vwCl [(h0, .inr (12, [.int m_thrown, .ref m_qworld, .ref m_qimages, .ref m_qhasImage, .ref m_qtape, .int m_taped, .ref m_qfive, .int m_size, .int m_at, .int m_from, .int m_token, .int m_value, .int m_faultKind, .int m_faultPlace, .ref m_qfresh, .int m_startOne, .int m_startOther, .int m_latest, .int m_leftBeats, .int m_signed, .int m_metMany, .ref m_qsums, .ref m_qpairs, .ref m_qgoesWith, .ref m_qsaid, .int m_saidMany, .int m_firstWait, .ref m_qfirstOrder, .int m_bundleFirst, .ref m_qtiredBy, .int m_tiredMany, .ref m_qmany, .ref m_qwidth, .ref m_qnumbers, .ref m_qmoving])), (m_qworld, .inl (cA 1, 122, .inl m_cworld)), (m_qsums, .inl (cA 1, 2304, .inl f_42236)), (m_qpairs, .inl (cA 1, 2304, .inl (upd F2_41523 x_42234.toNatClampNeg L6_42215)))] H := hP
              have hD : va_D A [(h0, .inr (12, [.int m_thrown, .ref m_qworld, .ref m_qimages, .ref m_qhasImage, .ref m_qtape, .int m_taped, .ref m_qfive, .int m_size, .int m_at, .int m_from, .int m_token, .int m_value, .int m_faultKind, .int m_faultPlace, .ref m_qfresh, .int m_startOne, .int m_startOther, .int m_latest, .int m_leftBeats, .int m_signed, .int m_metMany, .ref m_qsums, .ref m_qpairs, .ref m_qgoesWith, .ref m_qsaid, .int m_saidMany, .int m_firstWait, .ref m_qfirstOrder, .int m_bundleFirst, .ref m_qtiredBy, .int m_tiredMany, .ref m_qmany, .ref m_qwidth, .ref m_qnumbers, .ref m_qmoving])), (m_qworld, .inl (cA 1, 122, .inl m_cworld)), (m_qsums, .inl (cA 1, 2304, .inl f_42236)), (m_qpairs, .inl (cA 1, 2304, .inl (upd F2_41523 x_42234.toNatClampNeg L6_42215)))] := hD
              generalize ef_42239 : (upd F2_41523 x_42234.toNatClampNeg L6_42215) = f_42239 at hP hD
              obtain ⟨x_42240, ex_42240⟩ : ∃ y : Int32, L4_41523 + Int32.ofInt 1 = y := ⟨_, rfl⟩
              have k_42241 := ar_add (b := 1) rfl zi_1 ex_42240.symm (by omega) (by omega)
              refine lv_iinc (v := x_42240) (lv' := [(4, .int x_42240), (7, .int L7_42215), (6, .int L6_42215), (5, .int L5_42215), (3, .int L3_32297), (2, .int (m_cworld 4)), (0, .ref h0), (1, .int p0)]) hx hb dX12_layMatch_219 hl (k := 3) rfl ex_42240 (by decide) rfl (fun ls hl => ?_)
              refine lv_goto (tgt := 16) hx hb dX12_layMatch_222 (by decide) ?_
              exact ih_41523 (x_42240, f_42236, f_42239) _ _ _ ⟨(show 0 ≤ x_42240.toInt ∧ x_42240.toInt ≤ 256 from by omega), hP.sub [0, 1, 2, 3] rfl, hD.sub [0, 1, 2, 3] (by decide) rfl, hS, lv_sub hl [0, 4, 5, 6, 7] rfl⟩ (by show (2147483647 - x_42240.toInt).toNat < (2147483647 - L4_41523.toInt).toNat; omega)
            · skip
              have k_42242 := kk_nle rfl rfl c_42230
              refine lv_aload_n hx hb dX12_layMatch_83 rfl (lv_at hl 6 rfl) ?_
              refine lv_iload_n hx hb dX12_layMatch_84 rfl (lv_at hl 4 rfl) ?_
              refine lv_iconst (v := 0) hx hb dX12_layMatch_85 (by decide) ?_
              have z_42243 := zi_0
              refine cpVi (rest := []) ⟨hx, hb, hml, hown, hts⟩ hKN (hP.sub (ws' := [(h0, .inr (12, [.int m_thrown, .ref m_qworld, .ref m_qimages, .ref m_qhasImage, .ref m_qtape, .int m_taped, .ref m_qfive, .int m_size, .int m_at, .int m_from, .int m_token, .int m_value, .int m_faultKind, .int m_faultPlace, .ref m_qfresh, .int m_startOne, .int m_startOther, .int m_latest, .int m_leftBeats, .int m_signed, .int m_metMany, .ref m_qsums, .ref m_qpairs, .ref m_qgoesWith, .ref m_qsaid, .int m_saidMany, .int m_firstWait, .ref m_qfirstOrder, .int m_bundleFirst, .ref m_qtiredBy, .int m_tiredMany, .ref m_qmany, .ref m_qwidth, .ref m_qnumbers, .ref m_qmoving])), (m_qworld, .inl (cA 1, 122, .inl m_cworld))]) [0, 1] rfl) (g_X12_of l D cA h0 m_thrown m_qworld m_qimages m_qhasImage m_qtape m_taped m_qfive m_size m_at m_from m_token m_value m_faultKind m_faultPlace m_qfresh m_startOne m_startOther m_latest m_leftBeats m_signed m_metMany m_qsums m_qpairs m_qgoesWith m_qsaid m_saidMany m_firstWait m_qfirstOrder m_bundleFirst m_qtiredBy m_tiredMany m_qmany m_qwidth m_qnumbers m_qmoving m_cworld L3_32297 0 (by omega) (by omega) (by omega) (by omega) (by omega) (by omega) (by omega) (by decide) a_m_cworld_0) (tb_V tw_1640 tw_1642 tw_50 tw_114 tw_1643) hdX12_of ⟨rfl, rfl, Nat.le_of_ble_eq_true rfl, Nat.le_of_ble_eq_true rfl⟩ ⟨Nat.le_of_ble_eq_true rfl, Nat.le_of_ble_eq_true rfl⟩ rfl rfl rfl hl.1 rfl (Nat.le_of_ble_eq_true rfl) dX12_layMatch_86 (fun r_42244 hr_42244 => ?_)
              obtain ⟨k_42244_0_0, k_42244_0_1⟩ := hr_42244
              refine lv_if_ne (tgt := 185) hx hb dX12_layMatch_89 (by decide) (fun c_42245 => ?_) (fun c_42245 => ?_)
              · skip
                have k_42246 := kk_ne rfl zi_0 c_42245
                obtain ⟨x_42247, ex_42247⟩ : ∃ y : Int32, L7_42215 + Int32.ofInt 1 = y := ⟨_, rfl⟩
                have k_42248 := ar_add (b := 1) rfl zi_1 ex_42247.symm (by omega) (by omega)
                refine lv_iinc (v := x_42247) (lv' := [(7, .int x_42247), (6, .int L6_42215), (5, .int L5_42215), (4, .int L4_41523), (3, .int L3_32297), (2, .int (m_cworld 4)), (0, .ref h0), (1, .int p0)]) hx hb dX12_layMatch_185 hl (k := 0) rfl ex_42247 (by decide) rfl (fun ls hl => ?_)
                refine lv_goto (tgt := 72) hx hb dX12_layMatch_188 (by decide) ?_
                exact ih_42215 (x_42247, L6_42215, L5_42215) _ _ _ ⟨(show 0 ≤ x_42247.toInt ∧ x_42247.toInt ≤ 7 from by omega), (show 0 ≤ L6_42215.toInt from by omega), hP.sub [0, 1, 2, 3] rfl, hD.sub [0, 1, 2, 3] (by decide) rfl, hS, lv_sub hl [0, 1, 2, 3, 4, 5, 6, 7] rfl⟩ (by show (2147483647 - x_42247.toInt).toNat < (2147483647 - L7_42215.toInt).toNat; omega)
              · skip
                have k_42249 := kk_eq rfl zi_0 c_42245
                refine lv_aload_n hx hb dX12_layMatch_92 rfl (lv_at hl 6 rfl) ?_
                refine lv_iload hx hb dX12_layMatch_93 (lv_at hl 0 rfl) ?_
                refine lv_iconst (v := 0) hx hb dX12_layMatch_95 (by decide) ?_
                refine cpVi (rest := []) ⟨hx, hb, hml, hown, hts⟩ hKN (hP.sub (ws' := [(h0, .inr (12, [.int m_thrown, .ref m_qworld, .ref m_qimages, .ref m_qhasImage, .ref m_qtape, .int m_taped, .ref m_qfive, .int m_size, .int m_at, .int m_from, .int m_token, .int m_value, .int m_faultKind, .int m_faultPlace, .ref m_qfresh, .int m_startOne, .int m_startOther, .int m_latest, .int m_leftBeats, .int m_signed, .int m_metMany, .ref m_qsums, .ref m_qpairs, .ref m_qgoesWith, .ref m_qsaid, .int m_saidMany, .int m_firstWait, .ref m_qfirstOrder, .int m_bundleFirst, .ref m_qtiredBy, .int m_tiredMany, .ref m_qmany, .ref m_qwidth, .ref m_qnumbers, .ref m_qmoving])), (m_qworld, .inl (cA 1, 122, .inl m_cworld))]) [0, 1] rfl) (g_X12_of l D cA h0 m_thrown m_qworld m_qimages m_qhasImage m_qtape m_taped m_qfive m_size m_at m_from m_token m_value m_faultKind m_faultPlace m_qfresh m_startOne m_startOther m_latest m_leftBeats m_signed m_metMany m_qsums m_qpairs m_qgoesWith m_qsaid m_saidMany m_firstWait m_qfirstOrder m_bundleFirst m_qtiredBy m_tiredMany m_qmany m_qwidth m_qnumbers m_qmoving m_cworld L7_42215 0 (by omega) (by omega) (by omega) (by omega) (by omega) (by omega) (by omega) (by decide) a_m_cworld_0) (tb_V tw_1640 tw_1642 tw_50 tw_114 tw_1643) hdX12_of ⟨rfl, rfl, Nat.le_of_ble_eq_true rfl, Nat.le_of_ble_eq_true rfl⟩ ⟨Nat.le_of_ble_eq_true rfl, Nat.le_of_ble_eq_true rfl⟩ rfl rfl rfl hl.1 rfl (Nat.le_of_ble_eq_true rfl) dX12_layMatch_96 (fun r_42250 hr_42250 => ?_)
                obtain ⟨k_42250_0_0, k_42250_0_1⟩ := hr_42250
                refine lv_iconst (v := 1) hx hb dX12_layMatch_99 (by decide) ?_
                refine lv_icmp_ne (tgt := 185) hx hb dX12_layMatch_100 (by decide) (fun c_42251 => ?_) (fun c_42251 => ?_)
                · skip
                  have k_42252 := kk_ne rfl zi_1 c_42251
                  obtain ⟨x_42253, ex_42253⟩ : ∃ y : Int32, L7_42215 + Int32.ofInt 1 = y := ⟨_, rfl⟩
                  have k_42254 := ar_add (b := 1) rfl zi_1 ex_42253.symm (by omega) (by omega)
                  refine lv_iinc (v := x_42253) (lv' := [(7, .int x_42253), (6, .int L6_42215), (5, .int L5_42215), (4, .int L4_41523), (3, .int L3_32297), (2, .int (m_cworld 4)), (0, .ref h0), (1, .int p0)]) hx hb dX12_layMatch_185 hl (k := 0) rfl ex_42253 (by decide) rfl (fun ls hl => ?_)
                  refine lv_goto (tgt := 72) hx hb dX12_layMatch_188 (by decide) ?_
                  exact ih_42215 (x_42253, L6_42215, L5_42215) _ _ _ ⟨(show 0 ≤ x_42253.toInt ∧ x_42253.toInt ≤ 7 from by omega), (show 0 ≤ L6_42215.toInt from by omega), hP.sub [0, 1, 2, 3] rfl, hD.sub [0, 1, 2, 3] (by decide) rfl, hS, lv_sub hl [0, 1, 2, 3, 4, 5, 6, 7] rfl⟩ (by show (2147483647 - x_42253.toInt).toNat < (2147483647 - L7_42215.toInt).toNat; omega)
                · skip
                  have k_42255 := kk_eq rfl zi_1 c_42251
                  refine lv_iload hx hb dX12_layMatch_103 (lv_at hl 3 rfl) ?_
                  refine lv_iload hx hb dX12_layMatch_105 (lv_at hl 0 rfl) ?_
                  refine cpSi (rest := []) ⟨hx, hb, hml, hown, hts⟩ hKN (hP.sub (ws' := []) [] rfl) (g_X12_bit l D cA L4_41523 L7_42215) (tb_S tw_1807 tw_1808 tw_114 tw_1809) hdX12_bit ⟨rfl, rfl, Nat.le_of_ble_eq_true rfl, Nat.le_of_ble_eq_true rfl⟩ ⟨Nat.le_of_ble_eq_true rfl, Nat.le_of_ble_eq_true rfl⟩ rfl hl.1 rfl (Nat.le_of_ble_eq_true rfl) dX12_layMatch_107 (fun r_42256 hr_42256 => ?_)
                  refine lv_iconst (v := 1) hx hb dX12_layMatch_110 (by decide) ?_
                  refine lv_icmp_ne (tgt := 117) hx hb dX12_layMatch_111 (by decide) (fun c_42257 => ?_) (fun c_42257 => ?_)
                  · skip
                    have k_42258 := kk_ne rfl zi_1 c_42257
                    refine lv_iload hx hb dX12_layMatch_117 (lv_at hl 2 rfl) ?_
                    refine lv_aload_n hx hb dX12_layMatch_119 rfl (lv_at hl 6 rfl) ?_
                    refine lv_iload_n hx hb dX12_layMatch_120 rfl (lv_at hl 4 rfl) ?_
                    refine lv_iload hx hb dX12_layMatch_121 (lv_at hl 0 rfl) ?_
                    refine cpVi (rest := [.int L5_42215]) ⟨hx, hb, hml, hown, hts⟩ hKN (hP.sub (ws' := [(h0, .inr (12, [.int m_thrown, .ref m_qworld, .ref m_qimages, .ref m_qhasImage, .ref m_qtape, .int m_taped, .ref m_qfive, .int m_size, .int m_at, .int m_from, .int m_token, .int m_value, .int m_faultKind, .int m_faultPlace, .ref m_qfresh, .int m_startOne, .int m_startOther, .int m_latest, .int m_leftBeats, .int m_signed, .int m_metMany, .ref m_qsums, .ref m_qpairs, .ref m_qgoesWith, .ref m_qsaid, .int m_saidMany, .int m_firstWait, .ref m_qfirstOrder, .int m_bundleFirst, .ref m_qtiredBy, .int m_tiredMany, .ref m_qmany, .ref m_qwidth, .ref m_qnumbers, .ref m_qmoving])), (m_qworld, .inl (cA 1, 122, .inl m_cworld))]) [0, 1] rfl) (g_X12_holdOf l D cA h0 m_thrown m_qworld m_qimages m_qhasImage m_qtape m_taped m_qfive m_size m_at m_from m_token m_value m_faultKind m_faultPlace m_qfresh m_startOne m_startOther m_latest m_leftBeats m_signed m_metMany m_qsums m_qpairs m_qgoesWith m_qsaid m_saidMany m_firstWait m_qfirstOrder m_bundleFirst m_qtiredBy m_tiredMany m_qmany m_qwidth m_qnumbers m_qmoving m_cworld L3_32297 L7_42215 (by omega) (by omega) (by omega) (by omega) (by omega) (by omega) (by omega) (by omega) a_m_cworld_0) (tb_V tw_1700 tw_1702 tw_63 tw_114 tw_1703) hdX12_holdOf ⟨rfl, rfl, Nat.le_of_ble_eq_true rfl, Nat.le_of_ble_eq_true rfl⟩ ⟨Nat.le_of_ble_eq_true rfl, Nat.le_of_ble_eq_true rfl⟩ rfl rfl rfl hl.1 rfl (Nat.le_of_ble_eq_true rfl) dX12_layMatch_123 (fun r_42259 hr_42259 => ?_)
                    refine lv_aload_n hx hb dX12_layMatch_126 rfl (lv_at hl 6 rfl) ?_
                    refine lv_iload_n hx hb dX12_layMatch_127 rfl (lv_at hl 4 rfl) ?_
                    refine lv_iconst (v := 1) hx hb dX12_layMatch_128 (by decide) ?_
                    refine lv_iadd hx hb dX12_layMatch_129 ?_
                    refine lv_topi (fun x_42260 ex_42260 => ?_)
                    obtain rfl : x_41533 = x_42260 := ex_41533.trans ex_42260.symm
                    refine lv_iload hx hb dX12_layMatch_130 (lv_at hl 3 rfl) ?_
                    refine lv_iconst (v := 1) hx hb dX12_layMatch_132 (by decide) ?_
                    refine lv_iload hx hb dX12_layMatch_133 (lv_at hl 0 rfl) ?_
                    refine lv_ishl hx hb dX12_layMatch_135 ?_
                    refine lv_topi (fun x_42261 ex_42261 => ?_)
                    have k_42262 := ar_shl1 ex_42261 (by omega) (by omega)
                    refine lv_ior hx hb dX12_layMatch_136 ?_
                    refine lv_topi (fun x_42263 ex_42263 => ?_)
                    have k_42264 := ar_or (n := 8) (M := 256) rfl rfl ex_42263 (by decide) (by decide) (by omega) (by omega)
                    refine cpVi (rest := [.int r_42259, .int L5_42215]) ⟨hx, hb, hml, hown, hts⟩ hKN (hP.sub (ws' := [(h0, .inr (12, [.int m_thrown, .ref m_qworld, .ref m_qimages, .ref m_qhasImage, .ref m_qtape, .int m_taped, .ref m_qfive, .int m_size, .int m_at, .int m_from, .int m_token, .int m_value, .int m_faultKind, .int m_faultPlace, .ref m_qfresh, .int m_startOne, .int m_startOther, .int m_latest, .int m_leftBeats, .int m_signed, .int m_metMany, .ref m_qsums, .ref m_qpairs, .ref m_qgoesWith, .ref m_qsaid, .int m_saidMany, .int m_firstWait, .ref m_qfirstOrder, .int m_bundleFirst, .ref m_qtiredBy, .int m_tiredMany, .ref m_qmany, .ref m_qwidth, .ref m_qnumbers, .ref m_qmoving])), (m_qsums, .inl (cA 1, 2304, .inl F1_41523))]) [0, 2] rfl) (g_X12_sumFrom l D cA h0 m_thrown m_qworld m_qimages m_qhasImage m_qtape m_taped m_qfive m_size m_at m_from m_token m_value m_faultKind m_faultPlace m_qfresh m_startOne m_startOther m_latest m_leftBeats m_signed m_metMany m_qsums m_qpairs m_qgoesWith m_qsaid m_saidMany m_firstWait m_qfirstOrder m_bundleFirst m_qtiredBy m_tiredMany m_qmany m_qwidth m_qnumbers m_qmoving F1_41523 x_41533 x_42263 (by omega) (by omega) (by omega) (by omega) (by omega) (by omega) (by omega) (by omega)) (tb_V tw_1803 tw_1805 tw_71 tw_114 tw_1806) hdX12_sumFrom ⟨rfl, rfl, Nat.le_of_ble_eq_true rfl, Nat.le_of_ble_eq_true rfl⟩ ⟨Nat.le_of_ble_eq_true rfl, Nat.le_of_ble_eq_true rfl⟩ rfl rfl rfl hl.1 rfl (Nat.le_of_ble_eq_true rfl) dX12_layMatch_137 (fun r_42265 hr_42265 => ?_)
                    refine lv_iadd hx hb dX12_layMatch_140 ?_
                    refine lv_topi (fun x_42266 ex_42266 => ?_)
                    refine cpSi (rest := []) ⟨hx, hb, hml, hown, hts⟩ hKN (hP.sub (ws' := []) [] rfl) (g_J9_max_7cf53 l D cA L5_42215 x_42266) (tb_S tw_1735 tw_779 tw_115 tw_780) hdJ9_max_7cf53 ⟨rfl, rfl, Nat.le_of_ble_eq_true rfl, Nat.le_of_ble_eq_true rfl⟩ ⟨Nat.le_of_ble_eq_true rfl, Nat.le_of_ble_eq_true rfl⟩ rfl hl.1 rfl (Nat.le_of_ble_eq_true rfl) dX12_layMatch_141 (fun r_42268 hr_42268 => ?_)
                    obtain ⟨k_42268_0_0, k_42268_0_1, k_42268_0_2⟩ := hr_42268
                    refine lv_istore (lv' := [(5, .int r_42268), (7, .int L7_42215), (6, .int L6_42215), (4, .int L4_41523), (3, .int L3_32297), (2, .int (m_cworld 4)), (0, .ref h0), (1, .int p0)]) hx hb dX12_layMatch_144 hl (by decide) rfl (fun ls hl => ?_)
                    refine lv_aload_n hx hb dX12_layMatch_146 rfl (lv_at hl 6 rfl) ?_
                    refine lv_iload_n hx hb dX12_layMatch_147 rfl (lv_at hl 4 rfl) ?_
                    refine lv_iload hx hb dX12_layMatch_148 (lv_at hl 1 rfl) ?_
                    refine cpVi (rest := []) ⟨hx, hb, hml, hown, hts⟩ hKN (hP.sub (ws' := [(h0, .inr (12, [.int m_thrown, .ref m_qworld, .ref m_qimages, .ref m_qhasImage, .ref m_qtape, .int m_taped, .ref m_qfive, .int m_size, .int m_at, .int m_from, .int m_token, .int m_value, .int m_faultKind, .int m_faultPlace, .ref m_qfresh, .int m_startOne, .int m_startOther, .int m_latest, .int m_leftBeats, .int m_signed, .int m_metMany, .ref m_qsums, .ref m_qpairs, .ref m_qgoesWith, .ref m_qsaid, .int m_saidMany, .int m_firstWait, .ref m_qfirstOrder, .int m_bundleFirst, .ref m_qtiredBy, .int m_tiredMany, .ref m_qmany, .ref m_qwidth, .ref m_qnumbers, .ref m_qmoving])), (m_qworld, .inl (cA 1, 122, .inl m_cworld))]) [0, 1] rfl) (g_X12_holdOf l D cA h0 m_thrown m_qworld m_qimages m_qhasImage m_qtape m_taped m_qfive m_size m_at m_from m_token m_value m_faultKind m_faultPlace m_qfresh m_startOne m_startOther m_latest m_leftBeats m_signed m_metMany m_qsums m_qpairs m_qgoesWith m_qsaid m_saidMany m_firstWait m_qfirstOrder m_bundleFirst m_qtiredBy m_tiredMany m_qmany m_qwidth m_qnumbers m_qmoving m_cworld L3_32297 L7_42215 (by omega) (by omega) (by omega) (by omega) (by omega) (by omega) (by omega) (by omega) a_m_cworld_0) (tb_V tw_1700 tw_1702 tw_63 tw_114 tw_1703) hdX12_holdOf ⟨rfl, rfl, Nat.le_of_ble_eq_true rfl, Nat.le_of_ble_eq_true rfl⟩ ⟨Nat.le_of_ble_eq_true rfl, Nat.le_of_ble_eq_true rfl⟩ rfl rfl rfl hl.1 rfl (Nat.le_of_ble_eq_true rfl) dX12_layMatch_150 (fun r_42269 hr_42269 => ?_)
                    refine lv_iload_n hx hb dX12_layMatch_153 rfl (lv_at hl 7 rfl) ?_
                    refine lv_icmp_lt (tgt := 185) hx hb dX12_layMatch_154 (by decide) (fun c_42270 => ?_) (fun c_42270 => ?_)
                    · skip
                      have b_42272 := i32_bd r_42269
                      have b_42273 := i32_bd p0
                      have k_42271 := kk_lt rfl rfl c_42270
                      obtain ⟨x_42274, ex_42274⟩ : ∃ y : Int32, L7_42215 + Int32.ofInt 1 = y := ⟨_, rfl⟩
                      have k_42275 := ar_add (b := 1) rfl zi_1 ex_42274.symm (by omega) (by omega)
                      refine lv_iinc (v := x_42274) (lv' := [(7, .int x_42274), (5, .int r_42268), (6, .int L6_42215), (4, .int L4_41523), (3, .int L3_32297), (2, .int (m_cworld 4)), (0, .ref h0), (1, .int p0)]) hx hb dX12_layMatch_185 hl (k := 1) rfl ex_42274 (by decide) rfl (fun ls hl => ?_)
                      refine lv_goto (tgt := 72) hx hb dX12_layMatch_188 (by decide) ?_
                      exact ih_42215 (x_42274, L6_42215, r_42268) _ _ _ ⟨(show 0 ≤ x_42274.toInt ∧ x_42274.toInt ≤ 7 from by omega), (show 0 ≤ L6_42215.toInt from by omega), hP.sub [0, 1, 2, 3] rfl, hD.sub [0, 1, 2, 3] (by decide) rfl, hS, lv_sub hl [0, 2, 1, 3, 4, 5, 6, 7] rfl⟩ (by show (2147483647 - x_42274.toInt).toNat < (2147483647 - L7_42215.toInt).toNat; omega)
                    · skip
                      have b_42277 := i32_bd r_42269
                      have b_42278 := i32_bd p0
                      have k_42276 := kk_nlt rfl rfl c_42270
                      refine lv_iload hx hb dX12_layMatch_157 (lv_at hl 2 rfl) ?_
                      refine lv_iconst (v := 1) hx hb dX12_layMatch_159 (by decide) ?_
                      refine lv_aload_n hx hb dX12_layMatch_160 rfl (lv_at hl 6 rfl) ?_
                      refine va_get (D := D) (ci := 12) (v := .ref m_qpairs) (C := RX12) (T := TX12) (N := 35) hx hb hts inX12 hown hKN.1 hP 0 rfl rfl 22 (by decide) (hts _ tw_1441) (fun _ h9 => h9) rfl dX12_layMatch_161 ?_
                      refine lv_iload_n hx hb dX12_layMatch_164 rfl (lv_at hl 4 rfl) ?_
                      refine lv_iconst (v := 1) hx hb dX12_layMatch_165 (by decide) ?_
                      refine lv_iadd hx hb dX12_layMatch_166 ?_
                      refine lv_topi (fun x_42279 ex_42279 => ?_)
                      obtain rfl : x_41533 = x_42279 := ex_41533.trans ex_42279.symm
                      refine lv_bipush (v := 8) hx hb dX12_layMatch_167 (by decide) ?_
                      refine lv_ishl hx hb dX12_layMatch_169 ?_
                      refine lv_topi (fun x_42280 ex_42280 => ?_)
                      have k_42281 := ar_shl8 ex_42280 (by omega) (by omega)
                      refine lv_iload hx hb dX12_layMatch_170 (lv_at hl 3 rfl) ?_
                      refine lv_ior hx hb dX12_layMatch_172 ?_
                      refine lv_topi (fun x_42282 ex_42282 => ?_)
                      have k_42283 := ar_or8 rfl rfl ex_42282 (by omega) (by omega) (by omega)
                      refine lv_iconst (v := 1) hx hb dX12_layMatch_173 (by decide) ?_
                      refine lv_iload hx hb dX12_layMatch_174 (lv_at hl 1 rfl) ?_
                      refine lv_ishl hx hb dX12_layMatch_176 ?_
                      refine lv_topi (fun x_42284 ex_42284 => ?_)
                      obtain rfl : x_42261 = x_42284 := ex_42261.trans ex_42284.symm
                      refine lv_ior hx hb dX12_layMatch_177 ?_
                      refine lv_topi (fun x_42285 ex_42285 => ?_)
                      have k_42286 := ar_orb rfl rfl ex_42285 (by omega) (by omega)
                      refine va_iald hx hb hKN.1 hP 3 1 rfl rfl (vp_in_iff.mpr ⟨by omega, by omega⟩) dX12_layMatch_178 ?_
                      refine lv_topi (fun x_42287 ex_42287 => ?_)
                      refine lv_iadd hx hb dX12_layMatch_179 ?_
                      refine lv_topi (fun x_42288 ex_42288 => ?_)
                      refine cpSi (rest := []) ⟨hx, hb, hml, hown, hts⟩ hKN (hP.sub (ws' := []) [] rfl) (g_J9_max_7cf53 l D cA L6_42215 x_42288) (tb_S tw_1735 tw_779 tw_115 tw_780) hdJ9_max_7cf53 ⟨rfl, rfl, Nat.le_of_ble_eq_true rfl, Nat.le_of_ble_eq_true rfl⟩ ⟨Nat.le_of_ble_eq_true rfl, Nat.le_of_ble_eq_true rfl⟩ rfl hl.1 rfl (Nat.le_of_ble_eq_true rfl) dX12_layMatch_180 (fun r_42290 hr_42290 => ?_)
                      obtain ⟨k_42290_0_0, k_42290_0_1, k_42290_0_2⟩ := hr_42290
                      refine lv_istore (lv' := [(6, .int r_42290), (5, .int r_42268), (7, .int L7_42215), (4, .int L4_41523), (3, .int L3_32297), (2, .int (m_cworld 4)), (0, .ref h0), (1, .int p0)]) hx hb dX12_layMatch_183 hl (by decide) rfl (fun ls hl => ?_)
                      obtain ⟨x_42291, ex_42291⟩ : ∃ y : Int32, L7_42215 + Int32.ofInt 1 = y := ⟨_, rfl⟩
                      have k_42292 := ar_add (b := 1) rfl zi_1 ex_42291.symm (by omega) (by omega)
                      refine lv_iinc (v := x_42291) (lv' := [(7, .int x_42291), (6, .int r_42290), (5, .int r_42268), (4, .int L4_41523), (3, .int L3_32297), (2, .int (m_cworld 4)), (0, .ref h0), (1, .int p0)]) hx hb dX12_layMatch_185 hl (k := 2) rfl ex_42291 (by decide) rfl (fun ls hl => ?_)
                      refine lv_goto (tgt := 72) hx hb dX12_layMatch_188 (by decide) ?_
                      exact ih_42215 (x_42291, r_42290, r_42268) _ _ _ ⟨(show 0 ≤ x_42291.toInt ∧ x_42291.toInt ≤ 7 from by omega), (show 0 ≤ r_42290.toInt from by omega), hP.sub [0, 1, 2, 3] rfl, hD.sub [0, 1, 2, 3] (by decide) rfl, hS, lv_sub hl [0, 1, 2, 3, 4, 5, 6, 7] rfl⟩ (by show (2147483647 - x_42291.toInt).toNat < (2147483647 - L7_42215.toInt).toNat; omega)
                  · skip
                    have k_42293 := kk_eq rfl zi_1 c_42257
                    refine lv_goto (tgt := 185) hx hb dX12_layMatch_114 (by decide) ?_
                    obtain ⟨x_42294, ex_42294⟩ : ∃ y : Int32, L7_42215 + Int32.ofInt 1 = y := ⟨_, rfl⟩
                    have k_42295 := ar_add (b := 1) rfl zi_1 ex_42294.symm (by omega) (by omega)
                    refine lv_iinc (v := x_42294) (lv' := [(7, .int x_42294), (6, .int L6_42215), (5, .int L5_42215), (4, .int L4_41523), (3, .int L3_32297), (2, .int (m_cworld 4)), (0, .ref h0), (1, .int p0)]) hx hb dX12_layMatch_185 hl (k := 0) rfl ex_42294 (by decide) rfl (fun ls hl => ?_)
                    refine lv_goto (tgt := 72) hx hb dX12_layMatch_188 (by decide) ?_
                    exact ih_42215 (x_42294, L6_42215, L5_42215) _ _ _ ⟨(show 0 ≤ x_42294.toInt ∧ x_42294.toInt ≤ 7 from by omega), (show 0 ≤ L6_42215.toInt from by omega), hP.sub [0, 1, 2, 3] rfl, hD.sub [0, 1, 2, 3] (by decide) rfl, hS, lv_sub hl [0, 1, 2, 3, 4, 5, 6, 7] rfl⟩ (by show (2147483647 - x_42294.toInt).toNat < (2147483647 - L7_42215.toInt).toNat; omega)
      · skip
        have k_42296 := kk_eq rfl rfl c_41531
        refine lv_iconst (v := 0) hx hb dX12_layMatch_29 (by decide) ?_
        refine lv_goto (tgt := 42) hx hb dX12_layMatch_30 (by decide) ?_
        refine lv_istore (lv' := [(5, .int 0), (4, .int L4_41523), (3, .int L3_32297), (2, .int (m_cworld 4)), (0, .ref h0), (1, .int p0)]) hx hb dX12_layMatch_42 hl (by decide) rfl (fun ls hl => ?_)
        refine lv_iload_n hx hb dX12_layMatch_44 rfl (lv_at hl 2 rfl) ?_
        refine lv_iload_n hx hb dX12_layMatch_45 rfl (lv_at hl 3 rfl) ?_
        refine lv_icmp_ne (tgt := 53) hx hb dX12_layMatch_46 (by decide) (fun c_42297 => ?_) (fun c_42297 => ?_)
        · skip
          have k_42298 := kk_ne rfl rfl c_42297
          refine lv_aload_n hx hb dX12_layMatch_53 rfl (lv_at hl 4 rfl) ?_
          refine va_get (D := D) (ci := 12) (v := .ref m_qpairs) (C := RX12) (T := TX12) (N := 35) hx hb hts inX12 hown hKN.1 hP 0 rfl rfl 22 (by decide) (hts _ tw_1441) (fun _ h9 => h9) rfl dX12_layMatch_54 ?_
          refine lv_iload_n hx hb dX12_layMatch_57 rfl (lv_at hl 2 rfl) ?_
          refine lv_iconst (v := 1) hx hb dX12_layMatch_58 (by decide) ?_
          refine lv_iadd hx hb dX12_layMatch_59 ?_
          refine lv_topi (fun x_42299 ex_42299 => ?_)
          have k_42300 := ar_add rfl zi_1 ex_42299 (by omega) (by omega)
          refine lv_bipush (v := 8) hx hb dX12_layMatch_60 (by decide) ?_
          refine lv_ishl hx hb dX12_layMatch_62 ?_
          refine lv_topi (fun x_42301 ex_42301 => ?_)
          have k_42302 := ar_shl8 ex_42301 (by omega) (by omega)
          refine lv_iload hx hb dX12_layMatch_63 (lv_at hl 1 rfl) ?_
          refine lv_ior hx hb dX12_layMatch_65 ?_
          refine lv_topi (fun x_42303 ex_42303 => ?_)
          have k_42304 := ar_or8 rfl rfl ex_42303 (by omega) (by omega) (by omega)
          refine va_iald hx hb hKN.1 hP 3 1 rfl rfl (vp_in_iff.mpr ⟨by omega, by omega⟩) dX12_layMatch_66 ?_
          refine lv_topi (fun x_42305 ex_42305 => ?_)
          refine lv_istore (lv' := [(6, .int x_42305), (5, .int 0), (4, .int L4_41523), (3, .int L3_32297), (2, .int (m_cworld 4)), (0, .ref h0), (1, .int p0)]) hx hb dX12_layMatch_67 hl (by decide) rfl (fun ls hl => ?_)
          refine lv_iconst (v := 0) hx hb dX12_layMatch_69 (by decide) ?_
          refine lv_istore (lv' := [(7, .int 0), (6, .int x_42305), (5, .int 0), (4, .int L4_41523), (3, .int L3_32297), (2, .int (m_cworld 4)), (0, .ref h0), (1, .int p0)]) hx hb dX12_layMatch_70 hl (by decide) rfl (fun ls hl => ?_)
          have b_42597 := i32_bd x_42305
          refine loopW (σ := Int32 × Int32 × Int32) (fun _ => []) (fun ⟨L7_42596, L6_42596, L5_42596⟩ H locs ls => (0 ≤ L7_42596.toInt ∧ L7_42596.toInt ≤ 8) ∧ (0 ≤ L5_42596.toInt) ∧ va_P D vwCl [(h0, .inr (12, [.int m_thrown, .ref m_qworld, .ref m_qimages, .ref m_qhasImage, .ref m_qtape, .int m_taped, .ref m_qfive, .int m_size, .int m_at, .int m_from, .int m_token, .int m_value, .int m_faultKind, .int m_faultPlace, .ref m_qfresh, .int m_startOne, .int m_startOther, .int m_latest, .int m_leftBeats, .int m_signed, .int m_metMany, .ref m_qsums, .ref m_qpairs, .ref m_qgoesWith, .ref m_qsaid, .int m_saidMany, .int m_firstWait, .ref m_qfirstOrder, .int m_bundleFirst, .ref m_qtiredBy, .int m_tiredMany, .ref m_qmany, .ref m_qwidth, .ref m_qnumbers, .ref m_qmoving])), (m_qworld, .inl (cA 1, 122, .inl m_cworld)), (m_qsums, .inl (cA 1, 2304, .inl F1_41523)), (m_qpairs, .inl (cA 1, 2304, .inl F2_41523))] H ∧ va_D A [(h0, .inr (12, [.int m_thrown, .ref m_qworld, .ref m_qimages, .ref m_qhasImage, .ref m_qtape, .int m_taped, .ref m_qfive, .int m_size, .int m_at, .int m_from, .int m_token, .int m_value, .int m_faultKind, .int m_faultPlace, .ref m_qfresh, .int m_startOne, .int m_startOther, .int m_latest, .int m_leftBeats, .int m_signed, .int m_metMany, .ref m_qsums, .ref m_qpairs, .ref m_qgoesWith, .ref m_qsaid, .int m_saidMany, .int m_firstWait, .ref m_qfirstOrder, .int m_bundleFirst, .ref m_qtiredBy, .int m_tiredMany, .ref m_qmany, .ref m_qwidth, .ref m_qnumbers, .ref m_qmoving])), (m_qworld, .inl (cA 1, 122, .inl m_cworld)), (m_qsums, .inl (cA 1, 2304, .inl F1_41523)), (m_qpairs, .inl (cA 1, 2304, .inl F2_41523))] ∧ va_S A s.heap H locs ∧ lv_has ls 8 [(7, .int L7_42596), (6, .int L6_42596), (5, .int L5_42596), (4, .int L4_41523), (3, .int L3_32297), (2, .int (m_cworld 4)), (0, .ref h0), (1, .int p0)]) (fun ⟨L7_42596, L6_42596, L5_42596⟩ => (2147483647 - L7_42596.toInt).toNat) ?_ ((0, x_42305, 0) : Int32 × Int32 × Int32) ⟨(by decide), (by decide), hP, hD, hS, hl⟩
          intro x_42596 H locs ls hI_42596 ih_42596
          obtain ⟨L7_42596, L6_42596, L5_42596⟩ := x_42596
          obtain ⟨k0_42596, k1_42596, hP, hD, hS, hl⟩ := hI_42596
          have hP : va_P D vwCl [(h0, .inr (12, [.int m_thrown, .ref m_qworld, .ref m_qimages, .ref m_qhasImage, .ref m_qtape, .int m_taped, .ref m_qfive, .int m_size, .int m_at, .int m_from, .int m_token, .int m_value, .int m_faultKind, .int m_faultPlace, .ref m_qfresh, .int m_startOne, .int m_startOther, .int m_latest, .int m_leftBeats, .int m_signed, .int m_metMany, .ref m_qsums, .ref m_qpairs, .ref m_qgoesWith, .ref m_qsaid, .int m_saidMany, .int m_firstWait, .ref m_qfirstOrder, .int m_bundleFirst, .ref m_qtiredBy, .int m_tiredMany, .ref m_qmany, .ref m_qwidth, .ref m_qnumbers, .ref m_qmoving])), (m_qworld, .inl (cA 1, 122, .inl m_cworld)), (m_qsums, .inl (cA 1, 2304, .inl F1_41523)), (m_qpairs, .inl (cA 1, 2304, .inl F2_41523))] H := hP
          have hD : va_D A [(h0, .inr (12, [.int m_thrown, .ref m_qworld, .ref m_qimages, .ref m_qhasImage, .ref m_qtape, .int m_taped, .ref m_qfive, .int m_size, .int m_at, .int m_from, .int m_token, .int m_value, .int m_faultKind, .int m_faultPlace, .ref m_qfresh, .int m_startOne, .int m_startOther, .int m_latest, .int m_leftBeats, .int m_signed, .int m_metMany, .ref m_qsums, .ref m_qpairs, .ref m_qgoesWith, .ref m_qsaid, .int m_saidMany, .int m_firstWait, .ref m_qfirstOrder, .int m_bundleFirst, .ref m_qtiredBy, .int m_tiredMany, .ref m_qmany, .ref m_qwidth, .ref m_qnumbers, .ref m_qmoving])), (m_qworld, .inl (cA 1, 122, .inl m_cworld)), (m_qsums, .inl (cA 1, 2304, .inl F1_41523)), (m_qpairs, .inl (cA 1, 2304, .inl F2_41523))] := hD
          have hl : lv_has ls 8 [(7, .int L7_42596), (6, .int L6_42596), (5, .int L5_42596), (4, .int L4_41523), (3, .int L3_32297), (2, .int (m_cworld 4)), (0, .ref h0), (1, .int p0)] := hl
          refine lv_iload hx hb dX12_layMatch_72 (lv_at hl 0 rfl) ?_
          refine lv_iload_n hx hb dX12_layMatch_74 rfl (lv_at hl 5 rfl) ?_
          refine lv_icmp_ge (tgt := 191) hx hb dX12_layMatch_75 (by decide) (fun c_42598 => ?_) (fun c_42598 => ?_)
          · skip
            have k_42599 := kk_le rfl rfl c_42598
            refine lv_aload_n hx hb dX12_layMatch_191 rfl (lv_at hl 6 rfl) ?_
            refine va_get (D := D) (ci := 12) (v := .ref m_qsums) (C := RX12) (T := TX12) (N := 35) hx hb hts inX12 hown hKN.1 hP 0 rfl rfl 21 (by decide) (hts _ tw_1440) (fun _ h9 => h9) rfl dX12_layMatch_192 ?_
            refine lv_iload_n hx hb dX12_layMatch_195 rfl (lv_at hl 4 rfl) ?_
            refine lv_bipush (v := 8) hx hb dX12_layMatch_196 (by decide) ?_
            refine lv_ishl hx hb dX12_layMatch_198 ?_
            refine lv_topi (fun x_42600 ex_42600 => ?_)
            have k_42601 := ar_shl8 ex_42600 (by omega) (by omega)
            refine lv_iload hx hb dX12_layMatch_199 (lv_at hl 3 rfl) ?_
            refine lv_ior hx hb dX12_layMatch_201 ?_
            refine lv_topi (fun x_42602 ex_42602 => ?_)
            have k_42603 := ar_or8 rfl rfl ex_42602 (by omega) (by omega) (by omega)
            refine lv_iload hx hb dX12_layMatch_202 (lv_at hl 2 rfl) ?_
            refine va_iast hx hb hKN.1 hP hD hS 2 1 rfl rfl (vp_in_iff.mpr ⟨by omega, by omega⟩) dX12_layMatch_204 (fun H locs hP hD hS => ?_)
            have hP : va_P D vwCl [(h0, .inr (12, [.int m_thrown, .ref m_qworld, .ref m_qimages, .ref m_qhasImage, .ref m_qtape, .int m_taped, .ref m_qfive, .int m_size, .int m_at, .int m_from, .int m_token, .int m_value, .int m_faultKind, .int m_faultPlace, .ref m_qfresh, .int m_startOne, .int m_startOther, .int m_latest, .int m_leftBeats, .int m_signed, .int m_metMany, .ref m_qsums, .ref m_qpairs, .ref m_qgoesWith, .ref m_qsaid, .int m_saidMany, .int m_firstWait, .ref m_qfirstOrder, .int m_bundleFirst, .ref m_qtiredBy, .int m_tiredMany, .ref m_qmany, .ref m_qwidth, .ref m_qnumbers, .ref m_qmoving])), (m_qworld, .inl (cA 1, 122, .inl m_cworld)), (m_qsums, .inl (cA 1, 2304, .inl (upd F1_41523 x_42602.toNatClampNeg L5_42596))), (m_qpairs, .inl (cA 1, 2304, .inl F2_41523))] H := hP
            have hD : va_D A [(h0, .inr (12, [.int m_thrown, .ref m_qworld, .ref m_qimages, .ref m_qhasImage, .ref m_qtape, .int m_taped, .ref m_qfive, .int m_size, .int m_at, .int m_from, .int m_token, .int m_value, .int m_faultKind, .int m_faultPlace, .ref m_qfresh, .int m_startOne, .int m_startOther, .int m_latest, .int m_leftBeats, .int m_signed, .int m_metMany, .ref m_qsums, .ref m_qpairs, .ref m_qgoesWith, .ref m_qsaid, .int m_saidMany, .int m_firstWait, .ref m_qfirstOrder, .int m_bundleFirst, .ref m_qtiredBy, .int m_tiredMany, .ref m_qmany, .ref m_qwidth, .ref m_qnumbers, .ref m_qmoving])), (m_qworld, .inl (cA 1, 122, .inl m_cworld)), (m_qsums, .inl (cA 1, 2304, .inl (upd F1_41523 x_42602.toNatClampNeg L5_42596))), (m_qpairs, .inl (cA 1, 2304, .inl F2_41523))] := hD
            generalize ef_42604 : (upd F1_41523 x_42602.toNatClampNeg L5_42596) = f_42604 at hP hD
            refine lv_aload_n hx hb dX12_layMatch_205 rfl (lv_at hl 6 rfl) ?_
            refine va_get (D := D) (ci := 12) (v := .ref m_qpairs) (C := RX12) (T := TX12) (N := 35) hx hb hts inX12 hown hKN.1 hP 0 rfl rfl 22 (by decide) (hts _ tw_1441) (fun _ h9 => h9) rfl dX12_layMatch_206 ?_
            refine lv_iload_n hx hb dX12_layMatch_209 rfl (lv_at hl 4 rfl) ?_
            refine lv_bipush (v := 8) hx hb dX12_layMatch_210 (by decide) ?_
            refine lv_ishl hx hb dX12_layMatch_212 ?_
            refine lv_topi (fun x_42605 ex_42605 => ?_)
            obtain rfl : x_42600 = x_42605 := ex_42600.trans ex_42605.symm
            refine lv_iload hx hb dX12_layMatch_213 (lv_at hl 3 rfl) ?_
            refine lv_ior hx hb dX12_layMatch_215 ?_
            refine lv_topi (fun x_42606 ex_42606 => ?_)
            obtain rfl : x_42602 = x_42606 := ex_42602.trans ex_42606.symm
            refine lv_iload hx hb dX12_layMatch_216 (lv_at hl 1 rfl) ?_
            refine va_iast hx hb hKN.1 hP hD hS 3 1 rfl rfl (vp_in_iff.mpr ⟨by omega, by omega⟩) dX12_layMatch_218 (fun H locs hP hD hS => ?_)
            have hP : va_P D vwCl [(h0, .inr (12, [.int m_thrown, .ref m_qworld, .ref m_qimages, .ref m_qhasImage, .ref m_qtape, .int m_taped, .ref m_qfive, .int m_size, .int m_at, .int m_from, .int m_token, .int m_value, .int m_faultKind, .int m_faultPlace, .ref m_qfresh, .int m_startOne, .int m_startOther, .int m_latest, .int m_leftBeats, .int m_signed, .int m_metMany, .ref m_qsums, .ref m_qpairs, .ref m_qgoesWith, .ref m_qsaid, .int m_saidMany, .int m_firstWait, .ref m_qfirstOrder, .int m_bundleFirst, .ref m_qtiredBy, .int m_tiredMany, .ref m_qmany, .ref m_qwidth, .ref m_qnumbers, .ref m_qmoving])), (m_qworld, .inl (cA 1, 122, .inl m_cworld)), (m_qsums, .inl (cA 1, 2304, .inl f_42604)), (m_qpairs, .inl (cA 1, 2304, .inl (upd F2_41523 x_42602.toNatClampNeg L6_42596)))] H := hP
            have hD : va_D A [(h0, .inr (12, [.int m_thrown, .ref m_qworld, .ref m_qimages, .ref m_qhasImage, .ref m_qtape, .int m_taped, .ref m_qfive, .int m_size, .int m_at, .int m_from, .int m_token, .int m_value, .int m_faultKind, .int m_faultPlace, .ref m_qfresh, .int m_startOne, .int m_startOther, .int m_latest, .int m_leftBeats, .int m_signed, .int m_metMany, .ref m_qsums, .ref m_qpairs, .ref m_qgoesWith, .ref m_qsaid, .int m_saidMany, .int m_firstWait, .ref m_qfirstOrder, .int m_bundleFirst, .ref m_qtiredBy, .int m_tiredMany, .ref m_qmany, .ref m_qwidth, .ref m_qnumbers, .ref m_qmoving])), (m_qworld, .inl (cA 1, 122, .inl m_cworld)), (m_qsums, .inl (cA 1, 2304, .inl f_42604)), (m_qpairs, .inl (cA 1, 2304, .inl (upd F2_41523 x_42602.toNatClampNeg L6_42596)))] := hD
            generalize ef_42607 : (upd F2_41523 x_42602.toNatClampNeg L6_42596) = f_42607 at hP hD
            obtain ⟨x_42608, ex_42608⟩ : ∃ y : Int32, L4_41523 + Int32.ofInt 1 = y := ⟨_, rfl⟩
            have k_42609 := ar_add (b := 1) rfl zi_1 ex_42608.symm (by omega) (by omega)
            refine lv_iinc (v := x_42608) (lv' := [(4, .int x_42608), (7, .int L7_42596), (6, .int L6_42596), (5, .int L5_42596), (3, .int L3_32297), (2, .int (m_cworld 4)), (0, .ref h0), (1, .int p0)]) hx hb dX12_layMatch_219 hl (k := 3) rfl ex_42608 (by decide) rfl (fun ls hl => ?_)
            refine lv_goto (tgt := 16) hx hb dX12_layMatch_222 (by decide) ?_
            exact ih_41523 (x_42608, f_42604, f_42607) _ _ _ ⟨(show 0 ≤ x_42608.toInt ∧ x_42608.toInt ≤ 256 from by omega), hP.sub [0, 1, 2, 3] rfl, hD.sub [0, 1, 2, 3] (by decide) rfl, hS, lv_sub hl [0, 4, 5, 6, 7] rfl⟩ (by show (2147483647 - x_42608.toInt).toNat < (2147483647 - L4_41523.toInt).toNat; omega)
          · skip
            have k_42610 := kk_nle rfl rfl c_42598
            refine lv_iload_n hx hb dX12_layMatch_78 rfl (lv_at hl 4 rfl) ?_
            refine lv_iload_n hx hb dX12_layMatch_79 rfl (lv_at hl 5 rfl) ?_
            refine lv_icmp_ge (tgt := 191) hx hb dX12_layMatch_80 (by decide) (fun c_42611 => ?_) (fun c_42611 => ?_)
            · skip
              have k_42612 := kk_le rfl rfl c_42611
              refine lv_aload_n hx hb dX12_layMatch_191 rfl (lv_at hl 6 rfl) ?_
              refine va_get (D := D) (ci := 12) (v := .ref m_qsums) (C := RX12) (T := TX12) (N := 35) hx hb hts inX12 hown hKN.1 hP 0 rfl rfl 21 (by decide) (hts _ tw_1440) (fun _ h9 => h9) rfl dX12_layMatch_192 ?_
              refine lv_iload_n hx hb dX12_layMatch_195 rfl (lv_at hl 4 rfl) ?_
              refine lv_bipush (v := 8) hx hb dX12_layMatch_196 (by decide) ?_
              refine lv_ishl hx hb dX12_layMatch_198 ?_
              refine lv_topi (fun x_42613 ex_42613 => ?_)
              have k_42614 := ar_shl8 ex_42613 (by omega) (by omega)
              refine lv_iload hx hb dX12_layMatch_199 (lv_at hl 3 rfl) ?_
              refine lv_ior hx hb dX12_layMatch_201 ?_
              refine lv_topi (fun x_42615 ex_42615 => ?_)
              have k_42616 := ar_or8 rfl rfl ex_42615 (by omega) (by omega) (by omega)
              refine lv_iload hx hb dX12_layMatch_202 (lv_at hl 2 rfl) ?_
              refine va_iast hx hb hKN.1 hP hD hS 2 1 rfl rfl (vp_in_iff.mpr ⟨by omega, by omega⟩) dX12_layMatch_204 (fun H locs hP hD hS => ?_)
              have hP : va_P D vwCl [(h0, .inr (12, [.int m_thrown, .ref m_qworld, .ref m_qimages, .ref m_qhasImage, .ref m_qtape, .int m_taped, .ref m_qfive, .int m_size, .int m_at, .int m_from, .int m_token, .int m_value, .int m_faultKind, .int m_faultPlace, .ref m_qfresh, .int m_startOne, .int m_startOther, .int m_latest, .int m_leftBeats, .int m_signed, .int m_metMany, .ref m_qsums, .ref m_qpairs, .ref m_qgoesWith, .ref m_qsaid, .int m_saidMany, .int m_firstWait, .ref m_qfirstOrder, .int m_bundleFirst, .ref m_qtiredBy, .int m_tiredMany, .ref m_qmany, .ref m_qwidth, .ref m_qnumbers, .ref m_qmoving])), (m_qworld, .inl (cA 1, 122, .inl m_cworld)), (m_qsums, .inl (cA 1, 2304, .inl (upd F1_41523 x_42615.toNatClampNeg L5_42596))), (m_qpairs, .inl (cA 1, 2304, .inl F2_41523))] H := hP
              have hD : va_D A [(h0, .inr (12, [.int m_thrown, .ref m_qworld, .ref m_qimages, .ref m_qhasImage, .ref m_qtape, .int m_taped, .ref m_qfive, .int m_size, .int m_at, .int m_from, .int m_token, .int m_value, .int m_faultKind, .int m_faultPlace, .ref m_qfresh, .int m_startOne, .int m_startOther, .int m_latest, .int m_leftBeats, .int m_signed, .int m_metMany, .ref m_qsums, .ref m_qpairs, .ref m_qgoesWith, .ref m_qsaid, .int m_saidMany, .int m_firstWait, .ref m_qfirstOrder, .int m_bundleFirst, .ref m_qtiredBy, .int m_tiredMany, .ref m_qmany, .ref m_qwidth, .ref m_qnumbers, .ref m_qmoving])), (m_qworld, .inl (cA 1, 122, .inl m_cworld)), (m_qsums, .inl (cA 1, 2304, .inl (upd F1_41523 x_42615.toNatClampNeg L5_42596))), (m_qpairs, .inl (cA 1, 2304, .inl F2_41523))] := hD
              generalize ef_42617 : (upd F1_41523 x_42615.toNatClampNeg L5_42596) = f_42617 at hP hD
              refine lv_aload_n hx hb dX12_layMatch_205 rfl (lv_at hl 6 rfl) ?_
              refine va_get (D := D) (ci := 12) (v := .ref m_qpairs) (C := RX12) (T := TX12) (N := 35) hx hb hts inX12 hown hKN.1 hP 0 rfl rfl 22 (by decide) (hts _ tw_1441) (fun _ h9 => h9) rfl dX12_layMatch_206 ?_
              refine lv_iload_n hx hb dX12_layMatch_209 rfl (lv_at hl 4 rfl) ?_
              refine lv_bipush (v := 8) hx hb dX12_layMatch_210 (by decide) ?_
              refine lv_ishl hx hb dX12_layMatch_212 ?_
              refine lv_topi (fun x_42618 ex_42618 => ?_)
              obtain rfl : x_42613 = x_42618 := ex_42613.trans ex_42618.symm
              refine lv_iload hx hb dX12_layMatch_213 (lv_at hl 3 rfl) ?_
              refine lv_ior hx hb dX12_layMatch_215 ?_
              refine lv_topi (fun x_42619 ex_42619 => ?_)
              obtain rfl : x_42615 = x_42619 := ex_42615.trans ex_42619.symm
              refine lv_iload hx hb dX12_layMatch_216 (lv_at hl 1 rfl) ?_
              refine va_iast hx hb hKN.1 hP hD hS 3 1 rfl rfl (vp_in_iff.mpr ⟨by omega, by omega⟩) dX12_layMatch_218 (fun H locs hP hD hS => ?_)
              have hP : va_P D vwCl [(h0, .inr (12, [.int m_thrown, .ref m_qworld, .ref m_qimages, .ref m_qhasImage, .ref m_qtape, .int m_taped, .ref m_qfive, .int m_size, .int m_at, .int m_from, .int m_token, .int m_value, .int m_faultKind, .int m_faultPlace, .ref m_qfresh, .int m_startOne, .int m_startOther, .int m_latest, .int m_leftBeats, .int m_signed, .int m_metMany, .ref m_qsums, .ref m_qpairs, .ref m_qgoesWith, .ref m_qsaid, .int m_saidMany, .int m_firstWait, .ref m_qfirstOrder, .int m_bundleFirst, .ref m_qtiredBy, .int m_tiredMany, .ref m_qmany, .ref m_qwidth, .ref m_qnumbers, .ref m_qmoving])), (m_qworld, .inl (cA 1, 122, .inl m_cworld)), (m_qsums, .inl (cA 1, 2304, .inl f_42617)), (m_qpairs, .inl (cA 1, 2304, .inl (upd F2_41523 x_42615.toNatClampNeg L6_42596)))] H := hP
              have hD : va_D A [(h0, .inr (12, [.int m_thrown, .ref m_qworld, .ref m_qimages, .ref m_qhasImage, .ref m_qtape, .int m_taped, .ref m_qfive, .int m_size, .int m_at, .int m_from, .int m_token, .int m_value, .int m_faultKind, .int m_faultPlace, .ref m_qfresh, .int m_startOne, .int m_startOther, .int m_latest, .int m_leftBeats, .int m_signed, .int m_metMany, .ref m_qsums, .ref m_qpairs, .ref m_qgoesWith, .ref m_qsaid, .int m_saidMany, .int m_firstWait, .ref m_qfirstOrder, .int m_bundleFirst, .ref m_qtiredBy, .int m_tiredMany, .ref m_qmany, .ref m_qwidth, .ref m_qnumbers, .ref m_qmoving])), (m_qworld, .inl (cA 1, 122, .inl m_cworld)), (m_qsums, .inl (cA 1, 2304, .inl f_42617)), (m_qpairs, .inl (cA 1, 2304, .inl (upd F2_41523 x_42615.toNatClampNeg L6_42596)))] := hD
              generalize ef_42620 : (upd F2_41523 x_42615.toNatClampNeg L6_42596) = f_42620 at hP hD
              obtain ⟨x_42621, ex_42621⟩ : ∃ y : Int32, L4_41523 + Int32.ofInt 1 = y := ⟨_, rfl⟩
              have k_42622 := ar_add (b := 1) rfl zi_1 ex_42621.symm (by omega) (by omega)
              refine lv_iinc (v := x_42621) (lv' := [(4, .int x_42621), (7, .int L7_42596), (6, .int L6_42596), (5, .int L5_42596), (3, .int L3_32297), (2, .int (m_cworld 4)), (0, .ref h0), (1, .int p0)]) hx hb dX12_layMatch_219 hl (k := 3) rfl ex_42621 (by decide) rfl (fun ls hl => ?_)
              refine lv_goto (tgt := 16) hx hb dX12_layMatch_222 (by decide) ?_
              exact ih_41523 (x_42621, f_42617, f_42620) _ _ _ ⟨(show 0 ≤ x_42621.toInt ∧ x_42621.toInt ≤ 256 from by omega), hP.sub [0, 1, 2, 3] rfl, hD.sub [0, 1, 2, 3] (by decide) rfl, hS, lv_sub hl [0, 4, 5, 6, 7] rfl⟩ (by show (2147483647 - x_42621.toInt).toNat < (2147483647 - L4_41523.toInt).toNat; omega)
            · skip
              have k_42623 := kk_nle rfl rfl c_42611
              refine lv_aload_n hx hb dX12_layMatch_83 rfl (lv_at hl 6 rfl) ?_
              refine lv_iload_n hx hb dX12_layMatch_84 rfl (lv_at hl 4 rfl) ?_
              refine lv_iconst (v := 0) hx hb dX12_layMatch_85 (by decide) ?_
              have z_42624 := zi_0
              refine cpVi (rest := []) ⟨hx, hb, hml, hown, hts⟩ hKN (hP.sub (ws' := [(h0, .inr (12, [.int m_thrown, .ref m_qworld, .ref m_qimages, .ref m_qhasImage, .ref m_qtape, .int m_taped, .ref m_qfive, .int m_size, .int m_at, .int m_from, .int m_token, .int m_value, .int m_faultKind, .int m_faultPlace, .ref m_qfresh, .int m_startOne, .int m_startOther, .int m_latest, .int m_leftBeats, .int m_signed, .int m_metMany, .ref m_qsums, .ref m_qpairs, .ref m_qgoesWith, .ref m_qsaid, .int m_saidMany, .int m_firstWait, .ref m_qfirstOrder, .int m_bundleFirst, .ref m_qtiredBy, .int m_tiredMany, .ref m_qmany, .ref m_qwidth, .ref m_qnumbers, .ref m_qmoving])), (m_qworld, .inl (cA 1, 122, .inl m_cworld))]) [0, 1] rfl) (g_X12_of l D cA h0 m_thrown m_qworld m_qimages m_qhasImage m_qtape m_taped m_qfive m_size m_at m_from m_token m_value m_faultKind m_faultPlace m_qfresh m_startOne m_startOther m_latest m_leftBeats m_signed m_metMany m_qsums m_qpairs m_qgoesWith m_qsaid m_saidMany m_firstWait m_qfirstOrder m_bundleFirst m_qtiredBy m_tiredMany m_qmany m_qwidth m_qnumbers m_qmoving m_cworld L3_32297 0 (by omega) (by omega) (by omega) (by omega) (by omega) (by omega) (by omega) (by decide) a_m_cworld_0) (tb_V tw_1640 tw_1642 tw_50 tw_114 tw_1643) hdX12_of ⟨rfl, rfl, Nat.le_of_ble_eq_true rfl, Nat.le_of_ble_eq_true rfl⟩ ⟨Nat.le_of_ble_eq_true rfl, Nat.le_of_ble_eq_true rfl⟩ rfl rfl rfl hl.1 rfl (Nat.le_of_ble_eq_true rfl) dX12_layMatch_86 (fun r_42625 hr_42625 => ?_)
              obtain ⟨k_42625_0_0, k_42625_0_1⟩ := hr_42625
              refine lv_if_ne (tgt := 185) hx hb dX12_layMatch_89 (by decide) (fun c_42626 => ?_) (fun c_42626 => ?_)
              · skip
                have k_42627 := kk_ne rfl zi_0 c_42626
                obtain ⟨x_42628, ex_42628⟩ : ∃ y : Int32, L7_42596 + Int32.ofInt 1 = y := ⟨_, rfl⟩
                have k_42629 := ar_add (b := 1) rfl zi_1 ex_42628.symm (by omega) (by omega)
                refine lv_iinc (v := x_42628) (lv' := [(7, .int x_42628), (6, .int L6_42596), (5, .int L5_42596), (4, .int L4_41523), (3, .int L3_32297), (2, .int (m_cworld 4)), (0, .ref h0), (1, .int p0)]) hx hb dX12_layMatch_185 hl (k := 0) rfl ex_42628 (by decide) rfl (fun ls hl => ?_)
                refine lv_goto (tgt := 72) hx hb dX12_layMatch_188 (by decide) ?_
                exact ih_42596 (x_42628, L6_42596, L5_42596) _ _ _ ⟨(show 0 ≤ x_42628.toInt ∧ x_42628.toInt ≤ 8 from by omega), (show 0 ≤ L5_42596.toInt from by omega), hP.sub [0, 1, 2, 3] rfl, hD.sub [0, 1, 2, 3] (by decide) rfl, hS, lv_sub hl [0, 1, 2, 3, 4, 5, 6, 7] rfl⟩ (by show (2147483647 - x_42628.toInt).toNat < (2147483647 - L7_42596.toInt).toNat; omega)
              · skip
                have k_42630 := kk_eq rfl zi_0 c_42626
                refine lv_aload_n hx hb dX12_layMatch_92 rfl (lv_at hl 6 rfl) ?_
                refine lv_iload hx hb dX12_layMatch_93 (lv_at hl 0 rfl) ?_
                refine lv_iconst (v := 0) hx hb dX12_layMatch_95 (by decide) ?_
                refine cpVi (rest := []) ⟨hx, hb, hml, hown, hts⟩ hKN (hP.sub (ws' := [(h0, .inr (12, [.int m_thrown, .ref m_qworld, .ref m_qimages, .ref m_qhasImage, .ref m_qtape, .int m_taped, .ref m_qfive, .int m_size, .int m_at, .int m_from, .int m_token, .int m_value, .int m_faultKind, .int m_faultPlace, .ref m_qfresh, .int m_startOne, .int m_startOther, .int m_latest, .int m_leftBeats, .int m_signed, .int m_metMany, .ref m_qsums, .ref m_qpairs, .ref m_qgoesWith, .ref m_qsaid, .int m_saidMany, .int m_firstWait, .ref m_qfirstOrder, .int m_bundleFirst, .ref m_qtiredBy, .int m_tiredMany, .ref m_qmany, .ref m_qwidth, .ref m_qnumbers, .ref m_qmoving])), (m_qworld, .inl (cA 1, 122, .inl m_cworld))]) [0, 1] rfl) (g_X12_of l D cA h0 m_thrown m_qworld m_qimages m_qhasImage m_qtape m_taped m_qfive m_size m_at m_from m_token m_value m_faultKind m_faultPlace m_qfresh m_startOne m_startOther m_latest m_leftBeats m_signed m_metMany m_qsums m_qpairs m_qgoesWith m_qsaid m_saidMany m_firstWait m_qfirstOrder m_bundleFirst m_qtiredBy m_tiredMany m_qmany m_qwidth m_qnumbers m_qmoving m_cworld L7_42596 0 (by omega) (by omega) (by omega) (by omega) (by omega) (by omega) (by omega) (by decide) a_m_cworld_0) (tb_V tw_1640 tw_1642 tw_50 tw_114 tw_1643) hdX12_of ⟨rfl, rfl, Nat.le_of_ble_eq_true rfl, Nat.le_of_ble_eq_true rfl⟩ ⟨Nat.le_of_ble_eq_true rfl, Nat.le_of_ble_eq_true rfl⟩ rfl rfl rfl hl.1 rfl (Nat.le_of_ble_eq_true rfl) dX12_layMatch_96 (fun r_42631 hr_42631 => ?_)
                obtain ⟨k_42631_0_0, k_42631_0_1⟩ := hr_42631
                refine lv_iconst (v := 1) hx hb dX12_layMatch_99 (by decide) ?_
                refine lv_icmp_ne (tgt := 185) hx hb dX12_layMatch_100 (by decide) (fun c_42632 => ?_) (fun c_42632 => ?_)
                · skip
                  have k_42633 := kk_ne rfl zi_1 c_42632
                  obtain ⟨x_42634, ex_42634⟩ : ∃ y : Int32, L7_42596 + Int32.ofInt 1 = y := ⟨_, rfl⟩
                  have k_42635 := ar_add (b := 1) rfl zi_1 ex_42634.symm (by omega) (by omega)
                  refine lv_iinc (v := x_42634) (lv' := [(7, .int x_42634), (6, .int L6_42596), (5, .int L5_42596), (4, .int L4_41523), (3, .int L3_32297), (2, .int (m_cworld 4)), (0, .ref h0), (1, .int p0)]) hx hb dX12_layMatch_185 hl (k := 0) rfl ex_42634 (by decide) rfl (fun ls hl => ?_)
                  refine lv_goto (tgt := 72) hx hb dX12_layMatch_188 (by decide) ?_
                  exact ih_42596 (x_42634, L6_42596, L5_42596) _ _ _ ⟨(show 0 ≤ x_42634.toInt ∧ x_42634.toInt ≤ 8 from by omega), (show 0 ≤ L5_42596.toInt from by omega), hP.sub [0, 1, 2, 3] rfl, hD.sub [0, 1, 2, 3] (by decide) rfl, hS, lv_sub hl [0, 1, 2, 3, 4, 5, 6, 7] rfl⟩ (by show (2147483647 - x_42634.toInt).toNat < (2147483647 - L7_42596.toInt).toNat; omega)
                · skip
                  have k_42636 := kk_eq rfl zi_1 c_42632
                  refine lv_iload hx hb dX12_layMatch_103 (lv_at hl 3 rfl) ?_
                  refine lv_iload hx hb dX12_layMatch_105 (lv_at hl 0 rfl) ?_
                  refine cpSi (rest := []) ⟨hx, hb, hml, hown, hts⟩ hKN (hP.sub (ws' := []) [] rfl) (g_X12_bit l D cA L4_41523 L7_42596) (tb_S tw_1807 tw_1808 tw_114 tw_1809) hdX12_bit ⟨rfl, rfl, Nat.le_of_ble_eq_true rfl, Nat.le_of_ble_eq_true rfl⟩ ⟨Nat.le_of_ble_eq_true rfl, Nat.le_of_ble_eq_true rfl⟩ rfl hl.1 rfl (Nat.le_of_ble_eq_true rfl) dX12_layMatch_107 (fun r_42637 hr_42637 => ?_)
                  refine lv_iconst (v := 1) hx hb dX12_layMatch_110 (by decide) ?_
                  refine lv_icmp_ne (tgt := 117) hx hb dX12_layMatch_111 (by decide) (fun c_42638 => ?_) (fun c_42638 => ?_)
                  · skip
                    have k_42639 := kk_ne rfl zi_1 c_42638
                    refine lv_iload hx hb dX12_layMatch_117 (lv_at hl 2 rfl) ?_
                    refine lv_aload_n hx hb dX12_layMatch_119 rfl (lv_at hl 6 rfl) ?_
                    refine lv_iload_n hx hb dX12_layMatch_120 rfl (lv_at hl 4 rfl) ?_
                    refine lv_iload hx hb dX12_layMatch_121 (lv_at hl 0 rfl) ?_
                    refine cpVi (rest := [.int L5_42596]) ⟨hx, hb, hml, hown, hts⟩ hKN (hP.sub (ws' := [(h0, .inr (12, [.int m_thrown, .ref m_qworld, .ref m_qimages, .ref m_qhasImage, .ref m_qtape, .int m_taped, .ref m_qfive, .int m_size, .int m_at, .int m_from, .int m_token, .int m_value, .int m_faultKind, .int m_faultPlace, .ref m_qfresh, .int m_startOne, .int m_startOther, .int m_latest, .int m_leftBeats, .int m_signed, .int m_metMany, .ref m_qsums, .ref m_qpairs, .ref m_qgoesWith, .ref m_qsaid, .int m_saidMany, .int m_firstWait, .ref m_qfirstOrder, .int m_bundleFirst, .ref m_qtiredBy, .int m_tiredMany, .ref m_qmany, .ref m_qwidth, .ref m_qnumbers, .ref m_qmoving])), (m_qworld, .inl (cA 1, 122, .inl m_cworld))]) [0, 1] rfl) (g_X12_holdOf l D cA h0 m_thrown m_qworld m_qimages m_qhasImage m_qtape m_taped m_qfive m_size m_at m_from m_token m_value m_faultKind m_faultPlace m_qfresh m_startOne m_startOther m_latest m_leftBeats m_signed m_metMany m_qsums m_qpairs m_qgoesWith m_qsaid m_saidMany m_firstWait m_qfirstOrder m_bundleFirst m_qtiredBy m_tiredMany m_qmany m_qwidth m_qnumbers m_qmoving m_cworld L3_32297 L7_42596 (by omega) (by omega) (by omega) (by omega) (by omega) (by omega) (by omega) (by omega) a_m_cworld_0) (tb_V tw_1700 tw_1702 tw_63 tw_114 tw_1703) hdX12_holdOf ⟨rfl, rfl, Nat.le_of_ble_eq_true rfl, Nat.le_of_ble_eq_true rfl⟩ ⟨Nat.le_of_ble_eq_true rfl, Nat.le_of_ble_eq_true rfl⟩ rfl rfl rfl hl.1 rfl (Nat.le_of_ble_eq_true rfl) dX12_layMatch_123 (fun r_42640 hr_42640 => ?_)
                    refine lv_aload_n hx hb dX12_layMatch_126 rfl (lv_at hl 6 rfl) ?_
                    refine lv_iload_n hx hb dX12_layMatch_127 rfl (lv_at hl 4 rfl) ?_
                    refine lv_iconst (v := 1) hx hb dX12_layMatch_128 (by decide) ?_
                    refine lv_iadd hx hb dX12_layMatch_129 ?_
                    refine lv_topi (fun x_42641 ex_42641 => ?_)
                    obtain rfl : x_42299 = x_42641 := ex_42299.trans ex_42641.symm
                    refine lv_iload hx hb dX12_layMatch_130 (lv_at hl 3 rfl) ?_
                    refine lv_iconst (v := 1) hx hb dX12_layMatch_132 (by decide) ?_
                    refine lv_iload hx hb dX12_layMatch_133 (lv_at hl 0 rfl) ?_
                    refine lv_ishl hx hb dX12_layMatch_135 ?_
                    refine lv_topi (fun x_42642 ex_42642 => ?_)
                    have k_42643 := ar_shl1 ex_42642 (by omega) (by omega)
                    refine lv_ior hx hb dX12_layMatch_136 ?_
                    refine lv_topi (fun x_42644 ex_42644 => ?_)
                    have k_42645 := ar_or (n := 8) (M := 256) rfl rfl ex_42644 (by decide) (by decide) (by omega) (by omega)
                    refine cpVi (rest := [.int r_42640, .int L5_42596]) ⟨hx, hb, hml, hown, hts⟩ hKN (hP.sub (ws' := [(h0, .inr (12, [.int m_thrown, .ref m_qworld, .ref m_qimages, .ref m_qhasImage, .ref m_qtape, .int m_taped, .ref m_qfive, .int m_size, .int m_at, .int m_from, .int m_token, .int m_value, .int m_faultKind, .int m_faultPlace, .ref m_qfresh, .int m_startOne, .int m_startOther, .int m_latest, .int m_leftBeats, .int m_signed, .int m_metMany, .ref m_qsums, .ref m_qpairs, .ref m_qgoesWith, .ref m_qsaid, .int m_saidMany, .int m_firstWait, .ref m_qfirstOrder, .int m_bundleFirst, .ref m_qtiredBy, .int m_tiredMany, .ref m_qmany, .ref m_qwidth, .ref m_qnumbers, .ref m_qmoving])), (m_qsums, .inl (cA 1, 2304, .inl F1_41523))]) [0, 2] rfl) (g_X12_sumFrom l D cA h0 m_thrown m_qworld m_qimages m_qhasImage m_qtape m_taped m_qfive m_size m_at m_from m_token m_value m_faultKind m_faultPlace m_qfresh m_startOne m_startOther m_latest m_leftBeats m_signed m_metMany m_qsums m_qpairs m_qgoesWith m_qsaid m_saidMany m_firstWait m_qfirstOrder m_bundleFirst m_qtiredBy m_tiredMany m_qmany m_qwidth m_qnumbers m_qmoving F1_41523 x_42299 x_42644 (by omega) (by omega) (by omega) (by omega) (by omega) (by omega) (by omega) (by omega)) (tb_V tw_1803 tw_1805 tw_71 tw_114 tw_1806) hdX12_sumFrom ⟨rfl, rfl, Nat.le_of_ble_eq_true rfl, Nat.le_of_ble_eq_true rfl⟩ ⟨Nat.le_of_ble_eq_true rfl, Nat.le_of_ble_eq_true rfl⟩ rfl rfl rfl hl.1 rfl (Nat.le_of_ble_eq_true rfl) dX12_layMatch_137 (fun r_42646 hr_42646 => ?_)
                    refine lv_iadd hx hb dX12_layMatch_140 ?_
                    refine lv_topi (fun x_42647 ex_42647 => ?_)
                    refine cpSi (rest := []) ⟨hx, hb, hml, hown, hts⟩ hKN (hP.sub (ws' := []) [] rfl) (g_J9_max_7cf53 l D cA L5_42596 x_42647) (tb_S tw_1735 tw_779 tw_115 tw_780) hdJ9_max_7cf53 ⟨rfl, rfl, Nat.le_of_ble_eq_true rfl, Nat.le_of_ble_eq_true rfl⟩ ⟨Nat.le_of_ble_eq_true rfl, Nat.le_of_ble_eq_true rfl⟩ rfl hl.1 rfl (Nat.le_of_ble_eq_true rfl) dX12_layMatch_141 (fun r_42649 hr_42649 => ?_)
                    obtain ⟨k_42649_0_0, k_42649_0_1, k_42649_0_2⟩ := hr_42649
                    refine lv_istore (lv' := [(5, .int r_42649), (7, .int L7_42596), (6, .int L6_42596), (4, .int L4_41523), (3, .int L3_32297), (2, .int (m_cworld 4)), (0, .ref h0), (1, .int p0)]) hx hb dX12_layMatch_144 hl (by decide) rfl (fun ls hl => ?_)
                    refine lv_aload_n hx hb dX12_layMatch_146 rfl (lv_at hl 6 rfl) ?_
                    refine lv_iload_n hx hb dX12_layMatch_147 rfl (lv_at hl 4 rfl) ?_
                    refine lv_iload hx hb dX12_layMatch_148 (lv_at hl 1 rfl) ?_
                    refine cpVi (rest := []) ⟨hx, hb, hml, hown, hts⟩ hKN (hP.sub (ws' := [(h0, .inr (12, [.int m_thrown, .ref m_qworld, .ref m_qimages, .ref m_qhasImage, .ref m_qtape, .int m_taped, .ref m_qfive, .int m_size, .int m_at, .int m_from, .int m_token, .int m_value, .int m_faultKind, .int m_faultPlace, .ref m_qfresh, .int m_startOne, .int m_startOther, .int m_latest, .int m_leftBeats, .int m_signed, .int m_metMany, .ref m_qsums, .ref m_qpairs, .ref m_qgoesWith, .ref m_qsaid, .int m_saidMany, .int m_firstWait, .ref m_qfirstOrder, .int m_bundleFirst, .ref m_qtiredBy, .int m_tiredMany, .ref m_qmany, .ref m_qwidth, .ref m_qnumbers, .ref m_qmoving])), (m_qworld, .inl (cA 1, 122, .inl m_cworld))]) [0, 1] rfl) (g_X12_holdOf l D cA h0 m_thrown m_qworld m_qimages m_qhasImage m_qtape m_taped m_qfive m_size m_at m_from m_token m_value m_faultKind m_faultPlace m_qfresh m_startOne m_startOther m_latest m_leftBeats m_signed m_metMany m_qsums m_qpairs m_qgoesWith m_qsaid m_saidMany m_firstWait m_qfirstOrder m_bundleFirst m_qtiredBy m_tiredMany m_qmany m_qwidth m_qnumbers m_qmoving m_cworld L3_32297 L7_42596 (by omega) (by omega) (by omega) (by omega) (by omega) (by omega) (by omega) (by omega) a_m_cworld_0) (tb_V tw_1700 tw_1702 tw_63 tw_114 tw_1703) hdX12_holdOf ⟨rfl, rfl, Nat.le_of_ble_eq_true rfl, Nat.le_of_ble_eq_true rfl⟩ ⟨Nat.le_of_ble_eq_true rfl, Nat.le_of_ble_eq_true rfl⟩ rfl rfl rfl hl.1 rfl (Nat.le_of_ble_eq_true rfl) dX12_layMatch_150 (fun r_42650 hr_42650 => ?_)
                    refine lv_iload_n hx hb dX12_layMatch_153 rfl (lv_at hl 7 rfl) ?_
                    refine lv_icmp_lt (tgt := 185) hx hb dX12_layMatch_154 (by decide) (fun c_42651 => ?_) (fun c_42651 => ?_)
                    · skip
                      have b_42653 := i32_bd r_42650
                      have b_42654 := i32_bd p0
                      have k_42652 := kk_lt rfl rfl c_42651
                      obtain ⟨x_42655, ex_42655⟩ : ∃ y : Int32, L7_42596 + Int32.ofInt 1 = y := ⟨_, rfl⟩
                      have k_42656 := ar_add (b := 1) rfl zi_1 ex_42655.symm (by omega) (by omega)
                      refine lv_iinc (v := x_42655) (lv' := [(7, .int x_42655), (5, .int r_42649), (6, .int L6_42596), (4, .int L4_41523), (3, .int L3_32297), (2, .int (m_cworld 4)), (0, .ref h0), (1, .int p0)]) hx hb dX12_layMatch_185 hl (k := 1) rfl ex_42655 (by decide) rfl (fun ls hl => ?_)
                      refine lv_goto (tgt := 72) hx hb dX12_layMatch_188 (by decide) ?_
                      exact ih_42596 (x_42655, L6_42596, r_42649) _ _ _ ⟨(show 0 ≤ x_42655.toInt ∧ x_42655.toInt ≤ 8 from by omega), (show 0 ≤ r_42649.toInt from by omega), hP.sub [0, 1, 2, 3] rfl, hD.sub [0, 1, 2, 3] (by decide) rfl, hS, lv_sub hl [0, 2, 1, 3, 4, 5, 6, 7] rfl⟩ (by show (2147483647 - x_42655.toInt).toNat < (2147483647 - L7_42596.toInt).toNat; omega)
                    · skip
                      have b_42658 := i32_bd r_42650
                      have b_42659 := i32_bd p0
                      have k_42657 := kk_nlt rfl rfl c_42651
                      refine lv_iload hx hb dX12_layMatch_157 (lv_at hl 2 rfl) ?_
                      refine lv_iconst (v := 1) hx hb dX12_layMatch_159 (by decide) ?_
                      refine lv_aload_n hx hb dX12_layMatch_160 rfl (lv_at hl 6 rfl) ?_
                      refine va_get (D := D) (ci := 12) (v := .ref m_qpairs) (C := RX12) (T := TX12) (N := 35) hx hb hts inX12 hown hKN.1 hP 0 rfl rfl 22 (by decide) (hts _ tw_1441) (fun _ h9 => h9) rfl dX12_layMatch_161 ?_
                      refine lv_iload_n hx hb dX12_layMatch_164 rfl (lv_at hl 4 rfl) ?_
                      refine lv_iconst (v := 1) hx hb dX12_layMatch_165 (by decide) ?_
                      refine lv_iadd hx hb dX12_layMatch_166 ?_
                      refine lv_topi (fun x_42660 ex_42660 => ?_)
                      obtain rfl : x_42299 = x_42660 := ex_42299.trans ex_42660.symm
                      refine lv_bipush (v := 8) hx hb dX12_layMatch_167 (by decide) ?_
                      refine lv_ishl hx hb dX12_layMatch_169 ?_
                      refine lv_topi (fun x_42661 ex_42661 => ?_)
                      obtain rfl : x_42301 = x_42661 := ex_42301.trans ex_42661.symm
                      refine lv_iload hx hb dX12_layMatch_170 (lv_at hl 3 rfl) ?_
                      refine lv_ior hx hb dX12_layMatch_172 ?_
                      refine lv_topi (fun x_42662 ex_42662 => ?_)
                      obtain rfl : x_42303 = x_42662 := ex_42303.trans ex_42662.symm
                      refine lv_iconst (v := 1) hx hb dX12_layMatch_173 (by decide) ?_
                      refine lv_iload hx hb dX12_layMatch_174 (lv_at hl 1 rfl) ?_
                      refine lv_ishl hx hb dX12_layMatch_176 ?_
                      refine lv_topi (fun x_42663 ex_42663 => ?_)
                      obtain rfl : x_42642 = x_42663 := ex_42642.trans ex_42663.symm
                      refine lv_ior hx hb dX12_layMatch_177 ?_
                      refine lv_topi (fun x_42664 ex_42664 => ?_)
                      have k_42665 := ar_orb rfl rfl ex_42664 (by omega) (by omega)
                      refine va_iald hx hb hKN.1 hP 3 1 rfl rfl (vp_in_iff.mpr ⟨by omega, by omega⟩) dX12_layMatch_178 ?_
                      refine lv_topi (fun x_42666 ex_42666 => ?_)
                      refine lv_iadd hx hb dX12_layMatch_179 ?_
                      refine lv_topi (fun x_42667 ex_42667 => ?_)
                      refine cpSi (rest := []) ⟨hx, hb, hml, hown, hts⟩ hKN (hP.sub (ws' := []) [] rfl) (g_J9_max_7cf53 l D cA L6_42596 x_42667) (tb_S tw_1735 tw_779 tw_115 tw_780) hdJ9_max_7cf53 ⟨rfl, rfl, Nat.le_of_ble_eq_true rfl, Nat.le_of_ble_eq_true rfl⟩ ⟨Nat.le_of_ble_eq_true rfl, Nat.le_of_ble_eq_true rfl⟩ rfl hl.1 rfl (Nat.le_of_ble_eq_true rfl) dX12_layMatch_180 (fun r_42669 hr_42669 => ?_)
                      obtain ⟨k_42669_0_0, k_42669_0_1, k_42669_0_2⟩ := hr_42669
                      refine lv_istore (lv' := [(6, .int r_42669), (5, .int r_42649), (7, .int L7_42596), (4, .int L4_41523), (3, .int L3_32297), (2, .int (m_cworld 4)), (0, .ref h0), (1, .int p0)]) hx hb dX12_layMatch_183 hl (by decide) rfl (fun ls hl => ?_)
                      obtain ⟨x_42670, ex_42670⟩ : ∃ y : Int32, L7_42596 + Int32.ofInt 1 = y := ⟨_, rfl⟩
                      have k_42671 := ar_add (b := 1) rfl zi_1 ex_42670.symm (by omega) (by omega)
                      refine lv_iinc (v := x_42670) (lv' := [(7, .int x_42670), (6, .int r_42669), (5, .int r_42649), (4, .int L4_41523), (3, .int L3_32297), (2, .int (m_cworld 4)), (0, .ref h0), (1, .int p0)]) hx hb dX12_layMatch_185 hl (k := 2) rfl ex_42670 (by decide) rfl (fun ls hl => ?_)
                      refine lv_goto (tgt := 72) hx hb dX12_layMatch_188 (by decide) ?_
                      exact ih_42596 (x_42670, r_42669, r_42649) _ _ _ ⟨(show 0 ≤ x_42670.toInt ∧ x_42670.toInt ≤ 8 from by omega), (show 0 ≤ r_42649.toInt from by omega), hP.sub [0, 1, 2, 3] rfl, hD.sub [0, 1, 2, 3] (by decide) rfl, hS, lv_sub hl [0, 1, 2, 3, 4, 5, 6, 7] rfl⟩ (by show (2147483647 - x_42670.toInt).toNat < (2147483647 - L7_42596.toInt).toNat; omega)
                  · skip
                    have k_42672 := kk_eq rfl zi_1 c_42638
                    refine lv_goto (tgt := 185) hx hb dX12_layMatch_114 (by decide) ?_
                    obtain ⟨x_42673, ex_42673⟩ : ∃ y : Int32, L7_42596 + Int32.ofInt 1 = y := ⟨_, rfl⟩
                    have k_42674 := ar_add (b := 1) rfl zi_1 ex_42673.symm (by omega) (by omega)
                    refine lv_iinc (v := x_42673) (lv' := [(7, .int x_42673), (6, .int L6_42596), (5, .int L5_42596), (4, .int L4_41523), (3, .int L3_32297), (2, .int (m_cworld 4)), (0, .ref h0), (1, .int p0)]) hx hb dX12_layMatch_185 hl (k := 0) rfl ex_42673 (by decide) rfl (fun ls hl => ?_)
                    refine lv_goto (tgt := 72) hx hb dX12_layMatch_188 (by decide) ?_
                    exact ih_42596 (x_42673, L6_42596, L5_42596) _ _ _ ⟨(show 0 ≤ x_42673.toInt ∧ x_42673.toInt ≤ 8 from by omega), (show 0 ≤ L5_42596.toInt from by omega), hP.sub [0, 1, 2, 3] rfl, hD.sub [0, 1, 2, 3] (by decide) rfl, hS, lv_sub hl [0, 1, 2, 3, 4, 5, 6, 7] rfl⟩ (by show (2147483647 - x_42673.toInt).toNat < (2147483647 - L7_42596.toInt).toNat; omega)
        · skip
          have k_42675 := kk_eq rfl rfl c_42297
          refine lv_iconst (v := 0) hx hb dX12_layMatch_49 (by decide) ?_
          refine lv_goto (tgt := 67) hx hb dX12_layMatch_50 (by decide) ?_
          refine lv_istore (lv' := [(6, .int 0), (5, .int 0), (4, .int L4_41523), (3, .int L3_32297), (2, .int (m_cworld 4)), (0, .ref h0), (1, .int p0)]) hx hb dX12_layMatch_67 hl (by decide) rfl (fun ls hl => ?_)
          refine lv_iconst (v := 0) hx hb dX12_layMatch_69 (by decide) ?_
          refine lv_istore (lv' := [(7, .int 0), (6, .int 0), (5, .int 0), (4, .int L4_41523), (3, .int L3_32297), (2, .int (m_cworld 4)), (0, .ref h0), (1, .int p0)]) hx hb dX12_layMatch_70 hl (by decide) rfl (fun ls hl => ?_)
          refine loopW (σ := Int32 × Int32 × Int32) (fun _ => []) (fun ⟨L7_42981, L6_42981, L5_42981⟩ H locs ls => (0 ≤ L7_42981.toInt ∧ L7_42981.toInt ≤ 8) ∧ (0 ≤ L6_42981.toInt) ∧ (0 ≤ L5_42981.toInt) ∧ va_P D vwCl [(h0, .inr (12, [.int m_thrown, .ref m_qworld, .ref m_qimages, .ref m_qhasImage, .ref m_qtape, .int m_taped, .ref m_qfive, .int m_size, .int m_at, .int m_from, .int m_token, .int m_value, .int m_faultKind, .int m_faultPlace, .ref m_qfresh, .int m_startOne, .int m_startOther, .int m_latest, .int m_leftBeats, .int m_signed, .int m_metMany, .ref m_qsums, .ref m_qpairs, .ref m_qgoesWith, .ref m_qsaid, .int m_saidMany, .int m_firstWait, .ref m_qfirstOrder, .int m_bundleFirst, .ref m_qtiredBy, .int m_tiredMany, .ref m_qmany, .ref m_qwidth, .ref m_qnumbers, .ref m_qmoving])), (m_qworld, .inl (cA 1, 122, .inl m_cworld)), (m_qsums, .inl (cA 1, 2304, .inl F1_41523)), (m_qpairs, .inl (cA 1, 2304, .inl F2_41523))] H ∧ va_D A [(h0, .inr (12, [.int m_thrown, .ref m_qworld, .ref m_qimages, .ref m_qhasImage, .ref m_qtape, .int m_taped, .ref m_qfive, .int m_size, .int m_at, .int m_from, .int m_token, .int m_value, .int m_faultKind, .int m_faultPlace, .ref m_qfresh, .int m_startOne, .int m_startOther, .int m_latest, .int m_leftBeats, .int m_signed, .int m_metMany, .ref m_qsums, .ref m_qpairs, .ref m_qgoesWith, .ref m_qsaid, .int m_saidMany, .int m_firstWait, .ref m_qfirstOrder, .int m_bundleFirst, .ref m_qtiredBy, .int m_tiredMany, .ref m_qmany, .ref m_qwidth, .ref m_qnumbers, .ref m_qmoving])), (m_qworld, .inl (cA 1, 122, .inl m_cworld)), (m_qsums, .inl (cA 1, 2304, .inl F1_41523)), (m_qpairs, .inl (cA 1, 2304, .inl F2_41523))] ∧ va_S A s.heap H locs ∧ lv_has ls 8 [(7, .int L7_42981), (6, .int L6_42981), (5, .int L5_42981), (4, .int L4_41523), (3, .int L3_32297), (2, .int (m_cworld 4)), (0, .ref h0), (1, .int p0)]) (fun ⟨L7_42981, L6_42981, L5_42981⟩ => (2147483647 - L7_42981.toInt).toNat) ?_ ((0, 0, 0) : Int32 × Int32 × Int32) ⟨(by decide), (by decide), (by decide), hP, hD, hS, hl⟩
          intro x_42981 H locs ls hI_42981 ih_42981
          obtain ⟨L7_42981, L6_42981, L5_42981⟩ := x_42981
          obtain ⟨k0_42981, k1_42981, k2_42981, hP, hD, hS, hl⟩ := hI_42981
          have hP : va_P D vwCl [(h0, .inr (12, [.int m_thrown, .ref m_qworld, .ref m_qimages, .ref m_qhasImage, .ref m_qtape, .int m_taped, .ref m_qfive, .int m_size, .int m_at, .int m_from, .int m_token, .int m_value, .int m_faultKind, .int m_faultPlace, .ref m_qfresh, .int m_startOne, .int m_startOther, .int m_latest, .int m_leftBeats, .int m_signed, .int m_metMany, .ref m_qsums, .ref m_qpairs, .ref m_qgoesWith, .ref m_qsaid, .int m_saidMany, .int m_firstWait, .ref m_qfirstOrder, .int m_bundleFirst, .ref m_qtiredBy, .int m_tiredMany, .ref m_qmany, .ref m_qwidth, .ref m_qnumbers, .ref m_qmoving])), (m_qworld, .inl (cA 1, 122, .inl m_cworld)), (m_qsums, .inl (cA 1, 2304, .inl F1_41523)), (m_qpairs, .inl (cA 1, 2304, .inl F2_41523))] H := hP
          have hD : va_D A [(h0, .inr (12, [.int m_thrown, .ref m_qworld, .ref m_qimages, .ref m_qhasImage, .ref m_qtape, .int m_taped, .ref m_qfive, .int m_size, .int m_at, .int m_from, .int m_token, .int m_value, .int m_faultKind, .int m_faultPlace, .ref m_qfresh, .int m_startOne, .int m_startOther, .int m_latest, .int m_leftBeats, .int m_signed, .int m_metMany, .ref m_qsums, .ref m_qpairs, .ref m_qgoesWith, .ref m_qsaid, .int m_saidMany, .int m_firstWait, .ref m_qfirstOrder, .int m_bundleFirst, .ref m_qtiredBy, .int m_tiredMany, .ref m_qmany, .ref m_qwidth, .ref m_qnumbers, .ref m_qmoving])), (m_qworld, .inl (cA 1, 122, .inl m_cworld)), (m_qsums, .inl (cA 1, 2304, .inl F1_41523)), (m_qpairs, .inl (cA 1, 2304, .inl F2_41523))] := hD
          have hl : lv_has ls 8 [(7, .int L7_42981), (6, .int L6_42981), (5, .int L5_42981), (4, .int L4_41523), (3, .int L3_32297), (2, .int (m_cworld 4)), (0, .ref h0), (1, .int p0)] := hl
          refine lv_iload hx hb dX12_layMatch_72 (lv_at hl 0 rfl) ?_
          refine lv_iload_n hx hb dX12_layMatch_74 rfl (lv_at hl 5 rfl) ?_
          refine lv_icmp_ge (tgt := 191) hx hb dX12_layMatch_75 (by decide) (fun c_42982 => ?_) (fun c_42982 => ?_)
          · skip
            have k_42983 := kk_le rfl rfl c_42982
            refine lv_aload_n hx hb dX12_layMatch_191 rfl (lv_at hl 6 rfl) ?_
            refine va_get (D := D) (ci := 12) (v := .ref m_qsums) (C := RX12) (T := TX12) (N := 35) hx hb hts inX12 hown hKN.1 hP 0 rfl rfl 21 (by decide) (hts _ tw_1440) (fun _ h9 => h9) rfl dX12_layMatch_192 ?_
            refine lv_iload_n hx hb dX12_layMatch_195 rfl (lv_at hl 4 rfl) ?_
            refine lv_bipush (v := 8) hx hb dX12_layMatch_196 (by decide) ?_
            refine lv_ishl hx hb dX12_layMatch_198 ?_
            refine lv_topi (fun x_42984 ex_42984 => ?_)
            have k_42985 := ar_shl8 ex_42984 (by omega) (by omega)
            refine lv_iload hx hb dX12_layMatch_199 (lv_at hl 3 rfl) ?_
            refine lv_ior hx hb dX12_layMatch_201 ?_
            refine lv_topi (fun x_42986 ex_42986 => ?_)
            have k_42987 := ar_or8 rfl rfl ex_42986 (by omega) (by omega) (by omega)
            refine lv_iload hx hb dX12_layMatch_202 (lv_at hl 2 rfl) ?_
            refine va_iast hx hb hKN.1 hP hD hS 2 1 rfl rfl (vp_in_iff.mpr ⟨by omega, by omega⟩) dX12_layMatch_204 (fun H locs hP hD hS => ?_)
            have hP : va_P D vwCl [(h0, .inr (12, [.int m_thrown, .ref m_qworld, .ref m_qimages, .ref m_qhasImage, .ref m_qtape, .int m_taped, .ref m_qfive, .int m_size, .int m_at, .int m_from, .int m_token, .int m_value, .int m_faultKind, .int m_faultPlace, .ref m_qfresh, .int m_startOne, .int m_startOther, .int m_latest, .int m_leftBeats, .int m_signed, .int m_metMany, .ref m_qsums, .ref m_qpairs, .ref m_qgoesWith, .ref m_qsaid, .int m_saidMany, .int m_firstWait, .ref m_qfirstOrder, .int m_bundleFirst, .ref m_qtiredBy, .int m_tiredMany, .ref m_qmany, .ref m_qwidth, .ref m_qnumbers, .ref m_qmoving])), (m_qworld, .inl (cA 1, 122, .inl m_cworld)), (m_qsums, .inl (cA 1, 2304, .inl (upd F1_41523 x_42986.toNatClampNeg L5_42981))), (m_qpairs, .inl (cA 1, 2304, .inl F2_41523))] H := hP
            have hD : va_D A [(h0, .inr (12, [.int m_thrown, .ref m_qworld, .ref m_qimages, .ref m_qhasImage, .ref m_qtape, .int m_taped, .ref m_qfive, .int m_size, .int m_at, .int m_from, .int m_token, .int m_value, .int m_faultKind, .int m_faultPlace, .ref m_qfresh, .int m_startOne, .int m_startOther, .int m_latest, .int m_leftBeats, .int m_signed, .int m_metMany, .ref m_qsums, .ref m_qpairs, .ref m_qgoesWith, .ref m_qsaid, .int m_saidMany, .int m_firstWait, .ref m_qfirstOrder, .int m_bundleFirst, .ref m_qtiredBy, .int m_tiredMany, .ref m_qmany, .ref m_qwidth, .ref m_qnumbers, .ref m_qmoving])), (m_qworld, .inl (cA 1, 122, .inl m_cworld)), (m_qsums, .inl (cA 1, 2304, .inl (upd F1_41523 x_42986.toNatClampNeg L5_42981))), (m_qpairs, .inl (cA 1, 2304, .inl F2_41523))] := hD
            generalize ef_42988 : (upd F1_41523 x_42986.toNatClampNeg L5_42981) = f_42988 at hP hD
            refine lv_aload_n hx hb dX12_layMatch_205 rfl (lv_at hl 6 rfl) ?_
            refine va_get (D := D) (ci := 12) (v := .ref m_qpairs) (C := RX12) (T := TX12) (N := 35) hx hb hts inX12 hown hKN.1 hP 0 rfl rfl 22 (by decide) (hts _ tw_1441) (fun _ h9 => h9) rfl dX12_layMatch_206 ?_
            refine lv_iload_n hx hb dX12_layMatch_209 rfl (lv_at hl 4 rfl) ?_
            refine lv_bipush (v := 8) hx hb dX12_layMatch_210 (by decide) ?_
            refine lv_ishl hx hb dX12_layMatch_212 ?_
            refine lv_topi (fun x_42989 ex_42989 => ?_)
            obtain rfl : x_42984 = x_42989 := ex_42984.trans ex_42989.symm
            refine lv_iload hx hb dX12_layMatch_213 (lv_at hl 3 rfl) ?_
            refine lv_ior hx hb dX12_layMatch_215 ?_
            refine lv_topi (fun x_42990 ex_42990 => ?_)
            obtain rfl : x_42986 = x_42990 := ex_42986.trans ex_42990.symm
            refine lv_iload hx hb dX12_layMatch_216 (lv_at hl 1 rfl) ?_
            refine va_iast hx hb hKN.1 hP hD hS 3 1 rfl rfl (vp_in_iff.mpr ⟨by omega, by omega⟩) dX12_layMatch_218 (fun H locs hP hD hS => ?_)
            have hP : va_P D vwCl [(h0, .inr (12, [.int m_thrown, .ref m_qworld, .ref m_qimages, .ref m_qhasImage, .ref m_qtape, .int m_taped, .ref m_qfive, .int m_size, .int m_at, .int m_from, .int m_token, .int m_value, .int m_faultKind, .int m_faultPlace, .ref m_qfresh, .int m_startOne, .int m_startOther, .int m_latest, .int m_leftBeats, .int m_signed, .int m_metMany, .ref m_qsums, .ref m_qpairs, .ref m_qgoesWith, .ref m_qsaid, .int m_saidMany, .int m_firstWait, .ref m_qfirstOrder, .int m_bundleFirst, .ref m_qtiredBy, .int m_tiredMany, .ref m_qmany, .ref m_qwidth, .ref m_qnumbers, .ref m_qmoving])), (m_qworld, .inl (cA 1, 122, .inl m_cworld)), (m_qsums, .inl (cA 1, 2304, .inl f_42988)), (m_qpairs, .inl (cA 1, 2304, .inl (upd F2_41523 x_42986.toNatClampNeg L6_42981)))] H := hP
            have hD : va_D A [(h0, .inr (12, [.int m_thrown, .ref m_qworld, .ref m_qimages, .ref m_qhasImage, .ref m_qtape, .int m_taped, .ref m_qfive, .int m_size, .int m_at, .int m_from, .int m_token, .int m_value, .int m_faultKind, .int m_faultPlace, .ref m_qfresh, .int m_startOne, .int m_startOther, .int m_latest, .int m_leftBeats, .int m_signed, .int m_metMany, .ref m_qsums, .ref m_qpairs, .ref m_qgoesWith, .ref m_qsaid, .int m_saidMany, .int m_firstWait, .ref m_qfirstOrder, .int m_bundleFirst, .ref m_qtiredBy, .int m_tiredMany, .ref m_qmany, .ref m_qwidth, .ref m_qnumbers, .ref m_qmoving])), (m_qworld, .inl (cA 1, 122, .inl m_cworld)), (m_qsums, .inl (cA 1, 2304, .inl f_42988)), (m_qpairs, .inl (cA 1, 2304, .inl (upd F2_41523 x_42986.toNatClampNeg L6_42981)))] := hD
            generalize ef_42991 : (upd F2_41523 x_42986.toNatClampNeg L6_42981) = f_42991 at hP hD
            obtain ⟨x_42992, ex_42992⟩ : ∃ y : Int32, L4_41523 + Int32.ofInt 1 = y := ⟨_, rfl⟩
            have k_42993 := ar_add (b := 1) rfl zi_1 ex_42992.symm (by omega) (by omega)
            refine lv_iinc (v := x_42992) (lv' := [(4, .int x_42992), (7, .int L7_42981), (6, .int L6_42981), (5, .int L5_42981), (3, .int L3_32297), (2, .int (m_cworld 4)), (0, .ref h0), (1, .int p0)]) hx hb dX12_layMatch_219 hl (k := 3) rfl ex_42992 (by decide) rfl (fun ls hl => ?_)
            refine lv_goto (tgt := 16) hx hb dX12_layMatch_222 (by decide) ?_
            exact ih_41523 (x_42992, f_42988, f_42991) _ _ _ ⟨(show 0 ≤ x_42992.toInt ∧ x_42992.toInt ≤ 256 from by omega), hP.sub [0, 1, 2, 3] rfl, hD.sub [0, 1, 2, 3] (by decide) rfl, hS, lv_sub hl [0, 4, 5, 6, 7] rfl⟩ (by show (2147483647 - x_42992.toInt).toNat < (2147483647 - L4_41523.toInt).toNat; omega)
          · skip
            have k_42994 := kk_nle rfl rfl c_42982
            refine lv_iload_n hx hb dX12_layMatch_78 rfl (lv_at hl 4 rfl) ?_
            refine lv_iload_n hx hb dX12_layMatch_79 rfl (lv_at hl 5 rfl) ?_
            refine lv_icmp_ge (tgt := 191) hx hb dX12_layMatch_80 (by decide) (fun c_42995 => ?_) (fun c_42995 => ?_)
            · skip
              have k_42996 := kk_le rfl rfl c_42995
              refine lv_aload_n hx hb dX12_layMatch_191 rfl (lv_at hl 6 rfl) ?_
              refine va_get (D := D) (ci := 12) (v := .ref m_qsums) (C := RX12) (T := TX12) (N := 35) hx hb hts inX12 hown hKN.1 hP 0 rfl rfl 21 (by decide) (hts _ tw_1440) (fun _ h9 => h9) rfl dX12_layMatch_192 ?_
              refine lv_iload_n hx hb dX12_layMatch_195 rfl (lv_at hl 4 rfl) ?_
              refine lv_bipush (v := 8) hx hb dX12_layMatch_196 (by decide) ?_
              refine lv_ishl hx hb dX12_layMatch_198 ?_
              refine lv_topi (fun x_42997 ex_42997 => ?_)
              have k_42998 := ar_shl8 ex_42997 (by omega) (by omega)
              refine lv_iload hx hb dX12_layMatch_199 (lv_at hl 3 rfl) ?_
              refine lv_ior hx hb dX12_layMatch_201 ?_
              refine lv_topi (fun x_42999 ex_42999 => ?_)
              have k_43000 := ar_or8 rfl rfl ex_42999 (by omega) (by omega) (by omega)
              refine lv_iload hx hb dX12_layMatch_202 (lv_at hl 2 rfl) ?_
              refine va_iast hx hb hKN.1 hP hD hS 2 1 rfl rfl (vp_in_iff.mpr ⟨by omega, by omega⟩) dX12_layMatch_204 (fun H locs hP hD hS => ?_)
              have hP : va_P D vwCl [(h0, .inr (12, [.int m_thrown, .ref m_qworld, .ref m_qimages, .ref m_qhasImage, .ref m_qtape, .int m_taped, .ref m_qfive, .int m_size, .int m_at, .int m_from, .int m_token, .int m_value, .int m_faultKind, .int m_faultPlace, .ref m_qfresh, .int m_startOne, .int m_startOther, .int m_latest, .int m_leftBeats, .int m_signed, .int m_metMany, .ref m_qsums, .ref m_qpairs, .ref m_qgoesWith, .ref m_qsaid, .int m_saidMany, .int m_firstWait, .ref m_qfirstOrder, .int m_bundleFirst, .ref m_qtiredBy, .int m_tiredMany, .ref m_qmany, .ref m_qwidth, .ref m_qnumbers, .ref m_qmoving])), (m_qworld, .inl (cA 1, 122, .inl m_cworld)), (m_qsums, .inl (cA 1, 2304, .inl (upd F1_41523 x_42999.toNatClampNeg L5_42981))), (m_qpairs, .inl (cA 1, 2304, .inl F2_41523))] H := hP
              have hD : va_D A [(h0, .inr (12, [.int m_thrown, .ref m_qworld, .ref m_qimages, .ref m_qhasImage, .ref m_qtape, .int m_taped, .ref m_qfive, .int m_size, .int m_at, .int m_from, .int m_token, .int m_value, .int m_faultKind, .int m_faultPlace, .ref m_qfresh, .int m_startOne, .int m_startOther, .int m_latest, .int m_leftBeats, .int m_signed, .int m_metMany, .ref m_qsums, .ref m_qpairs, .ref m_qgoesWith, .ref m_qsaid, .int m_saidMany, .int m_firstWait, .ref m_qfirstOrder, .int m_bundleFirst, .ref m_qtiredBy, .int m_tiredMany, .ref m_qmany, .ref m_qwidth, .ref m_qnumbers, .ref m_qmoving])), (m_qworld, .inl (cA 1, 122, .inl m_cworld)), (m_qsums, .inl (cA 1, 2304, .inl (upd F1_41523 x_42999.toNatClampNeg L5_42981))), (m_qpairs, .inl (cA 1, 2304, .inl F2_41523))] := hD
              generalize ef_43001 : (upd F1_41523 x_42999.toNatClampNeg L5_42981) = f_43001 at hP hD
              refine lv_aload_n hx hb dX12_layMatch_205 rfl (lv_at hl 6 rfl) ?_
              refine va_get (D := D) (ci := 12) (v := .ref m_qpairs) (C := RX12) (T := TX12) (N := 35) hx hb hts inX12 hown hKN.1 hP 0 rfl rfl 22 (by decide) (hts _ tw_1441) (fun _ h9 => h9) rfl dX12_layMatch_206 ?_
              refine lv_iload_n hx hb dX12_layMatch_209 rfl (lv_at hl 4 rfl) ?_
              refine lv_bipush (v := 8) hx hb dX12_layMatch_210 (by decide) ?_
              refine lv_ishl hx hb dX12_layMatch_212 ?_
              refine lv_topi (fun x_43002 ex_43002 => ?_)
              obtain rfl : x_42997 = x_43002 := ex_42997.trans ex_43002.symm
              refine lv_iload hx hb dX12_layMatch_213 (lv_at hl 3 rfl) ?_
              refine lv_ior hx hb dX12_layMatch_215 ?_
              refine lv_topi (fun x_43003 ex_43003 => ?_)
              obtain rfl : x_42999 = x_43003 := ex_42999.trans ex_43003.symm
              refine lv_iload hx hb dX12_layMatch_216 (lv_at hl 1 rfl) ?_
              refine va_iast hx hb hKN.1 hP hD hS 3 1 rfl rfl (vp_in_iff.mpr ⟨by omega, by omega⟩) dX12_layMatch_218 (fun H locs hP hD hS => ?_)
              have hP : va_P D vwCl [(h0, .inr (12, [.int m_thrown, .ref m_qworld, .ref m_qimages, .ref m_qhasImage, .ref m_qtape, .int m_taped, .ref m_qfive, .int m_size, .int m_at, .int m_from, .int m_token, .int m_value, .int m_faultKind, .int m_faultPlace, .ref m_qfresh, .int m_startOne, .int m_startOther, .int m_latest, .int m_leftBeats, .int m_signed, .int m_metMany, .ref m_qsums, .ref m_qpairs, .ref m_qgoesWith, .ref m_qsaid, .int m_saidMany, .int m_firstWait, .ref m_qfirstOrder, .int m_bundleFirst, .ref m_qtiredBy, .int m_tiredMany, .ref m_qmany, .ref m_qwidth, .ref m_qnumbers, .ref m_qmoving])), (m_qworld, .inl (cA 1, 122, .inl m_cworld)), (m_qsums, .inl (cA 1, 2304, .inl f_43001)), (m_qpairs, .inl (cA 1, 2304, .inl (upd F2_41523 x_42999.toNatClampNeg L6_42981)))] H := hP
              have hD : va_D A [(h0, .inr (12, [.int m_thrown, .ref m_qworld, .ref m_qimages, .ref m_qhasImage, .ref m_qtape, .int m_taped, .ref m_qfive, .int m_size, .int m_at, .int m_from, .int m_token, .int m_value, .int m_faultKind, .int m_faultPlace, .ref m_qfresh, .int m_startOne, .int m_startOther, .int m_latest, .int m_leftBeats, .int m_signed, .int m_metMany, .ref m_qsums, .ref m_qpairs, .ref m_qgoesWith, .ref m_qsaid, .int m_saidMany, .int m_firstWait, .ref m_qfirstOrder, .int m_bundleFirst, .ref m_qtiredBy, .int m_tiredMany, .ref m_qmany, .ref m_qwidth, .ref m_qnumbers, .ref m_qmoving])), (m_qworld, .inl (cA 1, 122, .inl m_cworld)), (m_qsums, .inl (cA 1, 2304, .inl f_43001)), (m_qpairs, .inl (cA 1, 2304, .inl (upd F2_41523 x_42999.toNatClampNeg L6_42981)))] := hD
              generalize ef_43004 : (upd F2_41523 x_42999.toNatClampNeg L6_42981) = f_43004 at hP hD
              obtain ⟨x_43005, ex_43005⟩ : ∃ y : Int32, L4_41523 + Int32.ofInt 1 = y := ⟨_, rfl⟩
              have k_43006 := ar_add (b := 1) rfl zi_1 ex_43005.symm (by omega) (by omega)
              refine lv_iinc (v := x_43005) (lv' := [(4, .int x_43005), (7, .int L7_42981), (6, .int L6_42981), (5, .int L5_42981), (3, .int L3_32297), (2, .int (m_cworld 4)), (0, .ref h0), (1, .int p0)]) hx hb dX12_layMatch_219 hl (k := 3) rfl ex_43005 (by decide) rfl (fun ls hl => ?_)
              refine lv_goto (tgt := 16) hx hb dX12_layMatch_222 (by decide) ?_
              exact ih_41523 (x_43005, f_43001, f_43004) _ _ _ ⟨(show 0 ≤ x_43005.toInt ∧ x_43005.toInt ≤ 256 from by omega), hP.sub [0, 1, 2, 3] rfl, hD.sub [0, 1, 2, 3] (by decide) rfl, hS, lv_sub hl [0, 4, 5, 6, 7] rfl⟩ (by show (2147483647 - x_43005.toInt).toNat < (2147483647 - L4_41523.toInt).toNat; omega)
            · skip
              have k_43007 := kk_nle rfl rfl c_42995
              refine lv_aload_n hx hb dX12_layMatch_83 rfl (lv_at hl 6 rfl) ?_
              refine lv_iload_n hx hb dX12_layMatch_84 rfl (lv_at hl 4 rfl) ?_
              refine lv_iconst (v := 0) hx hb dX12_layMatch_85 (by decide) ?_
              have z_43008 := zi_0
              refine cpVi (rest := []) ⟨hx, hb, hml, hown, hts⟩ hKN (hP.sub (ws' := [(h0, .inr (12, [.int m_thrown, .ref m_qworld, .ref m_qimages, .ref m_qhasImage, .ref m_qtape, .int m_taped, .ref m_qfive, .int m_size, .int m_at, .int m_from, .int m_token, .int m_value, .int m_faultKind, .int m_faultPlace, .ref m_qfresh, .int m_startOne, .int m_startOther, .int m_latest, .int m_leftBeats, .int m_signed, .int m_metMany, .ref m_qsums, .ref m_qpairs, .ref m_qgoesWith, .ref m_qsaid, .int m_saidMany, .int m_firstWait, .ref m_qfirstOrder, .int m_bundleFirst, .ref m_qtiredBy, .int m_tiredMany, .ref m_qmany, .ref m_qwidth, .ref m_qnumbers, .ref m_qmoving])), (m_qworld, .inl (cA 1, 122, .inl m_cworld))]) [0, 1] rfl) (g_X12_of l D cA h0 m_thrown m_qworld m_qimages m_qhasImage m_qtape m_taped m_qfive m_size m_at m_from m_token m_value m_faultKind m_faultPlace m_qfresh m_startOne m_startOther m_latest m_leftBeats m_signed m_metMany m_qsums m_qpairs m_qgoesWith m_qsaid m_saidMany m_firstWait m_qfirstOrder m_bundleFirst m_qtiredBy m_tiredMany m_qmany m_qwidth m_qnumbers m_qmoving m_cworld L3_32297 0 (by omega) (by omega) (by omega) (by omega) (by omega) (by omega) (by omega) (by decide) a_m_cworld_0) (tb_V tw_1640 tw_1642 tw_50 tw_114 tw_1643) hdX12_of ⟨rfl, rfl, Nat.le_of_ble_eq_true rfl, Nat.le_of_ble_eq_true rfl⟩ ⟨Nat.le_of_ble_eq_true rfl, Nat.le_of_ble_eq_true rfl⟩ rfl rfl rfl hl.1 rfl (Nat.le_of_ble_eq_true rfl) dX12_layMatch_86 (fun r_43009 hr_43009 => ?_)
              obtain ⟨k_43009_0_0, k_43009_0_1⟩ := hr_43009
              refine lv_if_ne (tgt := 185) hx hb dX12_layMatch_89 (by decide) (fun c_43010 => ?_) (fun c_43010 => ?_)
              · skip
                have k_43011 := kk_ne rfl zi_0 c_43010
                obtain ⟨x_43012, ex_43012⟩ : ∃ y : Int32, L7_42981 + Int32.ofInt 1 = y := ⟨_, rfl⟩
                have k_43013 := ar_add (b := 1) rfl zi_1 ex_43012.symm (by omega) (by omega)
                refine lv_iinc (v := x_43012) (lv' := [(7, .int x_43012), (6, .int L6_42981), (5, .int L5_42981), (4, .int L4_41523), (3, .int L3_32297), (2, .int (m_cworld 4)), (0, .ref h0), (1, .int p0)]) hx hb dX12_layMatch_185 hl (k := 0) rfl ex_43012 (by decide) rfl (fun ls hl => ?_)
                refine lv_goto (tgt := 72) hx hb dX12_layMatch_188 (by decide) ?_
                exact ih_42981 (x_43012, L6_42981, L5_42981) _ _ _ ⟨(show 0 ≤ x_43012.toInt ∧ x_43012.toInt ≤ 8 from by omega), (show 0 ≤ L6_42981.toInt from by omega), (show 0 ≤ L5_42981.toInt from by omega), hP.sub [0, 1, 2, 3] rfl, hD.sub [0, 1, 2, 3] (by decide) rfl, hS, lv_sub hl [0, 1, 2, 3, 4, 5, 6, 7] rfl⟩ (by show (2147483647 - x_43012.toInt).toNat < (2147483647 - L7_42981.toInt).toNat; omega)
              · skip
                have k_43014 := kk_eq rfl zi_0 c_43010
                refine lv_aload_n hx hb dX12_layMatch_92 rfl (lv_at hl 6 rfl) ?_
                refine lv_iload hx hb dX12_layMatch_93 (lv_at hl 0 rfl) ?_
                refine lv_iconst (v := 0) hx hb dX12_layMatch_95 (by decide) ?_
                refine cpVi (rest := []) ⟨hx, hb, hml, hown, hts⟩ hKN (hP.sub (ws' := [(h0, .inr (12, [.int m_thrown, .ref m_qworld, .ref m_qimages, .ref m_qhasImage, .ref m_qtape, .int m_taped, .ref m_qfive, .int m_size, .int m_at, .int m_from, .int m_token, .int m_value, .int m_faultKind, .int m_faultPlace, .ref m_qfresh, .int m_startOne, .int m_startOther, .int m_latest, .int m_leftBeats, .int m_signed, .int m_metMany, .ref m_qsums, .ref m_qpairs, .ref m_qgoesWith, .ref m_qsaid, .int m_saidMany, .int m_firstWait, .ref m_qfirstOrder, .int m_bundleFirst, .ref m_qtiredBy, .int m_tiredMany, .ref m_qmany, .ref m_qwidth, .ref m_qnumbers, .ref m_qmoving])), (m_qworld, .inl (cA 1, 122, .inl m_cworld))]) [0, 1] rfl) (g_X12_of l D cA h0 m_thrown m_qworld m_qimages m_qhasImage m_qtape m_taped m_qfive m_size m_at m_from m_token m_value m_faultKind m_faultPlace m_qfresh m_startOne m_startOther m_latest m_leftBeats m_signed m_metMany m_qsums m_qpairs m_qgoesWith m_qsaid m_saidMany m_firstWait m_qfirstOrder m_bundleFirst m_qtiredBy m_tiredMany m_qmany m_qwidth m_qnumbers m_qmoving m_cworld L7_42981 0 (by omega) (by omega) (by omega) (by omega) (by omega) (by omega) (by omega) (by decide) a_m_cworld_0) (tb_V tw_1640 tw_1642 tw_50 tw_114 tw_1643) hdX12_of ⟨rfl, rfl, Nat.le_of_ble_eq_true rfl, Nat.le_of_ble_eq_true rfl⟩ ⟨Nat.le_of_ble_eq_true rfl, Nat.le_of_ble_eq_true rfl⟩ rfl rfl rfl hl.1 rfl (Nat.le_of_ble_eq_true rfl) dX12_layMatch_96 (fun r_43015 hr_43015 => ?_)
                obtain ⟨k_43015_0_0, k_43015_0_1⟩ := hr_43015
                refine lv_iconst (v := 1) hx hb dX12_layMatch_99 (by decide) ?_
                refine lv_icmp_ne (tgt := 185) hx hb dX12_layMatch_100 (by decide) (fun c_43016 => ?_) (fun c_43016 => ?_)
                · skip
                  have k_43017 := kk_ne rfl zi_1 c_43016
                  obtain ⟨x_43018, ex_43018⟩ : ∃ y : Int32, L7_42981 + Int32.ofInt 1 = y := ⟨_, rfl⟩
                  have k_43019 := ar_add (b := 1) rfl zi_1 ex_43018.symm (by omega) (by omega)
                  refine lv_iinc (v := x_43018) (lv' := [(7, .int x_43018), (6, .int L6_42981), (5, .int L5_42981), (4, .int L4_41523), (3, .int L3_32297), (2, .int (m_cworld 4)), (0, .ref h0), (1, .int p0)]) hx hb dX12_layMatch_185 hl (k := 0) rfl ex_43018 (by decide) rfl (fun ls hl => ?_)
                  refine lv_goto (tgt := 72) hx hb dX12_layMatch_188 (by decide) ?_
                  exact ih_42981 (x_43018, L6_42981, L5_42981) _ _ _ ⟨(show 0 ≤ x_43018.toInt ∧ x_43018.toInt ≤ 8 from by omega), (show 0 ≤ L6_42981.toInt from by omega), (show 0 ≤ L5_42981.toInt from by omega), hP.sub [0, 1, 2, 3] rfl, hD.sub [0, 1, 2, 3] (by decide) rfl, hS, lv_sub hl [0, 1, 2, 3, 4, 5, 6, 7] rfl⟩ (by show (2147483647 - x_43018.toInt).toNat < (2147483647 - L7_42981.toInt).toNat; omega)
                · skip
                  have k_43020 := kk_eq rfl zi_1 c_43016
                  refine lv_iload hx hb dX12_layMatch_103 (lv_at hl 3 rfl) ?_
                  refine lv_iload hx hb dX12_layMatch_105 (lv_at hl 0 rfl) ?_
                  refine cpSi (rest := []) ⟨hx, hb, hml, hown, hts⟩ hKN (hP.sub (ws' := []) [] rfl) (g_X12_bit l D cA L4_41523 L7_42981) (tb_S tw_1807 tw_1808 tw_114 tw_1809) hdX12_bit ⟨rfl, rfl, Nat.le_of_ble_eq_true rfl, Nat.le_of_ble_eq_true rfl⟩ ⟨Nat.le_of_ble_eq_true rfl, Nat.le_of_ble_eq_true rfl⟩ rfl hl.1 rfl (Nat.le_of_ble_eq_true rfl) dX12_layMatch_107 (fun r_43021 hr_43021 => ?_)
                  refine lv_iconst (v := 1) hx hb dX12_layMatch_110 (by decide) ?_
                  refine lv_icmp_ne (tgt := 117) hx hb dX12_layMatch_111 (by decide) (fun c_43022 => ?_) (fun c_43022 => ?_)
                  · skip
                    have k_43023 := kk_ne rfl zi_1 c_43022
                    refine lv_iload hx hb dX12_layMatch_117 (lv_at hl 2 rfl) ?_
                    refine lv_aload_n hx hb dX12_layMatch_119 rfl (lv_at hl 6 rfl) ?_
                    refine lv_iload_n hx hb dX12_layMatch_120 rfl (lv_at hl 4 rfl) ?_
                    refine lv_iload hx hb dX12_layMatch_121 (lv_at hl 0 rfl) ?_
                    refine cpVi (rest := [.int L5_42981]) ⟨hx, hb, hml, hown, hts⟩ hKN (hP.sub (ws' := [(h0, .inr (12, [.int m_thrown, .ref m_qworld, .ref m_qimages, .ref m_qhasImage, .ref m_qtape, .int m_taped, .ref m_qfive, .int m_size, .int m_at, .int m_from, .int m_token, .int m_value, .int m_faultKind, .int m_faultPlace, .ref m_qfresh, .int m_startOne, .int m_startOther, .int m_latest, .int m_leftBeats, .int m_signed, .int m_metMany, .ref m_qsums, .ref m_qpairs, .ref m_qgoesWith, .ref m_qsaid, .int m_saidMany, .int m_firstWait, .ref m_qfirstOrder, .int m_bundleFirst, .ref m_qtiredBy, .int m_tiredMany, .ref m_qmany, .ref m_qwidth, .ref m_qnumbers, .ref m_qmoving])), (m_qworld, .inl (cA 1, 122, .inl m_cworld))]) [0, 1] rfl) (g_X12_holdOf l D cA h0 m_thrown m_qworld m_qimages m_qhasImage m_qtape m_taped m_qfive m_size m_at m_from m_token m_value m_faultKind m_faultPlace m_qfresh m_startOne m_startOther m_latest m_leftBeats m_signed m_metMany m_qsums m_qpairs m_qgoesWith m_qsaid m_saidMany m_firstWait m_qfirstOrder m_bundleFirst m_qtiredBy m_tiredMany m_qmany m_qwidth m_qnumbers m_qmoving m_cworld L3_32297 L7_42981 (by omega) (by omega) (by omega) (by omega) (by omega) (by omega) (by omega) (by omega) a_m_cworld_0) (tb_V tw_1700 tw_1702 tw_63 tw_114 tw_1703) hdX12_holdOf ⟨rfl, rfl, Nat.le_of_ble_eq_true rfl, Nat.le_of_ble_eq_true rfl⟩ ⟨Nat.le_of_ble_eq_true rfl, Nat.le_of_ble_eq_true rfl⟩ rfl rfl rfl hl.1 rfl (Nat.le_of_ble_eq_true rfl) dX12_layMatch_123 (fun r_43024 hr_43024 => ?_)
                    refine lv_aload_n hx hb dX12_layMatch_126 rfl (lv_at hl 6 rfl) ?_
                    refine lv_iload_n hx hb dX12_layMatch_127 rfl (lv_at hl 4 rfl) ?_
                    refine lv_iconst (v := 1) hx hb dX12_layMatch_128 (by decide) ?_
                    refine lv_iadd hx hb dX12_layMatch_129 ?_
                    refine lv_topi (fun x_43025 ex_43025 => ?_)
                    have k_43026 := ar_add rfl zi_1 ex_43025 (by omega) (by omega)
                    refine lv_iload hx hb dX12_layMatch_130 (lv_at hl 3 rfl) ?_
                    refine lv_iconst (v := 1) hx hb dX12_layMatch_132 (by decide) ?_
                    refine lv_iload hx hb dX12_layMatch_133 (lv_at hl 0 rfl) ?_
                    refine lv_ishl hx hb dX12_layMatch_135 ?_
                    refine lv_topi (fun x_43027 ex_43027 => ?_)
                    have k_43028 := ar_shl1 ex_43027 (by omega) (by omega)
                    refine lv_ior hx hb dX12_layMatch_136 ?_
                    refine lv_topi (fun x_43029 ex_43029 => ?_)
                    have k_43030 := ar_or (n := 8) (M := 256) rfl rfl ex_43029 (by decide) (by decide) (by omega) (by omega)
                    refine cpVi (rest := [.int r_43024, .int L5_42981]) ⟨hx, hb, hml, hown, hts⟩ hKN (hP.sub (ws' := [(h0, .inr (12, [.int m_thrown, .ref m_qworld, .ref m_qimages, .ref m_qhasImage, .ref m_qtape, .int m_taped, .ref m_qfive, .int m_size, .int m_at, .int m_from, .int m_token, .int m_value, .int m_faultKind, .int m_faultPlace, .ref m_qfresh, .int m_startOne, .int m_startOther, .int m_latest, .int m_leftBeats, .int m_signed, .int m_metMany, .ref m_qsums, .ref m_qpairs, .ref m_qgoesWith, .ref m_qsaid, .int m_saidMany, .int m_firstWait, .ref m_qfirstOrder, .int m_bundleFirst, .ref m_qtiredBy, .int m_tiredMany, .ref m_qmany, .ref m_qwidth, .ref m_qnumbers, .ref m_qmoving])), (m_qsums, .inl (cA 1, 2304, .inl F1_41523))]) [0, 2] rfl) (g_X12_sumFrom l D cA h0 m_thrown m_qworld m_qimages m_qhasImage m_qtape m_taped m_qfive m_size m_at m_from m_token m_value m_faultKind m_faultPlace m_qfresh m_startOne m_startOther m_latest m_leftBeats m_signed m_metMany m_qsums m_qpairs m_qgoesWith m_qsaid m_saidMany m_firstWait m_qfirstOrder m_bundleFirst m_qtiredBy m_tiredMany m_qmany m_qwidth m_qnumbers m_qmoving F1_41523 x_43025 x_43029 (by omega) (by omega) (by omega) (by omega) (by omega) (by omega) (by omega) (by omega)) (tb_V tw_1803 tw_1805 tw_71 tw_114 tw_1806) hdX12_sumFrom ⟨rfl, rfl, Nat.le_of_ble_eq_true rfl, Nat.le_of_ble_eq_true rfl⟩ ⟨Nat.le_of_ble_eq_true rfl, Nat.le_of_ble_eq_true rfl⟩ rfl rfl rfl hl.1 rfl (Nat.le_of_ble_eq_true rfl) dX12_layMatch_137 (fun r_43031 hr_43031 => ?_)
                    refine lv_iadd hx hb dX12_layMatch_140 ?_
                    refine lv_topi (fun x_43032 ex_43032 => ?_)
                    refine cpSi (rest := []) ⟨hx, hb, hml, hown, hts⟩ hKN (hP.sub (ws' := []) [] rfl) (g_J9_max_7cf53 l D cA L5_42981 x_43032) (tb_S tw_1735 tw_779 tw_115 tw_780) hdJ9_max_7cf53 ⟨rfl, rfl, Nat.le_of_ble_eq_true rfl, Nat.le_of_ble_eq_true rfl⟩ ⟨Nat.le_of_ble_eq_true rfl, Nat.le_of_ble_eq_true rfl⟩ rfl hl.1 rfl (Nat.le_of_ble_eq_true rfl) dX12_layMatch_141 (fun r_43034 hr_43034 => ?_)
                    obtain ⟨k_43034_0_0, k_43034_0_1, k_43034_0_2⟩ := hr_43034
                    refine lv_istore (lv' := [(5, .int r_43034), (7, .int L7_42981), (6, .int L6_42981), (4, .int L4_41523), (3, .int L3_32297), (2, .int (m_cworld 4)), (0, .ref h0), (1, .int p0)]) hx hb dX12_layMatch_144 hl (by decide) rfl (fun ls hl => ?_)
                    refine lv_aload_n hx hb dX12_layMatch_146 rfl (lv_at hl 6 rfl) ?_
                    refine lv_iload_n hx hb dX12_layMatch_147 rfl (lv_at hl 4 rfl) ?_
                    refine lv_iload hx hb dX12_layMatch_148 (lv_at hl 1 rfl) ?_
                    refine cpVi (rest := []) ⟨hx, hb, hml, hown, hts⟩ hKN (hP.sub (ws' := [(h0, .inr (12, [.int m_thrown, .ref m_qworld, .ref m_qimages, .ref m_qhasImage, .ref m_qtape, .int m_taped, .ref m_qfive, .int m_size, .int m_at, .int m_from, .int m_token, .int m_value, .int m_faultKind, .int m_faultPlace, .ref m_qfresh, .int m_startOne, .int m_startOther, .int m_latest, .int m_leftBeats, .int m_signed, .int m_metMany, .ref m_qsums, .ref m_qpairs, .ref m_qgoesWith, .ref m_qsaid, .int m_saidMany, .int m_firstWait, .ref m_qfirstOrder, .int m_bundleFirst, .ref m_qtiredBy, .int m_tiredMany, .ref m_qmany, .ref m_qwidth, .ref m_qnumbers, .ref m_qmoving])), (m_qworld, .inl (cA 1, 122, .inl m_cworld))]) [0, 1] rfl) (g_X12_holdOf l D cA h0 m_thrown m_qworld m_qimages m_qhasImage m_qtape m_taped m_qfive m_size m_at m_from m_token m_value m_faultKind m_faultPlace m_qfresh m_startOne m_startOther m_latest m_leftBeats m_signed m_metMany m_qsums m_qpairs m_qgoesWith m_qsaid m_saidMany m_firstWait m_qfirstOrder m_bundleFirst m_qtiredBy m_tiredMany m_qmany m_qwidth m_qnumbers m_qmoving m_cworld L3_32297 L7_42981 (by omega) (by omega) (by omega) (by omega) (by omega) (by omega) (by omega) (by omega) a_m_cworld_0) (tb_V tw_1700 tw_1702 tw_63 tw_114 tw_1703) hdX12_holdOf ⟨rfl, rfl, Nat.le_of_ble_eq_true rfl, Nat.le_of_ble_eq_true rfl⟩ ⟨Nat.le_of_ble_eq_true rfl, Nat.le_of_ble_eq_true rfl⟩ rfl rfl rfl hl.1 rfl (Nat.le_of_ble_eq_true rfl) dX12_layMatch_150 (fun r_43035 hr_43035 => ?_)
                    refine lv_iload_n hx hb dX12_layMatch_153 rfl (lv_at hl 7 rfl) ?_
                    refine lv_icmp_lt (tgt := 185) hx hb dX12_layMatch_154 (by decide) (fun c_43036 => ?_) (fun c_43036 => ?_)
                    · skip
                      have b_43038 := i32_bd r_43035
                      have b_43039 := i32_bd p0
                      have k_43037 := kk_lt rfl rfl c_43036
                      obtain ⟨x_43040, ex_43040⟩ : ∃ y : Int32, L7_42981 + Int32.ofInt 1 = y := ⟨_, rfl⟩
                      have k_43041 := ar_add (b := 1) rfl zi_1 ex_43040.symm (by omega) (by omega)
                      refine lv_iinc (v := x_43040) (lv' := [(7, .int x_43040), (5, .int r_43034), (6, .int L6_42981), (4, .int L4_41523), (3, .int L3_32297), (2, .int (m_cworld 4)), (0, .ref h0), (1, .int p0)]) hx hb dX12_layMatch_185 hl (k := 1) rfl ex_43040 (by decide) rfl (fun ls hl => ?_)
                      refine lv_goto (tgt := 72) hx hb dX12_layMatch_188 (by decide) ?_
                      exact ih_42981 (x_43040, L6_42981, r_43034) _ _ _ ⟨(show 0 ≤ x_43040.toInt ∧ x_43040.toInt ≤ 8 from by omega), (show 0 ≤ L6_42981.toInt from by omega), (show 0 ≤ r_43034.toInt from by omega), hP.sub [0, 1, 2, 3] rfl, hD.sub [0, 1, 2, 3] (by decide) rfl, hS, lv_sub hl [0, 2, 1, 3, 4, 5, 6, 7] rfl⟩ (by show (2147483647 - x_43040.toInt).toNat < (2147483647 - L7_42981.toInt).toNat; omega)
                    · skip
                      have b_43043 := i32_bd r_43035
                      have b_43044 := i32_bd p0
                      have k_43042 := kk_nlt rfl rfl c_43036
                      refine lv_iload hx hb dX12_layMatch_157 (lv_at hl 2 rfl) ?_
                      refine lv_iconst (v := 1) hx hb dX12_layMatch_159 (by decide) ?_
                      refine lv_aload_n hx hb dX12_layMatch_160 rfl (lv_at hl 6 rfl) ?_
                      refine va_get (D := D) (ci := 12) (v := .ref m_qpairs) (C := RX12) (T := TX12) (N := 35) hx hb hts inX12 hown hKN.1 hP 0 rfl rfl 22 (by decide) (hts _ tw_1441) (fun _ h9 => h9) rfl dX12_layMatch_161 ?_
                      refine lv_iload_n hx hb dX12_layMatch_164 rfl (lv_at hl 4 rfl) ?_
                      refine lv_iconst (v := 1) hx hb dX12_layMatch_165 (by decide) ?_
                      refine lv_iadd hx hb dX12_layMatch_166 ?_
                      refine lv_topi (fun x_43045 ex_43045 => ?_)
                      obtain rfl : x_43025 = x_43045 := ex_43025.trans ex_43045.symm
                      refine lv_bipush (v := 8) hx hb dX12_layMatch_167 (by decide) ?_
                      refine lv_ishl hx hb dX12_layMatch_169 ?_
                      refine lv_topi (fun x_43046 ex_43046 => ?_)
                      have k_43047 := ar_shl8 ex_43046 (by omega) (by omega)
                      refine lv_iload hx hb dX12_layMatch_170 (lv_at hl 3 rfl) ?_
                      refine lv_ior hx hb dX12_layMatch_172 ?_
                      refine lv_topi (fun x_43048 ex_43048 => ?_)
                      have k_43049 := ar_or8 rfl rfl ex_43048 (by omega) (by omega) (by omega)
                      refine lv_iconst (v := 1) hx hb dX12_layMatch_173 (by decide) ?_
                      refine lv_iload hx hb dX12_layMatch_174 (lv_at hl 1 rfl) ?_
                      refine lv_ishl hx hb dX12_layMatch_176 ?_
                      refine lv_topi (fun x_43050 ex_43050 => ?_)
                      obtain rfl : x_43027 = x_43050 := ex_43027.trans ex_43050.symm
                      refine lv_ior hx hb dX12_layMatch_177 ?_
                      refine lv_topi (fun x_43051 ex_43051 => ?_)
                      have k_43052 := ar_orb rfl rfl ex_43051 (by omega) (by omega)
                      refine va_iald hx hb hKN.1 hP 3 1 rfl rfl (vp_in_iff.mpr ⟨by omega, by omega⟩) dX12_layMatch_178 ?_
                      refine lv_topi (fun x_43053 ex_43053 => ?_)
                      refine lv_iadd hx hb dX12_layMatch_179 ?_
                      refine lv_topi (fun x_43054 ex_43054 => ?_)
                      refine cpSi (rest := []) ⟨hx, hb, hml, hown, hts⟩ hKN (hP.sub (ws' := []) [] rfl) (g_J9_max_7cf53 l D cA L6_42981 x_43054) (tb_S tw_1735 tw_779 tw_115 tw_780) hdJ9_max_7cf53 ⟨rfl, rfl, Nat.le_of_ble_eq_true rfl, Nat.le_of_ble_eq_true rfl⟩ ⟨Nat.le_of_ble_eq_true rfl, Nat.le_of_ble_eq_true rfl⟩ rfl hl.1 rfl (Nat.le_of_ble_eq_true rfl) dX12_layMatch_180 (fun r_43056 hr_43056 => ?_)
                      obtain ⟨k_43056_0_0, k_43056_0_1, k_43056_0_2⟩ := hr_43056
                      refine lv_istore (lv' := [(6, .int r_43056), (5, .int r_43034), (7, .int L7_42981), (4, .int L4_41523), (3, .int L3_32297), (2, .int (m_cworld 4)), (0, .ref h0), (1, .int p0)]) hx hb dX12_layMatch_183 hl (by decide) rfl (fun ls hl => ?_)
                      obtain ⟨x_43057, ex_43057⟩ : ∃ y : Int32, L7_42981 + Int32.ofInt 1 = y := ⟨_, rfl⟩
                      have k_43058 := ar_add (b := 1) rfl zi_1 ex_43057.symm (by omega) (by omega)
                      refine lv_iinc (v := x_43057) (lv' := [(7, .int x_43057), (6, .int r_43056), (5, .int r_43034), (4, .int L4_41523), (3, .int L3_32297), (2, .int (m_cworld 4)), (0, .ref h0), (1, .int p0)]) hx hb dX12_layMatch_185 hl (k := 2) rfl ex_43057 (by decide) rfl (fun ls hl => ?_)
                      refine lv_goto (tgt := 72) hx hb dX12_layMatch_188 (by decide) ?_
                      exact ih_42981 (x_43057, r_43056, r_43034) _ _ _ ⟨(show 0 ≤ x_43057.toInt ∧ x_43057.toInt ≤ 8 from by omega), (show 0 ≤ r_43056.toInt from by omega), (show 0 ≤ r_43034.toInt from by omega), hP.sub [0, 1, 2, 3] rfl, hD.sub [0, 1, 2, 3] (by decide) rfl, hS, lv_sub hl [0, 1, 2, 3, 4, 5, 6, 7] rfl⟩ (by show (2147483647 - x_43057.toInt).toNat < (2147483647 - L7_42981.toInt).toNat; omega)
                  · skip
                    have k_43059 := kk_eq rfl zi_1 c_43022
                    refine lv_goto (tgt := 185) hx hb dX12_layMatch_114 (by decide) ?_
                    obtain ⟨x_43060, ex_43060⟩ : ∃ y : Int32, L7_42981 + Int32.ofInt 1 = y := ⟨_, rfl⟩
                    have k_43061 := ar_add (b := 1) rfl zi_1 ex_43060.symm (by omega) (by omega)
                    refine lv_iinc (v := x_43060) (lv' := [(7, .int x_43060), (6, .int L6_42981), (5, .int L5_42981), (4, .int L4_41523), (3, .int L3_32297), (2, .int (m_cworld 4)), (0, .ref h0), (1, .int p0)]) hx hb dX12_layMatch_185 hl (k := 0) rfl ex_43060 (by decide) rfl (fun ls hl => ?_)
                    refine lv_goto (tgt := 72) hx hb dX12_layMatch_188 (by decide) ?_
                    exact ih_42981 (x_43060, L6_42981, L5_42981) _ _ _ ⟨(show 0 ≤ x_43060.toInt ∧ x_43060.toInt ≤ 8 from by omega), (show 0 ≤ L6_42981.toInt from by omega), (show 0 ≤ L5_42981.toInt from by omega), hP.sub [0, 1, 2, 3] rfl, hD.sub [0, 1, 2, 3] (by decide) rfl, hS, lv_sub hl [0, 1, 2, 3, 4, 5, 6, 7] rfl⟩ (by show (2147483647 - x_43060.toInt).toNat < (2147483647 - L7_42981.toInt).toNat; omega)
set_option maxHeartbeats 8000000 in
set_option maxRecDepth 100000 in
theorem g_X12_match (l : Launch) (D : va_G) (cA : Nat → ClassId) (sz : Nat) (h0 : Nat) (m_thrown : Int32) (m_qworld : Nat) (m_qimages : Nat) (m_qhasImage : Nat) (m_qtape : Nat) (m_taped : Int32) (m_qfive : Nat) (m_size : Int32) (m_at : Int32) (m_from : Int32) (m_token : Int32) (m_value : Int32) (m_faultKind : Int32) (m_faultPlace : Int32) (m_qfresh : Nat) (m_startOne : Int32) (m_startOther : Int32) (m_latest : Int32) (m_leftBeats : Int32) (m_signed : Int32) (m_metMany : Int32) (m_qsums : Nat) (m_qpairs : Nat) (m_qgoesWith : Nat) (m_qsaid : Nat) (m_saidMany : Int32) (m_firstWait : Int32) (m_qfirstOrder : Nat) (m_bundleFirst : Int32) (m_qtiredBy : Nat) (m_tiredMany : Int32) (m_qmany : Nat) (m_qwidth : Nat) (m_qnumbers : Nat) (m_qmoving : Nat) (m_cworld : Nat → Int32) (m_csums : Nat → Int32) (m_cpairs : Nat → Int32) (h_m_taped : 0 ≤ (m_taped : Int32).toInt ∧ (m_taped : Int32).toInt ≤ 800) (h_m_size : 0 ≤ (m_size : Int32).toInt ∧ (m_size : Int32).toInt ≤ 800) (h_m_at : 0 ≤ (m_at : Int32).toInt ∧ (m_at : Int32).toInt ≤ 800) (h_m_from : 0 ≤ (m_from : Int32).toInt ∧ (m_from : Int32).toInt ≤ 800) (h_m_saidMany : 0 ≤ (m_saidMany : Int32).toInt ∧ (m_saidMany : Int32).toInt ≤ 60) (h_m_tiredMany : 0 ≤ (m_tiredMany : Int32).toInt ∧ (m_tiredMany : Int32).toInt ≤ 240) (a_m_cworld_0 : WI m_cworld) : Met l yX12_match (Cond.code yX12_match cX12_match 1 (some .int) :: TB) (rmd 5 0 0) (PM D cA sz [(h0, .inr (12, [.int m_thrown, .ref m_qworld, .ref m_qimages, .ref m_qhasImage, .ref m_qtape, .int m_taped, .ref m_qfive, .int m_size, .int m_at, .int m_from, .int m_token, .int m_value, .int m_faultKind, .int m_faultPlace, .ref m_qfresh, .int m_startOne, .int m_startOther, .int m_latest, .int m_leftBeats, .int m_signed, .int m_metMany, .ref m_qsums, .ref m_qpairs, .ref m_qgoesWith, .ref m_qsaid, .int m_saidMany, .int m_firstWait, .ref m_qfirstOrder, .int m_bundleFirst, .ref m_qtiredBy, .int m_tiredMany, .ref m_qmany, .ref m_qwidth, .ref m_qnumbers, .ref m_qmoving])), (m_qworld, .inl (cA 1, 122, .inl m_cworld)), (m_qsums, .inl (cA 1, 2304, .inl m_csums)), (m_qpairs, .inl (cA 1, 2304, .inl m_cpairs))] [.ref h0]) (va_Qi (fun r (u : SU) => True) (fun u t => va_P D vwCl [(h0, .inr (12, [.int m_thrown, .ref m_qworld, .ref m_qimages, .ref m_qhasImage, .ref m_qtape, .int m_taped, .ref m_qfive, .int m_size, .int m_at, .int m_from, .int m_token, .int m_value, .int m_faultKind, .int m_faultPlace, .ref m_qfresh, .int m_startOne, .int m_startOther, .int m_latest, .int m_leftBeats, .int m_signed, .int m_metMany, .ref m_qsums, .ref m_qpairs, .ref m_qgoesWith, .ref m_qsaid, .int m_saidMany, .int m_firstWait, .ref m_qfirstOrder, .int m_bundleFirst, .ref m_qtiredBy, .int m_tiredMany, .ref m_qmany, .ref m_qwidth, .ref m_qnumbers, .ref m_qmoving])), (m_qworld, .inl (cA 1, 122, .inl m_cworld)), (m_qsums, .inl (cA 1, 2304, .inl (u.2.2.1 0))), (m_qpairs, .inl (cA 1, 2304, .inl (u.2.2.1 1)))] t.heap ∧ va_D (va_A [(h0, .inr (12, [.int m_thrown, .ref m_qworld, .ref m_qimages, .ref m_qhasImage, .ref m_qtape, .int m_taped, .ref m_qfive, .int m_size, .int m_at, .int m_from, .int m_token, .int m_value, .int m_faultKind, .int m_faultPlace, .ref m_qfresh, .int m_startOne, .int m_startOther, .int m_latest, .int m_leftBeats, .int m_signed, .int m_metMany, .ref m_qsums, .ref m_qpairs, .ref m_qgoesWith, .ref m_qsaid, .int m_saidMany, .int m_firstWait, .ref m_qfirstOrder, .int m_bundleFirst, .ref m_qtiredBy, .int m_tiredMany, .ref m_qmany, .ref m_qwidth, .ref m_qnumbers, .ref m_qmoving])), (m_qworld, .inl (cA 1, 122, .inl m_cworld)), (m_qsums, .inl (cA 1, 2304, .inl m_csums)), (m_qpairs, .inl (cA 1, 2304, .inl m_cpairs))] sz) [(h0, .inr (12, [.int m_thrown, .ref m_qworld, .ref m_qimages, .ref m_qhasImage, .ref m_qtape, .int m_taped, .ref m_qfive, .int m_size, .int m_at, .int m_from, .int m_token, .int m_value, .int m_faultKind, .int m_faultPlace, .ref m_qfresh, .int m_startOne, .int m_startOther, .int m_latest, .int m_leftBeats, .int m_signed, .int m_metMany, .ref m_qsums, .ref m_qpairs, .ref m_qgoesWith, .ref m_qsaid, .int m_saidMany, .int m_firstWait, .ref m_qfirstOrder, .int m_bundleFirst, .ref m_qtiredBy, .int m_tiredMany, .ref m_qmany, .ref m_qwidth, .ref m_qnumbers, .ref m_qmoving])), (m_qworld, .inl (cA 1, 122, .inl m_cworld)), (m_qsums, .inl (cA 1, 2304, .inl (u.2.2.1 0))), (m_qpairs, .inl (cA 1, 2304, .inl (u.2.2.1 1)))]) (va_A [(h0, .inr (12, [.int m_thrown, .ref m_qworld, .ref m_qimages, .ref m_qhasImage, .ref m_qtape, .int m_taped, .ref m_qfive, .int m_size, .int m_at, .int m_from, .int m_token, .int m_value, .int m_faultKind, .int m_faultPlace, .ref m_qfresh, .int m_startOne, .int m_startOther, .int m_latest, .int m_leftBeats, .int m_signed, .int m_metMany, .ref m_qsums, .ref m_qpairs, .ref m_qgoesWith, .ref m_qsaid, .int m_saidMany, .int m_firstWait, .ref m_qfirstOrder, .int m_bundleFirst, .ref m_qtiredBy, .int m_tiredMany, .ref m_qmany, .ref m_qwidth, .ref m_qnumbers, .ref m_qmoving])), (m_qworld, .inl (cA 1, 122, .inl m_cworld)), (m_qsums, .inl (cA 1, 2304, .inl m_csums)), (m_qpairs, .inl (cA 1, 2304, .inl m_cpairs))] sz)) 0 0 (va_A [(h0, .inr (12, [.int m_thrown, .ref m_qworld, .ref m_qimages, .ref m_qhasImage, .ref m_qtape, .int m_taped, .ref m_qfive, .int m_size, .int m_at, .int m_from, .int m_token, .int m_value, .int m_faultKind, .int m_faultPlace, .ref m_qfresh, .int m_startOne, .int m_startOther, .int m_latest, .int m_leftBeats, .int m_signed, .int m_metMany, .ref m_qsums, .ref m_qpairs, .ref m_qgoesWith, .ref m_qsaid, .int m_saidMany, .int m_firstWait, .ref m_qfirstOrder, .int m_bundleFirst, .ref m_qtiredBy, .int m_tiredMany, .ref m_qmany, .ref m_qwidth, .ref m_qnumbers, .ref m_qmoving])), (m_qworld, .inl (cA 1, 122, .inl m_cworld)), (m_qsums, .inl (cA 1, 2304, .inl m_csums)), (m_qpairs, .inl (cA 1, 2304, .inl m_cpairs))] sz) := by
  refine Met.ofW (cc := cX12_match) (maxL := 1) (ret := (some .int)) (by decide) rfl ?_
  intro p e s m args below meth c s₁ B hml hv
  obtain ⟨rfl, hsz, hP, hKN, hD0⟩ := hv
  have hx := B.exec
  have hb := B.bytes
  have hr := B.returns
  have hts : ∀ w ∈ TB, w.before _ s = true := fun w h => atoms_spec B.pre w (List.mem_cons_of_mem _ h)
  have hown : s.vm.findClass RX12 = some m.cls := findClass_of_methodNamed B.named
  have hlocks := B.notSynchronized
  subst hsz
  have hD := hD0.self (sz := s.heap.size)
  generalize hAe : va_A [(h0, .inr (12, [.int m_thrown, .ref m_qworld, .ref m_qimages, .ref m_qhasImage, .ref m_qtape, .int m_taped, .ref m_qfive, .int m_size, .int m_at, .int m_from, .int m_token, .int m_value, .int m_faultKind, .int m_faultPlace, .ref m_qfresh, .int m_startOne, .int m_startOther, .int m_latest, .int m_leftBeats, .int m_signed, .int m_metMany, .ref m_qsums, .ref m_qpairs, .ref m_qgoesWith, .ref m_qsaid, .int m_saidMany, .int m_firstWait, .ref m_qfirstOrder, .int m_bundleFirst, .ref m_qtiredBy, .int m_tiredMany, .ref m_qmany, .ref m_qwidth, .ref m_qnumbers, .ref m_qmoving])), (m_qworld, .inl (cA 1, 122, .inl m_cworld)), (m_qsums, .inl (cA 1, 2304, .inl m_csums)), (m_qpairs, .inl (cA 1, 2304, .inl m_cpairs))] s.heap.size = A at hD ⊢
  have hA : ∀ q : Nat, s.heap.size ≤ q → A q := fun q h => by rw [← hAe]; exact Or.inr h
  have hS : va_S A s.heap s.heap [] := va_S.rf
  have hl := lv_entry ([.ref h0]) (n := 1) (Nat.le_of_ble_eq_true rfl)
  rw [lg_entry_eq]
  generalize (lg_sl ([.ref h0]) ++ List.replicate (1 - (lg_sl ([.ref h0])).length) Slot.unset).toArray = ls at hl ⊢
  have hl : lv_has ls 1 [(0, .ref h0)] := hl
  refine lv_aload_n hx hb dX12_match_0 rfl (lv_at hl 0 rfl) ?_
  refine cpVi (rest := []) ⟨hx, hb, hml, hown, hts⟩ hKN (hP.sub (ws' := [(h0, .inr (12, [.int m_thrown, .ref m_qworld, .ref m_qimages, .ref m_qhasImage, .ref m_qtape, .int m_taped, .ref m_qfive, .int m_size, .int m_at, .int m_from, .int m_token, .int m_value, .int m_faultKind, .int m_faultPlace, .ref m_qfresh, .int m_startOne, .int m_startOther, .int m_latest, .int m_leftBeats, .int m_signed, .int m_metMany, .ref m_qsums, .ref m_qpairs, .ref m_qgoesWith, .ref m_qsaid, .int m_saidMany, .int m_firstWait, .ref m_qfirstOrder, .int m_bundleFirst, .ref m_qtiredBy, .int m_tiredMany, .ref m_qmany, .ref m_qwidth, .ref m_qnumbers, .ref m_qmoving])), (m_qworld, .inl (cA 1, 122, .inl m_cworld))]) [0, 1] rfl) (g_X12_isGorge l D cA h0 m_thrown m_qworld m_qimages m_qhasImage m_qtape m_taped m_qfive m_size m_at m_from m_token m_value m_faultKind m_faultPlace m_qfresh m_startOne m_startOther m_latest m_leftBeats m_signed m_metMany m_qsums m_qpairs m_qgoesWith m_qsaid m_saidMany m_firstWait m_qfirstOrder m_bundleFirst m_qtiredBy m_tiredMany m_qmany m_qwidth m_qnumbers m_qmoving m_cworld (by omega) (by omega) (by omega) (by omega) (by omega) (by omega) a_m_cworld_0) (tb_V tw_1664 tw_1666 tw_54 tw_114 tw_1667) hdX12_isGorge ⟨rfl, rfl, Nat.le_of_ble_eq_true rfl, Nat.le_of_ble_eq_true rfl⟩ ⟨Nat.le_of_ble_eq_true rfl, Nat.le_of_ble_eq_true rfl⟩ rfl rfl rfl hl.1 rfl (Nat.le_of_ble_eq_true rfl) dX12_match_1 (fun r_1 hr_1 => ?_)
  rcases hr_1 with ⟨k_1_0_0, k_1_0_1, k_1_0_2, k_1_0_3, rfl⟩ | rfl
  · skip
    refine lv_if_ne (tgt := 10) hx hb dX12_match_4 (by decide) (fun c_2 => ?_) (fun c_2 => absurd c_2 (by decide))
    refine lv_aload_n hx hb dX12_match_10 rfl (lv_at hl 0 rfl) ?_
    refine lv_iconst (v := 0) hx hb dX12_match_11 (by decide) ?_
    have z_3 := zi_0
    refine cmVv (rest := []) (wsC := [(h0, .inr (12, [.int m_thrown, .ref m_qworld, .ref m_qimages, .ref m_qhasImage, .ref m_qtape, .int m_taped, .ref m_qfive, .int m_size, .int m_at, .int m_from, .int m_token, .int m_value, .int m_faultKind, .int m_faultPlace, .ref m_qfresh, .int m_startOne, .int m_startOther, .int m_latest, .int m_leftBeats, .int m_signed, .int m_metMany, .ref m_qsums, .ref m_qpairs, .ref m_qgoesWith, .ref m_qsaid, .int m_saidMany, .int m_firstWait, .ref m_qfirstOrder, .int m_bundleFirst, .ref m_qtiredBy, .int m_tiredMany, .ref m_qmany, .ref m_qwidth, .ref m_qnumbers, .ref m_qmoving])), (m_qworld, .inl (cA 1, 122, .inl m_cworld)), (m_qsums, .inl (cA 1, 2304, .inl m_csums)), (m_qpairs, .inl (cA 1, 2304, .inl m_cpairs))]) (wr := []) ⟨hx, hb, hml, hown, hts⟩ hKN hP hD hS hA [0, 1, 2, 3] [] rfl rfl (by decide) (by decide) (by decide) (g_X12_layMatch l D cA _ h0 m_thrown m_qworld m_qimages m_qhasImage m_qtape m_taped m_qfive m_size m_at m_from m_token m_value m_faultKind m_faultPlace m_qfresh m_startOne m_startOther m_latest m_leftBeats m_signed m_metMany m_qsums m_qpairs m_qgoesWith m_qsaid m_saidMany m_firstWait m_qfirstOrder m_bundleFirst m_qtiredBy m_tiredMany m_qmany m_qwidth m_qnumbers m_qmoving m_cworld m_csums m_cpairs 0 (by omega) (by omega) (by omega) (by omega) (by omega) (by omega) a_m_cworld_0) (tb_V tw_1799 tw_1801 tw_70 tw_114 tw_1802) hdX12_layMatch ⟨rfl, rfl, Nat.le_of_ble_eq_true rfl, Nat.le_of_ble_eq_true rfl⟩ ⟨Nat.le_of_ble_eq_true rfl, Nat.le_of_ble_eq_true rfl⟩ rfl rfl rfl hl.1 rfl (Nat.le_of_ble_eq_true rfl) dX12_match_12 (fun u_4 H locs hr_4 hP hD hS => ?_)
    have hP : va_P D vwCl [(h0, .inr (12, [.int m_thrown, .ref m_qworld, .ref m_qimages, .ref m_qhasImage, .ref m_qtape, .int m_taped, .ref m_qfive, .int m_size, .int m_at, .int m_from, .int m_token, .int m_value, .int m_faultKind, .int m_faultPlace, .ref m_qfresh, .int m_startOne, .int m_startOther, .int m_latest, .int m_leftBeats, .int m_signed, .int m_metMany, .ref m_qsums, .ref m_qpairs, .ref m_qgoesWith, .ref m_qsaid, .int m_saidMany, .int m_firstWait, .ref m_qfirstOrder, .int m_bundleFirst, .ref m_qtiredBy, .int m_tiredMany, .ref m_qmany, .ref m_qwidth, .ref m_qnumbers, .ref m_qmoving])), (m_qworld, .inl (cA 1, 122, .inl m_cworld)), (m_qsums, .inl (cA 1, 2304, .inl (u_4.2.2.1 0))), (m_qpairs, .inl (cA 1, 2304, .inl (u_4.2.2.1 1)))] H := hP
    have hD : va_D A [(h0, .inr (12, [.int m_thrown, .ref m_qworld, .ref m_qimages, .ref m_qhasImage, .ref m_qtape, .int m_taped, .ref m_qfive, .int m_size, .int m_at, .int m_from, .int m_token, .int m_value, .int m_faultKind, .int m_faultPlace, .ref m_qfresh, .int m_startOne, .int m_startOther, .int m_latest, .int m_leftBeats, .int m_signed, .int m_metMany, .ref m_qsums, .ref m_qpairs, .ref m_qgoesWith, .ref m_qsaid, .int m_saidMany, .int m_firstWait, .ref m_qfirstOrder, .int m_bundleFirst, .ref m_qtiredBy, .int m_tiredMany, .ref m_qmany, .ref m_qwidth, .ref m_qnumbers, .ref m_qmoving])), (m_qworld, .inl (cA 1, 122, .inl m_cworld)), (m_qsums, .inl (cA 1, 2304, .inl (u_4.2.2.1 0))), (m_qpairs, .inl (cA 1, 2304, .inl (u_4.2.2.1 1)))] := hD
    refine lv_aload_n hx hb dX12_match_15 rfl (lv_at hl 0 rfl) ?_
    refine lv_iconst (v := 0) hx hb dX12_match_16 (by decide) ?_
    refine lv_iconst (v := 0) hx hb dX12_match_17 (by decide) ?_
    refine cpVi (rest := []) ⟨hx, hb, hml, hown, hts⟩ hKN (hP.sub (ws' := [(h0, .inr (12, [.int m_thrown, .ref m_qworld, .ref m_qimages, .ref m_qhasImage, .ref m_qtape, .int m_taped, .ref m_qfive, .int m_size, .int m_at, .int m_from, .int m_token, .int m_value, .int m_faultKind, .int m_faultPlace, .ref m_qfresh, .int m_startOne, .int m_startOther, .int m_latest, .int m_leftBeats, .int m_signed, .int m_metMany, .ref m_qsums, .ref m_qpairs, .ref m_qgoesWith, .ref m_qsaid, .int m_saidMany, .int m_firstWait, .ref m_qfirstOrder, .int m_bundleFirst, .ref m_qtiredBy, .int m_tiredMany, .ref m_qmany, .ref m_qwidth, .ref m_qnumbers, .ref m_qmoving])), (m_qsums, .inl (cA 1, 2304, .inl (u_4.2.2.1 0)))]) [0, 2] rfl) (g_X12_sumFrom l D cA h0 m_thrown m_qworld m_qimages m_qhasImage m_qtape m_taped m_qfive m_size m_at m_from m_token m_value m_faultKind m_faultPlace m_qfresh m_startOne m_startOther m_latest m_leftBeats m_signed m_metMany m_qsums m_qpairs m_qgoesWith m_qsaid m_saidMany m_firstWait m_qfirstOrder m_bundleFirst m_qtiredBy m_tiredMany m_qmany m_qwidth m_qnumbers m_qmoving (u_4.2.2.1 0) 0 0 (by omega) (by omega) (by omega) (by omega) (by omega) (by omega) (by decide) (by decide)) (tb_V tw_1803 tw_1805 tw_71 tw_114 tw_1806) hdX12_sumFrom ⟨rfl, rfl, Nat.le_of_ble_eq_true rfl, Nat.le_of_ble_eq_true rfl⟩ ⟨Nat.le_of_ble_eq_true rfl, Nat.le_of_ble_eq_true rfl⟩ rfl rfl rfl hl.1 rfl (Nat.le_of_ble_eq_true rfl) dX12_match_18 (fun r_5 hr_5 => ?_)
    have hP9 := hP.sub (ws' := [(h0, .inr (12, [.int m_thrown, .ref m_qworld, .ref m_qimages, .ref m_qhasImage, .ref m_qtape, .int m_taped, .ref m_qfive, .int m_size, .int m_at, .int m_from, .int m_token, .int m_value, .int m_faultKind, .int m_faultPlace, .ref m_qfresh, .int m_startOne, .int m_startOther, .int m_latest, .int m_leftBeats, .int m_signed, .int m_metMany, .ref m_qsums, .ref m_qpairs, .ref m_qgoesWith, .ref m_qsaid, .int m_saidMany, .int m_firstWait, .ref m_qfirstOrder, .int m_bundleFirst, .ref m_qtiredBy, .int m_tiredMany, .ref m_qmany, .ref m_qwidth, .ref m_qnumbers, .ref m_qmoving])), (m_qworld, .inl (cA 1, 122, .inl m_cworld)), (m_qsums, .inl (cA 1, 2304, .inl (u_4.2.2.1 0))), (m_qpairs, .inl (cA 1, 2304, .inl (u_4.2.2.1 1)))]) [0, 1, 2, 3] rfl
    have hD9 := hD.sub (ws' := [(h0, .inr (12, [.int m_thrown, .ref m_qworld, .ref m_qimages, .ref m_qhasImage, .ref m_qtape, .int m_taped, .ref m_qfive, .int m_size, .int m_at, .int m_from, .int m_token, .int m_value, .int m_faultKind, .int m_faultPlace, .ref m_qfresh, .int m_startOne, .int m_startOther, .int m_latest, .int m_leftBeats, .int m_signed, .int m_metMany, .ref m_qsums, .ref m_qpairs, .ref m_qgoesWith, .ref m_qsaid, .int m_saidMany, .int m_firstWait, .ref m_qfirstOrder, .int m_bundleFirst, .ref m_qtiredBy, .int m_tiredMany, .ref m_qmany, .ref m_qwidth, .ref m_qnumbers, .ref m_qmoving])), (m_qworld, .inl (cA 1, 122, .inl m_cworld)), (m_qsums, .inl (cA 1, 2304, .inl (u_4.2.2.1 0))), (m_qpairs, .inl (cA 1, 2304, .inl (u_4.2.2.1 1)))]) [0, 1, 2, 3] (by decide) rfl
    exact W.iret (v := r_5) hx hb hr (fun t ht hW => ⟨⟨r_5, ((fun _ => 0), (fun _ => 0), (selF [(u_4.2.2.1 0), (u_4.2.2.1 1)]), (fun _ _ => 0)), rfl, trivial, by rw [ht]; exact hP9, hD9⟩, hS.F ht⟩) hS.2.2 dX12_match_21
  · skip
    refine lv_if_ne (tgt := 10) hx hb dX12_match_4 (by decide) (fun c_6 => absurd (by decide) c_6) (fun c_6 => ?_)
    refine lv_bipush (v := (-2)) hx hb dX12_match_7 (by decide) ?_
    have hP9 := hP.sub (ws' := [(h0, .inr (12, [.int m_thrown, .ref m_qworld, .ref m_qimages, .ref m_qhasImage, .ref m_qtape, .int m_taped, .ref m_qfive, .int m_size, .int m_at, .int m_from, .int m_token, .int m_value, .int m_faultKind, .int m_faultPlace, .ref m_qfresh, .int m_startOne, .int m_startOther, .int m_latest, .int m_leftBeats, .int m_signed, .int m_metMany, .ref m_qsums, .ref m_qpairs, .ref m_qgoesWith, .ref m_qsaid, .int m_saidMany, .int m_firstWait, .ref m_qfirstOrder, .int m_bundleFirst, .ref m_qtiredBy, .int m_tiredMany, .ref m_qmany, .ref m_qwidth, .ref m_qnumbers, .ref m_qmoving])), (m_qworld, .inl (cA 1, 122, .inl m_cworld)), (m_qsums, .inl (cA 1, 2304, .inl m_csums)), (m_qpairs, .inl (cA 1, 2304, .inl m_cpairs))]) [0, 1, 2, 3] rfl
    have hD9 := hD.sub (ws' := [(h0, .inr (12, [.int m_thrown, .ref m_qworld, .ref m_qimages, .ref m_qhasImage, .ref m_qtape, .int m_taped, .ref m_qfive, .int m_size, .int m_at, .int m_from, .int m_token, .int m_value, .int m_faultKind, .int m_faultPlace, .ref m_qfresh, .int m_startOne, .int m_startOther, .int m_latest, .int m_leftBeats, .int m_signed, .int m_metMany, .ref m_qsums, .ref m_qpairs, .ref m_qgoesWith, .ref m_qsaid, .int m_saidMany, .int m_firstWait, .ref m_qfirstOrder, .int m_bundleFirst, .ref m_qtiredBy, .int m_tiredMany, .ref m_qmany, .ref m_qwidth, .ref m_qnumbers, .ref m_qmoving])), (m_qworld, .inl (cA 1, 122, .inl m_cworld)), (m_qsums, .inl (cA 1, 2304, .inl m_csums)), (m_qpairs, .inl (cA 1, 2304, .inl m_cpairs))]) [0, 1, 2, 3] (by decide) rfl
    exact W.iret (v := (-2)) hx hb hr (fun t ht hW => ⟨⟨(-2), ((fun _ => 0), (fun _ => 0), (selF [m_csums, m_cpairs]), (fun _ _ => 0)), rfl, trivial, by rw [ht]; exact hP9, hD9⟩, hS.F ht⟩) hS.2.2 dX12_match_9
set_option maxHeartbeats 8000000 in
set_option maxRecDepth 100000 in
theorem g_X12_layMatched (l : Launch) (D : va_G) (cA : Nat → ClassId) (sz : Nat) (h0 : Nat) (m_thrown : Int32) (m_qworld : Nat) (m_qimages : Nat) (m_qhasImage : Nat) (m_qtape : Nat) (m_taped : Int32) (m_qfive : Nat) (m_size : Int32) (m_at : Int32) (m_from : Int32) (m_token : Int32) (m_value : Int32) (m_faultKind : Int32) (m_faultPlace : Int32) (m_qfresh : Nat) (m_startOne : Int32) (m_startOther : Int32) (m_latest : Int32) (m_leftBeats : Int32) (m_signed : Int32) (m_metMany : Int32) (m_qsums : Nat) (m_qpairs : Nat) (m_qgoesWith : Nat) (m_qsaid : Nat) (m_saidMany : Int32) (m_firstWait : Int32) (m_qfirstOrder : Nat) (m_bundleFirst : Int32) (m_qtiredBy : Nat) (m_tiredMany : Int32) (m_qmany : Nat) (m_qwidth : Nat) (m_qnumbers : Nat) (m_qmoving : Nat) (m_cworld : Nat → Int32) (m_csums : Nat → Int32) (m_cpairs : Nat → Int32) (m_cgoesWith : Nat → Int32) (h_m_taped : 0 ≤ (m_taped : Int32).toInt ∧ (m_taped : Int32).toInt ≤ 800) (h_m_size : 0 ≤ (m_size : Int32).toInt ∧ (m_size : Int32).toInt ≤ 800) (h_m_at : 0 ≤ (m_at : Int32).toInt ∧ (m_at : Int32).toInt ≤ 800) (h_m_from : 0 ≤ (m_from : Int32).toInt ∧ (m_from : Int32).toInt ≤ 800) (h_m_saidMany : 0 ≤ (m_saidMany : Int32).toInt ∧ (m_saidMany : Int32).toInt ≤ 60) (h_m_tiredMany : 0 ≤ (m_tiredMany : Int32).toInt ∧ (m_tiredMany : Int32).toInt ≤ 240) (a_m_cworld_0 : WI m_cworld) : Met l yX12_layMatched (Cond.code yX12_layMatched cX12_layMatched 6 none :: TB) (rmd 5 0 0) (PM D cA sz [(h0, .inr (12, [.int m_thrown, .ref m_qworld, .ref m_qimages, .ref m_qhasImage, .ref m_qtape, .int m_taped, .ref m_qfive, .int m_size, .int m_at, .int m_from, .int m_token, .int m_value, .int m_faultKind, .int m_faultPlace, .ref m_qfresh, .int m_startOne, .int m_startOther, .int m_latest, .int m_leftBeats, .int m_signed, .int m_metMany, .ref m_qsums, .ref m_qpairs, .ref m_qgoesWith, .ref m_qsaid, .int m_saidMany, .int m_firstWait, .ref m_qfirstOrder, .int m_bundleFirst, .ref m_qtiredBy, .int m_tiredMany, .ref m_qmany, .ref m_qwidth, .ref m_qnumbers, .ref m_qmoving])), (m_qworld, .inl (cA 1, 122, .inl m_cworld)), (m_qsums, .inl (cA 1, 2304, .inl m_csums)), (m_qpairs, .inl (cA 1, 2304, .inl m_cpairs)), (m_qgoesWith, .inl (cA 1, 8, .inl m_cgoesWith))] [.ref h0]) (va_Qv (fun (u : SU) => True) (fun u t => va_P D vwCl [(h0, .inr (12, [.int m_thrown, .ref m_qworld, .ref m_qimages, .ref m_qhasImage, .ref m_qtape, .int m_taped, .ref m_qfive, .int m_size, .int m_at, .int m_from, .int m_token, .int m_value, .int m_faultKind, .int m_faultPlace, .ref m_qfresh, .int m_startOne, .int m_startOther, .int m_latest, .int m_leftBeats, .int m_signed, .int m_metMany, .ref m_qsums, .ref m_qpairs, .ref m_qgoesWith, .ref m_qsaid, .int m_saidMany, .int m_firstWait, .ref m_qfirstOrder, .int m_bundleFirst, .ref m_qtiredBy, .int m_tiredMany, .ref m_qmany, .ref m_qwidth, .ref m_qnumbers, .ref m_qmoving])), (m_qworld, .inl (cA 1, 122, .inl m_cworld)), (m_qsums, .inl (cA 1, 2304, .inl (u.2.2.1 0))), (m_qpairs, .inl (cA 1, 2304, .inl (u.2.2.1 1))), (m_qgoesWith, .inl (cA 1, 8, .inl (u.2.2.1 2)))] t.heap ∧ va_D (va_A [(h0, .inr (12, [.int m_thrown, .ref m_qworld, .ref m_qimages, .ref m_qhasImage, .ref m_qtape, .int m_taped, .ref m_qfive, .int m_size, .int m_at, .int m_from, .int m_token, .int m_value, .int m_faultKind, .int m_faultPlace, .ref m_qfresh, .int m_startOne, .int m_startOther, .int m_latest, .int m_leftBeats, .int m_signed, .int m_metMany, .ref m_qsums, .ref m_qpairs, .ref m_qgoesWith, .ref m_qsaid, .int m_saidMany, .int m_firstWait, .ref m_qfirstOrder, .int m_bundleFirst, .ref m_qtiredBy, .int m_tiredMany, .ref m_qmany, .ref m_qwidth, .ref m_qnumbers, .ref m_qmoving])), (m_qworld, .inl (cA 1, 122, .inl m_cworld)), (m_qsums, .inl (cA 1, 2304, .inl m_csums)), (m_qpairs, .inl (cA 1, 2304, .inl m_cpairs)), (m_qgoesWith, .inl (cA 1, 8, .inl m_cgoesWith))] sz) [(h0, .inr (12, [.int m_thrown, .ref m_qworld, .ref m_qimages, .ref m_qhasImage, .ref m_qtape, .int m_taped, .ref m_qfive, .int m_size, .int m_at, .int m_from, .int m_token, .int m_value, .int m_faultKind, .int m_faultPlace, .ref m_qfresh, .int m_startOne, .int m_startOther, .int m_latest, .int m_leftBeats, .int m_signed, .int m_metMany, .ref m_qsums, .ref m_qpairs, .ref m_qgoesWith, .ref m_qsaid, .int m_saidMany, .int m_firstWait, .ref m_qfirstOrder, .int m_bundleFirst, .ref m_qtiredBy, .int m_tiredMany, .ref m_qmany, .ref m_qwidth, .ref m_qnumbers, .ref m_qmoving])), (m_qworld, .inl (cA 1, 122, .inl m_cworld)), (m_qsums, .inl (cA 1, 2304, .inl (u.2.2.1 0))), (m_qpairs, .inl (cA 1, 2304, .inl (u.2.2.1 1))), (m_qgoesWith, .inl (cA 1, 8, .inl (u.2.2.1 2)))]) (va_A [(h0, .inr (12, [.int m_thrown, .ref m_qworld, .ref m_qimages, .ref m_qhasImage, .ref m_qtape, .int m_taped, .ref m_qfive, .int m_size, .int m_at, .int m_from, .int m_token, .int m_value, .int m_faultKind, .int m_faultPlace, .ref m_qfresh, .int m_startOne, .int m_startOther, .int m_latest, .int m_leftBeats, .int m_signed, .int m_metMany, .ref m_qsums, .ref m_qpairs, .ref m_qgoesWith, .ref m_qsaid, .int m_saidMany, .int m_firstWait, .ref m_qfirstOrder, .int m_bundleFirst, .ref m_qtiredBy, .int m_tiredMany, .ref m_qmany, .ref m_qwidth, .ref m_qnumbers, .ref m_qmoving])), (m_qworld, .inl (cA 1, 122, .inl m_cworld)), (m_qsums, .inl (cA 1, 2304, .inl m_csums)), (m_qpairs, .inl (cA 1, 2304, .inl m_cpairs)), (m_qgoesWith, .inl (cA 1, 8, .inl m_cgoesWith))] sz)) 0 0 (va_A [(h0, .inr (12, [.int m_thrown, .ref m_qworld, .ref m_qimages, .ref m_qhasImage, .ref m_qtape, .int m_taped, .ref m_qfive, .int m_size, .int m_at, .int m_from, .int m_token, .int m_value, .int m_faultKind, .int m_faultPlace, .ref m_qfresh, .int m_startOne, .int m_startOther, .int m_latest, .int m_leftBeats, .int m_signed, .int m_metMany, .ref m_qsums, .ref m_qpairs, .ref m_qgoesWith, .ref m_qsaid, .int m_saidMany, .int m_firstWait, .ref m_qfirstOrder, .int m_bundleFirst, .ref m_qtiredBy, .int m_tiredMany, .ref m_qmany, .ref m_qwidth, .ref m_qnumbers, .ref m_qmoving])), (m_qworld, .inl (cA 1, 122, .inl m_cworld)), (m_qsums, .inl (cA 1, 2304, .inl m_csums)), (m_qpairs, .inl (cA 1, 2304, .inl m_cpairs)), (m_qgoesWith, .inl (cA 1, 8, .inl m_cgoesWith))] sz) := by
  refine Met.ofW (cc := cX12_layMatched) (maxL := 6) (ret := none) (by decide) rfl ?_
  intro p e s m args below meth c s₁ B hml hv
  obtain ⟨rfl, hsz, hP, hKN, hD0⟩ := hv
  have hx := B.exec
  have hb := B.bytes
  have hr := B.returns
  have hts : ∀ w ∈ TB, w.before _ s = true := fun w h => atoms_spec B.pre w (List.mem_cons_of_mem _ h)
  have hown : s.vm.findClass RX12 = some m.cls := findClass_of_methodNamed B.named
  have hlocks := B.notSynchronized
  subst hsz
  have hD := hD0.self (sz := s.heap.size)
  generalize hAe : va_A [(h0, .inr (12, [.int m_thrown, .ref m_qworld, .ref m_qimages, .ref m_qhasImage, .ref m_qtape, .int m_taped, .ref m_qfive, .int m_size, .int m_at, .int m_from, .int m_token, .int m_value, .int m_faultKind, .int m_faultPlace, .ref m_qfresh, .int m_startOne, .int m_startOther, .int m_latest, .int m_leftBeats, .int m_signed, .int m_metMany, .ref m_qsums, .ref m_qpairs, .ref m_qgoesWith, .ref m_qsaid, .int m_saidMany, .int m_firstWait, .ref m_qfirstOrder, .int m_bundleFirst, .ref m_qtiredBy, .int m_tiredMany, .ref m_qmany, .ref m_qwidth, .ref m_qnumbers, .ref m_qmoving])), (m_qworld, .inl (cA 1, 122, .inl m_cworld)), (m_qsums, .inl (cA 1, 2304, .inl m_csums)), (m_qpairs, .inl (cA 1, 2304, .inl m_cpairs)), (m_qgoesWith, .inl (cA 1, 8, .inl m_cgoesWith))] s.heap.size = A at hD ⊢
  have hA : ∀ q : Nat, s.heap.size ≤ q → A q := fun q h => by rw [← hAe]; exact Or.inr h
  have hS : va_S A s.heap s.heap [] := va_S.rf
  have hl := lv_entry ([.ref h0]) (n := 6) (Nat.le_of_ble_eq_true rfl)
  rw [lg_entry_eq]
  generalize (lg_sl ([.ref h0]) ++ List.replicate (6 - (lg_sl ([.ref h0])).length) Slot.unset).toArray = ls at hl ⊢
  have hl : lv_has ls 6 [(0, .ref h0)] := hl
  refine lv_aload_n hx hb dX12_layMatched_0 rfl (lv_at hl 0 rfl) ?_
  refine lv_iconst (v := 0) hx hb dX12_layMatched_1 (by decide) ?_
  have z_1 := zi_0
  refine cmVv (rest := []) (wsC := [(h0, .inr (12, [.int m_thrown, .ref m_qworld, .ref m_qimages, .ref m_qhasImage, .ref m_qtape, .int m_taped, .ref m_qfive, .int m_size, .int m_at, .int m_from, .int m_token, .int m_value, .int m_faultKind, .int m_faultPlace, .ref m_qfresh, .int m_startOne, .int m_startOther, .int m_latest, .int m_leftBeats, .int m_signed, .int m_metMany, .ref m_qsums, .ref m_qpairs, .ref m_qgoesWith, .ref m_qsaid, .int m_saidMany, .int m_firstWait, .ref m_qfirstOrder, .int m_bundleFirst, .ref m_qtiredBy, .int m_tiredMany, .ref m_qmany, .ref m_qwidth, .ref m_qnumbers, .ref m_qmoving])), (m_qworld, .inl (cA 1, 122, .inl m_cworld)), (m_qsums, .inl (cA 1, 2304, .inl m_csums)), (m_qpairs, .inl (cA 1, 2304, .inl m_cpairs))]) (wr := [(m_qgoesWith, .inl (cA 1, 8, .inl m_cgoesWith))]) ⟨hx, hb, hml, hown, hts⟩ hKN hP hD hS hA [0, 1, 2, 3] [4] rfl rfl (by decide) (by decide) (by decide) (g_X12_layMatch l D cA _ h0 m_thrown m_qworld m_qimages m_qhasImage m_qtape m_taped m_qfive m_size m_at m_from m_token m_value m_faultKind m_faultPlace m_qfresh m_startOne m_startOther m_latest m_leftBeats m_signed m_metMany m_qsums m_qpairs m_qgoesWith m_qsaid m_saidMany m_firstWait m_qfirstOrder m_bundleFirst m_qtiredBy m_tiredMany m_qmany m_qwidth m_qnumbers m_qmoving m_cworld m_csums m_cpairs 0 (by omega) (by omega) (by omega) (by omega) (by omega) (by omega) a_m_cworld_0) (tb_V tw_1799 tw_1801 tw_70 tw_114 tw_1802) hdX12_layMatch ⟨rfl, rfl, Nat.le_of_ble_eq_true rfl, Nat.le_of_ble_eq_true rfl⟩ ⟨Nat.le_of_ble_eq_true rfl, Nat.le_of_ble_eq_true rfl⟩ rfl rfl rfl hl.1 rfl (Nat.le_of_ble_eq_true rfl) dX12_layMatched_2 (fun u_2 H locs hr_2 hP hD hS => ?_)
  have hP : va_P D vwCl [(m_qgoesWith, .inl (cA 1, 8, .inl m_cgoesWith)), (h0, .inr (12, [.int m_thrown, .ref m_qworld, .ref m_qimages, .ref m_qhasImage, .ref m_qtape, .int m_taped, .ref m_qfive, .int m_size, .int m_at, .int m_from, .int m_token, .int m_value, .int m_faultKind, .int m_faultPlace, .ref m_qfresh, .int m_startOne, .int m_startOther, .int m_latest, .int m_leftBeats, .int m_signed, .int m_metMany, .ref m_qsums, .ref m_qpairs, .ref m_qgoesWith, .ref m_qsaid, .int m_saidMany, .int m_firstWait, .ref m_qfirstOrder, .int m_bundleFirst, .ref m_qtiredBy, .int m_tiredMany, .ref m_qmany, .ref m_qwidth, .ref m_qnumbers, .ref m_qmoving])), (m_qworld, .inl (cA 1, 122, .inl m_cworld)), (m_qsums, .inl (cA 1, 2304, .inl (u_2.2.2.1 0))), (m_qpairs, .inl (cA 1, 2304, .inl (u_2.2.2.1 1)))] H := hP
  have hD : va_D A [(m_qgoesWith, .inl (cA 1, 8, .inl m_cgoesWith)), (h0, .inr (12, [.int m_thrown, .ref m_qworld, .ref m_qimages, .ref m_qhasImage, .ref m_qtape, .int m_taped, .ref m_qfive, .int m_size, .int m_at, .int m_from, .int m_token, .int m_value, .int m_faultKind, .int m_faultPlace, .ref m_qfresh, .int m_startOne, .int m_startOther, .int m_latest, .int m_leftBeats, .int m_signed, .int m_metMany, .ref m_qsums, .ref m_qpairs, .ref m_qgoesWith, .ref m_qsaid, .int m_saidMany, .int m_firstWait, .ref m_qfirstOrder, .int m_bundleFirst, .ref m_qtiredBy, .int m_tiredMany, .ref m_qmany, .ref m_qwidth, .ref m_qnumbers, .ref m_qmoving])), (m_qworld, .inl (cA 1, 122, .inl m_cworld)), (m_qsums, .inl (cA 1, 2304, .inl (u_2.2.2.1 0))), (m_qpairs, .inl (cA 1, 2304, .inl (u_2.2.2.1 1)))] := hD
  refine lv_aload_n hx hb dX12_layMatched_5 rfl (lv_at hl 0 rfl) ?_
  refine va_get (D := D) (ci := 12) (v := .ref m_qworld) (C := RX12) (T := TX12) (N := 35) hx hb hts inX12 hown hKN.1 hP 1 rfl rfl 1 (by decide) (hts _ tw_1420) (fun _ h9 => h9) rfl dX12_layMatched_6 ?_
  refine lv_iconst (v := 4) hx hb dX12_layMatched_9 (by decide) ?_
  refine va_iald hx hb hKN.1 hP 2 1 rfl rfl (by unfold vp_in; decide) dX12_layMatched_10 ?_
  refine W.eq (g2 := F0 m 11 ls [.int (m_cworld 4)]) rfl ?_
  have k_3 := a_m_cworld_0.1.1.2.2.2.1 (4) (by decide) (by decide)
  refine lv_istore_n (lv' := [(1, .int (m_cworld 4)), (0, .ref h0)]) hx hb dX12_layMatched_11 rfl hl (by decide) rfl (fun ls hl => ?_)
  refine lv_iconst (v := 0) hx hb dX12_layMatched_12 (by decide) ?_
  refine lv_istore_n (lv' := [(2, .int 0), (1, .int (m_cworld 4)), (0, .ref h0)]) hx hb dX12_layMatched_13 rfl hl (by decide) rfl (fun ls hl => ?_)
  refine lv_iconst (v := 0) hx hb dX12_layMatched_14 (by decide) ?_
  refine lv_istore_n (lv' := [(3, .int 0), (2, .int 0), (1, .int (m_cworld 4)), (0, .ref h0)]) hx hb dX12_layMatched_15 rfl hl (by decide) rfl (fun ls hl => ?_)
  refine loopW (σ := Int32 × (Nat → Int32)) (fun _ => []) (fun ⟨L3_46, F1_46⟩ H locs ls => (0 ≤ L3_46.toInt ∧ L3_46.toInt ≤ 8) ∧ va_P D vwCl [(m_qgoesWith, .inl (cA 1, 8, .inl F1_46)), (h0, .inr (12, [.int m_thrown, .ref m_qworld, .ref m_qimages, .ref m_qhasImage, .ref m_qtape, .int m_taped, .ref m_qfive, .int m_size, .int m_at, .int m_from, .int m_token, .int m_value, .int m_faultKind, .int m_faultPlace, .ref m_qfresh, .int m_startOne, .int m_startOther, .int m_latest, .int m_leftBeats, .int m_signed, .int m_metMany, .ref m_qsums, .ref m_qpairs, .ref m_qgoesWith, .ref m_qsaid, .int m_saidMany, .int m_firstWait, .ref m_qfirstOrder, .int m_bundleFirst, .ref m_qtiredBy, .int m_tiredMany, .ref m_qmany, .ref m_qwidth, .ref m_qnumbers, .ref m_qmoving])), (m_qworld, .inl (cA 1, 122, .inl m_cworld)), (m_qsums, .inl (cA 1, 2304, .inl (u_2.2.2.1 0))), (m_qpairs, .inl (cA 1, 2304, .inl (u_2.2.2.1 1)))] H ∧ va_D A [(m_qgoesWith, .inl (cA 1, 8, .inl F1_46)), (h0, .inr (12, [.int m_thrown, .ref m_qworld, .ref m_qimages, .ref m_qhasImage, .ref m_qtape, .int m_taped, .ref m_qfive, .int m_size, .int m_at, .int m_from, .int m_token, .int m_value, .int m_faultKind, .int m_faultPlace, .ref m_qfresh, .int m_startOne, .int m_startOther, .int m_latest, .int m_leftBeats, .int m_signed, .int m_metMany, .ref m_qsums, .ref m_qpairs, .ref m_qgoesWith, .ref m_qsaid, .int m_saidMany, .int m_firstWait, .ref m_qfirstOrder, .int m_bundleFirst, .ref m_qtiredBy, .int m_tiredMany, .ref m_qmany, .ref m_qwidth, .ref m_qnumbers, .ref m_qmoving])), (m_qworld, .inl (cA 1, 122, .inl m_cworld)), (m_qsums, .inl (cA 1, 2304, .inl (u_2.2.2.1 0))), (m_qpairs, .inl (cA 1, 2304, .inl (u_2.2.2.1 1)))] ∧ va_S A s.heap H locs ∧ lv_has ls 6 [(3, .int L3_46), (2, .int 0), (1, .int (m_cworld 4)), (0, .ref h0)]) (fun ⟨L3_46, F1_46⟩ => (2147483647 - L3_46.toInt).toNat) ?_ ((0, m_cgoesWith) : Int32 × (Nat → Int32)) ⟨(by decide), hP, hD, hS, hl⟩
  intro x_46 H locs ls hI_46 ih_46
  obtain ⟨L3_46, F1_46⟩ := x_46
  obtain ⟨k0_46, hP, hD, hS, hl⟩ := hI_46
  have hP : va_P D vwCl [(m_qgoesWith, .inl (cA 1, 8, .inl F1_46)), (h0, .inr (12, [.int m_thrown, .ref m_qworld, .ref m_qimages, .ref m_qhasImage, .ref m_qtape, .int m_taped, .ref m_qfive, .int m_size, .int m_at, .int m_from, .int m_token, .int m_value, .int m_faultKind, .int m_faultPlace, .ref m_qfresh, .int m_startOne, .int m_startOther, .int m_latest, .int m_leftBeats, .int m_signed, .int m_metMany, .ref m_qsums, .ref m_qpairs, .ref m_qgoesWith, .ref m_qsaid, .int m_saidMany, .int m_firstWait, .ref m_qfirstOrder, .int m_bundleFirst, .ref m_qtiredBy, .int m_tiredMany, .ref m_qmany, .ref m_qwidth, .ref m_qnumbers, .ref m_qmoving])), (m_qworld, .inl (cA 1, 122, .inl m_cworld)), (m_qsums, .inl (cA 1, 2304, .inl (u_2.2.2.1 0))), (m_qpairs, .inl (cA 1, 2304, .inl (u_2.2.2.1 1)))] H := hP
  have hD : va_D A [(m_qgoesWith, .inl (cA 1, 8, .inl F1_46)), (h0, .inr (12, [.int m_thrown, .ref m_qworld, .ref m_qimages, .ref m_qhasImage, .ref m_qtape, .int m_taped, .ref m_qfive, .int m_size, .int m_at, .int m_from, .int m_token, .int m_value, .int m_faultKind, .int m_faultPlace, .ref m_qfresh, .int m_startOne, .int m_startOther, .int m_latest, .int m_leftBeats, .int m_signed, .int m_metMany, .ref m_qsums, .ref m_qpairs, .ref m_qgoesWith, .ref m_qsaid, .int m_saidMany, .int m_firstWait, .ref m_qfirstOrder, .int m_bundleFirst, .ref m_qtiredBy, .int m_tiredMany, .ref m_qmany, .ref m_qwidth, .ref m_qnumbers, .ref m_qmoving])), (m_qworld, .inl (cA 1, 122, .inl m_cworld)), (m_qsums, .inl (cA 1, 2304, .inl (u_2.2.2.1 0))), (m_qpairs, .inl (cA 1, 2304, .inl (u_2.2.2.1 1)))] := hD
  have hl : lv_has ls 6 [(3, .int L3_46), (2, .int 0), (1, .int (m_cworld 4)), (0, .ref h0)] := hl
  refine lv_iload_n hx hb dX12_layMatched_16 rfl (lv_at hl 0 rfl) ?_
  refine lv_iload_n hx hb dX12_layMatched_17 rfl (lv_at hl 2 rfl) ?_
  refine lv_icmp_ge (tgt := 34) hx hb dX12_layMatched_18 (by decide) (fun c_47 => ?_) (fun c_47 => ?_)
  · skip
    have k_48 := kk_le rfl rfl c_47
    refine lv_iconst (v := 0) hx hb dX12_layMatched_34 (by decide) ?_
    refine lv_istore_n (lv' := [(3, .int 0), (2, .int 0), (1, .int (m_cworld 4)), (0, .ref h0)]) hx hb dX12_layMatched_35 rfl hl (by decide) rfl (fun ls hl => ?_)
    refine loopW (σ := Int32 × Int32 × (Nat → Int32)) (fun _ => []) (fun ⟨L3_1975, L2_1975, F2_1975⟩ H locs ls => (0 ≤ L3_1975.toInt ∧ L3_1975.toInt ≤ 8) ∧ (0 ≤ L2_1975.toInt ∧ L2_1975.toInt ≤ 255) ∧ va_P D vwCl [(m_qgoesWith, .inl (cA 1, 8, .inl F2_1975)), (h0, .inr (12, [.int m_thrown, .ref m_qworld, .ref m_qimages, .ref m_qhasImage, .ref m_qtape, .int m_taped, .ref m_qfive, .int m_size, .int m_at, .int m_from, .int m_token, .int m_value, .int m_faultKind, .int m_faultPlace, .ref m_qfresh, .int m_startOne, .int m_startOther, .int m_latest, .int m_leftBeats, .int m_signed, .int m_metMany, .ref m_qsums, .ref m_qpairs, .ref m_qgoesWith, .ref m_qsaid, .int m_saidMany, .int m_firstWait, .ref m_qfirstOrder, .int m_bundleFirst, .ref m_qtiredBy, .int m_tiredMany, .ref m_qmany, .ref m_qwidth, .ref m_qnumbers, .ref m_qmoving])), (m_qworld, .inl (cA 1, 122, .inl m_cworld)), (m_qsums, .inl (cA 1, 2304, .inl (u_2.2.2.1 0))), (m_qpairs, .inl (cA 1, 2304, .inl (u_2.2.2.1 1)))] H ∧ va_D A [(m_qgoesWith, .inl (cA 1, 8, .inl F2_1975)), (h0, .inr (12, [.int m_thrown, .ref m_qworld, .ref m_qimages, .ref m_qhasImage, .ref m_qtape, .int m_taped, .ref m_qfive, .int m_size, .int m_at, .int m_from, .int m_token, .int m_value, .int m_faultKind, .int m_faultPlace, .ref m_qfresh, .int m_startOne, .int m_startOther, .int m_latest, .int m_leftBeats, .int m_signed, .int m_metMany, .ref m_qsums, .ref m_qpairs, .ref m_qgoesWith, .ref m_qsaid, .int m_saidMany, .int m_firstWait, .ref m_qfirstOrder, .int m_bundleFirst, .ref m_qtiredBy, .int m_tiredMany, .ref m_qmany, .ref m_qwidth, .ref m_qnumbers, .ref m_qmoving])), (m_qworld, .inl (cA 1, 122, .inl m_cworld)), (m_qsums, .inl (cA 1, 2304, .inl (u_2.2.2.1 0))), (m_qpairs, .inl (cA 1, 2304, .inl (u_2.2.2.1 1)))] ∧ va_S A s.heap H locs ∧ lv_has ls 6 [(3, .int L3_1975), (2, .int L2_1975), (1, .int (m_cworld 4)), (0, .ref h0)]) (fun ⟨L3_1975, L2_1975, F2_1975⟩ => (2147483647 - L3_1975.toInt).toNat) ?_ ((0, 0, F1_46) : Int32 × Int32 × (Nat → Int32)) ⟨(by decide), (by decide), hP, hD, hS, hl⟩
    intro x_1975 H locs ls hI_1975 ih_1975
    obtain ⟨L3_1975, L2_1975, F2_1975⟩ := x_1975
    obtain ⟨k0_1975, k1_1975, hP, hD, hS, hl⟩ := hI_1975
    have hP : va_P D vwCl [(m_qgoesWith, .inl (cA 1, 8, .inl F2_1975)), (h0, .inr (12, [.int m_thrown, .ref m_qworld, .ref m_qimages, .ref m_qhasImage, .ref m_qtape, .int m_taped, .ref m_qfive, .int m_size, .int m_at, .int m_from, .int m_token, .int m_value, .int m_faultKind, .int m_faultPlace, .ref m_qfresh, .int m_startOne, .int m_startOther, .int m_latest, .int m_leftBeats, .int m_signed, .int m_metMany, .ref m_qsums, .ref m_qpairs, .ref m_qgoesWith, .ref m_qsaid, .int m_saidMany, .int m_firstWait, .ref m_qfirstOrder, .int m_bundleFirst, .ref m_qtiredBy, .int m_tiredMany, .ref m_qmany, .ref m_qwidth, .ref m_qnumbers, .ref m_qmoving])), (m_qworld, .inl (cA 1, 122, .inl m_cworld)), (m_qsums, .inl (cA 1, 2304, .inl (u_2.2.2.1 0))), (m_qpairs, .inl (cA 1, 2304, .inl (u_2.2.2.1 1)))] H := hP
    have hD : va_D A [(m_qgoesWith, .inl (cA 1, 8, .inl F2_1975)), (h0, .inr (12, [.int m_thrown, .ref m_qworld, .ref m_qimages, .ref m_qhasImage, .ref m_qtape, .int m_taped, .ref m_qfive, .int m_size, .int m_at, .int m_from, .int m_token, .int m_value, .int m_faultKind, .int m_faultPlace, .ref m_qfresh, .int m_startOne, .int m_startOther, .int m_latest, .int m_leftBeats, .int m_signed, .int m_metMany, .ref m_qsums, .ref m_qpairs, .ref m_qgoesWith, .ref m_qsaid, .int m_saidMany, .int m_firstWait, .ref m_qfirstOrder, .int m_bundleFirst, .ref m_qtiredBy, .int m_tiredMany, .ref m_qmany, .ref m_qwidth, .ref m_qnumbers, .ref m_qmoving])), (m_qworld, .inl (cA 1, 122, .inl m_cworld)), (m_qsums, .inl (cA 1, 2304, .inl (u_2.2.2.1 0))), (m_qpairs, .inl (cA 1, 2304, .inl (u_2.2.2.1 1)))] := hD
    have hl : lv_has ls 6 [(3, .int L3_1975), (2, .int L2_1975), (1, .int (m_cworld 4)), (0, .ref h0)] := hl
    refine lv_iload_n hx hb dX12_layMatched_36 rfl (lv_at hl 0 rfl) ?_
    refine lv_iload_n hx hb dX12_layMatched_37 rfl (lv_at hl 2 rfl) ?_
    refine lv_icmp_ge (tgt := 169) hx hb dX12_layMatched_38 (by decide) (fun c_1976 => ?_) (fun c_1976 => ?_)
    · skip
      have k_1977 := kk_le rfl rfl c_1976
      have hP9 := hP.sub (ws' := [(h0, .inr (12, [.int m_thrown, .ref m_qworld, .ref m_qimages, .ref m_qhasImage, .ref m_qtape, .int m_taped, .ref m_qfive, .int m_size, .int m_at, .int m_from, .int m_token, .int m_value, .int m_faultKind, .int m_faultPlace, .ref m_qfresh, .int m_startOne, .int m_startOther, .int m_latest, .int m_leftBeats, .int m_signed, .int m_metMany, .ref m_qsums, .ref m_qpairs, .ref m_qgoesWith, .ref m_qsaid, .int m_saidMany, .int m_firstWait, .ref m_qfirstOrder, .int m_bundleFirst, .ref m_qtiredBy, .int m_tiredMany, .ref m_qmany, .ref m_qwidth, .ref m_qnumbers, .ref m_qmoving])), (m_qworld, .inl (cA 1, 122, .inl m_cworld)), (m_qsums, .inl (cA 1, 2304, .inl (u_2.2.2.1 0))), (m_qpairs, .inl (cA 1, 2304, .inl (u_2.2.2.1 1))), (m_qgoesWith, .inl (cA 1, 8, .inl F2_1975))]) [1, 2, 3, 4, 0] rfl
      have hD9 := hD.sub (ws' := [(h0, .inr (12, [.int m_thrown, .ref m_qworld, .ref m_qimages, .ref m_qhasImage, .ref m_qtape, .int m_taped, .ref m_qfive, .int m_size, .int m_at, .int m_from, .int m_token, .int m_value, .int m_faultKind, .int m_faultPlace, .ref m_qfresh, .int m_startOne, .int m_startOther, .int m_latest, .int m_leftBeats, .int m_signed, .int m_metMany, .ref m_qsums, .ref m_qpairs, .ref m_qgoesWith, .ref m_qsaid, .int m_saidMany, .int m_firstWait, .ref m_qfirstOrder, .int m_bundleFirst, .ref m_qtiredBy, .int m_tiredMany, .ref m_qmany, .ref m_qwidth, .ref m_qnumbers, .ref m_qmoving])), (m_qworld, .inl (cA 1, 122, .inl m_cworld)), (m_qsums, .inl (cA 1, 2304, .inl (u_2.2.2.1 0))), (m_qpairs, .inl (cA 1, 2304, .inl (u_2.2.2.1 1))), (m_qgoesWith, .inl (cA 1, 8, .inl F2_1975))]) [1, 2, 3, 4, 0] (by decide) rfl
      exact W.vret hx hb hr (fun t ht hW => ⟨⟨((fun _ => 0), (fun _ => 0), (selF [(u_2.2.2.1 0), (u_2.2.2.1 1), F2_1975]), (fun _ _ => 0)), rfl, trivial, by rw [ht]; exact hP9, hD9⟩, hS.F ht⟩) hS.2.2 dX12_layMatched_169
    · skip
      have k_1978 := kk_nle rfl rfl c_1976
      refine lv_aload_n hx hb dX12_layMatched_41 rfl (lv_at hl 3 rfl) ?_
      refine lv_iload_n hx hb dX12_layMatched_42 rfl (lv_at hl 0 rfl) ?_
      refine lv_iconst (v := 0) hx hb dX12_layMatched_43 (by decide) ?_
      refine cpVi (rest := []) ⟨hx, hb, hml, hown, hts⟩ hKN (hP.sub (ws' := [(h0, .inr (12, [.int m_thrown, .ref m_qworld, .ref m_qimages, .ref m_qhasImage, .ref m_qtape, .int m_taped, .ref m_qfive, .int m_size, .int m_at, .int m_from, .int m_token, .int m_value, .int m_faultKind, .int m_faultPlace, .ref m_qfresh, .int m_startOne, .int m_startOther, .int m_latest, .int m_leftBeats, .int m_signed, .int m_metMany, .ref m_qsums, .ref m_qpairs, .ref m_qgoesWith, .ref m_qsaid, .int m_saidMany, .int m_firstWait, .ref m_qfirstOrder, .int m_bundleFirst, .ref m_qtiredBy, .int m_tiredMany, .ref m_qmany, .ref m_qwidth, .ref m_qnumbers, .ref m_qmoving])), (m_qworld, .inl (cA 1, 122, .inl m_cworld))]) [1, 2] rfl) (g_X12_of l D cA h0 m_thrown m_qworld m_qimages m_qhasImage m_qtape m_taped m_qfive m_size m_at m_from m_token m_value m_faultKind m_faultPlace m_qfresh m_startOne m_startOther m_latest m_leftBeats m_signed m_metMany m_qsums m_qpairs m_qgoesWith m_qsaid m_saidMany m_firstWait m_qfirstOrder m_bundleFirst m_qtiredBy m_tiredMany m_qmany m_qwidth m_qnumbers m_qmoving m_cworld L3_1975 0 (by omega) (by omega) (by omega) (by omega) (by omega) (by omega) (by omega) (by decide) a_m_cworld_0) (tb_V tw_1640 tw_1642 tw_50 tw_114 tw_1643) hdX12_of ⟨rfl, rfl, Nat.le_of_ble_eq_true rfl, Nat.le_of_ble_eq_true rfl⟩ ⟨Nat.le_of_ble_eq_true rfl, Nat.le_of_ble_eq_true rfl⟩ rfl rfl rfl hl.1 rfl (Nat.le_of_ble_eq_true rfl) dX12_layMatched_44 (fun r_1979 hr_1979 => ?_)
      obtain ⟨k_1979_0_0, k_1979_0_1⟩ := hr_1979
      refine lv_if_eq (tgt := 53) hx hb dX12_layMatched_47 (by decide) (fun c_1980 => ?_) (fun c_1980 => ?_)
      · skip
        have k_1981 := kk_eq rfl zi_0 c_1980
        refine lv_iconst (v := (-1)) hx hb dX12_layMatched_53 (by decide) ?_
        refine lv_istore (lv' := [(4, .int (-1)), (3, .int L3_1975), (2, .int L2_1975), (1, .int (m_cworld 4)), (0, .ref h0)]) hx hb dX12_layMatched_54 hl (by decide) rfl (fun ls hl => ?_)
        refine lv_iconst (v := 0) hx hb dX12_layMatched_56 (by decide) ?_
        refine lv_istore (lv' := [(5, .int 0), (4, .int (-1)), (3, .int L3_1975), (2, .int L2_1975), (1, .int (m_cworld 4)), (0, .ref h0)]) hx hb dX12_layMatched_57 hl (by decide) rfl (fun ls hl => ?_)
        refine loopW (σ := Int32 × Int32) (fun _ => []) (fun ⟨L5_2228, L4_2228⟩ H locs ls => (0 ≤ L5_2228.toInt ∧ L5_2228.toInt ≤ 8) ∧ (-1 ≤ L4_2228.toInt ∧ L4_2228.toInt ≤ 7) ∧ va_P D vwCl [(m_qgoesWith, .inl (cA 1, 8, .inl F2_1975)), (h0, .inr (12, [.int m_thrown, .ref m_qworld, .ref m_qimages, .ref m_qhasImage, .ref m_qtape, .int m_taped, .ref m_qfive, .int m_size, .int m_at, .int m_from, .int m_token, .int m_value, .int m_faultKind, .int m_faultPlace, .ref m_qfresh, .int m_startOne, .int m_startOther, .int m_latest, .int m_leftBeats, .int m_signed, .int m_metMany, .ref m_qsums, .ref m_qpairs, .ref m_qgoesWith, .ref m_qsaid, .int m_saidMany, .int m_firstWait, .ref m_qfirstOrder, .int m_bundleFirst, .ref m_qtiredBy, .int m_tiredMany, .ref m_qmany, .ref m_qwidth, .ref m_qnumbers, .ref m_qmoving])), (m_qworld, .inl (cA 1, 122, .inl m_cworld)), (m_qsums, .inl (cA 1, 2304, .inl (u_2.2.2.1 0))), (m_qpairs, .inl (cA 1, 2304, .inl (u_2.2.2.1 1)))] H ∧ va_D A [(m_qgoesWith, .inl (cA 1, 8, .inl F2_1975)), (h0, .inr (12, [.int m_thrown, .ref m_qworld, .ref m_qimages, .ref m_qhasImage, .ref m_qtape, .int m_taped, .ref m_qfive, .int m_size, .int m_at, .int m_from, .int m_token, .int m_value, .int m_faultKind, .int m_faultPlace, .ref m_qfresh, .int m_startOne, .int m_startOther, .int m_latest, .int m_leftBeats, .int m_signed, .int m_metMany, .ref m_qsums, .ref m_qpairs, .ref m_qgoesWith, .ref m_qsaid, .int m_saidMany, .int m_firstWait, .ref m_qfirstOrder, .int m_bundleFirst, .ref m_qtiredBy, .int m_tiredMany, .ref m_qmany, .ref m_qwidth, .ref m_qnumbers, .ref m_qmoving])), (m_qworld, .inl (cA 1, 122, .inl m_cworld)), (m_qsums, .inl (cA 1, 2304, .inl (u_2.2.2.1 0))), (m_qpairs, .inl (cA 1, 2304, .inl (u_2.2.2.1 1)))] ∧ va_S A s.heap H locs ∧ lv_has ls 6 [(5, .int L5_2228), (4, .int L4_2228), (3, .int L3_1975), (2, .int L2_1975), (1, .int (m_cworld 4)), (0, .ref h0)]) (fun ⟨L5_2228, L4_2228⟩ => (2147483647 - L5_2228.toInt).toNat) ?_ ((0, (-1)) : Int32 × Int32) ⟨(by decide), (by decide), hP, hD, hS, hl⟩
        intro x_2228 H locs ls hI_2228 ih_2228
        obtain ⟨L5_2228, L4_2228⟩ := x_2228
        obtain ⟨k0_2228, k1_2228, hP, hD, hS, hl⟩ := hI_2228
        have hP : va_P D vwCl [(m_qgoesWith, .inl (cA 1, 8, .inl F2_1975)), (h0, .inr (12, [.int m_thrown, .ref m_qworld, .ref m_qimages, .ref m_qhasImage, .ref m_qtape, .int m_taped, .ref m_qfive, .int m_size, .int m_at, .int m_from, .int m_token, .int m_value, .int m_faultKind, .int m_faultPlace, .ref m_qfresh, .int m_startOne, .int m_startOther, .int m_latest, .int m_leftBeats, .int m_signed, .int m_metMany, .ref m_qsums, .ref m_qpairs, .ref m_qgoesWith, .ref m_qsaid, .int m_saidMany, .int m_firstWait, .ref m_qfirstOrder, .int m_bundleFirst, .ref m_qtiredBy, .int m_tiredMany, .ref m_qmany, .ref m_qwidth, .ref m_qnumbers, .ref m_qmoving])), (m_qworld, .inl (cA 1, 122, .inl m_cworld)), (m_qsums, .inl (cA 1, 2304, .inl (u_2.2.2.1 0))), (m_qpairs, .inl (cA 1, 2304, .inl (u_2.2.2.1 1)))] H := hP
        have hD : va_D A [(m_qgoesWith, .inl (cA 1, 8, .inl F2_1975)), (h0, .inr (12, [.int m_thrown, .ref m_qworld, .ref m_qimages, .ref m_qhasImage, .ref m_qtape, .int m_taped, .ref m_qfive, .int m_size, .int m_at, .int m_from, .int m_token, .int m_value, .int m_faultKind, .int m_faultPlace, .ref m_qfresh, .int m_startOne, .int m_startOther, .int m_latest, .int m_leftBeats, .int m_signed, .int m_metMany, .ref m_qsums, .ref m_qpairs, .ref m_qgoesWith, .ref m_qsaid, .int m_saidMany, .int m_firstWait, .ref m_qfirstOrder, .int m_bundleFirst, .ref m_qtiredBy, .int m_tiredMany, .ref m_qmany, .ref m_qwidth, .ref m_qnumbers, .ref m_qmoving])), (m_qworld, .inl (cA 1, 122, .inl m_cworld)), (m_qsums, .inl (cA 1, 2304, .inl (u_2.2.2.1 0))), (m_qpairs, .inl (cA 1, 2304, .inl (u_2.2.2.1 1)))] := hD
        have hl : lv_has ls 6 [(5, .int L5_2228), (4, .int L4_2228), (3, .int L3_1975), (2, .int L2_1975), (1, .int (m_cworld 4)), (0, .ref h0)] := hl
        refine lv_iload hx hb dX12_layMatched_59 (lv_at hl 0 rfl) ?_
        refine lv_iload_n hx hb dX12_layMatched_61 rfl (lv_at hl 4 rfl) ?_
        refine lv_icmp_ge (tgt := 131) hx hb dX12_layMatched_62 (by decide) (fun c_2229 => ?_) (fun c_2229 => ?_)
        · skip
          have k_2230 := kk_le rfl rfl c_2229
          refine lv_iload hx hb dX12_layMatched_131 (lv_at hl 1 rfl) ?_
          refine lv_iconst (v := (-1)) hx hb dX12_layMatched_133 (by decide) ?_
          refine lv_icmp_ne (tgt := 140) hx hb dX12_layMatched_134 (by decide) (fun c_2231 => ?_) (fun c_2231 => ?_)
          · skip
            have k_2232 := kk_ne rfl zi_m1 c_2231
            refine lv_aload_n hx hb dX12_layMatched_140 rfl (lv_at hl 5 rfl) ?_
            refine va_get (D := D) (ci := 12) (v := .ref m_qgoesWith) (C := RX12) (T := TX12) (N := 35) hx hb hts inX12 hown hKN.1 hP 1 rfl rfl 23 (by decide) (hts _ tw_1442) (fun _ h9 => h9) rfl dX12_layMatched_141 ?_
            refine lv_iload_n hx hb dX12_layMatched_144 rfl (lv_at hl 2 rfl) ?_
            refine lv_iload hx hb dX12_layMatched_145 (lv_at hl 1 rfl) ?_
            refine va_iast hx hb hKN.1 hP hD hS 0 1 rfl rfl (vp_in_iff.mpr ⟨by omega, by omega⟩) dX12_layMatched_147 (fun H locs hP hD hS => ?_)
            have hP : va_P D vwCl [(m_qgoesWith, .inl (cA 1, 8, .inl (upd F2_1975 L3_1975.toNatClampNeg L4_2228))), (h0, .inr (12, [.int m_thrown, .ref m_qworld, .ref m_qimages, .ref m_qhasImage, .ref m_qtape, .int m_taped, .ref m_qfive, .int m_size, .int m_at, .int m_from, .int m_token, .int m_value, .int m_faultKind, .int m_faultPlace, .ref m_qfresh, .int m_startOne, .int m_startOther, .int m_latest, .int m_leftBeats, .int m_signed, .int m_metMany, .ref m_qsums, .ref m_qpairs, .ref m_qgoesWith, .ref m_qsaid, .int m_saidMany, .int m_firstWait, .ref m_qfirstOrder, .int m_bundleFirst, .ref m_qtiredBy, .int m_tiredMany, .ref m_qmany, .ref m_qwidth, .ref m_qnumbers, .ref m_qmoving])), (m_qworld, .inl (cA 1, 122, .inl m_cworld)), (m_qsums, .inl (cA 1, 2304, .inl (u_2.2.2.1 0))), (m_qpairs, .inl (cA 1, 2304, .inl (u_2.2.2.1 1)))] H := hP
            have hD : va_D A [(m_qgoesWith, .inl (cA 1, 8, .inl (upd F2_1975 L3_1975.toNatClampNeg L4_2228))), (h0, .inr (12, [.int m_thrown, .ref m_qworld, .ref m_qimages, .ref m_qhasImage, .ref m_qtape, .int m_taped, .ref m_qfive, .int m_size, .int m_at, .int m_from, .int m_token, .int m_value, .int m_faultKind, .int m_faultPlace, .ref m_qfresh, .int m_startOne, .int m_startOther, .int m_latest, .int m_leftBeats, .int m_signed, .int m_metMany, .ref m_qsums, .ref m_qpairs, .ref m_qgoesWith, .ref m_qsaid, .int m_saidMany, .int m_firstWait, .ref m_qfirstOrder, .int m_bundleFirst, .ref m_qtiredBy, .int m_tiredMany, .ref m_qmany, .ref m_qwidth, .ref m_qnumbers, .ref m_qmoving])), (m_qworld, .inl (cA 1, 122, .inl m_cworld)), (m_qsums, .inl (cA 1, 2304, .inl (u_2.2.2.1 0))), (m_qpairs, .inl (cA 1, 2304, .inl (u_2.2.2.1 1)))] := hD
            generalize ef_2233 : (upd F2_1975 L3_1975.toNatClampNeg L4_2228) = f_2233 at hP hD
            refine lv_aload_n hx hb dX12_layMatched_148 rfl (lv_at hl 5 rfl) ?_
            refine va_get (D := D) (ci := 12) (v := .ref m_qgoesWith) (C := RX12) (T := TX12) (N := 35) hx hb hts inX12 hown hKN.1 hP 1 rfl rfl 23 (by decide) (hts _ tw_1442) (fun _ h9 => h9) rfl dX12_layMatched_149 ?_
            refine lv_iload hx hb dX12_layMatched_152 (lv_at hl 1 rfl) ?_
            refine lv_iload_n hx hb dX12_layMatched_154 rfl (lv_at hl 2 rfl) ?_
            refine va_iast hx hb hKN.1 hP hD hS 0 1 rfl rfl (vp_in_iff.mpr ⟨by omega, by omega⟩) dX12_layMatched_155 (fun H locs hP hD hS => ?_)
            have hP : va_P D vwCl [(m_qgoesWith, .inl (cA 1, 8, .inl (upd f_2233 L4_2228.toNatClampNeg L3_1975))), (h0, .inr (12, [.int m_thrown, .ref m_qworld, .ref m_qimages, .ref m_qhasImage, .ref m_qtape, .int m_taped, .ref m_qfive, .int m_size, .int m_at, .int m_from, .int m_token, .int m_value, .int m_faultKind, .int m_faultPlace, .ref m_qfresh, .int m_startOne, .int m_startOther, .int m_latest, .int m_leftBeats, .int m_signed, .int m_metMany, .ref m_qsums, .ref m_qpairs, .ref m_qgoesWith, .ref m_qsaid, .int m_saidMany, .int m_firstWait, .ref m_qfirstOrder, .int m_bundleFirst, .ref m_qtiredBy, .int m_tiredMany, .ref m_qmany, .ref m_qwidth, .ref m_qnumbers, .ref m_qmoving])), (m_qworld, .inl (cA 1, 122, .inl m_cworld)), (m_qsums, .inl (cA 1, 2304, .inl (u_2.2.2.1 0))), (m_qpairs, .inl (cA 1, 2304, .inl (u_2.2.2.1 1)))] H := hP
            have hD : va_D A [(m_qgoesWith, .inl (cA 1, 8, .inl (upd f_2233 L4_2228.toNatClampNeg L3_1975))), (h0, .inr (12, [.int m_thrown, .ref m_qworld, .ref m_qimages, .ref m_qhasImage, .ref m_qtape, .int m_taped, .ref m_qfive, .int m_size, .int m_at, .int m_from, .int m_token, .int m_value, .int m_faultKind, .int m_faultPlace, .ref m_qfresh, .int m_startOne, .int m_startOther, .int m_latest, .int m_leftBeats, .int m_signed, .int m_metMany, .ref m_qsums, .ref m_qpairs, .ref m_qgoesWith, .ref m_qsaid, .int m_saidMany, .int m_firstWait, .ref m_qfirstOrder, .int m_bundleFirst, .ref m_qtiredBy, .int m_tiredMany, .ref m_qmany, .ref m_qwidth, .ref m_qnumbers, .ref m_qmoving])), (m_qworld, .inl (cA 1, 122, .inl m_cworld)), (m_qsums, .inl (cA 1, 2304, .inl (u_2.2.2.1 0))), (m_qpairs, .inl (cA 1, 2304, .inl (u_2.2.2.1 1)))] := hD
            generalize ef_2234 : (upd f_2233 L4_2228.toNatClampNeg L3_1975) = f_2234 at hP hD
            refine lv_iload_n hx hb dX12_layMatched_156 rfl (lv_at hl 3 rfl) ?_
            refine lv_iconst (v := 1) hx hb dX12_layMatched_157 (by decide) ?_
            refine lv_iload hx hb dX12_layMatched_158 (lv_at hl 1 rfl) ?_
            refine lv_ishl hx hb dX12_layMatched_160 ?_
            refine lv_topi (fun x_2235 ex_2235 => ?_)
            have k_2236 := ar_shl1 ex_2235 (by omega) (by omega)
            refine lv_ior hx hb dX12_layMatched_161 ?_
            refine lv_topi (fun x_2237 ex_2237 => ?_)
            have k_2238 := ar_or (n := 8) (M := 256) rfl rfl ex_2237 (by decide) (by decide) (by omega) (by omega)
            refine lv_istore_n (lv' := [(2, .int x_2237), (5, .int L5_2228), (4, .int L4_2228), (3, .int L3_1975), (1, .int (m_cworld 4)), (0, .ref h0)]) hx hb dX12_layMatched_162 rfl hl (by decide) rfl (fun ls hl => ?_)
            obtain ⟨x_2239, ex_2239⟩ : ∃ y : Int32, L3_1975 + Int32.ofInt 1 = y := ⟨_, rfl⟩
            have k_2240 := ar_add (b := 1) rfl zi_1 ex_2239.symm (by omega) (by omega)
            refine lv_iinc (v := x_2239) (lv' := [(3, .int x_2239), (2, .int x_2237), (5, .int L5_2228), (4, .int L4_2228), (1, .int (m_cworld 4)), (0, .ref h0)]) hx hb dX12_layMatched_163 hl (k := 3) rfl ex_2239 (by decide) rfl (fun ls hl => ?_)
            refine lv_goto (tgt := 36) hx hb dX12_layMatched_166 (by decide) ?_
            exact ih_1975 (x_2239, x_2237, f_2234) _ _ _ ⟨(show 0 ≤ x_2239.toInt ∧ x_2239.toInt ≤ 8 from by omega), (show 0 ≤ x_2237.toInt ∧ x_2237.toInt ≤ 255 from by omega), hP.sub [0, 1, 2, 3, 4] rfl, hD.sub [0, 1, 2, 3, 4] (by decide) rfl, hS, lv_sub hl [0, 1, 4, 5] rfl⟩ (by show (2147483647 - x_2239.toInt).toNat < (2147483647 - L3_1975.toInt).toNat; omega)
          · skip
            have k_2241 := kk_eq rfl zi_m1 c_2231
            refine lv_goto (tgt := 163) hx hb dX12_layMatched_137 (by decide) ?_
            obtain ⟨x_2242, ex_2242⟩ : ∃ y : Int32, L3_1975 + Int32.ofInt 1 = y := ⟨_, rfl⟩
            have k_2243 := ar_add (b := 1) rfl zi_1 ex_2242.symm (by omega) (by omega)
            refine lv_iinc (v := x_2242) (lv' := [(3, .int x_2242), (5, .int L5_2228), (4, .int L4_2228), (2, .int L2_1975), (1, .int (m_cworld 4)), (0, .ref h0)]) hx hb dX12_layMatched_163 hl (k := 2) rfl ex_2242 (by decide) rfl (fun ls hl => ?_)
            refine lv_goto (tgt := 36) hx hb dX12_layMatched_166 (by decide) ?_
            exact ih_1975 (x_2242, L2_1975, F2_1975) _ _ _ ⟨(show 0 ≤ x_2242.toInt ∧ x_2242.toInt ≤ 8 from by omega), (show 0 ≤ L2_1975.toInt ∧ L2_1975.toInt ≤ 255 from by omega), hP.sub [0, 1, 2, 3, 4] rfl, hD.sub [0, 1, 2, 3, 4] (by decide) rfl, hS, lv_sub hl [0, 3, 4, 5] rfl⟩ (by show (2147483647 - x_2242.toInt).toNat < (2147483647 - L3_1975.toInt).toNat; omega)
        · skip
          have k_2244 := kk_nle rfl rfl c_2229
          refine lv_iload hx hb dX12_layMatched_65 (lv_at hl 1 rfl) ?_
          refine lv_iconst (v := (-1)) hx hb dX12_layMatched_67 (by decide) ?_
          refine lv_icmp_ne (tgt := 131) hx hb dX12_layMatched_68 (by decide) (fun c_2245 => ?_) (fun c_2245 => ?_)
          · skip
            have k_2246 := kk_ne rfl zi_m1 c_2245
            refine lv_iload hx hb dX12_layMatched_131 (lv_at hl 1 rfl) ?_
            refine lv_iconst (v := (-1)) hx hb dX12_layMatched_133 (by decide) ?_
            refine lv_icmp_ne (tgt := 140) hx hb dX12_layMatched_134 (by decide) (fun c_2247 => ?_) (fun c_2247 => ?_)
            · skip
              have k_2248 := kk_ne rfl zi_m1 c_2247
              refine lv_aload_n hx hb dX12_layMatched_140 rfl (lv_at hl 5 rfl) ?_
              refine va_get (D := D) (ci := 12) (v := .ref m_qgoesWith) (C := RX12) (T := TX12) (N := 35) hx hb hts inX12 hown hKN.1 hP 1 rfl rfl 23 (by decide) (hts _ tw_1442) (fun _ h9 => h9) rfl dX12_layMatched_141 ?_
              refine lv_iload_n hx hb dX12_layMatched_144 rfl (lv_at hl 2 rfl) ?_
              refine lv_iload hx hb dX12_layMatched_145 (lv_at hl 1 rfl) ?_
              refine va_iast hx hb hKN.1 hP hD hS 0 1 rfl rfl (vp_in_iff.mpr ⟨by omega, by omega⟩) dX12_layMatched_147 (fun H locs hP hD hS => ?_)
              have hP : va_P D vwCl [(m_qgoesWith, .inl (cA 1, 8, .inl (upd F2_1975 L3_1975.toNatClampNeg L4_2228))), (h0, .inr (12, [.int m_thrown, .ref m_qworld, .ref m_qimages, .ref m_qhasImage, .ref m_qtape, .int m_taped, .ref m_qfive, .int m_size, .int m_at, .int m_from, .int m_token, .int m_value, .int m_faultKind, .int m_faultPlace, .ref m_qfresh, .int m_startOne, .int m_startOther, .int m_latest, .int m_leftBeats, .int m_signed, .int m_metMany, .ref m_qsums, .ref m_qpairs, .ref m_qgoesWith, .ref m_qsaid, .int m_saidMany, .int m_firstWait, .ref m_qfirstOrder, .int m_bundleFirst, .ref m_qtiredBy, .int m_tiredMany, .ref m_qmany, .ref m_qwidth, .ref m_qnumbers, .ref m_qmoving])), (m_qworld, .inl (cA 1, 122, .inl m_cworld)), (m_qsums, .inl (cA 1, 2304, .inl (u_2.2.2.1 0))), (m_qpairs, .inl (cA 1, 2304, .inl (u_2.2.2.1 1)))] H := hP
              have hD : va_D A [(m_qgoesWith, .inl (cA 1, 8, .inl (upd F2_1975 L3_1975.toNatClampNeg L4_2228))), (h0, .inr (12, [.int m_thrown, .ref m_qworld, .ref m_qimages, .ref m_qhasImage, .ref m_qtape, .int m_taped, .ref m_qfive, .int m_size, .int m_at, .int m_from, .int m_token, .int m_value, .int m_faultKind, .int m_faultPlace, .ref m_qfresh, .int m_startOne, .int m_startOther, .int m_latest, .int m_leftBeats, .int m_signed, .int m_metMany, .ref m_qsums, .ref m_qpairs, .ref m_qgoesWith, .ref m_qsaid, .int m_saidMany, .int m_firstWait, .ref m_qfirstOrder, .int m_bundleFirst, .ref m_qtiredBy, .int m_tiredMany, .ref m_qmany, .ref m_qwidth, .ref m_qnumbers, .ref m_qmoving])), (m_qworld, .inl (cA 1, 122, .inl m_cworld)), (m_qsums, .inl (cA 1, 2304, .inl (u_2.2.2.1 0))), (m_qpairs, .inl (cA 1, 2304, .inl (u_2.2.2.1 1)))] := hD
              generalize ef_2249 : (upd F2_1975 L3_1975.toNatClampNeg L4_2228) = f_2249 at hP hD
              refine lv_aload_n hx hb dX12_layMatched_148 rfl (lv_at hl 5 rfl) ?_
              refine va_get (D := D) (ci := 12) (v := .ref m_qgoesWith) (C := RX12) (T := TX12) (N := 35) hx hb hts inX12 hown hKN.1 hP 1 rfl rfl 23 (by decide) (hts _ tw_1442) (fun _ h9 => h9) rfl dX12_layMatched_149 ?_
              refine lv_iload hx hb dX12_layMatched_152 (lv_at hl 1 rfl) ?_
              refine lv_iload_n hx hb dX12_layMatched_154 rfl (lv_at hl 2 rfl) ?_
              refine va_iast hx hb hKN.1 hP hD hS 0 1 rfl rfl (vp_in_iff.mpr ⟨by omega, by omega⟩) dX12_layMatched_155 (fun H locs hP hD hS => ?_)
              have hP : va_P D vwCl [(m_qgoesWith, .inl (cA 1, 8, .inl (upd f_2249 L4_2228.toNatClampNeg L3_1975))), (h0, .inr (12, [.int m_thrown, .ref m_qworld, .ref m_qimages, .ref m_qhasImage, .ref m_qtape, .int m_taped, .ref m_qfive, .int m_size, .int m_at, .int m_from, .int m_token, .int m_value, .int m_faultKind, .int m_faultPlace, .ref m_qfresh, .int m_startOne, .int m_startOther, .int m_latest, .int m_leftBeats, .int m_signed, .int m_metMany, .ref m_qsums, .ref m_qpairs, .ref m_qgoesWith, .ref m_qsaid, .int m_saidMany, .int m_firstWait, .ref m_qfirstOrder, .int m_bundleFirst, .ref m_qtiredBy, .int m_tiredMany, .ref m_qmany, .ref m_qwidth, .ref m_qnumbers, .ref m_qmoving])), (m_qworld, .inl (cA 1, 122, .inl m_cworld)), (m_qsums, .inl (cA 1, 2304, .inl (u_2.2.2.1 0))), (m_qpairs, .inl (cA 1, 2304, .inl (u_2.2.2.1 1)))] H := hP
              have hD : va_D A [(m_qgoesWith, .inl (cA 1, 8, .inl (upd f_2249 L4_2228.toNatClampNeg L3_1975))), (h0, .inr (12, [.int m_thrown, .ref m_qworld, .ref m_qimages, .ref m_qhasImage, .ref m_qtape, .int m_taped, .ref m_qfive, .int m_size, .int m_at, .int m_from, .int m_token, .int m_value, .int m_faultKind, .int m_faultPlace, .ref m_qfresh, .int m_startOne, .int m_startOther, .int m_latest, .int m_leftBeats, .int m_signed, .int m_metMany, .ref m_qsums, .ref m_qpairs, .ref m_qgoesWith, .ref m_qsaid, .int m_saidMany, .int m_firstWait, .ref m_qfirstOrder, .int m_bundleFirst, .ref m_qtiredBy, .int m_tiredMany, .ref m_qmany, .ref m_qwidth, .ref m_qnumbers, .ref m_qmoving])), (m_qworld, .inl (cA 1, 122, .inl m_cworld)), (m_qsums, .inl (cA 1, 2304, .inl (u_2.2.2.1 0))), (m_qpairs, .inl (cA 1, 2304, .inl (u_2.2.2.1 1)))] := hD
              generalize ef_2250 : (upd f_2249 L4_2228.toNatClampNeg L3_1975) = f_2250 at hP hD
              refine lv_iload_n hx hb dX12_layMatched_156 rfl (lv_at hl 3 rfl) ?_
              refine lv_iconst (v := 1) hx hb dX12_layMatched_157 (by decide) ?_
              refine lv_iload hx hb dX12_layMatched_158 (lv_at hl 1 rfl) ?_
              refine lv_ishl hx hb dX12_layMatched_160 ?_
              refine lv_topi (fun x_2251 ex_2251 => ?_)
              have k_2252 := ar_shl1 ex_2251 (by omega) (by omega)
              refine lv_ior hx hb dX12_layMatched_161 ?_
              refine lv_topi (fun x_2253 ex_2253 => ?_)
              have k_2254 := ar_or (n := 8) (M := 256) rfl rfl ex_2253 (by decide) (by decide) (by omega) (by omega)
              refine lv_istore_n (lv' := [(2, .int x_2253), (5, .int L5_2228), (4, .int L4_2228), (3, .int L3_1975), (1, .int (m_cworld 4)), (0, .ref h0)]) hx hb dX12_layMatched_162 rfl hl (by decide) rfl (fun ls hl => ?_)
              obtain ⟨x_2255, ex_2255⟩ : ∃ y : Int32, L3_1975 + Int32.ofInt 1 = y := ⟨_, rfl⟩
              have k_2256 := ar_add (b := 1) rfl zi_1 ex_2255.symm (by omega) (by omega)
              refine lv_iinc (v := x_2255) (lv' := [(3, .int x_2255), (2, .int x_2253), (5, .int L5_2228), (4, .int L4_2228), (1, .int (m_cworld 4)), (0, .ref h0)]) hx hb dX12_layMatched_163 hl (k := 3) rfl ex_2255 (by decide) rfl (fun ls hl => ?_)
              refine lv_goto (tgt := 36) hx hb dX12_layMatched_166 (by decide) ?_
              exact ih_1975 (x_2255, x_2253, f_2250) _ _ _ ⟨(show 0 ≤ x_2255.toInt ∧ x_2255.toInt ≤ 8 from by omega), (show 0 ≤ x_2253.toInt ∧ x_2253.toInt ≤ 255 from by omega), hP.sub [0, 1, 2, 3, 4] rfl, hD.sub [0, 1, 2, 3, 4] (by decide) rfl, hS, lv_sub hl [0, 1, 4, 5] rfl⟩ (by show (2147483647 - x_2255.toInt).toNat < (2147483647 - L3_1975.toInt).toNat; omega)
            · skip
              have k_2257 := kk_eq rfl zi_m1 c_2247
              exfalso; omega
          · skip
            have k_2258 := kk_eq rfl zi_m1 c_2245
            refine lv_aload_n hx hb dX12_layMatched_71 rfl (lv_at hl 5 rfl) ?_
            refine lv_iload hx hb dX12_layMatched_72 (lv_at hl 0 rfl) ?_
            refine lv_iconst (v := 0) hx hb dX12_layMatched_74 (by decide) ?_
            refine cpVi (rest := []) ⟨hx, hb, hml, hown, hts⟩ hKN (hP.sub (ws' := [(h0, .inr (12, [.int m_thrown, .ref m_qworld, .ref m_qimages, .ref m_qhasImage, .ref m_qtape, .int m_taped, .ref m_qfive, .int m_size, .int m_at, .int m_from, .int m_token, .int m_value, .int m_faultKind, .int m_faultPlace, .ref m_qfresh, .int m_startOne, .int m_startOther, .int m_latest, .int m_leftBeats, .int m_signed, .int m_metMany, .ref m_qsums, .ref m_qpairs, .ref m_qgoesWith, .ref m_qsaid, .int m_saidMany, .int m_firstWait, .ref m_qfirstOrder, .int m_bundleFirst, .ref m_qtiredBy, .int m_tiredMany, .ref m_qmany, .ref m_qwidth, .ref m_qnumbers, .ref m_qmoving])), (m_qworld, .inl (cA 1, 122, .inl m_cworld))]) [1, 2] rfl) (g_X12_of l D cA h0 m_thrown m_qworld m_qimages m_qhasImage m_qtape m_taped m_qfive m_size m_at m_from m_token m_value m_faultKind m_faultPlace m_qfresh m_startOne m_startOther m_latest m_leftBeats m_signed m_metMany m_qsums m_qpairs m_qgoesWith m_qsaid m_saidMany m_firstWait m_qfirstOrder m_bundleFirst m_qtiredBy m_tiredMany m_qmany m_qwidth m_qnumbers m_qmoving m_cworld L5_2228 0 (by omega) (by omega) (by omega) (by omega) (by omega) (by omega) (by omega) (by decide) a_m_cworld_0) (tb_V tw_1640 tw_1642 tw_50 tw_114 tw_1643) hdX12_of ⟨rfl, rfl, Nat.le_of_ble_eq_true rfl, Nat.le_of_ble_eq_true rfl⟩ ⟨Nat.le_of_ble_eq_true rfl, Nat.le_of_ble_eq_true rfl⟩ rfl rfl rfl hl.1 rfl (Nat.le_of_ble_eq_true rfl) dX12_layMatched_75 (fun r_2259 hr_2259 => ?_)
            obtain ⟨k_2259_0_0, k_2259_0_1⟩ := hr_2259
            refine lv_iconst (v := 1) hx hb dX12_layMatched_78 (by decide) ?_
            refine lv_icmp_ne (tgt := 125) hx hb dX12_layMatched_79 (by decide) (fun c_2260 => ?_) (fun c_2260 => ?_)
            · skip
              have k_2261 := kk_ne rfl zi_1 c_2260
              obtain ⟨x_2262, ex_2262⟩ : ∃ y : Int32, L5_2228 + Int32.ofInt 1 = y := ⟨_, rfl⟩
              have k_2263 := ar_add (b := 1) rfl zi_1 ex_2262.symm (by omega) (by omega)
              refine lv_iinc (v := x_2262) (lv' := [(5, .int x_2262), (4, .int L4_2228), (3, .int L3_1975), (2, .int L2_1975), (1, .int (m_cworld 4)), (0, .ref h0)]) hx hb dX12_layMatched_125 hl (k := 0) rfl ex_2262 (by decide) rfl (fun ls hl => ?_)
              refine lv_goto (tgt := 59) hx hb dX12_layMatched_128 (by decide) ?_
              exact ih_2228 (x_2262, L4_2228) _ _ _ ⟨(show 0 ≤ x_2262.toInt ∧ x_2262.toInt ≤ 8 from by omega), (show -1 ≤ L4_2228.toInt ∧ L4_2228.toInt ≤ 7 from by omega), hP.sub [0, 1, 2, 3, 4] rfl, hD.sub [0, 1, 2, 3, 4] (by decide) rfl, hS, lv_sub hl [0, 1, 2, 3, 4, 5] rfl⟩ (by show (2147483647 - x_2262.toInt).toNat < (2147483647 - L5_2228.toInt).toNat; omega)
            · skip
              have k_2264 := kk_eq rfl zi_1 c_2260
              refine lv_iload_n hx hb dX12_layMatched_82 rfl (lv_at hl 3 rfl) ?_
              refine lv_iload hx hb dX12_layMatched_83 (lv_at hl 0 rfl) ?_
              refine cpSi (rest := []) ⟨hx, hb, hml, hown, hts⟩ hKN (hP.sub (ws' := []) [] rfl) (g_X12_bit l D cA L2_1975 L5_2228) (tb_S tw_1807 tw_1808 tw_114 tw_1809) hdX12_bit ⟨rfl, rfl, Nat.le_of_ble_eq_true rfl, Nat.le_of_ble_eq_true rfl⟩ ⟨Nat.le_of_ble_eq_true rfl, Nat.le_of_ble_eq_true rfl⟩ rfl hl.1 rfl (Nat.le_of_ble_eq_true rfl) dX12_layMatched_85 (fun r_2265 hr_2265 => ?_)
              refine lv_if_ne (tgt := 125) hx hb dX12_layMatched_88 (by decide) (fun c_2266 => ?_) (fun c_2266 => ?_)
              · skip
                have k_2267 := kk_ne rfl zi_0 c_2266
                obtain ⟨x_2268, ex_2268⟩ : ∃ y : Int32, L5_2228 + Int32.ofInt 1 = y := ⟨_, rfl⟩
                have k_2269 := ar_add (b := 1) rfl zi_1 ex_2268.symm (by omega) (by omega)
                refine lv_iinc (v := x_2268) (lv' := [(5, .int x_2268), (4, .int L4_2228), (3, .int L3_1975), (2, .int L2_1975), (1, .int (m_cworld 4)), (0, .ref h0)]) hx hb dX12_layMatched_125 hl (k := 0) rfl ex_2268 (by decide) rfl (fun ls hl => ?_)
                refine lv_goto (tgt := 59) hx hb dX12_layMatched_128 (by decide) ?_
                exact ih_2228 (x_2268, L4_2228) _ _ _ ⟨(show 0 ≤ x_2268.toInt ∧ x_2268.toInt ≤ 8 from by omega), (show -1 ≤ L4_2228.toInt ∧ L4_2228.toInt ≤ 7 from by omega), hP.sub [0, 1, 2, 3, 4] rfl, hD.sub [0, 1, 2, 3, 4] (by decide) rfl, hS, lv_sub hl [0, 1, 2, 3, 4, 5] rfl⟩ (by show (2147483647 - x_2268.toInt).toNat < (2147483647 - L5_2228.toInt).toNat; omega)
              · skip
                have k_2270 := kk_eq rfl zi_0 c_2266
                refine lv_aload_n hx hb dX12_layMatched_91 rfl (lv_at hl 5 rfl) ?_
                refine lv_iload_n hx hb dX12_layMatched_92 rfl (lv_at hl 2 rfl) ?_
                refine lv_iload hx hb dX12_layMatched_93 (lv_at hl 0 rfl) ?_
                refine cpVi (rest := []) ⟨hx, hb, hml, hown, hts⟩ hKN (hP.sub (ws' := [(h0, .inr (12, [.int m_thrown, .ref m_qworld, .ref m_qimages, .ref m_qhasImage, .ref m_qtape, .int m_taped, .ref m_qfive, .int m_size, .int m_at, .int m_from, .int m_token, .int m_value, .int m_faultKind, .int m_faultPlace, .ref m_qfresh, .int m_startOne, .int m_startOther, .int m_latest, .int m_leftBeats, .int m_signed, .int m_metMany, .ref m_qsums, .ref m_qpairs, .ref m_qgoesWith, .ref m_qsaid, .int m_saidMany, .int m_firstWait, .ref m_qfirstOrder, .int m_bundleFirst, .ref m_qtiredBy, .int m_tiredMany, .ref m_qmany, .ref m_qwidth, .ref m_qnumbers, .ref m_qmoving])), (m_qworld, .inl (cA 1, 122, .inl m_cworld))]) [1, 2] rfl) (g_X12_holdOf l D cA h0 m_thrown m_qworld m_qimages m_qhasImage m_qtape m_taped m_qfive m_size m_at m_from m_token m_value m_faultKind m_faultPlace m_qfresh m_startOne m_startOther m_latest m_leftBeats m_signed m_metMany m_qsums m_qpairs m_qgoesWith m_qsaid m_saidMany m_firstWait m_qfirstOrder m_bundleFirst m_qtiredBy m_tiredMany m_qmany m_qwidth m_qnumbers m_qmoving m_cworld L3_1975 L5_2228 (by omega) (by omega) (by omega) (by omega) (by omega) (by omega) (by omega) (by omega) a_m_cworld_0) (tb_V tw_1700 tw_1702 tw_63 tw_114 tw_1703) hdX12_holdOf ⟨rfl, rfl, Nat.le_of_ble_eq_true rfl, Nat.le_of_ble_eq_true rfl⟩ ⟨Nat.le_of_ble_eq_true rfl, Nat.le_of_ble_eq_true rfl⟩ rfl rfl rfl hl.1 rfl (Nat.le_of_ble_eq_true rfl) dX12_layMatched_95 (fun r_2271 hr_2271 => ?_)
                refine lv_aload_n hx hb dX12_layMatched_98 rfl (lv_at hl 5 rfl) ?_
                refine lv_iload_n hx hb dX12_layMatched_99 rfl (lv_at hl 2 rfl) ?_
                refine lv_iconst (v := 1) hx hb dX12_layMatched_100 (by decide) ?_
                refine lv_iadd hx hb dX12_layMatched_101 ?_
                refine lv_topi (fun x_2272 ex_2272 => ?_)
                have k_2273 := ar_add rfl zi_1 ex_2272 (by omega) (by omega)
                refine lv_iload_n hx hb dX12_layMatched_102 rfl (lv_at hl 3 rfl) ?_
                refine lv_iconst (v := 1) hx hb dX12_layMatched_103 (by decide) ?_
                refine lv_iload hx hb dX12_layMatched_104 (lv_at hl 0 rfl) ?_
                refine lv_ishl hx hb dX12_layMatched_106 ?_
                refine lv_topi (fun x_2274 ex_2274 => ?_)
                have k_2275 := ar_shl1 ex_2274 (by omega) (by omega)
                refine lv_ior hx hb dX12_layMatched_107 ?_
                refine lv_topi (fun x_2276 ex_2276 => ?_)
                have k_2277 := ar_or (n := 8) (M := 256) rfl rfl ex_2276 (by decide) (by decide) (by omega) (by omega)
                refine cpVi (rest := [.int r_2271]) ⟨hx, hb, hml, hown, hts⟩ hKN (hP.sub (ws' := [(h0, .inr (12, [.int m_thrown, .ref m_qworld, .ref m_qimages, .ref m_qhasImage, .ref m_qtape, .int m_taped, .ref m_qfive, .int m_size, .int m_at, .int m_from, .int m_token, .int m_value, .int m_faultKind, .int m_faultPlace, .ref m_qfresh, .int m_startOne, .int m_startOther, .int m_latest, .int m_leftBeats, .int m_signed, .int m_metMany, .ref m_qsums, .ref m_qpairs, .ref m_qgoesWith, .ref m_qsaid, .int m_saidMany, .int m_firstWait, .ref m_qfirstOrder, .int m_bundleFirst, .ref m_qtiredBy, .int m_tiredMany, .ref m_qmany, .ref m_qwidth, .ref m_qnumbers, .ref m_qmoving])), (m_qsums, .inl (cA 1, 2304, .inl (u_2.2.2.1 0)))]) [1, 3] rfl) (g_X12_sumFrom l D cA h0 m_thrown m_qworld m_qimages m_qhasImage m_qtape m_taped m_qfive m_size m_at m_from m_token m_value m_faultKind m_faultPlace m_qfresh m_startOne m_startOther m_latest m_leftBeats m_signed m_metMany m_qsums m_qpairs m_qgoesWith m_qsaid m_saidMany m_firstWait m_qfirstOrder m_bundleFirst m_qtiredBy m_tiredMany m_qmany m_qwidth m_qnumbers m_qmoving (u_2.2.2.1 0) x_2272 x_2276 (by omega) (by omega) (by omega) (by omega) (by omega) (by omega) (by omega) (by omega)) (tb_V tw_1803 tw_1805 tw_71 tw_114 tw_1806) hdX12_sumFrom ⟨rfl, rfl, Nat.le_of_ble_eq_true rfl, Nat.le_of_ble_eq_true rfl⟩ ⟨Nat.le_of_ble_eq_true rfl, Nat.le_of_ble_eq_true rfl⟩ rfl rfl rfl hl.1 rfl (Nat.le_of_ble_eq_true rfl) dX12_layMatched_108 (fun r_2278 hr_2278 => ?_)
                refine lv_iadd hx hb dX12_layMatched_111 ?_
                refine lv_topi (fun x_2279 ex_2279 => ?_)
                refine lv_aload_n hx hb dX12_layMatched_112 rfl (lv_at hl 5 rfl) ?_
                refine lv_iload_n hx hb dX12_layMatched_113 rfl (lv_at hl 2 rfl) ?_
                refine lv_iload_n hx hb dX12_layMatched_114 rfl (lv_at hl 3 rfl) ?_
                refine cpVi (rest := [.int x_2279]) ⟨hx, hb, hml, hown, hts⟩ hKN (hP.sub (ws' := [(h0, .inr (12, [.int m_thrown, .ref m_qworld, .ref m_qimages, .ref m_qhasImage, .ref m_qtape, .int m_taped, .ref m_qfive, .int m_size, .int m_at, .int m_from, .int m_token, .int m_value, .int m_faultKind, .int m_faultPlace, .ref m_qfresh, .int m_startOne, .int m_startOther, .int m_latest, .int m_leftBeats, .int m_signed, .int m_metMany, .ref m_qsums, .ref m_qpairs, .ref m_qgoesWith, .ref m_qsaid, .int m_saidMany, .int m_firstWait, .ref m_qfirstOrder, .int m_bundleFirst, .ref m_qtiredBy, .int m_tiredMany, .ref m_qmany, .ref m_qwidth, .ref m_qnumbers, .ref m_qmoving])), (m_qsums, .inl (cA 1, 2304, .inl (u_2.2.2.1 0)))]) [1, 3] rfl) (g_X12_sumFrom l D cA h0 m_thrown m_qworld m_qimages m_qhasImage m_qtape m_taped m_qfive m_size m_at m_from m_token m_value m_faultKind m_faultPlace m_qfresh m_startOne m_startOther m_latest m_leftBeats m_signed m_metMany m_qsums m_qpairs m_qgoesWith m_qsaid m_saidMany m_firstWait m_qfirstOrder m_bundleFirst m_qtiredBy m_tiredMany m_qmany m_qwidth m_qnumbers m_qmoving (u_2.2.2.1 0) L3_1975 L2_1975 (by omega) (by omega) (by omega) (by omega) (by omega) (by omega) (by omega) (by omega)) (tb_V tw_1803 tw_1805 tw_71 tw_114 tw_1806) hdX12_sumFrom ⟨rfl, rfl, Nat.le_of_ble_eq_true rfl, Nat.le_of_ble_eq_true rfl⟩ ⟨Nat.le_of_ble_eq_true rfl, Nat.le_of_ble_eq_true rfl⟩ rfl rfl rfl hl.1 rfl (Nat.le_of_ble_eq_true rfl) dX12_layMatched_115 (fun r_2281 hr_2281 => ?_)
                refine lv_icmp_ne (tgt := 125) hx hb dX12_layMatched_118 (by decide) (fun c_2282 => ?_) (fun c_2282 => ?_)
                · skip
                  have b_2284 := i32_bd x_2279
                  have b_2285 := i32_bd r_2281
                  have k_2283 := kk_ne rfl rfl c_2282
                  obtain ⟨x_2286, ex_2286⟩ : ∃ y : Int32, L5_2228 + Int32.ofInt 1 = y := ⟨_, rfl⟩
                  have k_2287 := ar_add (b := 1) rfl zi_1 ex_2286.symm (by omega) (by omega)
                  refine lv_iinc (v := x_2286) (lv' := [(5, .int x_2286), (4, .int L4_2228), (3, .int L3_1975), (2, .int L2_1975), (1, .int (m_cworld 4)), (0, .ref h0)]) hx hb dX12_layMatched_125 hl (k := 0) rfl ex_2286 (by decide) rfl (fun ls hl => ?_)
                  refine lv_goto (tgt := 59) hx hb dX12_layMatched_128 (by decide) ?_
                  exact ih_2228 (x_2286, L4_2228) _ _ _ ⟨(show 0 ≤ x_2286.toInt ∧ x_2286.toInt ≤ 8 from by omega), (show -1 ≤ L4_2228.toInt ∧ L4_2228.toInt ≤ 7 from by omega), hP.sub [0, 1, 2, 3, 4] rfl, hD.sub [0, 1, 2, 3, 4] (by decide) rfl, hS, lv_sub hl [0, 1, 2, 3, 4, 5] rfl⟩ (by show (2147483647 - x_2286.toInt).toNat < (2147483647 - L5_2228.toInt).toNat; omega)
                · skip
                  have b_2289 := i32_bd x_2279
                  have b_2290 := i32_bd r_2281
                  have k_2288 := kk_eq rfl rfl c_2282
                  refine lv_iload hx hb dX12_layMatched_121 (lv_at hl 0 rfl) ?_
                  refine lv_istore (lv' := [(4, .int L5_2228), (5, .int L5_2228), (3, .int L3_1975), (2, .int L2_1975), (1, .int (m_cworld 4)), (0, .ref h0)]) hx hb dX12_layMatched_123 hl (by decide) rfl (fun ls hl => ?_)
                  obtain ⟨x_2291, ex_2291⟩ : ∃ y : Int32, L5_2228 + Int32.ofInt 1 = y := ⟨_, rfl⟩
                  have k_2292 := ar_add (b := 1) rfl zi_1 ex_2291.symm (by omega) (by omega)
                  refine lv_iinc (v := x_2291) (lv' := [(5, .int x_2291), (4, .int L5_2228), (3, .int L3_1975), (2, .int L2_1975), (1, .int (m_cworld 4)), (0, .ref h0)]) hx hb dX12_layMatched_125 hl (k := 1) rfl ex_2291 (by decide) rfl (fun ls hl => ?_)
                  refine lv_goto (tgt := 59) hx hb dX12_layMatched_128 (by decide) ?_
                  exact ih_2228 (x_2291, L5_2228) _ _ _ ⟨(show 0 ≤ x_2291.toInt ∧ x_2291.toInt ≤ 8 from by omega), (show -1 ≤ L5_2228.toInt ∧ L5_2228.toInt ≤ 7 from by omega), hP.sub [0, 1, 2, 3, 4] rfl, hD.sub [0, 1, 2, 3, 4] (by decide) rfl, hS, lv_sub hl [0, 1, 2, 3, 4, 5] rfl⟩ (by show (2147483647 - x_2291.toInt).toNat < (2147483647 - L5_2228.toInt).toNat; omega)
      · skip
        have k_2293 := kk_ne rfl zi_0 c_1980
        refine lv_goto (tgt := 163) hx hb dX12_layMatched_50 (by decide) ?_
        obtain ⟨x_2294, ex_2294⟩ : ∃ y : Int32, L3_1975 + Int32.ofInt 1 = y := ⟨_, rfl⟩
        have k_2295 := ar_add (b := 1) rfl zi_1 ex_2294.symm (by omega) (by omega)
        refine lv_iinc (v := x_2294) (lv' := [(3, .int x_2294), (2, .int L2_1975), (1, .int (m_cworld 4)), (0, .ref h0)]) hx hb dX12_layMatched_163 hl (k := 0) rfl ex_2294 (by decide) rfl (fun ls hl => ?_)
        refine lv_goto (tgt := 36) hx hb dX12_layMatched_166 (by decide) ?_
        exact ih_1975 (x_2294, L2_1975, F2_1975) _ _ _ ⟨(show 0 ≤ x_2294.toInt ∧ x_2294.toInt ≤ 8 from by omega), (show 0 ≤ L2_1975.toInt ∧ L2_1975.toInt ≤ 255 from by omega), hP.sub [0, 1, 2, 3, 4] rfl, hD.sub [0, 1, 2, 3, 4] (by decide) rfl, hS, lv_sub hl [0, 1, 2, 3] rfl⟩ (by show (2147483647 - x_2294.toInt).toNat < (2147483647 - L3_1975.toInt).toNat; omega)
  · skip
    have k_2296 := kk_nle rfl rfl c_47
    refine lv_aload_n hx hb dX12_layMatched_21 rfl (lv_at hl 3 rfl) ?_
    refine va_get (D := D) (ci := 12) (v := .ref m_qgoesWith) (C := RX12) (T := TX12) (N := 35) hx hb hts inX12 hown hKN.1 hP 1 rfl rfl 23 (by decide) (hts _ tw_1442) (fun _ h9 => h9) rfl dX12_layMatched_22 ?_
    refine lv_iload_n hx hb dX12_layMatched_25 rfl (lv_at hl 0 rfl) ?_
    refine lv_iconst (v := (-1)) hx hb dX12_layMatched_26 (by decide) ?_
    refine va_iast hx hb hKN.1 hP hD hS 0 1 rfl rfl (vp_in_iff.mpr ⟨by omega, by omega⟩) dX12_layMatched_27 (fun H locs hP hD hS => ?_)
    have hP : va_P D vwCl [(m_qgoesWith, .inl (cA 1, 8, .inl (upd F1_46 L3_46.toNatClampNeg (-1)))), (h0, .inr (12, [.int m_thrown, .ref m_qworld, .ref m_qimages, .ref m_qhasImage, .ref m_qtape, .int m_taped, .ref m_qfive, .int m_size, .int m_at, .int m_from, .int m_token, .int m_value, .int m_faultKind, .int m_faultPlace, .ref m_qfresh, .int m_startOne, .int m_startOther, .int m_latest, .int m_leftBeats, .int m_signed, .int m_metMany, .ref m_qsums, .ref m_qpairs, .ref m_qgoesWith, .ref m_qsaid, .int m_saidMany, .int m_firstWait, .ref m_qfirstOrder, .int m_bundleFirst, .ref m_qtiredBy, .int m_tiredMany, .ref m_qmany, .ref m_qwidth, .ref m_qnumbers, .ref m_qmoving])), (m_qworld, .inl (cA 1, 122, .inl m_cworld)), (m_qsums, .inl (cA 1, 2304, .inl (u_2.2.2.1 0))), (m_qpairs, .inl (cA 1, 2304, .inl (u_2.2.2.1 1)))] H := hP
    have hD : va_D A [(m_qgoesWith, .inl (cA 1, 8, .inl (upd F1_46 L3_46.toNatClampNeg (-1)))), (h0, .inr (12, [.int m_thrown, .ref m_qworld, .ref m_qimages, .ref m_qhasImage, .ref m_qtape, .int m_taped, .ref m_qfive, .int m_size, .int m_at, .int m_from, .int m_token, .int m_value, .int m_faultKind, .int m_faultPlace, .ref m_qfresh, .int m_startOne, .int m_startOther, .int m_latest, .int m_leftBeats, .int m_signed, .int m_metMany, .ref m_qsums, .ref m_qpairs, .ref m_qgoesWith, .ref m_qsaid, .int m_saidMany, .int m_firstWait, .ref m_qfirstOrder, .int m_bundleFirst, .ref m_qtiredBy, .int m_tiredMany, .ref m_qmany, .ref m_qwidth, .ref m_qnumbers, .ref m_qmoving])), (m_qworld, .inl (cA 1, 122, .inl m_cworld)), (m_qsums, .inl (cA 1, 2304, .inl (u_2.2.2.1 0))), (m_qpairs, .inl (cA 1, 2304, .inl (u_2.2.2.1 1)))] := hD
    generalize ef_2297 : (upd F1_46 L3_46.toNatClampNeg (-1)) = f_2297 at hP hD
    obtain ⟨x_2298, ex_2298⟩ : ∃ y : Int32, L3_46 + Int32.ofInt 1 = y := ⟨_, rfl⟩
    have k_2299 := ar_add (b := 1) rfl zi_1 ex_2298.symm (by omega) (by omega)
    refine lv_iinc (v := x_2298) (lv' := [(3, .int x_2298), (2, .int 0), (1, .int (m_cworld 4)), (0, .ref h0)]) hx hb dX12_layMatched_28 hl (k := 0) rfl ex_2298 (by decide) rfl (fun ls hl => ?_)
    refine lv_goto (tgt := 16) hx hb dX12_layMatched_31 (by decide) ?_
    exact ih_46 (x_2298, f_2297) _ _ _ ⟨(show 0 ≤ x_2298.toInt ∧ x_2298.toInt ≤ 8 from by omega), hP.sub [0, 1, 2, 3, 4] rfl, hD.sub [0, 1, 2, 3, 4] (by decide) rfl, hS, lv_sub hl [0, 1, 2, 3] rfl⟩ (by show (2147483647 - x_2298.toInt).toNat < (2147483647 - L3_46.toInt).toNat; omega)
set_option maxHeartbeats 8000000 in
set_option maxRecDepth 100000 in
theorem g_X12_matched (l : Launch) (D : va_G) (cA : Nat → ClassId) (sz : Nat) (h0 : Nat) (m_thrown : Int32) (m_qworld : Nat) (m_qimages : Nat) (m_qhasImage : Nat) (m_qtape : Nat) (m_taped : Int32) (m_qfive : Nat) (m_size : Int32) (m_at : Int32) (m_from : Int32) (m_token : Int32) (m_value : Int32) (m_faultKind : Int32) (m_faultPlace : Int32) (m_qfresh : Nat) (m_startOne : Int32) (m_startOther : Int32) (m_latest : Int32) (m_leftBeats : Int32) (m_signed : Int32) (m_metMany : Int32) (m_qsums : Nat) (m_qpairs : Nat) (m_qgoesWith : Nat) (m_qsaid : Nat) (m_saidMany : Int32) (m_firstWait : Int32) (m_qfirstOrder : Nat) (m_bundleFirst : Int32) (m_qtiredBy : Nat) (m_tiredMany : Int32) (m_qmany : Nat) (m_qwidth : Nat) (m_qnumbers : Nat) (m_qmoving : Nat) (m_cworld : Nat → Int32) (m_csums : Nat → Int32) (m_cpairs : Nat → Int32) (m_cgoesWith : Nat → Int32) (p0 : Int32) (h_m_taped : 0 ≤ (m_taped : Int32).toInt ∧ (m_taped : Int32).toInt ≤ 800) (h_m_size : 0 ≤ (m_size : Int32).toInt ∧ (m_size : Int32).toInt ≤ 800) (h_m_at : 0 ≤ (m_at : Int32).toInt ∧ (m_at : Int32).toInt ≤ 800) (h_m_from : 0 ≤ (m_from : Int32).toInt ∧ (m_from : Int32).toInt ≤ 800) (h_m_saidMany : 0 ≤ (m_saidMany : Int32).toInt ∧ (m_saidMany : Int32).toInt ≤ 60) (h_m_tiredMany : 0 ≤ (m_tiredMany : Int32).toInt ∧ (m_tiredMany : Int32).toInt ≤ 240) (a_m_cworld_0 : WI m_cworld) : Met l yX12_matched (Cond.code yX12_matched cX12_matched 2 (some .int) :: TB) (rmd 6 0 0) (PM D cA sz [(h0, .inr (12, [.int m_thrown, .ref m_qworld, .ref m_qimages, .ref m_qhasImage, .ref m_qtape, .int m_taped, .ref m_qfive, .int m_size, .int m_at, .int m_from, .int m_token, .int m_value, .int m_faultKind, .int m_faultPlace, .ref m_qfresh, .int m_startOne, .int m_startOther, .int m_latest, .int m_leftBeats, .int m_signed, .int m_metMany, .ref m_qsums, .ref m_qpairs, .ref m_qgoesWith, .ref m_qsaid, .int m_saidMany, .int m_firstWait, .ref m_qfirstOrder, .int m_bundleFirst, .ref m_qtiredBy, .int m_tiredMany, .ref m_qmany, .ref m_qwidth, .ref m_qnumbers, .ref m_qmoving])), (m_qworld, .inl (cA 1, 122, .inl m_cworld)), (m_qsums, .inl (cA 1, 2304, .inl m_csums)), (m_qpairs, .inl (cA 1, 2304, .inl m_cpairs)), (m_qgoesWith, .inl (cA 1, 8, .inl m_cgoesWith))] [.ref h0, .int p0]) (va_Qi (fun r (u : SU) => True) (fun u t => va_P D vwCl [(h0, .inr (12, [.int m_thrown, .ref m_qworld, .ref m_qimages, .ref m_qhasImage, .ref m_qtape, .int m_taped, .ref m_qfive, .int m_size, .int m_at, .int m_from, .int m_token, .int m_value, .int m_faultKind, .int m_faultPlace, .ref m_qfresh, .int m_startOne, .int m_startOther, .int m_latest, .int m_leftBeats, .int m_signed, .int m_metMany, .ref m_qsums, .ref m_qpairs, .ref m_qgoesWith, .ref m_qsaid, .int m_saidMany, .int m_firstWait, .ref m_qfirstOrder, .int m_bundleFirst, .ref m_qtiredBy, .int m_tiredMany, .ref m_qmany, .ref m_qwidth, .ref m_qnumbers, .ref m_qmoving])), (m_qworld, .inl (cA 1, 122, .inl m_cworld)), (m_qsums, .inl (cA 1, 2304, .inl (u.2.2.1 0))), (m_qpairs, .inl (cA 1, 2304, .inl (u.2.2.1 1))), (m_qgoesWith, .inl (cA 1, 8, .inl (u.2.2.1 2)))] t.heap ∧ va_D (va_A [(h0, .inr (12, [.int m_thrown, .ref m_qworld, .ref m_qimages, .ref m_qhasImage, .ref m_qtape, .int m_taped, .ref m_qfive, .int m_size, .int m_at, .int m_from, .int m_token, .int m_value, .int m_faultKind, .int m_faultPlace, .ref m_qfresh, .int m_startOne, .int m_startOther, .int m_latest, .int m_leftBeats, .int m_signed, .int m_metMany, .ref m_qsums, .ref m_qpairs, .ref m_qgoesWith, .ref m_qsaid, .int m_saidMany, .int m_firstWait, .ref m_qfirstOrder, .int m_bundleFirst, .ref m_qtiredBy, .int m_tiredMany, .ref m_qmany, .ref m_qwidth, .ref m_qnumbers, .ref m_qmoving])), (m_qworld, .inl (cA 1, 122, .inl m_cworld)), (m_qsums, .inl (cA 1, 2304, .inl m_csums)), (m_qpairs, .inl (cA 1, 2304, .inl m_cpairs)), (m_qgoesWith, .inl (cA 1, 8, .inl m_cgoesWith))] sz) [(h0, .inr (12, [.int m_thrown, .ref m_qworld, .ref m_qimages, .ref m_qhasImage, .ref m_qtape, .int m_taped, .ref m_qfive, .int m_size, .int m_at, .int m_from, .int m_token, .int m_value, .int m_faultKind, .int m_faultPlace, .ref m_qfresh, .int m_startOne, .int m_startOther, .int m_latest, .int m_leftBeats, .int m_signed, .int m_metMany, .ref m_qsums, .ref m_qpairs, .ref m_qgoesWith, .ref m_qsaid, .int m_saidMany, .int m_firstWait, .ref m_qfirstOrder, .int m_bundleFirst, .ref m_qtiredBy, .int m_tiredMany, .ref m_qmany, .ref m_qwidth, .ref m_qnumbers, .ref m_qmoving])), (m_qworld, .inl (cA 1, 122, .inl m_cworld)), (m_qsums, .inl (cA 1, 2304, .inl (u.2.2.1 0))), (m_qpairs, .inl (cA 1, 2304, .inl (u.2.2.1 1))), (m_qgoesWith, .inl (cA 1, 8, .inl (u.2.2.1 2)))]) (va_A [(h0, .inr (12, [.int m_thrown, .ref m_qworld, .ref m_qimages, .ref m_qhasImage, .ref m_qtape, .int m_taped, .ref m_qfive, .int m_size, .int m_at, .int m_from, .int m_token, .int m_value, .int m_faultKind, .int m_faultPlace, .ref m_qfresh, .int m_startOne, .int m_startOther, .int m_latest, .int m_leftBeats, .int m_signed, .int m_metMany, .ref m_qsums, .ref m_qpairs, .ref m_qgoesWith, .ref m_qsaid, .int m_saidMany, .int m_firstWait, .ref m_qfirstOrder, .int m_bundleFirst, .ref m_qtiredBy, .int m_tiredMany, .ref m_qmany, .ref m_qwidth, .ref m_qnumbers, .ref m_qmoving])), (m_qworld, .inl (cA 1, 122, .inl m_cworld)), (m_qsums, .inl (cA 1, 2304, .inl m_csums)), (m_qpairs, .inl (cA 1, 2304, .inl m_cpairs)), (m_qgoesWith, .inl (cA 1, 8, .inl m_cgoesWith))] sz)) 0 0 (va_A [(h0, .inr (12, [.int m_thrown, .ref m_qworld, .ref m_qimages, .ref m_qhasImage, .ref m_qtape, .int m_taped, .ref m_qfive, .int m_size, .int m_at, .int m_from, .int m_token, .int m_value, .int m_faultKind, .int m_faultPlace, .ref m_qfresh, .int m_startOne, .int m_startOther, .int m_latest, .int m_leftBeats, .int m_signed, .int m_metMany, .ref m_qsums, .ref m_qpairs, .ref m_qgoesWith, .ref m_qsaid, .int m_saidMany, .int m_firstWait, .ref m_qfirstOrder, .int m_bundleFirst, .ref m_qtiredBy, .int m_tiredMany, .ref m_qmany, .ref m_qwidth, .ref m_qnumbers, .ref m_qmoving])), (m_qworld, .inl (cA 1, 122, .inl m_cworld)), (m_qsums, .inl (cA 1, 2304, .inl m_csums)), (m_qpairs, .inl (cA 1, 2304, .inl m_cpairs)), (m_qgoesWith, .inl (cA 1, 8, .inl m_cgoesWith))] sz) := by
  refine Met.ofW (cc := cX12_matched) (maxL := 2) (ret := (some .int)) (by decide) rfl ?_
  intro p e s m args below meth c s₁ B hml hv
  obtain ⟨rfl, hsz, hP, hKN, hD0⟩ := hv
  have hx := B.exec
  have hb := B.bytes
  have hr := B.returns
  have hts : ∀ w ∈ TB, w.before _ s = true := fun w h => atoms_spec B.pre w (List.mem_cons_of_mem _ h)
  have hown : s.vm.findClass RX12 = some m.cls := findClass_of_methodNamed B.named
  have hlocks := B.notSynchronized
  subst hsz
  have hD := hD0.self (sz := s.heap.size)
  generalize hAe : va_A [(h0, .inr (12, [.int m_thrown, .ref m_qworld, .ref m_qimages, .ref m_qhasImage, .ref m_qtape, .int m_taped, .ref m_qfive, .int m_size, .int m_at, .int m_from, .int m_token, .int m_value, .int m_faultKind, .int m_faultPlace, .ref m_qfresh, .int m_startOne, .int m_startOther, .int m_latest, .int m_leftBeats, .int m_signed, .int m_metMany, .ref m_qsums, .ref m_qpairs, .ref m_qgoesWith, .ref m_qsaid, .int m_saidMany, .int m_firstWait, .ref m_qfirstOrder, .int m_bundleFirst, .ref m_qtiredBy, .int m_tiredMany, .ref m_qmany, .ref m_qwidth, .ref m_qnumbers, .ref m_qmoving])), (m_qworld, .inl (cA 1, 122, .inl m_cworld)), (m_qsums, .inl (cA 1, 2304, .inl m_csums)), (m_qpairs, .inl (cA 1, 2304, .inl m_cpairs)), (m_qgoesWith, .inl (cA 1, 8, .inl m_cgoesWith))] s.heap.size = A at hD ⊢
  have hA : ∀ q : Nat, s.heap.size ≤ q → A q := fun q h => by rw [← hAe]; exact Or.inr h
  have hS : va_S A s.heap s.heap [] := va_S.rf
  have hl := lv_entry ([.ref h0, .int p0]) (n := 2) (Nat.le_of_ble_eq_true rfl)
  rw [lg_entry_eq]
  generalize (lg_sl ([.ref h0, .int p0]) ++ List.replicate (2 - (lg_sl ([.ref h0, .int p0])).length) Slot.unset).toArray = ls at hl ⊢
  have hl : lv_has ls 2 [(0, .ref h0), (1, .int p0)] := hl
  refine lv_aload_n hx hb dX12_matched_0 rfl (lv_at hl 0 rfl) ?_
  refine lv_iload_n hx hb dX12_matched_1 rfl (lv_at hl 1 rfl) ?_
  obtain ⟨x_1, ex_1⟩ : ∃ y, p0.toInt64 = y := ⟨_, rfl⟩
  refine lv_i2l (v := x_1) hx hb dX12_matched_2 ex_1 ?_
  have k_2 := tt_i2l ex_1
  refine cpVi (rest := []) ⟨hx, hb, hml, hown, hts⟩ hKN (hP.sub (ws' := [(h0, .inr (12, [.int m_thrown, .ref m_qworld, .ref m_qimages, .ref m_qhasImage, .ref m_qtape, .int m_taped, .ref m_qfive, .int m_size, .int m_at, .int m_from, .int m_token, .int m_value, .int m_faultKind, .int m_faultPlace, .ref m_qfresh, .int m_startOne, .int m_startOther, .int m_latest, .int m_leftBeats, .int m_signed, .int m_metMany, .ref m_qsums, .ref m_qpairs, .ref m_qgoesWith, .ref m_qsaid, .int m_saidMany, .int m_firstWait, .ref m_qfirstOrder, .int m_bundleFirst, .ref m_qtiredBy, .int m_tiredMany, .ref m_qmany, .ref m_qwidth, .ref m_qnumbers, .ref m_qmoving])), (m_qworld, .inl (cA 1, 122, .inl m_cworld))]) [0, 1] rfl) (g_X12_isMan l D cA h0 m_thrown m_qworld m_qimages m_qhasImage m_qtape m_taped m_qfive m_size m_at m_from m_token m_value m_faultKind m_faultPlace m_qfresh m_startOne m_startOther m_latest m_leftBeats m_signed m_metMany m_qsums m_qpairs m_qgoesWith m_qsaid m_saidMany m_firstWait m_qfirstOrder m_bundleFirst m_qtiredBy m_tiredMany m_qmany m_qwidth m_qnumbers m_qmoving m_cworld x_1 (by omega) (by omega) (by omega) (by omega) (by omega) (by omega) a_m_cworld_0) (tb_V tw_1636 tw_1638 tw_49 tw_114 tw_1639) hdX12_isMan ⟨rfl, rfl, Nat.le_of_ble_eq_true rfl, Nat.le_of_ble_eq_true rfl⟩ ⟨Nat.le_of_ble_eq_true rfl, Nat.le_of_ble_eq_true rfl⟩ rfl rfl rfl hl.1 rfl (Nat.le_of_ble_eq_true rfl) dX12_matched_3 (fun r_3 hr_3 => ?_)
  rcases hr_3 with ⟨k_3_0_0, k_3_0_1, k_3_0_2, k_3_0_3, k_3_0_4, k_3_0_5, rfl⟩ | rfl
  · skip
    refine lv_if_ne (tgt := 12) hx hb dX12_matched_6 (by decide) (fun c_4 => ?_) (fun c_4 => absurd c_4 (by decide))
    refine lv_aload_n hx hb dX12_matched_12 rfl (lv_at hl 0 rfl) ?_
    refine cmVv (rest := []) (wsC := [(h0, .inr (12, [.int m_thrown, .ref m_qworld, .ref m_qimages, .ref m_qhasImage, .ref m_qtape, .int m_taped, .ref m_qfive, .int m_size, .int m_at, .int m_from, .int m_token, .int m_value, .int m_faultKind, .int m_faultPlace, .ref m_qfresh, .int m_startOne, .int m_startOther, .int m_latest, .int m_leftBeats, .int m_signed, .int m_metMany, .ref m_qsums, .ref m_qpairs, .ref m_qgoesWith, .ref m_qsaid, .int m_saidMany, .int m_firstWait, .ref m_qfirstOrder, .int m_bundleFirst, .ref m_qtiredBy, .int m_tiredMany, .ref m_qmany, .ref m_qwidth, .ref m_qnumbers, .ref m_qmoving])), (m_qworld, .inl (cA 1, 122, .inl m_cworld)), (m_qsums, .inl (cA 1, 2304, .inl m_csums)), (m_qpairs, .inl (cA 1, 2304, .inl m_cpairs)), (m_qgoesWith, .inl (cA 1, 8, .inl m_cgoesWith))]) (wr := []) ⟨hx, hb, hml, hown, hts⟩ hKN hP hD hS hA [0, 1, 2, 3, 4] [] rfl rfl (by decide) (by decide) (by decide) (g_X12_layMatched l D cA _ h0 m_thrown m_qworld m_qimages m_qhasImage m_qtape m_taped m_qfive m_size m_at m_from m_token m_value m_faultKind m_faultPlace m_qfresh m_startOne m_startOther m_latest m_leftBeats m_signed m_metMany m_qsums m_qpairs m_qgoesWith m_qsaid m_saidMany m_firstWait m_qfirstOrder m_bundleFirst m_qtiredBy m_tiredMany m_qmany m_qwidth m_qnumbers m_qmoving m_cworld m_csums m_cpairs m_cgoesWith (by omega) (by omega) (by omega) (by omega) (by omega) (by omega) a_m_cworld_0) (tb_V tw_1814 tw_1816 tw_72 tw_114 tw_1817) hdX12_layMatched ⟨rfl, rfl, Nat.le_of_ble_eq_true rfl, Nat.le_of_ble_eq_true rfl⟩ ⟨Nat.le_of_ble_eq_true rfl, Nat.le_of_ble_eq_true rfl⟩ rfl rfl rfl hl.1 rfl (Nat.le_of_ble_eq_true rfl) dX12_matched_13 (fun u_5 H locs hr_5 hP hD hS => ?_)
    have hP : va_P D vwCl [(h0, .inr (12, [.int m_thrown, .ref m_qworld, .ref m_qimages, .ref m_qhasImage, .ref m_qtape, .int m_taped, .ref m_qfive, .int m_size, .int m_at, .int m_from, .int m_token, .int m_value, .int m_faultKind, .int m_faultPlace, .ref m_qfresh, .int m_startOne, .int m_startOther, .int m_latest, .int m_leftBeats, .int m_signed, .int m_metMany, .ref m_qsums, .ref m_qpairs, .ref m_qgoesWith, .ref m_qsaid, .int m_saidMany, .int m_firstWait, .ref m_qfirstOrder, .int m_bundleFirst, .ref m_qtiredBy, .int m_tiredMany, .ref m_qmany, .ref m_qwidth, .ref m_qnumbers, .ref m_qmoving])), (m_qworld, .inl (cA 1, 122, .inl m_cworld)), (m_qsums, .inl (cA 1, 2304, .inl (u_5.2.2.1 0))), (m_qpairs, .inl (cA 1, 2304, .inl (u_5.2.2.1 1))), (m_qgoesWith, .inl (cA 1, 8, .inl (u_5.2.2.1 2)))] H := hP
    have hD : va_D A [(h0, .inr (12, [.int m_thrown, .ref m_qworld, .ref m_qimages, .ref m_qhasImage, .ref m_qtape, .int m_taped, .ref m_qfive, .int m_size, .int m_at, .int m_from, .int m_token, .int m_value, .int m_faultKind, .int m_faultPlace, .ref m_qfresh, .int m_startOne, .int m_startOther, .int m_latest, .int m_leftBeats, .int m_signed, .int m_metMany, .ref m_qsums, .ref m_qpairs, .ref m_qgoesWith, .ref m_qsaid, .int m_saidMany, .int m_firstWait, .ref m_qfirstOrder, .int m_bundleFirst, .ref m_qtiredBy, .int m_tiredMany, .ref m_qmany, .ref m_qwidth, .ref m_qnumbers, .ref m_qmoving])), (m_qworld, .inl (cA 1, 122, .inl m_cworld)), (m_qsums, .inl (cA 1, 2304, .inl (u_5.2.2.1 0))), (m_qpairs, .inl (cA 1, 2304, .inl (u_5.2.2.1 1))), (m_qgoesWith, .inl (cA 1, 8, .inl (u_5.2.2.1 2)))] := hD
    refine lv_aload_n hx hb dX12_matched_16 rfl (lv_at hl 0 rfl) ?_
    refine va_get (D := D) (ci := 12) (v := .ref m_qgoesWith) (C := RX12) (T := TX12) (N := 35) hx hb hts inX12 hown hKN.1 hP 0 rfl rfl 23 (by decide) (hts _ tw_1442) (fun _ h9 => h9) rfl dX12_matched_17 ?_
    refine lv_iload_n hx hb dX12_matched_20 rfl (lv_at hl 1 rfl) ?_
    refine va_iald hx hb hKN.1 hP 4 1 rfl rfl (vp_in_iff.mpr ⟨by omega, by omega⟩) dX12_matched_21 ?_
    refine lv_topi (fun x_6 ex_6 => ?_)
    have hP9 := hP.sub (ws' := [(h0, .inr (12, [.int m_thrown, .ref m_qworld, .ref m_qimages, .ref m_qhasImage, .ref m_qtape, .int m_taped, .ref m_qfive, .int m_size, .int m_at, .int m_from, .int m_token, .int m_value, .int m_faultKind, .int m_faultPlace, .ref m_qfresh, .int m_startOne, .int m_startOther, .int m_latest, .int m_leftBeats, .int m_signed, .int m_metMany, .ref m_qsums, .ref m_qpairs, .ref m_qgoesWith, .ref m_qsaid, .int m_saidMany, .int m_firstWait, .ref m_qfirstOrder, .int m_bundleFirst, .ref m_qtiredBy, .int m_tiredMany, .ref m_qmany, .ref m_qwidth, .ref m_qnumbers, .ref m_qmoving])), (m_qworld, .inl (cA 1, 122, .inl m_cworld)), (m_qsums, .inl (cA 1, 2304, .inl (u_5.2.2.1 0))), (m_qpairs, .inl (cA 1, 2304, .inl (u_5.2.2.1 1))), (m_qgoesWith, .inl (cA 1, 8, .inl (u_5.2.2.1 2)))]) [0, 1, 2, 3, 4] rfl
    have hD9 := hD.sub (ws' := [(h0, .inr (12, [.int m_thrown, .ref m_qworld, .ref m_qimages, .ref m_qhasImage, .ref m_qtape, .int m_taped, .ref m_qfive, .int m_size, .int m_at, .int m_from, .int m_token, .int m_value, .int m_faultKind, .int m_faultPlace, .ref m_qfresh, .int m_startOne, .int m_startOther, .int m_latest, .int m_leftBeats, .int m_signed, .int m_metMany, .ref m_qsums, .ref m_qpairs, .ref m_qgoesWith, .ref m_qsaid, .int m_saidMany, .int m_firstWait, .ref m_qfirstOrder, .int m_bundleFirst, .ref m_qtiredBy, .int m_tiredMany, .ref m_qmany, .ref m_qwidth, .ref m_qnumbers, .ref m_qmoving])), (m_qworld, .inl (cA 1, 122, .inl m_cworld)), (m_qsums, .inl (cA 1, 2304, .inl (u_5.2.2.1 0))), (m_qpairs, .inl (cA 1, 2304, .inl (u_5.2.2.1 1))), (m_qgoesWith, .inl (cA 1, 8, .inl (u_5.2.2.1 2)))]) [0, 1, 2, 3, 4] (by decide) rfl
    exact W.iret (v := x_6) hx hb hr (fun t ht hW => ⟨⟨x_6, ((fun _ => 0), (fun _ => 0), (selF [(u_5.2.2.1 0), (u_5.2.2.1 1), (u_5.2.2.1 2)]), (fun _ _ => 0)), rfl, trivial, by rw [ht]; exact hP9, hD9⟩, hS.F ht⟩) hS.2.2 dX12_matched_22
  · skip
    refine lv_if_ne (tgt := 12) hx hb dX12_matched_6 (by decide) (fun c_7 => absurd (by decide) c_7) (fun c_7 => ?_)
    refine lv_bipush (v := (-2)) hx hb dX12_matched_9 (by decide) ?_
    have hP9 := hP.sub (ws' := [(h0, .inr (12, [.int m_thrown, .ref m_qworld, .ref m_qimages, .ref m_qhasImage, .ref m_qtape, .int m_taped, .ref m_qfive, .int m_size, .int m_at, .int m_from, .int m_token, .int m_value, .int m_faultKind, .int m_faultPlace, .ref m_qfresh, .int m_startOne, .int m_startOther, .int m_latest, .int m_leftBeats, .int m_signed, .int m_metMany, .ref m_qsums, .ref m_qpairs, .ref m_qgoesWith, .ref m_qsaid, .int m_saidMany, .int m_firstWait, .ref m_qfirstOrder, .int m_bundleFirst, .ref m_qtiredBy, .int m_tiredMany, .ref m_qmany, .ref m_qwidth, .ref m_qnumbers, .ref m_qmoving])), (m_qworld, .inl (cA 1, 122, .inl m_cworld)), (m_qsums, .inl (cA 1, 2304, .inl m_csums)), (m_qpairs, .inl (cA 1, 2304, .inl m_cpairs)), (m_qgoesWith, .inl (cA 1, 8, .inl m_cgoesWith))]) [0, 1, 2, 3, 4] rfl
    have hD9 := hD.sub (ws' := [(h0, .inr (12, [.int m_thrown, .ref m_qworld, .ref m_qimages, .ref m_qhasImage, .ref m_qtape, .int m_taped, .ref m_qfive, .int m_size, .int m_at, .int m_from, .int m_token, .int m_value, .int m_faultKind, .int m_faultPlace, .ref m_qfresh, .int m_startOne, .int m_startOther, .int m_latest, .int m_leftBeats, .int m_signed, .int m_metMany, .ref m_qsums, .ref m_qpairs, .ref m_qgoesWith, .ref m_qsaid, .int m_saidMany, .int m_firstWait, .ref m_qfirstOrder, .int m_bundleFirst, .ref m_qtiredBy, .int m_tiredMany, .ref m_qmany, .ref m_qwidth, .ref m_qnumbers, .ref m_qmoving])), (m_qworld, .inl (cA 1, 122, .inl m_cworld)), (m_qsums, .inl (cA 1, 2304, .inl m_csums)), (m_qpairs, .inl (cA 1, 2304, .inl m_cpairs)), (m_qgoesWith, .inl (cA 1, 8, .inl m_cgoesWith))]) [0, 1, 2, 3, 4] (by decide) rfl
    exact W.iret (v := (-2)) hx hb hr (fun t ht hW => ⟨⟨(-2), ((fun _ => 0), (fun _ => 0), (selF [m_csums, m_cpairs, m_cgoesWith]), (fun _ _ => 0)), rfl, trivial, by rw [ht]; exact hP9, hD9⟩, hS.F ht⟩) hS.2.2 dX12_matched_11
set_option maxHeartbeats 8000000 in
set_option maxRecDepth 100000 in
theorem g_X12_loners (l : Launch) (D : va_G) (cA : Nat → ClassId) (sz : Nat) (h0 : Nat) (m_thrown : Int32) (m_qworld : Nat) (m_qimages : Nat) (m_qhasImage : Nat) (m_qtape : Nat) (m_taped : Int32) (m_qfive : Nat) (m_size : Int32) (m_at : Int32) (m_from : Int32) (m_token : Int32) (m_value : Int32) (m_faultKind : Int32) (m_faultPlace : Int32) (m_qfresh : Nat) (m_startOne : Int32) (m_startOther : Int32) (m_latest : Int32) (m_leftBeats : Int32) (m_signed : Int32) (m_metMany : Int32) (m_qsums : Nat) (m_qpairs : Nat) (m_qgoesWith : Nat) (m_qsaid : Nat) (m_saidMany : Int32) (m_firstWait : Int32) (m_qfirstOrder : Nat) (m_bundleFirst : Int32) (m_qtiredBy : Nat) (m_tiredMany : Int32) (m_qmany : Nat) (m_qwidth : Nat) (m_qnumbers : Nat) (m_qmoving : Nat) (m_cworld : Nat → Int32) (m_csums : Nat → Int32) (m_cpairs : Nat → Int32) (m_cgoesWith : Nat → Int32) (h_m_taped : 0 ≤ (m_taped : Int32).toInt ∧ (m_taped : Int32).toInt ≤ 800) (h_m_size : 0 ≤ (m_size : Int32).toInt ∧ (m_size : Int32).toInt ≤ 800) (h_m_at : 0 ≤ (m_at : Int32).toInt ∧ (m_at : Int32).toInt ≤ 800) (h_m_from : 0 ≤ (m_from : Int32).toInt ∧ (m_from : Int32).toInt ≤ 800) (h_m_saidMany : 0 ≤ (m_saidMany : Int32).toInt ∧ (m_saidMany : Int32).toInt ≤ 60) (h_m_tiredMany : 0 ≤ (m_tiredMany : Int32).toInt ∧ (m_tiredMany : Int32).toInt ≤ 240) (a_m_cworld_0 : WI m_cworld) : Met l yX12_loners (Cond.code yX12_loners cX12_loners 3 (some .int) :: TB) (rmd 6 0 0) (PM D cA sz [(h0, .inr (12, [.int m_thrown, .ref m_qworld, .ref m_qimages, .ref m_qhasImage, .ref m_qtape, .int m_taped, .ref m_qfive, .int m_size, .int m_at, .int m_from, .int m_token, .int m_value, .int m_faultKind, .int m_faultPlace, .ref m_qfresh, .int m_startOne, .int m_startOther, .int m_latest, .int m_leftBeats, .int m_signed, .int m_metMany, .ref m_qsums, .ref m_qpairs, .ref m_qgoesWith, .ref m_qsaid, .int m_saidMany, .int m_firstWait, .ref m_qfirstOrder, .int m_bundleFirst, .ref m_qtiredBy, .int m_tiredMany, .ref m_qmany, .ref m_qwidth, .ref m_qnumbers, .ref m_qmoving])), (m_qworld, .inl (cA 1, 122, .inl m_cworld)), (m_qsums, .inl (cA 1, 2304, .inl m_csums)), (m_qpairs, .inl (cA 1, 2304, .inl m_cpairs)), (m_qgoesWith, .inl (cA 1, 8, .inl m_cgoesWith))] [.ref h0]) (va_Qi (fun r (u : SU) => (-2 ≤ r.toInt ∧ r.toInt ≤ 255)) (fun u t => va_P D vwCl [(h0, .inr (12, [.int m_thrown, .ref m_qworld, .ref m_qimages, .ref m_qhasImage, .ref m_qtape, .int m_taped, .ref m_qfive, .int m_size, .int m_at, .int m_from, .int m_token, .int m_value, .int m_faultKind, .int m_faultPlace, .ref m_qfresh, .int m_startOne, .int m_startOther, .int m_latest, .int m_leftBeats, .int m_signed, .int m_metMany, .ref m_qsums, .ref m_qpairs, .ref m_qgoesWith, .ref m_qsaid, .int m_saidMany, .int m_firstWait, .ref m_qfirstOrder, .int m_bundleFirst, .ref m_qtiredBy, .int m_tiredMany, .ref m_qmany, .ref m_qwidth, .ref m_qnumbers, .ref m_qmoving])), (m_qworld, .inl (cA 1, 122, .inl m_cworld)), (m_qsums, .inl (cA 1, 2304, .inl (u.2.2.1 0))), (m_qpairs, .inl (cA 1, 2304, .inl (u.2.2.1 1))), (m_qgoesWith, .inl (cA 1, 8, .inl (u.2.2.1 2)))] t.heap ∧ va_D (va_A [(h0, .inr (12, [.int m_thrown, .ref m_qworld, .ref m_qimages, .ref m_qhasImage, .ref m_qtape, .int m_taped, .ref m_qfive, .int m_size, .int m_at, .int m_from, .int m_token, .int m_value, .int m_faultKind, .int m_faultPlace, .ref m_qfresh, .int m_startOne, .int m_startOther, .int m_latest, .int m_leftBeats, .int m_signed, .int m_metMany, .ref m_qsums, .ref m_qpairs, .ref m_qgoesWith, .ref m_qsaid, .int m_saidMany, .int m_firstWait, .ref m_qfirstOrder, .int m_bundleFirst, .ref m_qtiredBy, .int m_tiredMany, .ref m_qmany, .ref m_qwidth, .ref m_qnumbers, .ref m_qmoving])), (m_qworld, .inl (cA 1, 122, .inl m_cworld)), (m_qsums, .inl (cA 1, 2304, .inl m_csums)), (m_qpairs, .inl (cA 1, 2304, .inl m_cpairs)), (m_qgoesWith, .inl (cA 1, 8, .inl m_cgoesWith))] sz) [(h0, .inr (12, [.int m_thrown, .ref m_qworld, .ref m_qimages, .ref m_qhasImage, .ref m_qtape, .int m_taped, .ref m_qfive, .int m_size, .int m_at, .int m_from, .int m_token, .int m_value, .int m_faultKind, .int m_faultPlace, .ref m_qfresh, .int m_startOne, .int m_startOther, .int m_latest, .int m_leftBeats, .int m_signed, .int m_metMany, .ref m_qsums, .ref m_qpairs, .ref m_qgoesWith, .ref m_qsaid, .int m_saidMany, .int m_firstWait, .ref m_qfirstOrder, .int m_bundleFirst, .ref m_qtiredBy, .int m_tiredMany, .ref m_qmany, .ref m_qwidth, .ref m_qnumbers, .ref m_qmoving])), (m_qworld, .inl (cA 1, 122, .inl m_cworld)), (m_qsums, .inl (cA 1, 2304, .inl (u.2.2.1 0))), (m_qpairs, .inl (cA 1, 2304, .inl (u.2.2.1 1))), (m_qgoesWith, .inl (cA 1, 8, .inl (u.2.2.1 2)))]) (va_A [(h0, .inr (12, [.int m_thrown, .ref m_qworld, .ref m_qimages, .ref m_qhasImage, .ref m_qtape, .int m_taped, .ref m_qfive, .int m_size, .int m_at, .int m_from, .int m_token, .int m_value, .int m_faultKind, .int m_faultPlace, .ref m_qfresh, .int m_startOne, .int m_startOther, .int m_latest, .int m_leftBeats, .int m_signed, .int m_metMany, .ref m_qsums, .ref m_qpairs, .ref m_qgoesWith, .ref m_qsaid, .int m_saidMany, .int m_firstWait, .ref m_qfirstOrder, .int m_bundleFirst, .ref m_qtiredBy, .int m_tiredMany, .ref m_qmany, .ref m_qwidth, .ref m_qnumbers, .ref m_qmoving])), (m_qworld, .inl (cA 1, 122, .inl m_cworld)), (m_qsums, .inl (cA 1, 2304, .inl m_csums)), (m_qpairs, .inl (cA 1, 2304, .inl m_cpairs)), (m_qgoesWith, .inl (cA 1, 8, .inl m_cgoesWith))] sz)) 0 0 (va_A [(h0, .inr (12, [.int m_thrown, .ref m_qworld, .ref m_qimages, .ref m_qhasImage, .ref m_qtape, .int m_taped, .ref m_qfive, .int m_size, .int m_at, .int m_from, .int m_token, .int m_value, .int m_faultKind, .int m_faultPlace, .ref m_qfresh, .int m_startOne, .int m_startOther, .int m_latest, .int m_leftBeats, .int m_signed, .int m_metMany, .ref m_qsums, .ref m_qpairs, .ref m_qgoesWith, .ref m_qsaid, .int m_saidMany, .int m_firstWait, .ref m_qfirstOrder, .int m_bundleFirst, .ref m_qtiredBy, .int m_tiredMany, .ref m_qmany, .ref m_qwidth, .ref m_qnumbers, .ref m_qmoving])), (m_qworld, .inl (cA 1, 122, .inl m_cworld)), (m_qsums, .inl (cA 1, 2304, .inl m_csums)), (m_qpairs, .inl (cA 1, 2304, .inl m_cpairs)), (m_qgoesWith, .inl (cA 1, 8, .inl m_cgoesWith))] sz) := by
  refine Met.ofW (cc := cX12_loners) (maxL := 3) (ret := (some .int)) (by decide) rfl ?_
  intro p e s m args below meth c s₁ B hml hv
  obtain ⟨rfl, hsz, hP, hKN, hD0⟩ := hv
  have hx := B.exec
  have hb := B.bytes
  have hr := B.returns
  have hts : ∀ w ∈ TB, w.before _ s = true := fun w h => atoms_spec B.pre w (List.mem_cons_of_mem _ h)
  have hown : s.vm.findClass RX12 = some m.cls := findClass_of_methodNamed B.named
  have hlocks := B.notSynchronized
  subst hsz
  have hD := hD0.self (sz := s.heap.size)
  generalize hAe : va_A [(h0, .inr (12, [.int m_thrown, .ref m_qworld, .ref m_qimages, .ref m_qhasImage, .ref m_qtape, .int m_taped, .ref m_qfive, .int m_size, .int m_at, .int m_from, .int m_token, .int m_value, .int m_faultKind, .int m_faultPlace, .ref m_qfresh, .int m_startOne, .int m_startOther, .int m_latest, .int m_leftBeats, .int m_signed, .int m_metMany, .ref m_qsums, .ref m_qpairs, .ref m_qgoesWith, .ref m_qsaid, .int m_saidMany, .int m_firstWait, .ref m_qfirstOrder, .int m_bundleFirst, .ref m_qtiredBy, .int m_tiredMany, .ref m_qmany, .ref m_qwidth, .ref m_qnumbers, .ref m_qmoving])), (m_qworld, .inl (cA 1, 122, .inl m_cworld)), (m_qsums, .inl (cA 1, 2304, .inl m_csums)), (m_qpairs, .inl (cA 1, 2304, .inl m_cpairs)), (m_qgoesWith, .inl (cA 1, 8, .inl m_cgoesWith))] s.heap.size = A at hD ⊢
  have hA : ∀ q : Nat, s.heap.size ≤ q → A q := fun q h => by rw [← hAe]; exact Or.inr h
  have hS : va_S A s.heap s.heap [] := va_S.rf
  have hl := lv_entry ([.ref h0]) (n := 3) (Nat.le_of_ble_eq_true rfl)
  rw [lg_entry_eq]
  generalize (lg_sl ([.ref h0]) ++ List.replicate (3 - (lg_sl ([.ref h0])).length) Slot.unset).toArray = ls at hl ⊢
  have hl : lv_has ls 3 [(0, .ref h0)] := hl
  refine lv_aload_n hx hb dX12_loners_0 rfl (lv_at hl 0 rfl) ?_
  refine cpVi (rest := []) ⟨hx, hb, hml, hown, hts⟩ hKN (hP.sub (ws' := [(h0, .inr (12, [.int m_thrown, .ref m_qworld, .ref m_qimages, .ref m_qhasImage, .ref m_qtape, .int m_taped, .ref m_qfive, .int m_size, .int m_at, .int m_from, .int m_token, .int m_value, .int m_faultKind, .int m_faultPlace, .ref m_qfresh, .int m_startOne, .int m_startOther, .int m_latest, .int m_leftBeats, .int m_signed, .int m_metMany, .ref m_qsums, .ref m_qpairs, .ref m_qgoesWith, .ref m_qsaid, .int m_saidMany, .int m_firstWait, .ref m_qfirstOrder, .int m_bundleFirst, .ref m_qtiredBy, .int m_tiredMany, .ref m_qmany, .ref m_qwidth, .ref m_qnumbers, .ref m_qmoving])), (m_qworld, .inl (cA 1, 122, .inl m_cworld))]) [0, 1] rfl) (g_X12_isGorge l D cA h0 m_thrown m_qworld m_qimages m_qhasImage m_qtape m_taped m_qfive m_size m_at m_from m_token m_value m_faultKind m_faultPlace m_qfresh m_startOne m_startOther m_latest m_leftBeats m_signed m_metMany m_qsums m_qpairs m_qgoesWith m_qsaid m_saidMany m_firstWait m_qfirstOrder m_bundleFirst m_qtiredBy m_tiredMany m_qmany m_qwidth m_qnumbers m_qmoving m_cworld (by omega) (by omega) (by omega) (by omega) (by omega) (by omega) a_m_cworld_0) (tb_V tw_1664 tw_1666 tw_54 tw_114 tw_1667) hdX12_isGorge ⟨rfl, rfl, Nat.le_of_ble_eq_true rfl, Nat.le_of_ble_eq_true rfl⟩ ⟨Nat.le_of_ble_eq_true rfl, Nat.le_of_ble_eq_true rfl⟩ rfl rfl rfl hl.1 rfl (Nat.le_of_ble_eq_true rfl) dX12_loners_1 (fun r_1 hr_1 => ?_)
  rcases hr_1 with ⟨k_1_0_0, k_1_0_1, k_1_0_2, k_1_0_3, rfl⟩ | rfl
  · skip
    refine lv_if_ne (tgt := 10) hx hb dX12_loners_4 (by decide) (fun c_2 => ?_) (fun c_2 => absurd c_2 (by decide))
    refine lv_aload_n hx hb dX12_loners_10 rfl (lv_at hl 0 rfl) ?_
    refine cmVv (rest := []) (wsC := [(h0, .inr (12, [.int m_thrown, .ref m_qworld, .ref m_qimages, .ref m_qhasImage, .ref m_qtape, .int m_taped, .ref m_qfive, .int m_size, .int m_at, .int m_from, .int m_token, .int m_value, .int m_faultKind, .int m_faultPlace, .ref m_qfresh, .int m_startOne, .int m_startOther, .int m_latest, .int m_leftBeats, .int m_signed, .int m_metMany, .ref m_qsums, .ref m_qpairs, .ref m_qgoesWith, .ref m_qsaid, .int m_saidMany, .int m_firstWait, .ref m_qfirstOrder, .int m_bundleFirst, .ref m_qtiredBy, .int m_tiredMany, .ref m_qmany, .ref m_qwidth, .ref m_qnumbers, .ref m_qmoving])), (m_qworld, .inl (cA 1, 122, .inl m_cworld)), (m_qsums, .inl (cA 1, 2304, .inl m_csums)), (m_qpairs, .inl (cA 1, 2304, .inl m_cpairs)), (m_qgoesWith, .inl (cA 1, 8, .inl m_cgoesWith))]) (wr := []) ⟨hx, hb, hml, hown, hts⟩ hKN hP hD hS hA [0, 1, 2, 3, 4] [] rfl rfl (by decide) (by decide) (by decide) (g_X12_layMatched l D cA _ h0 m_thrown m_qworld m_qimages m_qhasImage m_qtape m_taped m_qfive m_size m_at m_from m_token m_value m_faultKind m_faultPlace m_qfresh m_startOne m_startOther m_latest m_leftBeats m_signed m_metMany m_qsums m_qpairs m_qgoesWith m_qsaid m_saidMany m_firstWait m_qfirstOrder m_bundleFirst m_qtiredBy m_tiredMany m_qmany m_qwidth m_qnumbers m_qmoving m_cworld m_csums m_cpairs m_cgoesWith (by omega) (by omega) (by omega) (by omega) (by omega) (by omega) a_m_cworld_0) (tb_V tw_1814 tw_1816 tw_72 tw_114 tw_1817) hdX12_layMatched ⟨rfl, rfl, Nat.le_of_ble_eq_true rfl, Nat.le_of_ble_eq_true rfl⟩ ⟨Nat.le_of_ble_eq_true rfl, Nat.le_of_ble_eq_true rfl⟩ rfl rfl rfl hl.1 rfl (Nat.le_of_ble_eq_true rfl) dX12_loners_11 (fun u_3 H locs hr_3 hP hD hS => ?_)
    have hP : va_P D vwCl [(h0, .inr (12, [.int m_thrown, .ref m_qworld, .ref m_qimages, .ref m_qhasImage, .ref m_qtape, .int m_taped, .ref m_qfive, .int m_size, .int m_at, .int m_from, .int m_token, .int m_value, .int m_faultKind, .int m_faultPlace, .ref m_qfresh, .int m_startOne, .int m_startOther, .int m_latest, .int m_leftBeats, .int m_signed, .int m_metMany, .ref m_qsums, .ref m_qpairs, .ref m_qgoesWith, .ref m_qsaid, .int m_saidMany, .int m_firstWait, .ref m_qfirstOrder, .int m_bundleFirst, .ref m_qtiredBy, .int m_tiredMany, .ref m_qmany, .ref m_qwidth, .ref m_qnumbers, .ref m_qmoving])), (m_qworld, .inl (cA 1, 122, .inl m_cworld)), (m_qsums, .inl (cA 1, 2304, .inl (u_3.2.2.1 0))), (m_qpairs, .inl (cA 1, 2304, .inl (u_3.2.2.1 1))), (m_qgoesWith, .inl (cA 1, 8, .inl (u_3.2.2.1 2)))] H := hP
    have hD : va_D A [(h0, .inr (12, [.int m_thrown, .ref m_qworld, .ref m_qimages, .ref m_qhasImage, .ref m_qtape, .int m_taped, .ref m_qfive, .int m_size, .int m_at, .int m_from, .int m_token, .int m_value, .int m_faultKind, .int m_faultPlace, .ref m_qfresh, .int m_startOne, .int m_startOther, .int m_latest, .int m_leftBeats, .int m_signed, .int m_metMany, .ref m_qsums, .ref m_qpairs, .ref m_qgoesWith, .ref m_qsaid, .int m_saidMany, .int m_firstWait, .ref m_qfirstOrder, .int m_bundleFirst, .ref m_qtiredBy, .int m_tiredMany, .ref m_qmany, .ref m_qwidth, .ref m_qnumbers, .ref m_qmoving])), (m_qworld, .inl (cA 1, 122, .inl m_cworld)), (m_qsums, .inl (cA 1, 2304, .inl (u_3.2.2.1 0))), (m_qpairs, .inl (cA 1, 2304, .inl (u_3.2.2.1 1))), (m_qgoesWith, .inl (cA 1, 8, .inl (u_3.2.2.1 2)))] := hD
    refine lv_iconst (v := 0) hx hb dX12_loners_14 (by decide) ?_
    refine lv_istore_n (lv' := [(1, .int 0), (0, .ref h0)]) hx hb dX12_loners_15 rfl hl (by decide) rfl (fun ls hl => ?_)
    refine lv_iconst (v := 0) hx hb dX12_loners_16 (by decide) ?_
    refine lv_istore_n (lv' := [(2, .int 0), (1, .int 0), (0, .ref h0)]) hx hb dX12_loners_17 rfl hl (by decide) rfl (fun ls hl => ?_)
    refine loopW (σ := Int32 × Int32) (fun _ => []) (fun ⟨L2_130, L1_130⟩ H locs ls => (0 ≤ L2_130.toInt ∧ L2_130.toInt ≤ 8) ∧ (0 ≤ L1_130.toInt ∧ L1_130.toInt ≤ 255) ∧ va_P D vwCl [(h0, .inr (12, [.int m_thrown, .ref m_qworld, .ref m_qimages, .ref m_qhasImage, .ref m_qtape, .int m_taped, .ref m_qfive, .int m_size, .int m_at, .int m_from, .int m_token, .int m_value, .int m_faultKind, .int m_faultPlace, .ref m_qfresh, .int m_startOne, .int m_startOther, .int m_latest, .int m_leftBeats, .int m_signed, .int m_metMany, .ref m_qsums, .ref m_qpairs, .ref m_qgoesWith, .ref m_qsaid, .int m_saidMany, .int m_firstWait, .ref m_qfirstOrder, .int m_bundleFirst, .ref m_qtiredBy, .int m_tiredMany, .ref m_qmany, .ref m_qwidth, .ref m_qnumbers, .ref m_qmoving])), (m_qworld, .inl (cA 1, 122, .inl m_cworld)), (m_qsums, .inl (cA 1, 2304, .inl (u_3.2.2.1 0))), (m_qpairs, .inl (cA 1, 2304, .inl (u_3.2.2.1 1))), (m_qgoesWith, .inl (cA 1, 8, .inl (u_3.2.2.1 2)))] H ∧ va_D A [(h0, .inr (12, [.int m_thrown, .ref m_qworld, .ref m_qimages, .ref m_qhasImage, .ref m_qtape, .int m_taped, .ref m_qfive, .int m_size, .int m_at, .int m_from, .int m_token, .int m_value, .int m_faultKind, .int m_faultPlace, .ref m_qfresh, .int m_startOne, .int m_startOther, .int m_latest, .int m_leftBeats, .int m_signed, .int m_metMany, .ref m_qsums, .ref m_qpairs, .ref m_qgoesWith, .ref m_qsaid, .int m_saidMany, .int m_firstWait, .ref m_qfirstOrder, .int m_bundleFirst, .ref m_qtiredBy, .int m_tiredMany, .ref m_qmany, .ref m_qwidth, .ref m_qnumbers, .ref m_qmoving])), (m_qworld, .inl (cA 1, 122, .inl m_cworld)), (m_qsums, .inl (cA 1, 2304, .inl (u_3.2.2.1 0))), (m_qpairs, .inl (cA 1, 2304, .inl (u_3.2.2.1 1))), (m_qgoesWith, .inl (cA 1, 8, .inl (u_3.2.2.1 2)))] ∧ va_S A s.heap H locs ∧ lv_has ls 3 [(2, .int L2_130), (1, .int L1_130), (0, .ref h0)]) (fun ⟨L2_130, L1_130⟩ => (2147483647 - L2_130.toInt).toNat) ?_ ((0, 0) : Int32 × Int32) ⟨(by decide), (by decide), hP, hD, hS, hl⟩
    intro x_130 H locs ls hI_130 ih_130
    obtain ⟨L2_130, L1_130⟩ := x_130
    obtain ⟨k0_130, k1_130, hP, hD, hS, hl⟩ := hI_130
    have hP : va_P D vwCl [(h0, .inr (12, [.int m_thrown, .ref m_qworld, .ref m_qimages, .ref m_qhasImage, .ref m_qtape, .int m_taped, .ref m_qfive, .int m_size, .int m_at, .int m_from, .int m_token, .int m_value, .int m_faultKind, .int m_faultPlace, .ref m_qfresh, .int m_startOne, .int m_startOther, .int m_latest, .int m_leftBeats, .int m_signed, .int m_metMany, .ref m_qsums, .ref m_qpairs, .ref m_qgoesWith, .ref m_qsaid, .int m_saidMany, .int m_firstWait, .ref m_qfirstOrder, .int m_bundleFirst, .ref m_qtiredBy, .int m_tiredMany, .ref m_qmany, .ref m_qwidth, .ref m_qnumbers, .ref m_qmoving])), (m_qworld, .inl (cA 1, 122, .inl m_cworld)), (m_qsums, .inl (cA 1, 2304, .inl (u_3.2.2.1 0))), (m_qpairs, .inl (cA 1, 2304, .inl (u_3.2.2.1 1))), (m_qgoesWith, .inl (cA 1, 8, .inl (u_3.2.2.1 2)))] H := hP
    have hD : va_D A [(h0, .inr (12, [.int m_thrown, .ref m_qworld, .ref m_qimages, .ref m_qhasImage, .ref m_qtape, .int m_taped, .ref m_qfive, .int m_size, .int m_at, .int m_from, .int m_token, .int m_value, .int m_faultKind, .int m_faultPlace, .ref m_qfresh, .int m_startOne, .int m_startOther, .int m_latest, .int m_leftBeats, .int m_signed, .int m_metMany, .ref m_qsums, .ref m_qpairs, .ref m_qgoesWith, .ref m_qsaid, .int m_saidMany, .int m_firstWait, .ref m_qfirstOrder, .int m_bundleFirst, .ref m_qtiredBy, .int m_tiredMany, .ref m_qmany, .ref m_qwidth, .ref m_qnumbers, .ref m_qmoving])), (m_qworld, .inl (cA 1, 122, .inl m_cworld)), (m_qsums, .inl (cA 1, 2304, .inl (u_3.2.2.1 0))), (m_qpairs, .inl (cA 1, 2304, .inl (u_3.2.2.1 1))), (m_qgoesWith, .inl (cA 1, 8, .inl (u_3.2.2.1 2)))] := hD
    have hl : lv_has ls 3 [(2, .int L2_130), (1, .int L1_130), (0, .ref h0)] := hl
    refine lv_iload_n hx hb dX12_loners_18 rfl (lv_at hl 0 rfl) ?_
    refine lv_aload_n hx hb dX12_loners_19 rfl (lv_at hl 2 rfl) ?_
    refine va_get (D := D) (ci := 12) (v := .ref m_qworld) (C := RX12) (T := TX12) (N := 35) hx hb hts inX12 hown hKN.1 hP 0 rfl rfl 1 (by decide) (hts _ tw_1420) (fun _ h9 => h9) rfl dX12_loners_20 ?_
    refine lv_iconst (v := 4) hx hb dX12_loners_23 (by decide) ?_
    refine va_iald hx hb hKN.1 hP 1 1 rfl rfl (by unfold vp_in; decide) dX12_loners_24 ?_
    refine W.eq (g2 := F0 m 25 ls [.int (m_cworld 4), .int L2_130]) rfl ?_
    have k_131 := a_m_cworld_0.1.1.2.2.2.1 (4) (by decide) (by decide)
    refine lv_icmp_ge (tgt := 54) hx hb dX12_loners_25 (by decide) (fun c_132 => ?_) (fun c_132 => ?_)
    · skip
      have k_133 := kk_le rfl rfl c_132
      refine lv_iload_n hx hb dX12_loners_54 rfl (lv_at hl 1 rfl) ?_
      have hP9 := hP.sub (ws' := [(h0, .inr (12, [.int m_thrown, .ref m_qworld, .ref m_qimages, .ref m_qhasImage, .ref m_qtape, .int m_taped, .ref m_qfive, .int m_size, .int m_at, .int m_from, .int m_token, .int m_value, .int m_faultKind, .int m_faultPlace, .ref m_qfresh, .int m_startOne, .int m_startOther, .int m_latest, .int m_leftBeats, .int m_signed, .int m_metMany, .ref m_qsums, .ref m_qpairs, .ref m_qgoesWith, .ref m_qsaid, .int m_saidMany, .int m_firstWait, .ref m_qfirstOrder, .int m_bundleFirst, .ref m_qtiredBy, .int m_tiredMany, .ref m_qmany, .ref m_qwidth, .ref m_qnumbers, .ref m_qmoving])), (m_qworld, .inl (cA 1, 122, .inl m_cworld)), (m_qsums, .inl (cA 1, 2304, .inl (u_3.2.2.1 0))), (m_qpairs, .inl (cA 1, 2304, .inl (u_3.2.2.1 1))), (m_qgoesWith, .inl (cA 1, 8, .inl (u_3.2.2.1 2)))]) [0, 1, 2, 3, 4] rfl
      have hD9 := hD.sub (ws' := [(h0, .inr (12, [.int m_thrown, .ref m_qworld, .ref m_qimages, .ref m_qhasImage, .ref m_qtape, .int m_taped, .ref m_qfive, .int m_size, .int m_at, .int m_from, .int m_token, .int m_value, .int m_faultKind, .int m_faultPlace, .ref m_qfresh, .int m_startOne, .int m_startOther, .int m_latest, .int m_leftBeats, .int m_signed, .int m_metMany, .ref m_qsums, .ref m_qpairs, .ref m_qgoesWith, .ref m_qsaid, .int m_saidMany, .int m_firstWait, .ref m_qfirstOrder, .int m_bundleFirst, .ref m_qtiredBy, .int m_tiredMany, .ref m_qmany, .ref m_qwidth, .ref m_qnumbers, .ref m_qmoving])), (m_qworld, .inl (cA 1, 122, .inl m_cworld)), (m_qsums, .inl (cA 1, 2304, .inl (u_3.2.2.1 0))), (m_qpairs, .inl (cA 1, 2304, .inl (u_3.2.2.1 1))), (m_qgoesWith, .inl (cA 1, 8, .inl (u_3.2.2.1 2)))]) [0, 1, 2, 3, 4] (by decide) rfl
      exact W.iret (v := L1_130) hx hb hr (fun t ht hW => ⟨⟨L1_130, ((fun _ => 0), (fun _ => 0), (selF [(u_3.2.2.1 0), (u_3.2.2.1 1), (u_3.2.2.1 2)]), (fun _ _ => 0)), rfl, (show -2 ≤ L1_130.toInt ∧ L1_130.toInt ≤ 255 from by omega), by rw [ht]; exact hP9, hD9⟩, hS.F ht⟩) hS.2.2 dX12_loners_55
    · skip
      have k_134 := kk_nle rfl rfl c_132
      refine lv_iload_n hx hb dX12_loners_28 rfl (lv_at hl 1 rfl) ?_
      refine lv_aload_n hx hb dX12_loners_29 rfl (lv_at hl 2 rfl) ?_
      refine va_get (D := D) (ci := 12) (v := .ref m_qgoesWith) (C := RX12) (T := TX12) (N := 35) hx hb hts inX12 hown hKN.1 hP 0 rfl rfl 23 (by decide) (hts _ tw_1442) (fun _ h9 => h9) rfl dX12_loners_30 ?_
      refine lv_iload_n hx hb dX12_loners_33 rfl (lv_at hl 0 rfl) ?_
      refine va_iald hx hb hKN.1 hP 4 1 rfl rfl (vp_in_iff.mpr ⟨by omega, by omega⟩) dX12_loners_34 ?_
      refine lv_topi (fun x_135 ex_135 => ?_)
      refine lv_iconst (v := (-1)) hx hb dX12_loners_35 (by decide) ?_
      refine lv_icmp_ne (tgt := 45) hx hb dX12_loners_36 (by decide) (fun c_136 => ?_) (fun c_136 => ?_)
      · skip
        have b_138 := i32_bd x_135
        have k_137 := kk_ne rfl zi_m1 c_136
        refine lv_iconst (v := 0) hx hb dX12_loners_45 (by decide) ?_
        refine lv_ior hx hb dX12_loners_46 ?_
        refine lv_topi (fun x_139 ex_139 => ?_)
        have k_140 := ar_or (n := 8) (M := 256) rfl zi_0 ex_139 (by decide) (by decide) (by omega) (by omega)
        refine lv_istore_n (lv' := [(1, .int x_139), (2, .int L2_130), (0, .ref h0)]) hx hb dX12_loners_47 rfl hl (by decide) rfl (fun ls hl => ?_)
        obtain ⟨x_141, ex_141⟩ : ∃ y : Int32, L2_130 + Int32.ofInt 1 = y := ⟨_, rfl⟩
        have k_142 := ar_add (b := 1) rfl zi_1 ex_141.symm (by omega) (by omega)
        refine lv_iinc (v := x_141) (lv' := [(2, .int x_141), (1, .int x_139), (0, .ref h0)]) hx hb dX12_loners_48 hl (k := 1) rfl ex_141 (by decide) rfl (fun ls hl => ?_)
        refine lv_goto (tgt := 18) hx hb dX12_loners_51 (by decide) ?_
        exact ih_130 (x_141, x_139) _ _ _ ⟨(show 0 ≤ x_141.toInt ∧ x_141.toInt ≤ 8 from by omega), (show 0 ≤ x_139.toInt ∧ x_139.toInt ≤ 255 from by omega), hP.sub [0, 1, 2, 3, 4] rfl, hD.sub [0, 1, 2, 3, 4] (by decide) rfl, hS, lv_sub hl [0, 1, 2] rfl⟩ (by show (2147483647 - x_141.toInt).toNat < (2147483647 - L2_130.toInt).toNat; omega)
      · skip
        have b_144 := i32_bd x_135
        have k_143 := kk_eq rfl zi_m1 c_136
        refine lv_iconst (v := 1) hx hb dX12_loners_39 (by decide) ?_
        refine lv_iload_n hx hb dX12_loners_40 rfl (lv_at hl 0 rfl) ?_
        refine lv_ishl hx hb dX12_loners_41 ?_
        refine lv_topi (fun x_145 ex_145 => ?_)
        have k_146 := ar_shl1 ex_145 (by omega) (by omega)
        refine lv_goto (tgt := 46) hx hb dX12_loners_42 (by decide) ?_
        refine lv_ior hx hb dX12_loners_46 ?_
        refine lv_topi (fun x_147 ex_147 => ?_)
        have k_148 := ar_or (n := 8) (M := 256) rfl rfl ex_147 (by decide) (by decide) (by omega) (by omega)
        refine lv_istore_n (lv' := [(1, .int x_147), (2, .int L2_130), (0, .ref h0)]) hx hb dX12_loners_47 rfl hl (by decide) rfl (fun ls hl => ?_)
        obtain ⟨x_149, ex_149⟩ : ∃ y : Int32, L2_130 + Int32.ofInt 1 = y := ⟨_, rfl⟩
        have k_150 := ar_add (b := 1) rfl zi_1 ex_149.symm (by omega) (by omega)
        refine lv_iinc (v := x_149) (lv' := [(2, .int x_149), (1, .int x_147), (0, .ref h0)]) hx hb dX12_loners_48 hl (k := 1) rfl ex_149 (by decide) rfl (fun ls hl => ?_)
        refine lv_goto (tgt := 18) hx hb dX12_loners_51 (by decide) ?_
        exact ih_130 (x_149, x_147) _ _ _ ⟨(show 0 ≤ x_149.toInt ∧ x_149.toInt ≤ 8 from by omega), (show 0 ≤ x_147.toInt ∧ x_147.toInt ≤ 255 from by omega), hP.sub [0, 1, 2, 3, 4] rfl, hD.sub [0, 1, 2, 3, 4] (by decide) rfl, hS, lv_sub hl [0, 1, 2] rfl⟩ (by show (2147483647 - x_149.toInt).toNat < (2147483647 - L2_130.toInt).toNat; omega)
  · skip
    refine lv_if_ne (tgt := 10) hx hb dX12_loners_4 (by decide) (fun c_151 => absurd (by decide) c_151) (fun c_151 => ?_)
    refine lv_bipush (v := (-2)) hx hb dX12_loners_7 (by decide) ?_
    have hP9 := hP.sub (ws' := [(h0, .inr (12, [.int m_thrown, .ref m_qworld, .ref m_qimages, .ref m_qhasImage, .ref m_qtape, .int m_taped, .ref m_qfive, .int m_size, .int m_at, .int m_from, .int m_token, .int m_value, .int m_faultKind, .int m_faultPlace, .ref m_qfresh, .int m_startOne, .int m_startOther, .int m_latest, .int m_leftBeats, .int m_signed, .int m_metMany, .ref m_qsums, .ref m_qpairs, .ref m_qgoesWith, .ref m_qsaid, .int m_saidMany, .int m_firstWait, .ref m_qfirstOrder, .int m_bundleFirst, .ref m_qtiredBy, .int m_tiredMany, .ref m_qmany, .ref m_qwidth, .ref m_qnumbers, .ref m_qmoving])), (m_qworld, .inl (cA 1, 122, .inl m_cworld)), (m_qsums, .inl (cA 1, 2304, .inl m_csums)), (m_qpairs, .inl (cA 1, 2304, .inl m_cpairs)), (m_qgoesWith, .inl (cA 1, 8, .inl m_cgoesWith))]) [0, 1, 2, 3, 4] rfl
    have hD9 := hD.sub (ws' := [(h0, .inr (12, [.int m_thrown, .ref m_qworld, .ref m_qimages, .ref m_qhasImage, .ref m_qtape, .int m_taped, .ref m_qfive, .int m_size, .int m_at, .int m_from, .int m_token, .int m_value, .int m_faultKind, .int m_faultPlace, .ref m_qfresh, .int m_startOne, .int m_startOther, .int m_latest, .int m_leftBeats, .int m_signed, .int m_metMany, .ref m_qsums, .ref m_qpairs, .ref m_qgoesWith, .ref m_qsaid, .int m_saidMany, .int m_firstWait, .ref m_qfirstOrder, .int m_bundleFirst, .ref m_qtiredBy, .int m_tiredMany, .ref m_qmany, .ref m_qwidth, .ref m_qnumbers, .ref m_qmoving])), (m_qworld, .inl (cA 1, 122, .inl m_cworld)), (m_qsums, .inl (cA 1, 2304, .inl m_csums)), (m_qpairs, .inl (cA 1, 2304, .inl m_cpairs)), (m_qgoesWith, .inl (cA 1, 8, .inl m_cgoesWith))]) [0, 1, 2, 3, 4] (by decide) rfl
    exact W.iret (v := (-2)) hx hb hr (fun t ht hW => ⟨⟨(-2), ((fun _ => 0), (fun _ => 0), (selF [m_csums, m_cpairs, m_cgoesWith]), (fun _ _ => 0)), rfl, (show -2 ≤ ((-2) : Int32).toInt ∧ ((-2) : Int32).toInt ≤ 255 from by decide), by rw [ht]; exact hP9, hD9⟩, hS.F ht⟩) hS.2.2 dX12_loners_9
set_option maxHeartbeats 8000000 in
set_option maxRecDepth 100000 in
theorem g_X12_feed (l : Launch) (D : va_G) (cA : Nat → ClassId) (sz : Nat) (h0 : Nat) (m_thrown : Int32) (m_qworld : Nat) (m_qimages : Nat) (m_qhasImage : Nat) (m_qtape : Nat) (m_taped : Int32) (m_qfive : Nat) (m_size : Int32) (m_at : Int32) (m_from : Int32) (m_token : Int32) (m_value : Int32) (m_faultKind : Int32) (m_faultPlace : Int32) (m_qfresh : Nat) (m_startOne : Int32) (m_startOther : Int32) (m_latest : Int32) (m_leftBeats : Int32) (m_signed : Int32) (m_metMany : Int32) (m_qsums : Nat) (m_qpairs : Nat) (m_qgoesWith : Nat) (m_qsaid : Nat) (m_saidMany : Int32) (m_firstWait : Int32) (m_qfirstOrder : Nat) (m_bundleFirst : Int32) (m_qtiredBy : Nat) (m_tiredMany : Int32) (m_qmany : Nat) (m_qwidth : Nat) (m_qnumbers : Nat) (m_qmoving : Nat) (m_ctape : Nat → Int32) (m_cfive : Nat → Int32) (p0 : Int32) (p1 : Int32) (p2 : Int32) (p3 : Int32) (p4 : Int32) (h_m_taped : 0 ≤ (m_taped : Int32).toInt ∧ (m_taped : Int32).toInt ≤ 800) (h_m_size : 0 ≤ (m_size : Int32).toInt ∧ (m_size : Int32).toInt ≤ 800) (h_m_at : 0 ≤ (m_at : Int32).toInt ∧ (m_at : Int32).toInt ≤ 800) (h_m_from : 0 ≤ (m_from : Int32).toInt ∧ (m_from : Int32).toInt ≤ 800) (h_m_saidMany : 0 ≤ (m_saidMany : Int32).toInt ∧ (m_saidMany : Int32).toInt ≤ 60) (h_m_tiredMany : 0 ≤ (m_tiredMany : Int32).toInt ∧ (m_tiredMany : Int32).toInt ≤ 240) : Met l yX12_feed (Cond.code yX12_feed cX12_feed 7 (some .int) :: TB) (rmd 0 0 0) (PM D cA sz [(h0, .inr (12, [.int m_thrown, .ref m_qworld, .ref m_qimages, .ref m_qhasImage, .ref m_qtape, .int m_taped, .ref m_qfive, .int m_size, .int m_at, .int m_from, .int m_token, .int m_value, .int m_faultKind, .int m_faultPlace, .ref m_qfresh, .int m_startOne, .int m_startOther, .int m_latest, .int m_leftBeats, .int m_signed, .int m_metMany, .ref m_qsums, .ref m_qpairs, .ref m_qgoesWith, .ref m_qsaid, .int m_saidMany, .int m_firstWait, .ref m_qfirstOrder, .int m_bundleFirst, .ref m_qtiredBy, .int m_tiredMany, .ref m_qmany, .ref m_qwidth, .ref m_qnumbers, .ref m_qmoving])), (m_qtape, .inl (cA 0, 800, .inl m_ctape)), (m_qfive, .inl (cA 1, 5, .inl m_cfive))] [.ref h0, .int p0, .int p1, .int p2, .int p3, .int p4]) (va_Qi (fun r (u : SU) => (-1 ≤ r.toInt ∧ r.toInt ≤ 800) ∧ (20 ≤ (u.2.1 0).toInt ∧ (u.2.1 0).toInt ≤ 800)) (fun u t => va_P D vwCl [(h0, .inr (12, [.int m_thrown, .ref m_qworld, .ref m_qimages, .ref m_qhasImage, .ref m_qtape, .int (u.2.1 0), .ref m_qfive, .int m_size, .int m_at, .int m_from, .int m_token, .int m_value, .int m_faultKind, .int m_faultPlace, .ref m_qfresh, .int m_startOne, .int m_startOther, .int m_latest, .int m_leftBeats, .int m_signed, .int m_metMany, .ref m_qsums, .ref m_qpairs, .ref m_qgoesWith, .ref m_qsaid, .int m_saidMany, .int m_firstWait, .ref m_qfirstOrder, .int m_bundleFirst, .ref m_qtiredBy, .int m_tiredMany, .ref m_qmany, .ref m_qwidth, .ref m_qnumbers, .ref m_qmoving])), (m_qtape, .inl (cA 0, 800, .inl (u.2.2.1 0))), (m_qfive, .inl (cA 1, 5, .inl (u.2.2.1 1)))] t.heap ∧ va_D (va_A [(h0, .inr (12, [.int m_thrown, .ref m_qworld, .ref m_qimages, .ref m_qhasImage, .ref m_qtape, .int m_taped, .ref m_qfive, .int m_size, .int m_at, .int m_from, .int m_token, .int m_value, .int m_faultKind, .int m_faultPlace, .ref m_qfresh, .int m_startOne, .int m_startOther, .int m_latest, .int m_leftBeats, .int m_signed, .int m_metMany, .ref m_qsums, .ref m_qpairs, .ref m_qgoesWith, .ref m_qsaid, .int m_saidMany, .int m_firstWait, .ref m_qfirstOrder, .int m_bundleFirst, .ref m_qtiredBy, .int m_tiredMany, .ref m_qmany, .ref m_qwidth, .ref m_qnumbers, .ref m_qmoving])), (m_qtape, .inl (cA 0, 800, .inl m_ctape)), (m_qfive, .inl (cA 1, 5, .inl m_cfive))] sz) [(h0, .inr (12, [.int m_thrown, .ref m_qworld, .ref m_qimages, .ref m_qhasImage, .ref m_qtape, .int (u.2.1 0), .ref m_qfive, .int m_size, .int m_at, .int m_from, .int m_token, .int m_value, .int m_faultKind, .int m_faultPlace, .ref m_qfresh, .int m_startOne, .int m_startOther, .int m_latest, .int m_leftBeats, .int m_signed, .int m_metMany, .ref m_qsums, .ref m_qpairs, .ref m_qgoesWith, .ref m_qsaid, .int m_saidMany, .int m_firstWait, .ref m_qfirstOrder, .int m_bundleFirst, .ref m_qtiredBy, .int m_tiredMany, .ref m_qmany, .ref m_qwidth, .ref m_qnumbers, .ref m_qmoving])), (m_qtape, .inl (cA 0, 800, .inl (u.2.2.1 0))), (m_qfive, .inl (cA 1, 5, .inl (u.2.2.1 1)))]) (va_A [(h0, .inr (12, [.int m_thrown, .ref m_qworld, .ref m_qimages, .ref m_qhasImage, .ref m_qtape, .int m_taped, .ref m_qfive, .int m_size, .int m_at, .int m_from, .int m_token, .int m_value, .int m_faultKind, .int m_faultPlace, .ref m_qfresh, .int m_startOne, .int m_startOther, .int m_latest, .int m_leftBeats, .int m_signed, .int m_metMany, .ref m_qsums, .ref m_qpairs, .ref m_qgoesWith, .ref m_qsaid, .int m_saidMany, .int m_firstWait, .ref m_qfirstOrder, .int m_bundleFirst, .ref m_qtiredBy, .int m_tiredMany, .ref m_qmany, .ref m_qwidth, .ref m_qnumbers, .ref m_qmoving])), (m_qtape, .inl (cA 0, 800, .inl m_ctape)), (m_qfive, .inl (cA 1, 5, .inl m_cfive))] sz)) 0 0 (va_A [(h0, .inr (12, [.int m_thrown, .ref m_qworld, .ref m_qimages, .ref m_qhasImage, .ref m_qtape, .int m_taped, .ref m_qfive, .int m_size, .int m_at, .int m_from, .int m_token, .int m_value, .int m_faultKind, .int m_faultPlace, .ref m_qfresh, .int m_startOne, .int m_startOther, .int m_latest, .int m_leftBeats, .int m_signed, .int m_metMany, .ref m_qsums, .ref m_qpairs, .ref m_qgoesWith, .ref m_qsaid, .int m_saidMany, .int m_firstWait, .ref m_qfirstOrder, .int m_bundleFirst, .ref m_qtiredBy, .int m_tiredMany, .ref m_qmany, .ref m_qwidth, .ref m_qnumbers, .ref m_qmoving])), (m_qtape, .inl (cA 0, 800, .inl m_ctape)), (m_qfive, .inl (cA 1, 5, .inl m_cfive))] sz) := by
  refine Met.ofW (cc := cX12_feed) (maxL := 7) (ret := (some .int)) (by decide) rfl ?_
  intro p e s m args below meth c s₁ B hml hv
  obtain ⟨rfl, hsz, hP, hKN, hD0⟩ := hv
  have hx := B.exec
  have hb := B.bytes
  have hr := B.returns
  have hts : ∀ w ∈ TB, w.before _ s = true := fun w h => atoms_spec B.pre w (List.mem_cons_of_mem _ h)
  have hown : s.vm.findClass RX12 = some m.cls := findClass_of_methodNamed B.named
  have hlocks := B.notSynchronized
  subst hsz
  have hD := hD0.self (sz := s.heap.size)
  generalize hAe : va_A [(h0, .inr (12, [.int m_thrown, .ref m_qworld, .ref m_qimages, .ref m_qhasImage, .ref m_qtape, .int m_taped, .ref m_qfive, .int m_size, .int m_at, .int m_from, .int m_token, .int m_value, .int m_faultKind, .int m_faultPlace, .ref m_qfresh, .int m_startOne, .int m_startOther, .int m_latest, .int m_leftBeats, .int m_signed, .int m_metMany, .ref m_qsums, .ref m_qpairs, .ref m_qgoesWith, .ref m_qsaid, .int m_saidMany, .int m_firstWait, .ref m_qfirstOrder, .int m_bundleFirst, .ref m_qtiredBy, .int m_tiredMany, .ref m_qmany, .ref m_qwidth, .ref m_qnumbers, .ref m_qmoving])), (m_qtape, .inl (cA 0, 800, .inl m_ctape)), (m_qfive, .inl (cA 1, 5, .inl m_cfive))] s.heap.size = A at hD ⊢
  have hA : ∀ q : Nat, s.heap.size ≤ q → A q := fun q h => by rw [← hAe]; exact Or.inr h
  have hS : va_S A s.heap s.heap [] := va_S.rf
  have hl := lv_entry ([.ref h0, .int p0, .int p1, .int p2, .int p3, .int p4]) (n := 7) (Nat.le_of_ble_eq_true rfl)
  rw [lg_entry_eq]
  generalize (lg_sl ([.ref h0, .int p0, .int p1, .int p2, .int p3, .int p4]) ++ List.replicate (7 - (lg_sl ([.ref h0, .int p0, .int p1, .int p2, .int p3, .int p4])).length) Slot.unset).toArray = ls at hl ⊢
  have hl : lv_has ls 7 [(0, .ref h0), (1, .int p0), (2, .int p1), (3, .int p2), (4, .int p3), (5, .int p4)] := hl
  refine lv_aload_n hx hb dX12_feed_0 rfl (lv_at hl 0 rfl) ?_
  refine va_get (D := D) (ci := 12) (v := .int m_taped) (C := RX12) (T := TX12) (N := 35) hx hb hts inX12 hown hKN.1 hP 0 rfl rfl 5 (by decide) (hts _ tw_1424) (fun _ h9 => h9) rfl dX12_feed_1 ?_
  refine lv_bipush (v := 20) hx hb dX12_feed_4 (by decide) ?_
  refine lv_iadd hx hb dX12_feed_6 ?_
  refine lv_topi (fun x_1 ex_1 => ?_)
  have k_2 := ar_add rfl zi_20 ex_1 (by omega) (by omega)
  refine lv_sipush (v := 800) hx hb dX12_feed_7 (by decide) ?_
  refine lv_icmp_le (tgt := 15) hx hb dX12_feed_10 (by decide) (fun c_3 => ?_) (fun c_3 => ?_)
  · skip
    have k_4 := kk_le rfl zi_800 c_3
    refine lv_aload_n hx hb dX12_feed_15 rfl (lv_at hl 0 rfl) ?_
    refine va_get (D := D) (ci := 12) (v := .ref m_qfive) (C := RX12) (T := TX12) (N := 35) hx hb hts inX12 hown hKN.1 hP 0 rfl rfl 6 (by decide) (hts _ tw_1425) (fun _ h9 => h9) rfl dX12_feed_16 ?_
    refine lv_iconst (v := 0) hx hb dX12_feed_19 (by decide) ?_
    refine lv_iload_n hx hb dX12_feed_20 rfl (lv_at hl 1 rfl) ?_
    refine va_iast hx hb hKN.1 hP hD hS 2 1 rfl rfl (by unfold vp_in; decide) dX12_feed_21 (fun H locs hP hD hS => ?_)
    have hP : va_P D vwCl [(h0, .inr (12, [.int m_thrown, .ref m_qworld, .ref m_qimages, .ref m_qhasImage, .ref m_qtape, .int m_taped, .ref m_qfive, .int m_size, .int m_at, .int m_from, .int m_token, .int m_value, .int m_faultKind, .int m_faultPlace, .ref m_qfresh, .int m_startOne, .int m_startOther, .int m_latest, .int m_leftBeats, .int m_signed, .int m_metMany, .ref m_qsums, .ref m_qpairs, .ref m_qgoesWith, .ref m_qsaid, .int m_saidMany, .int m_firstWait, .ref m_qfirstOrder, .int m_bundleFirst, .ref m_qtiredBy, .int m_tiredMany, .ref m_qmany, .ref m_qwidth, .ref m_qnumbers, .ref m_qmoving])), (m_qtape, .inl (cA 0, 800, .inl m_ctape)), (m_qfive, .inl (cA 1, 5, .inl (upd m_cfive 0 p0)))] H := hP
    have hD : va_D A [(h0, .inr (12, [.int m_thrown, .ref m_qworld, .ref m_qimages, .ref m_qhasImage, .ref m_qtape, .int m_taped, .ref m_qfive, .int m_size, .int m_at, .int m_from, .int m_token, .int m_value, .int m_faultKind, .int m_faultPlace, .ref m_qfresh, .int m_startOne, .int m_startOther, .int m_latest, .int m_leftBeats, .int m_signed, .int m_metMany, .ref m_qsums, .ref m_qpairs, .ref m_qgoesWith, .ref m_qsaid, .int m_saidMany, .int m_firstWait, .ref m_qfirstOrder, .int m_bundleFirst, .ref m_qtiredBy, .int m_tiredMany, .ref m_qmany, .ref m_qwidth, .ref m_qnumbers, .ref m_qmoving])), (m_qtape, .inl (cA 0, 800, .inl m_ctape)), (m_qfive, .inl (cA 1, 5, .inl (upd m_cfive 0 p0)))] := hD
    generalize ef_5 : (upd m_cfive 0 p0) = f_5 at hP hD
    refine lv_aload_n hx hb dX12_feed_22 rfl (lv_at hl 0 rfl) ?_
    refine va_get (D := D) (ci := 12) (v := .ref m_qfive) (C := RX12) (T := TX12) (N := 35) hx hb hts inX12 hown hKN.1 hP 0 rfl rfl 6 (by decide) (hts _ tw_1425) (fun _ h9 => h9) rfl dX12_feed_23 ?_
    refine lv_iconst (v := 1) hx hb dX12_feed_26 (by decide) ?_
    refine lv_iload_n hx hb dX12_feed_27 rfl (lv_at hl 2 rfl) ?_
    refine va_iast hx hb hKN.1 hP hD hS 2 1 rfl rfl (by unfold vp_in; decide) dX12_feed_28 (fun H locs hP hD hS => ?_)
    have hP : va_P D vwCl [(h0, .inr (12, [.int m_thrown, .ref m_qworld, .ref m_qimages, .ref m_qhasImage, .ref m_qtape, .int m_taped, .ref m_qfive, .int m_size, .int m_at, .int m_from, .int m_token, .int m_value, .int m_faultKind, .int m_faultPlace, .ref m_qfresh, .int m_startOne, .int m_startOther, .int m_latest, .int m_leftBeats, .int m_signed, .int m_metMany, .ref m_qsums, .ref m_qpairs, .ref m_qgoesWith, .ref m_qsaid, .int m_saidMany, .int m_firstWait, .ref m_qfirstOrder, .int m_bundleFirst, .ref m_qtiredBy, .int m_tiredMany, .ref m_qmany, .ref m_qwidth, .ref m_qnumbers, .ref m_qmoving])), (m_qtape, .inl (cA 0, 800, .inl m_ctape)), (m_qfive, .inl (cA 1, 5, .inl (upd f_5 1 p1)))] H := hP
    have hD : va_D A [(h0, .inr (12, [.int m_thrown, .ref m_qworld, .ref m_qimages, .ref m_qhasImage, .ref m_qtape, .int m_taped, .ref m_qfive, .int m_size, .int m_at, .int m_from, .int m_token, .int m_value, .int m_faultKind, .int m_faultPlace, .ref m_qfresh, .int m_startOne, .int m_startOther, .int m_latest, .int m_leftBeats, .int m_signed, .int m_metMany, .ref m_qsums, .ref m_qpairs, .ref m_qgoesWith, .ref m_qsaid, .int m_saidMany, .int m_firstWait, .ref m_qfirstOrder, .int m_bundleFirst, .ref m_qtiredBy, .int m_tiredMany, .ref m_qmany, .ref m_qwidth, .ref m_qnumbers, .ref m_qmoving])), (m_qtape, .inl (cA 0, 800, .inl m_ctape)), (m_qfive, .inl (cA 1, 5, .inl (upd f_5 1 p1)))] := hD
    generalize ef_6 : (upd f_5 1 p1) = f_6 at hP hD
    refine lv_aload_n hx hb dX12_feed_29 rfl (lv_at hl 0 rfl) ?_
    refine va_get (D := D) (ci := 12) (v := .ref m_qfive) (C := RX12) (T := TX12) (N := 35) hx hb hts inX12 hown hKN.1 hP 0 rfl rfl 6 (by decide) (hts _ tw_1425) (fun _ h9 => h9) rfl dX12_feed_30 ?_
    refine lv_iconst (v := 2) hx hb dX12_feed_33 (by decide) ?_
    refine lv_iload_n hx hb dX12_feed_34 rfl (lv_at hl 3 rfl) ?_
    refine va_iast hx hb hKN.1 hP hD hS 2 1 rfl rfl (by unfold vp_in; decide) dX12_feed_35 (fun H locs hP hD hS => ?_)
    have hP : va_P D vwCl [(h0, .inr (12, [.int m_thrown, .ref m_qworld, .ref m_qimages, .ref m_qhasImage, .ref m_qtape, .int m_taped, .ref m_qfive, .int m_size, .int m_at, .int m_from, .int m_token, .int m_value, .int m_faultKind, .int m_faultPlace, .ref m_qfresh, .int m_startOne, .int m_startOther, .int m_latest, .int m_leftBeats, .int m_signed, .int m_metMany, .ref m_qsums, .ref m_qpairs, .ref m_qgoesWith, .ref m_qsaid, .int m_saidMany, .int m_firstWait, .ref m_qfirstOrder, .int m_bundleFirst, .ref m_qtiredBy, .int m_tiredMany, .ref m_qmany, .ref m_qwidth, .ref m_qnumbers, .ref m_qmoving])), (m_qtape, .inl (cA 0, 800, .inl m_ctape)), (m_qfive, .inl (cA 1, 5, .inl (upd f_6 2 p2)))] H := hP
    have hD : va_D A [(h0, .inr (12, [.int m_thrown, .ref m_qworld, .ref m_qimages, .ref m_qhasImage, .ref m_qtape, .int m_taped, .ref m_qfive, .int m_size, .int m_at, .int m_from, .int m_token, .int m_value, .int m_faultKind, .int m_faultPlace, .ref m_qfresh, .int m_startOne, .int m_startOther, .int m_latest, .int m_leftBeats, .int m_signed, .int m_metMany, .ref m_qsums, .ref m_qpairs, .ref m_qgoesWith, .ref m_qsaid, .int m_saidMany, .int m_firstWait, .ref m_qfirstOrder, .int m_bundleFirst, .ref m_qtiredBy, .int m_tiredMany, .ref m_qmany, .ref m_qwidth, .ref m_qnumbers, .ref m_qmoving])), (m_qtape, .inl (cA 0, 800, .inl m_ctape)), (m_qfive, .inl (cA 1, 5, .inl (upd f_6 2 p2)))] := hD
    generalize ef_7 : (upd f_6 2 p2) = f_7 at hP hD
    refine lv_aload_n hx hb dX12_feed_36 rfl (lv_at hl 0 rfl) ?_
    refine va_get (D := D) (ci := 12) (v := .ref m_qfive) (C := RX12) (T := TX12) (N := 35) hx hb hts inX12 hown hKN.1 hP 0 rfl rfl 6 (by decide) (hts _ tw_1425) (fun _ h9 => h9) rfl dX12_feed_37 ?_
    refine lv_iconst (v := 3) hx hb dX12_feed_40 (by decide) ?_
    refine lv_iload hx hb dX12_feed_41 (lv_at hl 4 rfl) ?_
    refine va_iast hx hb hKN.1 hP hD hS 2 1 rfl rfl (by unfold vp_in; decide) dX12_feed_43 (fun H locs hP hD hS => ?_)
    have hP : va_P D vwCl [(h0, .inr (12, [.int m_thrown, .ref m_qworld, .ref m_qimages, .ref m_qhasImage, .ref m_qtape, .int m_taped, .ref m_qfive, .int m_size, .int m_at, .int m_from, .int m_token, .int m_value, .int m_faultKind, .int m_faultPlace, .ref m_qfresh, .int m_startOne, .int m_startOther, .int m_latest, .int m_leftBeats, .int m_signed, .int m_metMany, .ref m_qsums, .ref m_qpairs, .ref m_qgoesWith, .ref m_qsaid, .int m_saidMany, .int m_firstWait, .ref m_qfirstOrder, .int m_bundleFirst, .ref m_qtiredBy, .int m_tiredMany, .ref m_qmany, .ref m_qwidth, .ref m_qnumbers, .ref m_qmoving])), (m_qtape, .inl (cA 0, 800, .inl m_ctape)), (m_qfive, .inl (cA 1, 5, .inl (upd f_7 3 p3)))] H := hP
    have hD : va_D A [(h0, .inr (12, [.int m_thrown, .ref m_qworld, .ref m_qimages, .ref m_qhasImage, .ref m_qtape, .int m_taped, .ref m_qfive, .int m_size, .int m_at, .int m_from, .int m_token, .int m_value, .int m_faultKind, .int m_faultPlace, .ref m_qfresh, .int m_startOne, .int m_startOther, .int m_latest, .int m_leftBeats, .int m_signed, .int m_metMany, .ref m_qsums, .ref m_qpairs, .ref m_qgoesWith, .ref m_qsaid, .int m_saidMany, .int m_firstWait, .ref m_qfirstOrder, .int m_bundleFirst, .ref m_qtiredBy, .int m_tiredMany, .ref m_qmany, .ref m_qwidth, .ref m_qnumbers, .ref m_qmoving])), (m_qtape, .inl (cA 0, 800, .inl m_ctape)), (m_qfive, .inl (cA 1, 5, .inl (upd f_7 3 p3)))] := hD
    generalize ef_8 : (upd f_7 3 p3) = f_8 at hP hD
    refine lv_aload_n hx hb dX12_feed_44 rfl (lv_at hl 0 rfl) ?_
    refine va_get (D := D) (ci := 12) (v := .ref m_qfive) (C := RX12) (T := TX12) (N := 35) hx hb hts inX12 hown hKN.1 hP 0 rfl rfl 6 (by decide) (hts _ tw_1425) (fun _ h9 => h9) rfl dX12_feed_45 ?_
    refine lv_iconst (v := 4) hx hb dX12_feed_48 (by decide) ?_
    refine lv_iload hx hb dX12_feed_49 (lv_at hl 5 rfl) ?_
    refine va_iast hx hb hKN.1 hP hD hS 2 1 rfl rfl (by unfold vp_in; decide) dX12_feed_51 (fun H locs hP hD hS => ?_)
    have hP : va_P D vwCl [(h0, .inr (12, [.int m_thrown, .ref m_qworld, .ref m_qimages, .ref m_qhasImage, .ref m_qtape, .int m_taped, .ref m_qfive, .int m_size, .int m_at, .int m_from, .int m_token, .int m_value, .int m_faultKind, .int m_faultPlace, .ref m_qfresh, .int m_startOne, .int m_startOther, .int m_latest, .int m_leftBeats, .int m_signed, .int m_metMany, .ref m_qsums, .ref m_qpairs, .ref m_qgoesWith, .ref m_qsaid, .int m_saidMany, .int m_firstWait, .ref m_qfirstOrder, .int m_bundleFirst, .ref m_qtiredBy, .int m_tiredMany, .ref m_qmany, .ref m_qwidth, .ref m_qnumbers, .ref m_qmoving])), (m_qtape, .inl (cA 0, 800, .inl m_ctape)), (m_qfive, .inl (cA 1, 5, .inl (upd f_8 4 p4)))] H := hP
    have hD : va_D A [(h0, .inr (12, [.int m_thrown, .ref m_qworld, .ref m_qimages, .ref m_qhasImage, .ref m_qtape, .int m_taped, .ref m_qfive, .int m_size, .int m_at, .int m_from, .int m_token, .int m_value, .int m_faultKind, .int m_faultPlace, .ref m_qfresh, .int m_startOne, .int m_startOther, .int m_latest, .int m_leftBeats, .int m_signed, .int m_metMany, .ref m_qsums, .ref m_qpairs, .ref m_qgoesWith, .ref m_qsaid, .int m_saidMany, .int m_firstWait, .ref m_qfirstOrder, .int m_bundleFirst, .ref m_qtiredBy, .int m_tiredMany, .ref m_qmany, .ref m_qwidth, .ref m_qnumbers, .ref m_qmoving])), (m_qtape, .inl (cA 0, 800, .inl m_ctape)), (m_qfive, .inl (cA 1, 5, .inl (upd f_8 4 p4)))] := hD
    generalize ef_9 : (upd f_8 4 p4) = f_9 at hP hD
    refine lv_iconst (v := 0) hx hb dX12_feed_52 (by decide) ?_
    refine lv_istore (lv' := [(6, .int 0), (0, .ref h0), (1, .int p0), (2, .int p1), (3, .int p2), (4, .int p3), (5, .int p4)]) hx hb dX12_feed_53 hl (by decide) rfl (fun ls hl => ?_)
    refine loopW (σ := Int32 × (Nat → Int32)) (fun _ => []) (fun ⟨L6_136, F1_136⟩ H locs ls => (0 ≤ L6_136.toInt ∧ L6_136.toInt ≤ 20) ∧ va_P D vwCl [(h0, .inr (12, [.int m_thrown, .ref m_qworld, .ref m_qimages, .ref m_qhasImage, .ref m_qtape, .int m_taped, .ref m_qfive, .int m_size, .int m_at, .int m_from, .int m_token, .int m_value, .int m_faultKind, .int m_faultPlace, .ref m_qfresh, .int m_startOne, .int m_startOther, .int m_latest, .int m_leftBeats, .int m_signed, .int m_metMany, .ref m_qsums, .ref m_qpairs, .ref m_qgoesWith, .ref m_qsaid, .int m_saidMany, .int m_firstWait, .ref m_qfirstOrder, .int m_bundleFirst, .ref m_qtiredBy, .int m_tiredMany, .ref m_qmany, .ref m_qwidth, .ref m_qnumbers, .ref m_qmoving])), (m_qtape, .inl (cA 0, 800, .inl F1_136)), (m_qfive, .inl (cA 1, 5, .inl f_9))] H ∧ va_D A [(h0, .inr (12, [.int m_thrown, .ref m_qworld, .ref m_qimages, .ref m_qhasImage, .ref m_qtape, .int m_taped, .ref m_qfive, .int m_size, .int m_at, .int m_from, .int m_token, .int m_value, .int m_faultKind, .int m_faultPlace, .ref m_qfresh, .int m_startOne, .int m_startOther, .int m_latest, .int m_leftBeats, .int m_signed, .int m_metMany, .ref m_qsums, .ref m_qpairs, .ref m_qgoesWith, .ref m_qsaid, .int m_saidMany, .int m_firstWait, .ref m_qfirstOrder, .int m_bundleFirst, .ref m_qtiredBy, .int m_tiredMany, .ref m_qmany, .ref m_qwidth, .ref m_qnumbers, .ref m_qmoving])), (m_qtape, .inl (cA 0, 800, .inl F1_136)), (m_qfive, .inl (cA 1, 5, .inl f_9))] ∧ va_S A s.heap H locs ∧ lv_has ls 7 [(6, .int L6_136), (0, .ref h0), (1, .int p0), (2, .int p1), (3, .int p2), (4, .int p3), (5, .int p4)]) (fun ⟨L6_136, F1_136⟩ => (2147483647 - L6_136.toInt).toNat) ?_ ((0, m_ctape) : Int32 × (Nat → Int32)) ⟨(by decide), hP, hD, hS, hl⟩
    intro x_136 H locs ls hI_136 ih_136
    obtain ⟨L6_136, F1_136⟩ := x_136
    obtain ⟨k0_136, hP, hD, hS, hl⟩ := hI_136
    have hP : va_P D vwCl [(h0, .inr (12, [.int m_thrown, .ref m_qworld, .ref m_qimages, .ref m_qhasImage, .ref m_qtape, .int m_taped, .ref m_qfive, .int m_size, .int m_at, .int m_from, .int m_token, .int m_value, .int m_faultKind, .int m_faultPlace, .ref m_qfresh, .int m_startOne, .int m_startOther, .int m_latest, .int m_leftBeats, .int m_signed, .int m_metMany, .ref m_qsums, .ref m_qpairs, .ref m_qgoesWith, .ref m_qsaid, .int m_saidMany, .int m_firstWait, .ref m_qfirstOrder, .int m_bundleFirst, .ref m_qtiredBy, .int m_tiredMany, .ref m_qmany, .ref m_qwidth, .ref m_qnumbers, .ref m_qmoving])), (m_qtape, .inl (cA 0, 800, .inl F1_136)), (m_qfive, .inl (cA 1, 5, .inl f_9))] H := hP
    have hD : va_D A [(h0, .inr (12, [.int m_thrown, .ref m_qworld, .ref m_qimages, .ref m_qhasImage, .ref m_qtape, .int m_taped, .ref m_qfive, .int m_size, .int m_at, .int m_from, .int m_token, .int m_value, .int m_faultKind, .int m_faultPlace, .ref m_qfresh, .int m_startOne, .int m_startOther, .int m_latest, .int m_leftBeats, .int m_signed, .int m_metMany, .ref m_qsums, .ref m_qpairs, .ref m_qgoesWith, .ref m_qsaid, .int m_saidMany, .int m_firstWait, .ref m_qfirstOrder, .int m_bundleFirst, .ref m_qtiredBy, .int m_tiredMany, .ref m_qmany, .ref m_qwidth, .ref m_qnumbers, .ref m_qmoving])), (m_qtape, .inl (cA 0, 800, .inl F1_136)), (m_qfive, .inl (cA 1, 5, .inl f_9))] := hD
    have hl : lv_has ls 7 [(6, .int L6_136), (0, .ref h0), (1, .int p0), (2, .int p1), (3, .int p2), (4, .int p3), (5, .int p4)] := hl
    refine lv_iload hx hb dX12_feed_55 (lv_at hl 0 rfl) ?_
    refine lv_bipush (v := 20) hx hb dX12_feed_57 (by decide) ?_
    refine lv_icmp_ge (tgt := 101) hx hb dX12_feed_59 (by decide) (fun c_137 => ?_) (fun c_137 => ?_)
    · skip
      have k_138 := kk_le zi_20 rfl c_137
      refine lv_aload_n hx hb dX12_feed_101 rfl (lv_at hl 1 rfl) ?_
      refine lv_dup hx hb dX12_feed_102 rfl ?_
      refine va_get (D := D) (ci := 12) (v := .int m_taped) (C := RX12) (T := TX12) (N := 35) hx hb hts inX12 hown hKN.1 hP 0 rfl rfl 5 (by decide) (hts _ tw_1424) (fun _ h9 => h9) rfl dX12_feed_103 ?_
      refine lv_bipush (v := 20) hx hb dX12_feed_106 (by decide) ?_
      refine lv_iadd hx hb dX12_feed_108 ?_
      refine lv_topi (fun x_139 ex_139 => ?_)
      obtain rfl : x_1 = x_139 := ex_1.trans ex_139.symm
      refine va_put (D := D) (ci := 12) (v := .int x_1) (ty := .int) (C := RX12) (T := TX12) (N := 35) hx hb hts inX12 tyX12 tyX12_ok nmX12 hown hKN.1 hP hD hS 0 rfl rfl 5 (by decide) (hts _ tw_1424) (fun _ h9 => h9) rfl (by decide +kernel) rfl rfl (Nat.le_of_ble_eq_true rfl) dX12_feed_109 (fun H locs hP hD hS => ?_)
      have hP : va_P D vwCl [(h0, .inr (12, [.int m_thrown, .ref m_qworld, .ref m_qimages, .ref m_qhasImage, .ref m_qtape, .int x_1, .ref m_qfive, .int m_size, .int m_at, .int m_from, .int m_token, .int m_value, .int m_faultKind, .int m_faultPlace, .ref m_qfresh, .int m_startOne, .int m_startOther, .int m_latest, .int m_leftBeats, .int m_signed, .int m_metMany, .ref m_qsums, .ref m_qpairs, .ref m_qgoesWith, .ref m_qsaid, .int m_saidMany, .int m_firstWait, .ref m_qfirstOrder, .int m_bundleFirst, .ref m_qtiredBy, .int m_tiredMany, .ref m_qmany, .ref m_qwidth, .ref m_qnumbers, .ref m_qmoving])), (m_qtape, .inl (cA 0, 800, .inl F1_136)), (m_qfive, .inl (cA 1, 5, .inl f_9))] H := hP
      have hD : va_D A [(h0, .inr (12, [.int m_thrown, .ref m_qworld, .ref m_qimages, .ref m_qhasImage, .ref m_qtape, .int x_1, .ref m_qfive, .int m_size, .int m_at, .int m_from, .int m_token, .int m_value, .int m_faultKind, .int m_faultPlace, .ref m_qfresh, .int m_startOne, .int m_startOther, .int m_latest, .int m_leftBeats, .int m_signed, .int m_metMany, .ref m_qsums, .ref m_qpairs, .ref m_qgoesWith, .ref m_qsaid, .int m_saidMany, .int m_firstWait, .ref m_qfirstOrder, .int m_bundleFirst, .ref m_qtiredBy, .int m_tiredMany, .ref m_qmany, .ref m_qwidth, .ref m_qnumbers, .ref m_qmoving])), (m_qtape, .inl (cA 0, 800, .inl F1_136)), (m_qfive, .inl (cA 1, 5, .inl f_9))] := hD
      refine lv_aload_n hx hb dX12_feed_112 rfl (lv_at hl 1 rfl) ?_
      refine va_get (D := D) (ci := 12) (v := .int x_1) (C := RX12) (T := TX12) (N := 35) hx hb hts inX12 hown hKN.1 hP 0 rfl rfl 5 (by decide) (hts _ tw_1424) (fun _ h9 => h9) rfl dX12_feed_113 ?_
      have hP9 := hP.sub (ws' := [(h0, .inr (12, [.int m_thrown, .ref m_qworld, .ref m_qimages, .ref m_qhasImage, .ref m_qtape, .int x_1, .ref m_qfive, .int m_size, .int m_at, .int m_from, .int m_token, .int m_value, .int m_faultKind, .int m_faultPlace, .ref m_qfresh, .int m_startOne, .int m_startOther, .int m_latest, .int m_leftBeats, .int m_signed, .int m_metMany, .ref m_qsums, .ref m_qpairs, .ref m_qgoesWith, .ref m_qsaid, .int m_saidMany, .int m_firstWait, .ref m_qfirstOrder, .int m_bundleFirst, .ref m_qtiredBy, .int m_tiredMany, .ref m_qmany, .ref m_qwidth, .ref m_qnumbers, .ref m_qmoving])), (m_qtape, .inl (cA 0, 800, .inl F1_136)), (m_qfive, .inl (cA 1, 5, .inl f_9))]) [0, 1, 2] rfl
      have hD9 := hD.sub (ws' := [(h0, .inr (12, [.int m_thrown, .ref m_qworld, .ref m_qimages, .ref m_qhasImage, .ref m_qtape, .int x_1, .ref m_qfive, .int m_size, .int m_at, .int m_from, .int m_token, .int m_value, .int m_faultKind, .int m_faultPlace, .ref m_qfresh, .int m_startOne, .int m_startOther, .int m_latest, .int m_leftBeats, .int m_signed, .int m_metMany, .ref m_qsums, .ref m_qpairs, .ref m_qgoesWith, .ref m_qsaid, .int m_saidMany, .int m_firstWait, .ref m_qfirstOrder, .int m_bundleFirst, .ref m_qtiredBy, .int m_tiredMany, .ref m_qmany, .ref m_qwidth, .ref m_qnumbers, .ref m_qmoving])), (m_qtape, .inl (cA 0, 800, .inl F1_136)), (m_qfive, .inl (cA 1, 5, .inl f_9))]) [0, 1, 2] (by decide) rfl
      exact W.iret (v := x_1) hx hb hr (fun t ht hW => ⟨⟨x_1, ((fun _ => 0), (selI [x_1]), (selF [F1_136, f_9]), (fun _ _ => 0)), rfl, ⟨(show -1 ≤ x_1.toInt ∧ x_1.toInt ≤ 800 from by omega), (show 20 ≤ x_1.toInt ∧ x_1.toInt ≤ 800 from by omega)⟩, by rw [ht]; exact hP9, hD9⟩, hS.F ht⟩) hS.2.2 dX12_feed_116
    · skip
      have k_140 := kk_nle zi_20 rfl c_137
      refine lv_aload_n hx hb dX12_feed_62 rfl (lv_at hl 1 rfl) ?_
      refine va_get (D := D) (ci := 12) (v := .ref m_qtape) (C := RX12) (T := TX12) (N := 35) hx hb hts inX12 hown hKN.1 hP 0 rfl rfl 4 (by decide) (hts _ tw_1423) (fun _ h9 => h9) rfl dX12_feed_63 ?_
      refine lv_aload_n hx hb dX12_feed_66 rfl (lv_at hl 1 rfl) ?_
      refine va_get (D := D) (ci := 12) (v := .int m_taped) (C := RX12) (T := TX12) (N := 35) hx hb hts inX12 hown hKN.1 hP 0 rfl rfl 5 (by decide) (hts _ tw_1424) (fun _ h9 => h9) rfl dX12_feed_67 ?_
      refine lv_iload hx hb dX12_feed_70 (lv_at hl 0 rfl) ?_
      refine lv_iadd hx hb dX12_feed_72 ?_
      refine lv_topi (fun x_141 ex_141 => ?_)
      have k_142 := ar_add rfl rfl ex_141 (by omega) (by omega)
      refine lv_aload_n hx hb dX12_feed_73 rfl (lv_at hl 1 rfl) ?_
      refine va_get (D := D) (ci := 12) (v := .ref m_qfive) (C := RX12) (T := TX12) (N := 35) hx hb hts inX12 hown hKN.1 hP 0 rfl rfl 6 (by decide) (hts _ tw_1425) (fun _ h9 => h9) rfl dX12_feed_74 ?_
      refine lv_iload hx hb dX12_feed_77 (lv_at hl 0 rfl) ?_
      refine lv_iconst (v := 4) hx hb dX12_feed_79 (by decide) ?_
      refine lv_idiv hx hb dX12_feed_80 (by decide) ?_
      refine lv_topi (fun x_143 ex_143 => ?_)
      have k_144 := ar_div rfl zi_4 ex_143 (by omega) (by omega)
      refine va_iald hx hb hKN.1 hP 2 1 rfl rfl (vp_in_iff.mpr ⟨by omega, by omega⟩) dX12_feed_81 ?_
      refine lv_topi (fun x_145 ex_145 => ?_)
      refine lv_bipush (v := 24) hx hb dX12_feed_82 (by decide) ?_
      refine lv_bipush (v := 8) hx hb dX12_feed_84 (by decide) ?_
      refine lv_iload hx hb dX12_feed_86 (lv_at hl 0 rfl) ?_
      refine lv_iconst (v := 4) hx hb dX12_feed_88 (by decide) ?_
      refine lv_irem hx hb dX12_feed_89 (by decide) ?_
      refine lv_topi (fun x_146 ex_146 => ?_)
      have k_147 := ar_rem rfl zi_4 ex_146 (by omega) (by omega)
      refine lv_imul hx hb dX12_feed_90 ?_
      refine lv_topi (fun x_148 ex_148 => ?_)
      have k_149 := ar_mul zi_8 rfl ex_148 (by omega) (by omega)
      refine lv_isub hx hb dX12_feed_91 ?_
      refine lv_topi (fun x_150 ex_150 => ?_)
      have k_151 := ar_sub zi_24 rfl ex_150 (by omega) (by omega)
      refine lv_ishr hx hb dX12_feed_92 ?_
      refine lv_topi (fun x_152 ex_152 => ?_)
      obtain ⟨x_154, ex_154⟩ : ∃ y, x_152.toInt8.toInt32 = y := ⟨_, rfl⟩
      refine lv_i2b (v := x_154) hx hb dX12_feed_93 ex_154 ?_
      refine va_bast hx hb hKN.1 hP hD hS 1 0 rfl rfl (vp_in_iff.mpr ⟨by omega, by omega⟩) dX12_feed_94 (fun H locs hP hD hS => ?_)
      have hP : va_P D vwCl [(h0, .inr (12, [.int m_thrown, .ref m_qworld, .ref m_qimages, .ref m_qhasImage, .ref m_qtape, .int m_taped, .ref m_qfive, .int m_size, .int m_at, .int m_from, .int m_token, .int m_value, .int m_faultKind, .int m_faultPlace, .ref m_qfresh, .int m_startOne, .int m_startOther, .int m_latest, .int m_leftBeats, .int m_signed, .int m_metMany, .ref m_qsums, .ref m_qpairs, .ref m_qgoesWith, .ref m_qsaid, .int m_saidMany, .int m_firstWait, .ref m_qfirstOrder, .int m_bundleFirst, .ref m_qtiredBy, .int m_tiredMany, .ref m_qmany, .ref m_qwidth, .ref m_qnumbers, .ref m_qmoving])), (m_qtape, .inl (cA 0, 800, .inl (upd F1_136 x_141.toNatClampNeg (vp_nar .byte x_154)))), (m_qfive, .inl (cA 1, 5, .inl f_9))] H := hP
      have hD : va_D A [(h0, .inr (12, [.int m_thrown, .ref m_qworld, .ref m_qimages, .ref m_qhasImage, .ref m_qtape, .int m_taped, .ref m_qfive, .int m_size, .int m_at, .int m_from, .int m_token, .int m_value, .int m_faultKind, .int m_faultPlace, .ref m_qfresh, .int m_startOne, .int m_startOther, .int m_latest, .int m_leftBeats, .int m_signed, .int m_metMany, .ref m_qsums, .ref m_qpairs, .ref m_qgoesWith, .ref m_qsaid, .int m_saidMany, .int m_firstWait, .ref m_qfirstOrder, .int m_bundleFirst, .ref m_qtiredBy, .int m_tiredMany, .ref m_qmany, .ref m_qwidth, .ref m_qnumbers, .ref m_qmoving])), (m_qtape, .inl (cA 0, 800, .inl (upd F1_136 x_141.toNatClampNeg (vp_nar .byte x_154)))), (m_qfive, .inl (cA 1, 5, .inl f_9))] := hD
      generalize ef_155 : (upd F1_136 x_141.toNatClampNeg (vp_nar .byte x_154)) = f_155 at hP hD
      obtain ⟨x_156, ex_156⟩ : ∃ y : Int32, L6_136 + Int32.ofInt 1 = y := ⟨_, rfl⟩
      have k_157 := ar_add (b := 1) rfl zi_1 ex_156.symm (by omega) (by omega)
      refine lv_iinc (v := x_156) (lv' := [(6, .int x_156), (0, .ref h0), (1, .int p0), (2, .int p1), (3, .int p2), (4, .int p3), (5, .int p4)]) hx hb dX12_feed_95 hl (k := 0) rfl ex_156 (by decide) rfl (fun ls hl => ?_)
      refine lv_goto (tgt := 55) hx hb dX12_feed_98 (by decide) ?_
      exact ih_136 (x_156, f_155) _ _ _ ⟨(show 0 ≤ x_156.toInt ∧ x_156.toInt ≤ 20 from by omega), hP.sub [0, 1, 2] rfl, hD.sub [0, 1, 2] (by decide) rfl, hS, lv_sub hl [0, 1, 2, 3, 4, 5, 6] rfl⟩ (by show (2147483647 - x_156.toInt).toNat < (2147483647 - L6_136.toInt).toNat; omega)
  · skip
    have k_158 := kk_nle rfl zi_800 c_3
    refine lv_iconst (v := (-1)) hx hb dX12_feed_13 (by decide) ?_
    have hP9 := hP.sub (ws' := [(h0, .inr (12, [.int m_thrown, .ref m_qworld, .ref m_qimages, .ref m_qhasImage, .ref m_qtape, .int m_taped, .ref m_qfive, .int m_size, .int m_at, .int m_from, .int m_token, .int m_value, .int m_faultKind, .int m_faultPlace, .ref m_qfresh, .int m_startOne, .int m_startOther, .int m_latest, .int m_leftBeats, .int m_signed, .int m_metMany, .ref m_qsums, .ref m_qpairs, .ref m_qgoesWith, .ref m_qsaid, .int m_saidMany, .int m_firstWait, .ref m_qfirstOrder, .int m_bundleFirst, .ref m_qtiredBy, .int m_tiredMany, .ref m_qmany, .ref m_qwidth, .ref m_qnumbers, .ref m_qmoving])), (m_qtape, .inl (cA 0, 800, .inl m_ctape)), (m_qfive, .inl (cA 1, 5, .inl m_cfive))]) [0, 1, 2] rfl
    have hD9 := hD.sub (ws' := [(h0, .inr (12, [.int m_thrown, .ref m_qworld, .ref m_qimages, .ref m_qhasImage, .ref m_qtape, .int m_taped, .ref m_qfive, .int m_size, .int m_at, .int m_from, .int m_token, .int m_value, .int m_faultKind, .int m_faultPlace, .ref m_qfresh, .int m_startOne, .int m_startOther, .int m_latest, .int m_leftBeats, .int m_signed, .int m_metMany, .ref m_qsums, .ref m_qpairs, .ref m_qgoesWith, .ref m_qsaid, .int m_saidMany, .int m_firstWait, .ref m_qfirstOrder, .int m_bundleFirst, .ref m_qtiredBy, .int m_tiredMany, .ref m_qmany, .ref m_qwidth, .ref m_qnumbers, .ref m_qmoving])), (m_qtape, .inl (cA 0, 800, .inl m_ctape)), (m_qfive, .inl (cA 1, 5, .inl m_cfive))]) [0, 1, 2] (by decide) rfl
    exact W.iret (v := (-1)) hx hb hr (fun t ht hW => ⟨⟨(-1), ((fun _ => 0), (selI [m_taped]), (selF [m_ctape, m_cfive]), (fun _ _ => 0)), rfl, ⟨(show -1 ≤ ((-1) : Int32).toInt ∧ ((-1) : Int32).toInt ≤ 800 from by decide), (show 20 ≤ m_taped.toInt ∧ m_taped.toInt ≤ 800 from by omega)⟩, by rw [ht]; exact hP9, hD9⟩, hS.F ht⟩) hS.2.2 dX12_feed_14
set_option maxHeartbeats 8000000 in
set_option maxRecDepth 100000 in
theorem g_X12_numberAt (l : Launch) (D : va_G) (cA : Nat → ClassId) (h0 : Nat) (m_thrown : Int32) (m_qworld : Nat) (m_qimages : Nat) (m_qhasImage : Nat) (m_qtape : Nat) (m_taped : Int32) (m_qfive : Nat) (m_size : Int32) (m_at : Int32) (m_from : Int32) (m_token : Int32) (m_value : Int32) (m_faultKind : Int32) (m_faultPlace : Int32) (m_qfresh : Nat) (m_startOne : Int32) (m_startOther : Int32) (m_latest : Int32) (m_leftBeats : Int32) (m_signed : Int32) (m_metMany : Int32) (m_qsums : Nat) (m_qpairs : Nat) (m_qgoesWith : Nat) (m_qsaid : Nat) (m_saidMany : Int32) (m_firstWait : Int32) (m_qfirstOrder : Nat) (m_bundleFirst : Int32) (m_qtiredBy : Nat) (m_tiredMany : Int32) (m_qmany : Nat) (m_qwidth : Nat) (m_qnumbers : Nat) (m_qmoving : Nat) (m_cnumbers : Nat → Int64) (p0 : Int32) (p1 : Int32) (h_m_taped : 0 ≤ (m_taped : Int32).toInt ∧ (m_taped : Int32).toInt ≤ 800) (h_m_size : 0 ≤ (m_size : Int32).toInt ∧ (m_size : Int32).toInt ≤ 800) (h_m_at : 0 ≤ (m_at : Int32).toInt ∧ (m_at : Int32).toInt ≤ 800) (h_m_from : 0 ≤ (m_from : Int32).toInt ∧ (m_from : Int32).toInt ≤ 800) (h_m_saidMany : 0 ≤ (m_saidMany : Int32).toInt ∧ (m_saidMany : Int32).toInt ≤ 60) (h_m_tiredMany : 0 ≤ (m_tiredMany : Int32).toInt ∧ (m_tiredMany : Int32).toInt ≤ 240) (h_p0 : 0 ≤ (p0 : Int32).toInt ∧ (p0 : Int32).toInt ≤ 3) (h_p1 : 0 ≤ (p1 : Int32).toInt ∧ (p1 : Int32).toInt ≤ 59) : Met l yX12_numberAt (Cond.code yX12_numberAt cX12_numberAt 3 (some .long) :: TB) (rmd 0 0 0) (PP D cA [(h0, .inr (12, [.int m_thrown, .ref m_qworld, .ref m_qimages, .ref m_qhasImage, .ref m_qtape, .int m_taped, .ref m_qfive, .int m_size, .int m_at, .int m_from, .int m_token, .int m_value, .int m_faultKind, .int m_faultPlace, .ref m_qfresh, .int m_startOne, .int m_startOther, .int m_latest, .int m_leftBeats, .int m_signed, .int m_metMany, .ref m_qsums, .ref m_qpairs, .ref m_qgoesWith, .ref m_qsaid, .int m_saidMany, .int m_firstWait, .ref m_qfirstOrder, .int m_bundleFirst, .ref m_qtiredBy, .int m_tiredMany, .ref m_qmany, .ref m_qwidth, .ref m_qnumbers, .ref m_qmoving])), (m_qnumbers, .inl (cA 2, 240, .inr (.inl m_cnumbers)))] [.ref h0, .int p0, .int p1]) (vp_Sl (fun r => ((r : Int64) = m_cnumbers (60 * (p0 : Int32).toInt.toNat + (p1 : Int32).toInt.toNat)))) 0 0 (fun _ => False) := by
  refine Met.ofW (cc := cX12_numberAt) (maxL := 3) (ret := (some .long)) (by decide) rfl ?_
  intro p e s m args below meth c s₁ B hml hv
  obtain ⟨rfl, hP, hKN⟩ := hv
  have hx := B.exec
  have hb := B.bytes
  have hr := B.returns
  have hts : ∀ w ∈ TB, w.before _ s = true := fun w h => atoms_spec B.pre w (List.mem_cons_of_mem _ h)
  have hown : s.vm.findClass RX12 = some m.cls := findClass_of_methodNamed B.named
  have hlocks := B.notSynchronized
  have hl := lv_entry ([.ref h0, .int p0, .int p1]) (n := 3) (Nat.le_of_ble_eq_true rfl)
  rw [lg_entry_eq]
  generalize (lg_sl ([.ref h0, .int p0, .int p1]) ++ List.replicate (3 - (lg_sl ([.ref h0, .int p0, .int p1])).length) Slot.unset).toArray = ls at hl ⊢
  have hl : lv_has ls 3 [(0, .ref h0), (1, .int p0), (2, .int p1)] := hl
  refine lv_aload_n hx hb dX12_numberAt_0 rfl (lv_at hl 0 rfl) ?_
  refine va_get (D := D) (ci := 12) (v := .ref m_qnumbers) (C := RX12) (T := TX12) (N := 35) hx hb hts inX12 hown hKN.1 hP 0 rfl rfl 33 (by decide) (hts _ tw_1452) (fun _ h9 => h9) rfl dX12_numberAt_1 ?_
  refine lv_bipush (v := 60) hx hb dX12_numberAt_4 (by decide) ?_
  refine lv_iload_n hx hb dX12_numberAt_6 rfl (lv_at hl 1 rfl) ?_
  refine lv_imul hx hb dX12_numberAt_7 ?_
  refine lv_topi (fun x_1 ex_1 => ?_)
  have k_2 := ar_mul zi_60 rfl ex_1 (by omega) (by omega)
  refine lv_iload_n hx hb dX12_numberAt_8 rfl (lv_at hl 2 rfl) ?_
  refine lv_iadd hx hb dX12_numberAt_9 ?_
  refine lv_topi (fun x_3 ex_3 => ?_)
  have k_4 := ar_add rfl rfl ex_3 (by omega) (by omega)
  refine va_lald hx hb hKN.1 hP 1 2 rfl rfl (vp_in_iff.mpr ⟨by omega, by omega⟩) dX12_numberAt_10 ?_
  refine lv_topl (fun x_5 ex_5 => ?_)
  exact W.lret (v := x_5) hx hb hr (fun t ht hW => ⟨x_5, rfl, ((show (x_5 : Int64) = m_cnumbers (60 * (p0 : Int32).toInt.toNat + (p1 : Int32).toInt.toNat) from by rw [ex_5]; congr 1; have kc : x_3.toNatClampNeg = x_3.toInt.toNat := rfl; omega)), ht⟩) (fun _ h => by cases h) dX12_numberAt_11
set_option maxHeartbeats 8000000 in
set_option maxRecDepth 100000 in
theorem g_X12_swap (l : Launch) (D : va_G) (cA : Nat → ClassId) (sz : Nat) (h0 : Nat) (m_thrown : Int32) (m_qworld : Nat) (m_qimages : Nat) (m_qhasImage : Nat) (m_qtape : Nat) (m_taped : Int32) (m_qfive : Nat) (m_size : Int32) (m_at : Int32) (m_from : Int32) (m_token : Int32) (m_value : Int32) (m_faultKind : Int32) (m_faultPlace : Int32) (m_qfresh : Nat) (m_startOne : Int32) (m_startOther : Int32) (m_latest : Int32) (m_leftBeats : Int32) (m_signed : Int32) (m_metMany : Int32) (m_qsums : Nat) (m_qpairs : Nat) (m_qgoesWith : Nat) (m_qsaid : Nat) (m_saidMany : Int32) (m_firstWait : Int32) (m_qfirstOrder : Nat) (m_bundleFirst : Int32) (m_qtiredBy : Nat) (m_tiredMany : Int32) (m_qmany : Nat) (m_qwidth : Nat) (m_qnumbers : Nat) (m_qmoving : Nat) (m_csaid : Nat → Int32) (p0 : Int32) (p1 : Int32) (h_m_taped : 0 ≤ (m_taped : Int32).toInt ∧ (m_taped : Int32).toInt ≤ 800) (h_m_size : 0 ≤ (m_size : Int32).toInt ∧ (m_size : Int32).toInt ≤ 800) (h_m_at : 0 ≤ (m_at : Int32).toInt ∧ (m_at : Int32).toInt ≤ 800) (h_m_from : 0 ≤ (m_from : Int32).toInt ∧ (m_from : Int32).toInt ≤ 800) (h_m_saidMany : 0 ≤ (m_saidMany : Int32).toInt ∧ (m_saidMany : Int32).toInt ≤ 60) (h_m_tiredMany : 0 ≤ (m_tiredMany : Int32).toInt ∧ (m_tiredMany : Int32).toInt ≤ 240) (h_p0 : 0 ≤ (p0 : Int32).toInt ∧ (p0 : Int32).toInt ≤ 59) (h_p1 : 0 ≤ (p1 : Int32).toInt ∧ (p1 : Int32).toInt ≤ 59) (a_m_csaid_0 : AR (0) 6 m_csaid) : Met l yX12_swap (Cond.code yX12_swap cX12_swap 4 none :: TB) (rmd 0 0 0) (PM D cA sz [(h0, .inr (12, [.int m_thrown, .ref m_qworld, .ref m_qimages, .ref m_qhasImage, .ref m_qtape, .int m_taped, .ref m_qfive, .int m_size, .int m_at, .int m_from, .int m_token, .int m_value, .int m_faultKind, .int m_faultPlace, .ref m_qfresh, .int m_startOne, .int m_startOther, .int m_latest, .int m_leftBeats, .int m_signed, .int m_metMany, .ref m_qsums, .ref m_qpairs, .ref m_qgoesWith, .ref m_qsaid, .int m_saidMany, .int m_firstWait, .ref m_qfirstOrder, .int m_bundleFirst, .ref m_qtiredBy, .int m_tiredMany, .ref m_qmany, .ref m_qwidth, .ref m_qnumbers, .ref m_qmoving])), (m_qsaid, .inl (cA 1, 60, .inl m_csaid))] [.ref h0, .int p0, .int p1]) (va_Qv (fun (u : SU) => (AR (0) 6 (u.2.2.1 0))) (fun u t => va_P D vwCl [(h0, .inr (12, [.int m_thrown, .ref m_qworld, .ref m_qimages, .ref m_qhasImage, .ref m_qtape, .int m_taped, .ref m_qfive, .int m_size, .int m_at, .int m_from, .int m_token, .int m_value, .int m_faultKind, .int m_faultPlace, .ref m_qfresh, .int m_startOne, .int m_startOther, .int m_latest, .int m_leftBeats, .int m_signed, .int m_metMany, .ref m_qsums, .ref m_qpairs, .ref m_qgoesWith, .ref m_qsaid, .int m_saidMany, .int m_firstWait, .ref m_qfirstOrder, .int m_bundleFirst, .ref m_qtiredBy, .int m_tiredMany, .ref m_qmany, .ref m_qwidth, .ref m_qnumbers, .ref m_qmoving])), (m_qsaid, .inl (cA 1, 60, .inl (u.2.2.1 0)))] t.heap ∧ va_D (va_A [(h0, .inr (12, [.int m_thrown, .ref m_qworld, .ref m_qimages, .ref m_qhasImage, .ref m_qtape, .int m_taped, .ref m_qfive, .int m_size, .int m_at, .int m_from, .int m_token, .int m_value, .int m_faultKind, .int m_faultPlace, .ref m_qfresh, .int m_startOne, .int m_startOther, .int m_latest, .int m_leftBeats, .int m_signed, .int m_metMany, .ref m_qsums, .ref m_qpairs, .ref m_qgoesWith, .ref m_qsaid, .int m_saidMany, .int m_firstWait, .ref m_qfirstOrder, .int m_bundleFirst, .ref m_qtiredBy, .int m_tiredMany, .ref m_qmany, .ref m_qwidth, .ref m_qnumbers, .ref m_qmoving])), (m_qsaid, .inl (cA 1, 60, .inl m_csaid))] sz) [(h0, .inr (12, [.int m_thrown, .ref m_qworld, .ref m_qimages, .ref m_qhasImage, .ref m_qtape, .int m_taped, .ref m_qfive, .int m_size, .int m_at, .int m_from, .int m_token, .int m_value, .int m_faultKind, .int m_faultPlace, .ref m_qfresh, .int m_startOne, .int m_startOther, .int m_latest, .int m_leftBeats, .int m_signed, .int m_metMany, .ref m_qsums, .ref m_qpairs, .ref m_qgoesWith, .ref m_qsaid, .int m_saidMany, .int m_firstWait, .ref m_qfirstOrder, .int m_bundleFirst, .ref m_qtiredBy, .int m_tiredMany, .ref m_qmany, .ref m_qwidth, .ref m_qnumbers, .ref m_qmoving])), (m_qsaid, .inl (cA 1, 60, .inl (u.2.2.1 0)))]) (va_A [(h0, .inr (12, [.int m_thrown, .ref m_qworld, .ref m_qimages, .ref m_qhasImage, .ref m_qtape, .int m_taped, .ref m_qfive, .int m_size, .int m_at, .int m_from, .int m_token, .int m_value, .int m_faultKind, .int m_faultPlace, .ref m_qfresh, .int m_startOne, .int m_startOther, .int m_latest, .int m_leftBeats, .int m_signed, .int m_metMany, .ref m_qsums, .ref m_qpairs, .ref m_qgoesWith, .ref m_qsaid, .int m_saidMany, .int m_firstWait, .ref m_qfirstOrder, .int m_bundleFirst, .ref m_qtiredBy, .int m_tiredMany, .ref m_qmany, .ref m_qwidth, .ref m_qnumbers, .ref m_qmoving])), (m_qsaid, .inl (cA 1, 60, .inl m_csaid))] sz)) 0 0 (va_A [(h0, .inr (12, [.int m_thrown, .ref m_qworld, .ref m_qimages, .ref m_qhasImage, .ref m_qtape, .int m_taped, .ref m_qfive, .int m_size, .int m_at, .int m_from, .int m_token, .int m_value, .int m_faultKind, .int m_faultPlace, .ref m_qfresh, .int m_startOne, .int m_startOther, .int m_latest, .int m_leftBeats, .int m_signed, .int m_metMany, .ref m_qsums, .ref m_qpairs, .ref m_qgoesWith, .ref m_qsaid, .int m_saidMany, .int m_firstWait, .ref m_qfirstOrder, .int m_bundleFirst, .ref m_qtiredBy, .int m_tiredMany, .ref m_qmany, .ref m_qwidth, .ref m_qnumbers, .ref m_qmoving])), (m_qsaid, .inl (cA 1, 60, .inl m_csaid))] sz) := by
  refine Met.ofW (cc := cX12_swap) (maxL := 4) (ret := none) (by decide) rfl ?_
  intro p e s m args below meth c s₁ B hml hv
  obtain ⟨rfl, hsz, hP, hKN, hD0⟩ := hv
  have hx := B.exec
  have hb := B.bytes
  have hr := B.returns
  have hts : ∀ w ∈ TB, w.before _ s = true := fun w h => atoms_spec B.pre w (List.mem_cons_of_mem _ h)
  have hown : s.vm.findClass RX12 = some m.cls := findClass_of_methodNamed B.named
  have hlocks := B.notSynchronized
  subst hsz
  have hD := hD0.self (sz := s.heap.size)
  generalize hAe : va_A [(h0, .inr (12, [.int m_thrown, .ref m_qworld, .ref m_qimages, .ref m_qhasImage, .ref m_qtape, .int m_taped, .ref m_qfive, .int m_size, .int m_at, .int m_from, .int m_token, .int m_value, .int m_faultKind, .int m_faultPlace, .ref m_qfresh, .int m_startOne, .int m_startOther, .int m_latest, .int m_leftBeats, .int m_signed, .int m_metMany, .ref m_qsums, .ref m_qpairs, .ref m_qgoesWith, .ref m_qsaid, .int m_saidMany, .int m_firstWait, .ref m_qfirstOrder, .int m_bundleFirst, .ref m_qtiredBy, .int m_tiredMany, .ref m_qmany, .ref m_qwidth, .ref m_qnumbers, .ref m_qmoving])), (m_qsaid, .inl (cA 1, 60, .inl m_csaid))] s.heap.size = A at hD ⊢
  have hA : ∀ q : Nat, s.heap.size ≤ q → A q := fun q h => by rw [← hAe]; exact Or.inr h
  have hS : va_S A s.heap s.heap [] := va_S.rf
  have hl := lv_entry ([.ref h0, .int p0, .int p1]) (n := 4) (Nat.le_of_ble_eq_true rfl)
  rw [lg_entry_eq]
  generalize (lg_sl ([.ref h0, .int p0, .int p1]) ++ List.replicate (4 - (lg_sl ([.ref h0, .int p0, .int p1])).length) Slot.unset).toArray = ls at hl ⊢
  have hl : lv_has ls 4 [(0, .ref h0), (1, .int p0), (2, .int p1)] := hl
  refine lv_aload_n hx hb dX12_swap_0 rfl (lv_at hl 0 rfl) ?_
  refine va_get (D := D) (ci := 12) (v := .ref m_qsaid) (C := RX12) (T := TX12) (N := 35) hx hb hts inX12 hown hKN.1 hP 0 rfl rfl 24 (by decide) (hts _ tw_1443) (fun _ h9 => h9) rfl dX12_swap_1 ?_
  refine lv_iload_n hx hb dX12_swap_4 rfl (lv_at hl 1 rfl) ?_
  refine va_iald hx hb hKN.1 hP 1 1 rfl rfl (vp_in_iff.mpr ⟨by omega, by omega⟩) dX12_swap_5 ?_
  refine lv_topi (fun x_1 ex_1 => ?_)
  have k_2 := a_m_csaid_0 (p0.toNatClampNeg)
  rw [← ex_1] at k_2
  refine lv_istore_n (lv' := [(3, .int x_1), (0, .ref h0), (1, .int p0), (2, .int p1)]) hx hb dX12_swap_6 rfl hl (by decide) rfl (fun ls hl => ?_)
  refine lv_aload_n hx hb dX12_swap_7 rfl (lv_at hl 1 rfl) ?_
  refine va_get (D := D) (ci := 12) (v := .ref m_qsaid) (C := RX12) (T := TX12) (N := 35) hx hb hts inX12 hown hKN.1 hP 0 rfl rfl 24 (by decide) (hts _ tw_1443) (fun _ h9 => h9) rfl dX12_swap_8 ?_
  refine lv_iload_n hx hb dX12_swap_11 rfl (lv_at hl 2 rfl) ?_
  refine lv_aload_n hx hb dX12_swap_12 rfl (lv_at hl 1 rfl) ?_
  refine va_get (D := D) (ci := 12) (v := .ref m_qsaid) (C := RX12) (T := TX12) (N := 35) hx hb hts inX12 hown hKN.1 hP 0 rfl rfl 24 (by decide) (hts _ tw_1443) (fun _ h9 => h9) rfl dX12_swap_13 ?_
  refine lv_iload_n hx hb dX12_swap_16 rfl (lv_at hl 3 rfl) ?_
  refine va_iald hx hb hKN.1 hP 1 1 rfl rfl (vp_in_iff.mpr ⟨by omega, by omega⟩) dX12_swap_17 ?_
  refine lv_topi (fun x_3 ex_3 => ?_)
  have k_4 := a_m_csaid_0 (p1.toNatClampNeg)
  rw [← ex_3] at k_4
  refine va_iast hx hb hKN.1 hP hD hS 1 1 rfl rfl (vp_in_iff.mpr ⟨by omega, by omega⟩) dX12_swap_18 (fun H locs hP hD hS => ?_)
  have hP : va_P D vwCl [(h0, .inr (12, [.int m_thrown, .ref m_qworld, .ref m_qimages, .ref m_qhasImage, .ref m_qtape, .int m_taped, .ref m_qfive, .int m_size, .int m_at, .int m_from, .int m_token, .int m_value, .int m_faultKind, .int m_faultPlace, .ref m_qfresh, .int m_startOne, .int m_startOther, .int m_latest, .int m_leftBeats, .int m_signed, .int m_metMany, .ref m_qsums, .ref m_qpairs, .ref m_qgoesWith, .ref m_qsaid, .int m_saidMany, .int m_firstWait, .ref m_qfirstOrder, .int m_bundleFirst, .ref m_qtiredBy, .int m_tiredMany, .ref m_qmany, .ref m_qwidth, .ref m_qnumbers, .ref m_qmoving])), (m_qsaid, .inl (cA 1, 60, .inl (upd m_csaid p0.toNatClampNeg x_3)))] H := hP
  have hD : va_D A [(h0, .inr (12, [.int m_thrown, .ref m_qworld, .ref m_qimages, .ref m_qhasImage, .ref m_qtape, .int m_taped, .ref m_qfive, .int m_size, .int m_at, .int m_from, .int m_token, .int m_value, .int m_faultKind, .int m_faultPlace, .ref m_qfresh, .int m_startOne, .int m_startOther, .int m_latest, .int m_leftBeats, .int m_signed, .int m_metMany, .ref m_qsums, .ref m_qpairs, .ref m_qgoesWith, .ref m_qsaid, .int m_saidMany, .int m_firstWait, .ref m_qfirstOrder, .int m_bundleFirst, .ref m_qtiredBy, .int m_tiredMany, .ref m_qmany, .ref m_qwidth, .ref m_qnumbers, .ref m_qmoving])), (m_qsaid, .inl (cA 1, 60, .inl (upd m_csaid p0.toNatClampNeg x_3)))] := hD
  generalize ef_5 : (upd m_csaid p0.toNatClampNeg x_3) = f_5 at hP hD
  have a_6 : AR (0) 6 f_5 := by rw [← ef_5]; exact AR.upd a_m_csaid_0 (by omega)
  refine lv_aload_n hx hb dX12_swap_19 rfl (lv_at hl 1 rfl) ?_
  refine va_get (D := D) (ci := 12) (v := .ref m_qsaid) (C := RX12) (T := TX12) (N := 35) hx hb hts inX12 hown hKN.1 hP 0 rfl rfl 24 (by decide) (hts _ tw_1443) (fun _ h9 => h9) rfl dX12_swap_20 ?_
  refine lv_iload_n hx hb dX12_swap_23 rfl (lv_at hl 3 rfl) ?_
  refine lv_iload_n hx hb dX12_swap_24 rfl (lv_at hl 0 rfl) ?_
  refine va_iast hx hb hKN.1 hP hD hS 1 1 rfl rfl (vp_in_iff.mpr ⟨by omega, by omega⟩) dX12_swap_25 (fun H locs hP hD hS => ?_)
  have hP : va_P D vwCl [(h0, .inr (12, [.int m_thrown, .ref m_qworld, .ref m_qimages, .ref m_qhasImage, .ref m_qtape, .int m_taped, .ref m_qfive, .int m_size, .int m_at, .int m_from, .int m_token, .int m_value, .int m_faultKind, .int m_faultPlace, .ref m_qfresh, .int m_startOne, .int m_startOther, .int m_latest, .int m_leftBeats, .int m_signed, .int m_metMany, .ref m_qsums, .ref m_qpairs, .ref m_qgoesWith, .ref m_qsaid, .int m_saidMany, .int m_firstWait, .ref m_qfirstOrder, .int m_bundleFirst, .ref m_qtiredBy, .int m_tiredMany, .ref m_qmany, .ref m_qwidth, .ref m_qnumbers, .ref m_qmoving])), (m_qsaid, .inl (cA 1, 60, .inl (upd f_5 p1.toNatClampNeg x_1)))] H := hP
  have hD : va_D A [(h0, .inr (12, [.int m_thrown, .ref m_qworld, .ref m_qimages, .ref m_qhasImage, .ref m_qtape, .int m_taped, .ref m_qfive, .int m_size, .int m_at, .int m_from, .int m_token, .int m_value, .int m_faultKind, .int m_faultPlace, .ref m_qfresh, .int m_startOne, .int m_startOther, .int m_latest, .int m_leftBeats, .int m_signed, .int m_metMany, .ref m_qsums, .ref m_qpairs, .ref m_qgoesWith, .ref m_qsaid, .int m_saidMany, .int m_firstWait, .ref m_qfirstOrder, .int m_bundleFirst, .ref m_qtiredBy, .int m_tiredMany, .ref m_qmany, .ref m_qwidth, .ref m_qnumbers, .ref m_qmoving])), (m_qsaid, .inl (cA 1, 60, .inl (upd f_5 p1.toNatClampNeg x_1)))] := hD
  generalize ef_7 : (upd f_5 p1.toNatClampNeg x_1) = f_7 at hP hD
  have a_8 : AR (0) 6 f_7 := by rw [← ef_7]; exact AR.upd a_6 (by omega)
  have hP9 := hP.sub (ws' := [(h0, .inr (12, [.int m_thrown, .ref m_qworld, .ref m_qimages, .ref m_qhasImage, .ref m_qtape, .int m_taped, .ref m_qfive, .int m_size, .int m_at, .int m_from, .int m_token, .int m_value, .int m_faultKind, .int m_faultPlace, .ref m_qfresh, .int m_startOne, .int m_startOther, .int m_latest, .int m_leftBeats, .int m_signed, .int m_metMany, .ref m_qsums, .ref m_qpairs, .ref m_qgoesWith, .ref m_qsaid, .int m_saidMany, .int m_firstWait, .ref m_qfirstOrder, .int m_bundleFirst, .ref m_qtiredBy, .int m_tiredMany, .ref m_qmany, .ref m_qwidth, .ref m_qnumbers, .ref m_qmoving])), (m_qsaid, .inl (cA 1, 60, .inl f_7))]) [0, 1] rfl
  have hD9 := hD.sub (ws' := [(h0, .inr (12, [.int m_thrown, .ref m_qworld, .ref m_qimages, .ref m_qhasImage, .ref m_qtape, .int m_taped, .ref m_qfive, .int m_size, .int m_at, .int m_from, .int m_token, .int m_value, .int m_faultKind, .int m_faultPlace, .ref m_qfresh, .int m_startOne, .int m_startOther, .int m_latest, .int m_leftBeats, .int m_signed, .int m_metMany, .ref m_qsums, .ref m_qpairs, .ref m_qgoesWith, .ref m_qsaid, .int m_saidMany, .int m_firstWait, .ref m_qfirstOrder, .int m_bundleFirst, .ref m_qtiredBy, .int m_tiredMany, .ref m_qmany, .ref m_qwidth, .ref m_qnumbers, .ref m_qmoving])), (m_qsaid, .inl (cA 1, 60, .inl f_7))]) [0, 1] (by decide) rfl
  exact W.vret hx hb hr (fun t ht hW => ⟨⟨((fun _ => 0), (fun _ => 0), (selF [f_7]), (fun _ _ => 0)), rfl, (show AR (0) 6 f_7 from a_8), by rw [ht]; exact hP9, hD9⟩, hS.F ht⟩) hS.2.2 dX12_swap_26
set_option maxHeartbeats 8000000 in
set_option maxRecDepth 100000 in
theorem g_X12_cut_ (l : Launch) (D : va_G) (cA : Nat → ClassId) (p0 : Int64) (p1 : Int32) : Met l yX12_cut_ (Cond.code yX12_cut_ cX12_cut_ 4 (some .long) :: TB) (rmd 0 0 0) (PP D cA [] [.long p0, .int p1]) (vp_Sl (fun r => True)) 0 0 (fun _ => False) := by
  refine Met.ofW (cc := cX12_cut_) (maxL := 4) (ret := (some .long)) (by decide) rfl ?_
  intro p e s m args below meth c s₁ B hml hv
  obtain ⟨rfl, hP, hKN⟩ := hv
  have hx := B.exec
  have hb := B.bytes
  have hr := B.returns
  have hts : ∀ w ∈ TB, w.before _ s = true := fun w h => atoms_spec B.pre w (List.mem_cons_of_mem _ h)
  have hown : s.vm.findClass RX12 = some m.cls := findClass_of_methodNamed B.named
  have hlocks := B.notSynchronized
  have hl := lv_entry ([.long p0, .int p1]) (n := 4) (Nat.le_of_ble_eq_true rfl)
  rw [lg_entry_eq]
  generalize (lg_sl ([.long p0, .int p1]) ++ List.replicate (4 - (lg_sl ([.long p0, .int p1])).length) Slot.unset).toArray = ls at hl ⊢
  have hl : lv_has ls 4 [(0, .long p0), (2, .int p1)] := hl
  refine lv_bipush (v := 64) hx hb dX12_cut__0 (by decide) ?_
  refine lv_bipush (v := 8) hx hb dX12_cut__2 (by decide) ?_
  refine lv_iload_n hx hb dX12_cut__4 rfl (lv_at hl 1 rfl) ?_
  refine lv_ishl hx hb dX12_cut__5 ?_
  refine lv_topi (fun x_1 ex_1 => ?_)
  refine lv_isub hx hb dX12_cut__6 ?_
  refine lv_topi (fun x_3 ex_3 => ?_)
  refine lv_istore_n (lv' := [(3, .int x_3), (0, .long p0), (2, .int p1)]) hx hb dX12_cut__7 rfl hl (by decide) rfl (fun ls hl => ?_)
  refine lv_lload_n hx hb dX12_cut__8 rfl (lv_at hl 1 rfl) ?_
  refine lv_iload_n hx hb dX12_cut__9 rfl (lv_at hl 0 rfl) ?_
  obtain ⟨x_5, ex_5⟩ : ∃ y : Int64, p0 <<< ((x_3 : Int32).toInt64 &&& 63) = y := ⟨_, rfl⟩
  refine lv_lshl (v := x_5) hx hb dX12_cut__10 ex_5 ?_
  refine lv_iload_n hx hb dX12_cut__11 rfl (lv_at hl 0 rfl) ?_
  obtain ⟨x_6, ex_6⟩ : ∃ y : Int64, x_5 >>> ((x_3 : Int32).toInt64 &&& 63) = y := ⟨_, rfl⟩
  refine lv_lshr (v := x_6) hx hb dX12_cut__12 ex_6 ?_
  exact W.lret (v := x_6) hx hb hr (fun t ht hW => ⟨x_6, rfl, trivial, ht⟩) (fun _ h => by cases h) dX12_cut__13
set_option maxHeartbeats 8000000 in
set_option maxRecDepth 100000 in
theorem g_X12_divisor (l : Launch) (D : va_G) (cA : Nat → ClassId) (p0 : Int64) (p1 : Int64) (hnz : (p1 : Int64).toInt ≠ 0) : Met l yX12_divisor (Cond.code yX12_divisor cX12_divisor 10 (some .long) :: TB) (rmd 0 0 0) (PP D cA [] [.long p0, .long p1]) (vp_Sl (fun r => ((r : Int64).toInt ≠ 0))) 0 0 (fun _ => False) := by
  refine Met.ofW (cc := cX12_divisor) (maxL := 10) (ret := (some .long)) (by decide) rfl ?_
  intro p e s m args below meth c s₁ B hml hv
  obtain ⟨rfl, hP, hKN⟩ := hv
  have hx := B.exec
  have hb := B.bytes
  have hr := B.returns
  have hts : ∀ w ∈ TB, w.before _ s = true := fun w h => atoms_spec B.pre w (List.mem_cons_of_mem _ h)
  have hown : s.vm.findClass RX12 = some m.cls := findClass_of_methodNamed B.named
  have hlocks := B.notSynchronized
  have hl := lv_entry ([.long p0, .long p1]) (n := 10) (Nat.le_of_ble_eq_true rfl)
  rw [lg_entry_eq]
  generalize (lg_sl ([.long p0, .long p1]) ++ List.replicate (10 - (lg_sl ([.long p0, .long p1])).length) Slot.unset).toArray = ls at hl ⊢
  have hl : lv_has ls 10 [(0, .long p0), (2, .long p1)] := hl
  refine lv_lload_n hx hb dX12_divisor_0 rfl (lv_at hl 0 rfl) ?_
  refine lv_lstore (lv' := [(4, .long p0), (0, .long p0), (2, .long p1)]) hx hb dX12_divisor_1 hl (by decide) rfl (fun ls hl => ?_)
  refine lv_lload_n hx hb dX12_divisor_3 rfl (lv_at hl 2 rfl) ?_
  refine lv_lstore (lv' := [(6, .long p1), (4, .long p0), (0, .long p0), (2, .long p1)]) hx hb dX12_divisor_4 hl (by decide) rfl (fun ls hl => ?_)
  have b_9 := i64_bd p1
  have b_10 := i64_bd p0
  refine loopW (σ := Int64 × Int64) (fun _ => []) (fun ⟨L6_8, L4_8⟩ H locs ls => (L4_8.toInt ≠ 0 ∨ L6_8.toInt ≠ 0) ∧ H = s.heap ∧ locs = [] ∧ lv_has ls 10 [(6, .long L6_8), (4, .long L4_8), (0, .long p0), (2, .long p1)]) (fun ⟨L6_8, L4_8⟩ => L6_8.toInt.natAbs) ?_ ((p1, p0) : Int64 × Int64) ⟨(show p0.toInt ≠ 0 ∨ p1.toInt ≠ 0 from by first | omega | decide), rfl, rfl, hl⟩
  intro x_8 H locs ls hI_8 ih_8
  obtain ⟨L6_8, L4_8⟩ := x_8
  obtain ⟨k0_8, rfl, rfl, hl⟩ := hI_8
  have hl : lv_has ls 10 [(6, .long L6_8), (4, .long L4_8), (0, .long p0), (2, .long p1)] := hl
  refine lv_lload hx hb dX12_divisor_6 (lv_at hl 0 rfl) ?_
  refine lv_lconst (v := 0) hx hb dX12_divisor_8 (by decide) ?_
  refine W.lcmp hx hb dX12_divisor_9 ?_
  refine lv_if_eq (tgt := 31) hx hb dX12_divisor_10 (by decide) (fun c_11 => ?_) (fun c_11 => ?_)
  · skip
    have b_13 := i64_bd L6_8
    have k_12 := jj_eq rfl zj_0 c_11
    refine lv_lload hx hb dX12_divisor_31 (lv_at hl 1 rfl) ?_
    exact W.lret (v := L4_8) hx hb hr (fun t ht hW => ⟨L4_8, rfl, ((show (L4_8 : Int64).toInt ≠ 0 from by first | omega | decide)), ht⟩) (fun _ h => by cases h) dX12_divisor_33
  · skip
    have b_15 := i64_bd L6_8
    have k_14 := jj_ne rfl zj_0 c_11
    refine lv_lload hx hb dX12_divisor_13 (lv_at hl 1 rfl) ?_
    refine lv_lload hx hb dX12_divisor_15 (lv_at hl 0 rfl) ?_
    refine lv_lrem hx hb dX12_divisor_17 (nz_j (by omega)) ?_
    refine lv_topl (fun x_16 ex_16 => ?_)
    refine lv_lstore (lv' := [(8, .long x_16), (6, .long L6_8), (4, .long L4_8), (0, .long p0), (2, .long p1)]) hx hb dX12_divisor_18 hl (by decide) rfl (fun ls hl => ?_)
    refine lv_lload hx hb dX12_divisor_20 (lv_at hl 1 rfl) ?_
    refine lv_lstore (lv' := [(4, .long L6_8), (8, .long x_16), (6, .long L6_8), (0, .long p0), (2, .long p1)]) hx hb dX12_divisor_22 hl (by decide) rfl (fun ls hl => ?_)
    refine lv_lload hx hb dX12_divisor_24 (lv_at hl 1 rfl) ?_
    refine lv_lstore (lv' := [(6, .long x_16), (4, .long L6_8), (8, .long x_16), (0, .long p0), (2, .long p1)]) hx hb dX12_divisor_26 hl (by decide) rfl (fun ls hl => ?_)
    refine lv_goto (tgt := 6) hx hb dX12_divisor_28 (by decide) ?_
    exact ih_8 (x_16, L6_8) _ _ _ ⟨(show L6_8.toInt ≠ 0 ∨ x_16.toInt ≠ 0 from by first | omega | decide), rfl, rfl, lv_sub hl [0, 1, 3, 4] rfl⟩ (by show x_16.toInt.natAbs < L6_8.toInt.natAbs; exact lrem_lt (by omega) ex_16)
set_option maxHeartbeats 8000000 in
set_option maxRecDepth 100000 in
theorem g_X12_power_z (l : Launch) (D : va_G) (cA : Nat → ClassId) (p0 : Int64) (p1 : Int32) (h_p1 : (p1 : Int32).toInt ≤ 0) : Met l yX12_power (Cond.code yX12_power cX12_power 6 (some .long) :: TB) (rmd 0 0 0) (PP D cA [] [.long p0, .int p1]) (vp_Sl (fun r => (r = 1))) 0 0 (fun _ => False) := by
  refine Met.ofW (cc := cX12_power) (maxL := 6) (ret := (some .long)) (by decide) rfl ?_
  intro p e s m args below meth c s₁ B hml hv
  obtain ⟨rfl, hP, hKN⟩ := hv
  have hx := B.exec
  have hb := B.bytes
  have hr := B.returns
  have hts : ∀ w ∈ TB, w.before _ s = true := fun w h => atoms_spec B.pre w (List.mem_cons_of_mem _ h)
  have hown : s.vm.findClass RX12 = some m.cls := findClass_of_methodNamed B.named
  have hlocks := B.notSynchronized
  have hl := lv_entry ([.long p0, .int p1]) (n := 6) (Nat.le_of_ble_eq_true rfl)
  rw [lg_entry_eq]
  generalize (lg_sl ([.long p0, .int p1]) ++ List.replicate (6 - (lg_sl ([.long p0, .int p1])).length) Slot.unset).toArray = ls at hl ⊢
  have hl : lv_has ls 6 [(0, .long p0), (2, .int p1)] := hl
  refine lv_lconst (v := 1) hx hb dX12_power_0 (by decide) ?_
  refine lv_lstore_n (lv' := [(3, .long 1), (0, .long p0), (2, .int p1)]) hx hb dX12_power_1 rfl hl (by decide) rfl (fun ls hl => ?_)
  refine lv_iconst (v := 0) hx hb dX12_power_2 (by decide) ?_
  refine lv_istore (lv' := [(5, .int 0), (3, .long 1), (0, .long p0), (2, .int p1)]) hx hb dX12_power_3 hl (by decide) rfl (fun ls hl => ?_)
  refine loopW (σ := Int32 × Int64) (fun _ => []) (fun ⟨L5_5, L3_5⟩ H locs ls => (0 ≤ L5_5.toInt ∧ L5_5.toInt ≤ 0) ∧ (1 ≤ L3_5.toInt ∧ L3_5.toInt ≤ 1) ∧ H = s.heap ∧ locs = [] ∧ lv_has ls 6 [(5, .int L5_5), (3, .long L3_5), (0, .long p0), (2, .int p1)]) (fun ⟨L5_5, L3_5⟩ => (2147483647 - L5_5.toInt).toNat) ?_ ((0, 1) : Int32 × Int64) ⟨(by decide), (by decide), rfl, rfl, hl⟩
  intro x_5 H locs ls hI_5 ih_5
  obtain ⟨L5_5, L3_5⟩ := x_5
  obtain ⟨k0_5, k1_5, rfl, rfl, hl⟩ := hI_5
  have hl : lv_has ls 6 [(5, .int L5_5), (3, .long L3_5), (0, .long p0), (2, .int p1)] := hl
  refine lv_iload hx hb dX12_power_5 (lv_at hl 0 rfl) ?_
  refine lv_iload_n hx hb dX12_power_7 rfl (lv_at hl 3 rfl) ?_
  refine lv_icmp_ge (tgt := 21) hx hb dX12_power_8 (by decide) (fun c_6 => ?_) (fun c_6 => ?_)
  · skip
    have k_7 := kk_le rfl rfl c_6
    refine lv_lload_n hx hb dX12_power_21 rfl (lv_at hl 1 rfl) ?_
    exact W.lret (v := L3_5) hx hb hr (fun t ht hW => ⟨L3_5, rfl, ((i64_ext (show L3_5.toInt = (1 : Int64).toInt from by rw [zj_1]; omega))), ht⟩) (fun _ h => by cases h) dX12_power_22
  · skip
    have k_8 := kk_nle rfl rfl c_6
    exfalso; omega
set_option maxHeartbeats 8000000 in
set_option maxRecDepth 100000 in
theorem g_X12_power_t (l : Launch) (D : va_G) (cA : Nat → ClassId) (p0 : Int64) (p1 : Int32) (h_p0 : 10 ≤ (p0 : Int64).toInt ∧ (p0 : Int64).toInt ≤ 10) (h_p1 : (p1 : Int32).toInt ≤ 18) : Met l yX12_power (Cond.code yX12_power cX12_power 6 (some .long) :: TB) (rmd 0 0 0) (PP D cA [] [.long p0, .int p1]) (vp_Sl (fun r => (1 ≤ r.toInt) ∧ (1 ≤ (r : Int64).toInt))) 0 0 (fun _ => False) := by
  refine Met.ofW (cc := cX12_power) (maxL := 6) (ret := (some .long)) (by decide) rfl ?_
  intro p e s m args below meth c s₁ B hml hv
  obtain ⟨rfl, hP, hKN⟩ := hv
  have hx := B.exec
  have hb := B.bytes
  have hr := B.returns
  have hts : ∀ w ∈ TB, w.before _ s = true := fun w h => atoms_spec B.pre w (List.mem_cons_of_mem _ h)
  have hown : s.vm.findClass RX12 = some m.cls := findClass_of_methodNamed B.named
  have hlocks := B.notSynchronized
  have hl := lv_entry ([.long p0, .int p1]) (n := 6) (Nat.le_of_ble_eq_true rfl)
  rw [lg_entry_eq]
  generalize (lg_sl ([.long p0, .int p1]) ++ List.replicate (6 - (lg_sl ([.long p0, .int p1])).length) Slot.unset).toArray = ls at hl ⊢
  have hl : lv_has ls 6 [(0, .long p0), (2, .int p1)] := hl
  refine lv_lconst (v := 1) hx hb dX12_power_0 (by decide) ?_
  refine lv_lstore_n (lv' := [(3, .long 1), (0, .long p0), (2, .int p1)]) hx hb dX12_power_1 rfl hl (by decide) rfl (fun ls hl => ?_)
  refine lv_iconst (v := 0) hx hb dX12_power_2 (by decide) ?_
  refine lv_istore (lv' := [(5, .int 0), (3, .long 1), (0, .long p0), (2, .int p1)]) hx hb dX12_power_3 hl (by decide) rfl (fun ls hl => ?_)
  have z_37 := zi_0
  have z_38 := zj_1
  refine loopW (σ := Int32 × Int64) (fun _ => []) (fun ⟨L5_36, L3_36⟩ H locs ls => (0 ≤ L5_36.toInt ∧ L5_36.toInt ≤ 18) ∧ (L3_36.toInt = 10 ^ L5_36.toInt.toNat) ∧ H = s.heap ∧ locs = [] ∧ lv_has ls 6 [(5, .int L5_36), (3, .long L3_36), (0, .long p0), (2, .int p1)]) (fun ⟨L5_36, L3_36⟩ => (2147483647 - L5_36.toInt).toNat) ?_ ((0, 1) : Int32 × Int64) ⟨(by decide), (show (1 : Int64).toInt = 10 ^ (0 : Int32).toInt.toNat from by decide), rfl, rfl, hl⟩
  intro x_36 H locs ls hI_36 ih_36
  obtain ⟨L5_36, L3_36⟩ := x_36
  obtain ⟨k0_36, k1_36, rfl, rfl, hl⟩ := hI_36
  have hl : lv_has ls 6 [(5, .int L5_36), (3, .long L3_36), (0, .long p0), (2, .int p1)] := hl
  refine lv_iload hx hb dX12_power_5 (lv_at hl 0 rfl) ?_
  refine lv_iload_n hx hb dX12_power_7 rfl (lv_at hl 3 rfl) ?_
  refine lv_icmp_ge (tgt := 21) hx hb dX12_power_8 (by decide) (fun c_39 => ?_) (fun c_39 => ?_)
  · skip
    have k_40 := kk_le rfl rfl c_39
    have k_p : 1 ≤ L3_36.toInt := by rw [k1_36]; exact pow_ge1 _
    refine lv_lload_n hx hb dX12_power_21 rfl (lv_at hl 1 rfl) ?_
    exact W.lret (v := L3_36) hx hb hr (fun t ht hW => ⟨L3_36, rfl, (⟨(show 1 ≤ L3_36.toInt from by omega), (show 1 ≤ (L3_36 : Int64).toInt from by first | omega | decide)⟩), ht⟩) (fun _ h => by cases h) dX12_power_22
  · skip
    have k_41 := kk_nle rfl rfl c_39
    refine lv_lload_n hx hb dX12_power_11 rfl (lv_at hl 1 rfl) ?_
    refine lv_lload_n hx hb dX12_power_12 rfl (lv_at hl 2 rfl) ?_
    refine lv_lmul hx hb dX12_power_13 ?_
    refine lv_topl (fun x_42 ex_42 => ?_)
    refine lv_lstore_n (lv' := [(3, .long x_42), (5, .int L5_36), (0, .long p0), (2, .int p1)]) hx hb dX12_power_14 rfl hl (by decide) rfl (fun ls hl => ?_)
    obtain ⟨x_43, ex_43⟩ : ∃ y : Int32, L5_36 + Int32.ofInt 1 = y := ⟨_, rfl⟩
    have k_44 := ar_add (b := 1) rfl zi_1 ex_43.symm (by omega) (by omega)
    refine lv_iinc (v := x_43) (lv' := [(5, .int x_43), (3, .long x_42), (0, .long p0), (2, .int p1)]) hx hb dX12_power_15 hl (k := 1) rfl ex_43 (by decide) rfl (fun ls hl => ?_)
    refine lv_goto (tgt := 5) hx hb dX12_power_18 (by decide) ?_
    exact ih_36 (x_43, x_42) _ _ _ ⟨(show 0 ≤ x_43.toInt ∧ x_43.toInt ≤ 18 from by omega), (show x_42.toInt = 10 ^ x_43.toInt.toNat from by rw [show x_43.toInt.toNat = L5_36.toInt.toNat + 1 from by omega]; exact mul_ten k1_36 (by omega) (by omega) ex_42), rfl, rfl, lv_sub hl [0, 1, 2, 3] rfl⟩ (by show (2147483647 - x_43.toInt).toNat < (2147483647 - L5_36.toInt).toNat; omega)
set_option maxHeartbeats 8000000 in
set_option maxRecDepth 100000 in
theorem g_X12_part (l : Launch) (D : va_G) (cA : Nat → ClassId) (p0 : Int64) (p1 : Int64) (p2 : Int32) (hnz : (p1 : Int64).toInt ≠ 0) : Met l yX12_part (Cond.code yX12_part cX12_part 5 (some .long) :: TB) (rmd 1 0 0) (PP D cA [] [.long p0, .long p1, .int p2]) (vp_Sl (fun r => True)) 0 0 (fun _ => False) := by
  refine Met.ofW (cc := cX12_part) (maxL := 5) (ret := (some .long)) (by decide) rfl ?_
  intro p e s m args below meth c s₁ B hml hv
  obtain ⟨rfl, hP, hKN⟩ := hv
  have hx := B.exec
  have hb := B.bytes
  have hr := B.returns
  have hts : ∀ w ∈ TB, w.before _ s = true := fun w h => atoms_spec B.pre w (List.mem_cons_of_mem _ h)
  have hown : s.vm.findClass RX12 = some m.cls := findClass_of_methodNamed B.named
  have hlocks := B.notSynchronized
  have hl := lv_entry ([.long p0, .long p1, .int p2]) (n := 5) (Nat.le_of_ble_eq_true rfl)
  rw [lg_entry_eq]
  generalize (lg_sl ([.long p0, .long p1, .int p2]) ++ List.replicate (5 - (lg_sl ([.long p0, .long p1, .int p2])).length) Slot.unset).toArray = ls at hl ⊢
  have hl : lv_has ls 5 [(0, .long p0), (2, .long p1), (4, .int p2)] := hl
  refine lv_iload hx hb dX12_part_0 (lv_at hl 2 rfl) ?_
  refine lv_if_ne (tgt := 9) hx hb dX12_part_2 (by decide) (fun c_1 => ?_) (fun c_1 => ?_)
  · skip
    have b_3 := i32_bd p2
    have k_2 := kk_ne rfl zi_0 c_1
    refine lv_lload_n hx hb dX12_part_9 rfl (lv_at hl 1 rfl) ?_
    refine lv_lload_n hx hb dX12_part_10 rfl (lv_at hl 0 rfl) ?_
    refine lv_lload_n hx hb dX12_part_11 rfl (lv_at hl 1 rfl) ?_
    refine cpSl (rest := [.long p1]) ⟨hx, hb, hml, hown, hts⟩ hKN (hP.sub (ws' := []) [] rfl) (g_X12_divisor l D cA p0 p1 (by omega)) (tb_S tw_2053 tw_2054 tw_114 tw_2055) hdX12_divisor ⟨rfl, rfl, Nat.le_of_ble_eq_true rfl, Nat.le_of_ble_eq_true rfl⟩ ⟨Nat.le_of_ble_eq_true rfl, Nat.le_of_ble_eq_true rfl⟩ rfl hl.1 rfl (Nat.le_of_ble_eq_true rfl) dX12_part_12 (fun r_4 hr_4 => ?_)
    have k_4_0_0 := hr_4
    refine lv_ldiv hx hb dX12_part_15 (nz_j (by omega)) ?_
    refine lv_topl (fun x_5 ex_5 => ?_)
    exact W.lret (v := x_5) hx hb hr (fun t ht hW => ⟨x_5, rfl, trivial, ht⟩) (fun _ h => by cases h) dX12_part_16
  · skip
    have b_7 := i32_bd p2
    have k_6 := kk_eq rfl zi_0 c_1
    refine lv_lload_n hx hb dX12_part_5 rfl (lv_at hl 0 rfl) ?_
    refine lv_goto (tgt := 10) hx hb dX12_part_6 (by decide) ?_
    refine lv_lload_n hx hb dX12_part_10 rfl (lv_at hl 0 rfl) ?_
    refine lv_lload_n hx hb dX12_part_11 rfl (lv_at hl 1 rfl) ?_
    refine cpSl (rest := [.long p0]) ⟨hx, hb, hml, hown, hts⟩ hKN (hP.sub (ws' := []) [] rfl) (g_X12_divisor l D cA p0 p1 (by omega)) (tb_S tw_2053 tw_2054 tw_114 tw_2055) hdX12_divisor ⟨rfl, rfl, Nat.le_of_ble_eq_true rfl, Nat.le_of_ble_eq_true rfl⟩ ⟨Nat.le_of_ble_eq_true rfl, Nat.le_of_ble_eq_true rfl⟩ rfl hl.1 rfl (Nat.le_of_ble_eq_true rfl) dX12_part_12 (fun r_8 hr_8 => ?_)
    have k_8_0_0 := hr_8
    refine lv_ldiv hx hb dX12_part_15 (nz_j (by omega)) ?_
    refine lv_topl (fun x_9 ex_9 => ?_)
    exact W.lret (v := x_9) hx hb hr (fun t ht hW => ⟨x_9, rfl, trivial, ht⟩) (fun _ h => by cases h) dX12_part_16
set_option maxHeartbeats 8000000 in
set_option maxRecDepth 100000 in
theorem g_X12_chance (l : Launch) (D : va_G) (cA : Nat → ClassId) (h0 : Nat) (m_thrown : Int32) (m_qworld : Nat) (m_qimages : Nat) (m_qhasImage : Nat) (m_qtape : Nat) (m_taped : Int32) (m_qfive : Nat) (m_size : Int32) (m_at : Int32) (m_from : Int32) (m_token : Int32) (m_value : Int32) (m_faultKind : Int32) (m_faultPlace : Int32) (m_qfresh : Nat) (m_startOne : Int32) (m_startOther : Int32) (m_latest : Int32) (m_leftBeats : Int32) (m_signed : Int32) (m_metMany : Int32) (m_qsums : Nat) (m_qpairs : Nat) (m_qgoesWith : Nat) (m_qsaid : Nat) (m_saidMany : Int32) (m_firstWait : Int32) (m_qfirstOrder : Nat) (m_bundleFirst : Int32) (m_qtiredBy : Nat) (m_tiredMany : Int32) (m_qmany : Nat) (m_qwidth : Nat) (m_qnumbers : Nat) (m_qmoving : Nat) (m_cworld : Nat → Int32) (p0 : Int32) (p1 : Int32) (p2 : Int32) (p3 : Int32) (h_m_taped : 0 ≤ (m_taped : Int32).toInt ∧ (m_taped : Int32).toInt ≤ 800) (h_m_size : 0 ≤ (m_size : Int32).toInt ∧ (m_size : Int32).toInt ≤ 800) (h_m_at : 0 ≤ (m_at : Int32).toInt ∧ (m_at : Int32).toInt ≤ 800) (h_m_from : 0 ≤ (m_from : Int32).toInt ∧ (m_from : Int32).toInt ≤ 800) (h_m_saidMany : 0 ≤ (m_saidMany : Int32).toInt ∧ (m_saidMany : Int32).toInt ≤ 60) (h_m_tiredMany : 0 ≤ (m_tiredMany : Int32).toInt ∧ (m_tiredMany : Int32).toInt ≤ 240) (a_m_cworld_0 : WI m_cworld) : Met l yX12_chance (Cond.code yX12_chance cX12_chance 5 (some .long) :: TB) (rmd 4 0 0) (PP D cA [(h0, .inr (12, [.int m_thrown, .ref m_qworld, .ref m_qimages, .ref m_qhasImage, .ref m_qtape, .int m_taped, .ref m_qfive, .int m_size, .int m_at, .int m_from, .int m_token, .int m_value, .int m_faultKind, .int m_faultPlace, .ref m_qfresh, .int m_startOne, .int m_startOther, .int m_latest, .int m_leftBeats, .int m_signed, .int m_metMany, .ref m_qsums, .ref m_qpairs, .ref m_qgoesWith, .ref m_qsaid, .int m_saidMany, .int m_firstWait, .ref m_qfirstOrder, .int m_bundleFirst, .ref m_qtiredBy, .int m_tiredMany, .ref m_qmany, .ref m_qwidth, .ref m_qnumbers, .ref m_qmoving])), (m_qworld, .inl (cA 1, 122, .inl m_cworld))] [.ref h0, .int p0, .int p1, .int p2, .int p3]) (vp_Sl (fun r => True)) 0 0 (fun _ => False) := by
  refine Met.ofW (cc := cX12_chance) (maxL := 5) (ret := (some .long)) (by decide) rfl ?_
  intro p e s m args below meth c s₁ B hml hv
  obtain ⟨rfl, hP, hKN⟩ := hv
  have hx := B.exec
  have hb := B.bytes
  have hr := B.returns
  have hts : ∀ w ∈ TB, w.before _ s = true := fun w h => atoms_spec B.pre w (List.mem_cons_of_mem _ h)
  have hown : s.vm.findClass RX12 = some m.cls := findClass_of_methodNamed B.named
  have hlocks := B.notSynchronized
  have hl := lv_entry ([.ref h0, .int p0, .int p1, .int p2, .int p3]) (n := 5) (Nat.le_of_ble_eq_true rfl)
  rw [lg_entry_eq]
  generalize (lg_sl ([.ref h0, .int p0, .int p1, .int p2, .int p3]) ++ List.replicate (5 - (lg_sl ([.ref h0, .int p0, .int p1, .int p2, .int p3])).length) Slot.unset).toArray = ls at hl ⊢
  have hl : lv_has ls 5 [(0, .ref h0), (1, .int p0), (2, .int p1), (3, .int p2), (4, .int p3)] := hl
  refine lv_aload_n hx hb dX12_chance_0 rfl (lv_at hl 0 rfl) ?_
  refine lv_iload_n hx hb dX12_chance_1 rfl (lv_at hl 1 rfl) ?_
  refine lv_iload_n hx hb dX12_chance_2 rfl (lv_at hl 2 rfl) ?_
  refine cpVi (rest := []) ⟨hx, hb, hml, hown, hts⟩ hKN (hP.sub (ws' := [(h0, .inr (12, [.int m_thrown, .ref m_qworld, .ref m_qimages, .ref m_qhasImage, .ref m_qtape, .int m_taped, .ref m_qfive, .int m_size, .int m_at, .int m_from, .int m_token, .int m_value, .int m_faultKind, .int m_faultPlace, .ref m_qfresh, .int m_startOne, .int m_startOther, .int m_latest, .int m_leftBeats, .int m_signed, .int m_metMany, .ref m_qsums, .ref m_qpairs, .ref m_qgoesWith, .ref m_qsaid, .int m_saidMany, .int m_firstWait, .ref m_qfirstOrder, .int m_bundleFirst, .ref m_qtiredBy, .int m_tiredMany, .ref m_qmany, .ref m_qwidth, .ref m_qnumbers, .ref m_qmoving])), (m_qworld, .inl (cA 1, 122, .inl m_cworld))]) [0, 1] rfl) (g_X12_areMen l D cA h0 m_thrown m_qworld m_qimages m_qhasImage m_qtape m_taped m_qfive m_size m_at m_from m_token m_value m_faultKind m_faultPlace m_qfresh m_startOne m_startOther m_latest m_leftBeats m_signed m_metMany m_qsums m_qpairs m_qgoesWith m_qsaid m_saidMany m_firstWait m_qfirstOrder m_bundleFirst m_qtiredBy m_tiredMany m_qmany m_qwidth m_qnumbers m_qmoving m_cworld p0 p1 (by omega) (by omega) (by omega) (by omega) (by omega) (by omega) a_m_cworld_0) (tb_V tw_1771 tw_1773 tw_68 tw_114 tw_1774) hdX12_areMen ⟨rfl, rfl, Nat.le_of_ble_eq_true rfl, Nat.le_of_ble_eq_true rfl⟩ ⟨Nat.le_of_ble_eq_true rfl, Nat.le_of_ble_eq_true rfl⟩ rfl rfl rfl hl.1 rfl (Nat.le_of_ble_eq_true rfl) dX12_chance_3 (fun r_1 hr_1 => ?_)
  rcases hr_1 with ⟨k_1_0_0, k_1_0_1, k_1_0_2, k_1_0_3, k_1_0_4, k_1_0_5, k_1_0_6, k_1_0_7, rfl⟩ | rfl
  · skip
    refine lv_if_eq (tgt := 32) hx hb dX12_chance_6 (by decide) (fun c_2 => absurd c_2 (by decide)) (fun c_2 => ?_)
    refine lv_iload_n hx hb dX12_chance_9 rfl (lv_at hl 3 rfl) ?_
    obtain ⟨x_3, ex_3⟩ : ∃ y, p2.toInt64 = y := ⟨_, rfl⟩
    refine lv_i2l (v := x_3) hx hb dX12_chance_10 ex_3 ?_
    have k_4 := tt_i2l ex_3
    refine lv_lconst (v := 0) hx hb dX12_chance_11 (by decide) ?_
    refine lv_ldc2 (v := 18) hx hb hown (hts _ tw_2043) dX12_chance_12 ?_
    have z_5 := zj_0
    have z_6 := zj_18
    refine cpSi (rest := []) ⟨hx, hb, hml, hown, hts⟩ hKN (hP.sub (ws' := []) [] rfl) (g_X12_in l D cA x_3 0 18) (tb_S tw_1530 tw_1531 tw_114 tw_1532) hdX12_in ⟨rfl, rfl, Nat.le_of_ble_eq_true rfl, Nat.le_of_ble_eq_true rfl⟩ ⟨Nat.le_of_ble_eq_true rfl, Nat.le_of_ble_eq_true rfl⟩ rfl hl.1 rfl (Nat.le_of_ble_eq_true rfl) dX12_chance_15 (fun r_7 hr_7 => ?_)
    rcases hr_7 with ⟨k_7_0_0, k_7_0_1, rfl⟩ | ⟨k_7_1_0, rfl⟩
    · skip
      refine lv_if_eq (tgt := 32) hx hb dX12_chance_18 (by decide) (fun c_8 => absurd c_8 (by decide)) (fun c_8 => ?_)
      refine lv_iload hx hb dX12_chance_21 (lv_at hl 4 rfl) ?_
      obtain ⟨x_9, ex_9⟩ : ∃ y, p3.toInt64 = y := ⟨_, rfl⟩
      refine lv_i2l (v := x_9) hx hb dX12_chance_23 ex_9 ?_
      have k_10 := tt_i2l ex_9
      refine lv_lconst (v := 0) hx hb dX12_chance_24 (by decide) ?_
      refine lv_lconst (v := 1) hx hb dX12_chance_25 (by decide) ?_
      have z_11 := zj_1
      refine cpSi (rest := []) ⟨hx, hb, hml, hown, hts⟩ hKN (hP.sub (ws' := []) [] rfl) (g_X12_in l D cA x_9 0 1) (tb_S tw_1530 tw_1531 tw_114 tw_1532) hdX12_in ⟨rfl, rfl, Nat.le_of_ble_eq_true rfl, Nat.le_of_ble_eq_true rfl⟩ ⟨Nat.le_of_ble_eq_true rfl, Nat.le_of_ble_eq_true rfl⟩ rfl hl.1 rfl (Nat.le_of_ble_eq_true rfl) dX12_chance_26 (fun r_12 hr_12 => ?_)
      rcases hr_12 with ⟨k_12_0_0, k_12_0_1, rfl⟩ | ⟨k_12_1_0, rfl⟩
      · skip
        refine lv_if_ne (tgt := 36) hx hb dX12_chance_29 (by decide) (fun c_13 => ?_) (fun c_13 => absurd c_13 (by decide))
        refine lv_aload_n hx hb dX12_chance_36 rfl (lv_at hl 0 rfl) ?_
        refine lv_iload_n hx hb dX12_chance_37 rfl (lv_at hl 1 rfl) ?_
        refine lv_iload_n hx hb dX12_chance_38 rfl (lv_at hl 2 rfl) ?_
        refine cpVi (rest := []) ⟨hx, hb, hml, hown, hts⟩ hKN (hP.sub (ws' := [(h0, .inr (12, [.int m_thrown, .ref m_qworld, .ref m_qimages, .ref m_qhasImage, .ref m_qtape, .int m_taped, .ref m_qfive, .int m_size, .int m_at, .int m_from, .int m_token, .int m_value, .int m_faultKind, .int m_faultPlace, .ref m_qfresh, .int m_startOne, .int m_startOther, .int m_latest, .int m_leftBeats, .int m_signed, .int m_metMany, .ref m_qsums, .ref m_qpairs, .ref m_qgoesWith, .ref m_qsaid, .int m_saidMany, .int m_firstWait, .ref m_qfirstOrder, .int m_bundleFirst, .ref m_qtiredBy, .int m_tiredMany, .ref m_qmany, .ref m_qwidth, .ref m_qnumbers, .ref m_qmoving])), (m_qworld, .inl (cA 1, 122, .inl m_cworld))]) [0, 1] rfl) (g_X12_isPair l D cA h0 m_thrown m_qworld m_qimages m_qhasImage m_qtape m_taped m_qfive m_size m_at m_from m_token m_value m_faultKind m_faultPlace m_qfresh m_startOne m_startOther m_latest m_leftBeats m_signed m_metMany m_qsums m_qpairs m_qgoesWith m_qsaid m_saidMany m_firstWait m_qfirstOrder m_bundleFirst m_qtiredBy m_tiredMany m_qmany m_qwidth m_qnumbers m_qmoving m_cworld p0 p1 (by omega) (by omega) (by omega) (by omega) (by omega) (by omega) (by omega) (by omega) a_m_cworld_0) (tb_V tw_1775 tw_1777 tw_69 tw_114 tw_1778) hdX12_isPair ⟨rfl, rfl, Nat.le_of_ble_eq_true rfl, Nat.le_of_ble_eq_true rfl⟩ ⟨Nat.le_of_ble_eq_true rfl, Nat.le_of_ble_eq_true rfl⟩ rfl rfl rfl hl.1 rfl (Nat.le_of_ble_eq_true rfl) dX12_chance_39 (fun r_14 hr_14 => ?_)
        refine lv_if_ne (tgt := 49) hx hb dX12_chance_42 (by decide) (fun c_15 => ?_) (fun c_15 => ?_)
        · skip
          have k_16 := kk_ne rfl zi_0 c_15
          refine lv_iload_n hx hb dX12_chance_49 rfl (lv_at hl 3 rfl) ?_
          refine lv_aload_n hx hb dX12_chance_50 rfl (lv_at hl 0 rfl) ?_
          refine lv_iload_n hx hb dX12_chance_51 rfl (lv_at hl 1 rfl) ?_
          refine lv_iload_n hx hb dX12_chance_52 rfl (lv_at hl 2 rfl) ?_
          refine cpVi (rest := [.int p2]) ⟨hx, hb, hml, hown, hts⟩ hKN (hP.sub (ws' := [(h0, .inr (12, [.int m_thrown, .ref m_qworld, .ref m_qimages, .ref m_qhasImage, .ref m_qtape, .int m_taped, .ref m_qfive, .int m_size, .int m_at, .int m_from, .int m_token, .int m_value, .int m_faultKind, .int m_faultPlace, .ref m_qfresh, .int m_startOne, .int m_startOther, .int m_latest, .int m_leftBeats, .int m_signed, .int m_metMany, .ref m_qsums, .ref m_qpairs, .ref m_qgoesWith, .ref m_qsaid, .int m_saidMany, .int m_firstWait, .ref m_qfirstOrder, .int m_bundleFirst, .ref m_qtiredBy, .int m_tiredMany, .ref m_qmany, .ref m_qwidth, .ref m_qnumbers, .ref m_qmoving])), (m_qworld, .inl (cA 1, 122, .inl m_cworld))]) [0, 1] rfl) (g_X12_holdOf l D cA h0 m_thrown m_qworld m_qimages m_qhasImage m_qtape m_taped m_qfive m_size m_at m_from m_token m_value m_faultKind m_faultPlace m_qfresh m_startOne m_startOther m_latest m_leftBeats m_signed m_metMany m_qsums m_qpairs m_qgoesWith m_qsaid m_saidMany m_firstWait m_qfirstOrder m_bundleFirst m_qtiredBy m_tiredMany m_qmany m_qwidth m_qnumbers m_qmoving m_cworld p0 p1 (by omega) (by omega) (by omega) (by omega) (by omega) (by omega) (by omega) (by omega) a_m_cworld_0) (tb_V tw_1700 tw_1702 tw_63 tw_114 tw_1703) hdX12_holdOf ⟨rfl, rfl, Nat.le_of_ble_eq_true rfl, Nat.le_of_ble_eq_true rfl⟩ ⟨Nat.le_of_ble_eq_true rfl, Nat.le_of_ble_eq_true rfl⟩ rfl rfl rfl hl.1 rfl (Nat.le_of_ble_eq_true rfl) dX12_chance_53 (fun r_17 hr_17 => ?_)
          refine lv_icmp_le (tgt := 63) hx hb dX12_chance_56 (by decide) (fun c_18 => ?_) (fun c_18 => ?_)
          · skip
            have b_20 := i32_bd r_17
            have k_19 := kk_le rfl rfl c_18
            refine lv_bipush (v := 10) hx hb dX12_chance_63 (by decide) ?_
            refine lv_aload_n hx hb dX12_chance_65 rfl (lv_at hl 0 rfl) ?_
            refine va_get (D := D) (ci := 12) (v := .ref m_qworld) (C := RX12) (T := TX12) (N := 35) hx hb hts inX12 hown hKN.1 hP 0 rfl rfl 1 (by decide) (hts _ tw_1420) (fun _ h9 => h9) rfl dX12_chance_66 ?_
            refine lv_iconst (v := 2) hx hb dX12_chance_69 (by decide) ?_
            refine va_iald hx hb hKN.1 hP 1 1 rfl rfl (by unfold vp_in; decide) dX12_chance_70 ?_
            refine W.eq (g2 := F0 m 71 ls [.int (m_cworld 2), .int 10]) rfl ?_
            have k_21 := a_m_cworld_0.1.1.2.1 (2) (by decide) (by decide)
            refine lv_isub hx hb dX12_chance_71 ?_
            refine lv_topi (fun x_22 ex_22 => ?_)
            have k_23 := ar_sub zi_10 rfl ex_22 (by omega) (by omega)
            obtain ⟨x_24, ex_24⟩ : ∃ y, x_22.toInt64 = y := ⟨_, rfl⟩
            refine lv_i2l (v := x_24) hx hb dX12_chance_72 ex_24 ?_
            have k_25 := tt_i2l ex_24
            refine lv_iload_n hx hb dX12_chance_73 rfl (lv_at hl 3 rfl) ?_
            refine cpSl (rest := []) ⟨hx, hb, hml, hown, hts⟩ hKN (hP.sub (ws' := []) [] rfl) (g_X12_power l D cA x_24 p2) (tb_S tw_2046 tw_2047 tw_114 tw_2048) hdX12_power ⟨rfl, rfl, Nat.le_of_ble_eq_true rfl, Nat.le_of_ble_eq_true rfl⟩ ⟨Nat.le_of_ble_eq_true rfl, Nat.le_of_ble_eq_true rfl⟩ rfl hl.1 rfl (Nat.le_of_ble_eq_true rfl) dX12_chance_74 (fun r_26 hr_26 => ?_)
            refine lv_ldc2 (v := 10) hx hb hown (hts _ tw_2049) dX12_chance_77 ?_
            refine lv_iload_n hx hb dX12_chance_80 rfl (lv_at hl 3 rfl) ?_
            have z_27 := zj_10
            refine cpSl (rest := [.long r_26]) ⟨hx, hb, hml, hown, hts⟩ hKN (hP.sub (ws' := []) [] rfl) (g_X12_power_t l D cA 10 p2 (by decide) (by omega)) (tb_S tw_2046 tw_2047 tw_114 tw_2048) hdX12_power ⟨rfl, rfl, Nat.le_of_ble_eq_true rfl, Nat.le_of_ble_eq_true rfl⟩ ⟨Nat.le_of_ble_eq_true rfl, Nat.le_of_ble_eq_true rfl⟩ rfl hl.1 rfl (Nat.le_of_ble_eq_true rfl) dX12_chance_81 (fun r_28 hr_28 => ?_)
            obtain ⟨k_28_0_0, k_28_0_1⟩ := hr_28
            refine lv_iload hx hb dX12_chance_84 (lv_at hl 4 rfl) ?_
            refine cpSl (rest := []) ⟨hx, hb, hml, hown, hts⟩ hKN (hP.sub (ws' := []) [] rfl) (g_X12_part l D cA r_26 r_28 p3 (by omega)) (tb_S tw_2050 tw_2051 tw_114 tw_2052) hdX12_part ⟨rfl, rfl, Nat.le_of_ble_eq_true rfl, Nat.le_of_ble_eq_true rfl⟩ ⟨Nat.le_of_ble_eq_true rfl, Nat.le_of_ble_eq_true rfl⟩ rfl hl.1 rfl (Nat.le_of_ble_eq_true rfl) dX12_chance_86 (fun r_29 hr_29 => ?_)
            exact W.lret (v := r_29) hx hb hr (fun t ht hW => ⟨r_29, rfl, trivial, ht⟩) (fun _ h => by cases h) dX12_chance_89
          · skip
            have b_31 := i32_bd r_17
            have k_30 := kk_nle rfl rfl c_18
            refine lv_lconst (v := 0) hx hb dX12_chance_59 (by decide) ?_
            refine lv_goto (tgt := 77) hx hb dX12_chance_60 (by decide) ?_
            refine lv_ldc2 (v := 10) hx hb hown (hts _ tw_2049) dX12_chance_77 ?_
            refine lv_iload_n hx hb dX12_chance_80 rfl (lv_at hl 3 rfl) ?_
            have z_32 := zj_10
            refine cpSl (rest := [.long 0]) ⟨hx, hb, hml, hown, hts⟩ hKN (hP.sub (ws' := []) [] rfl) (g_X12_power_t l D cA 10 p2 (by decide) (by omega)) (tb_S tw_2046 tw_2047 tw_114 tw_2048) hdX12_power ⟨rfl, rfl, Nat.le_of_ble_eq_true rfl, Nat.le_of_ble_eq_true rfl⟩ ⟨Nat.le_of_ble_eq_true rfl, Nat.le_of_ble_eq_true rfl⟩ rfl hl.1 rfl (Nat.le_of_ble_eq_true rfl) dX12_chance_81 (fun r_33 hr_33 => ?_)
            obtain ⟨k_33_0_0, k_33_0_1⟩ := hr_33
            refine lv_iload hx hb dX12_chance_84 (lv_at hl 4 rfl) ?_
            refine cpSl (rest := []) ⟨hx, hb, hml, hown, hts⟩ hKN (hP.sub (ws' := []) [] rfl) (g_X12_part l D cA 0 r_33 p3 (by omega)) (tb_S tw_2050 tw_2051 tw_114 tw_2052) hdX12_part ⟨rfl, rfl, Nat.le_of_ble_eq_true rfl, Nat.le_of_ble_eq_true rfl⟩ ⟨Nat.le_of_ble_eq_true rfl, Nat.le_of_ble_eq_true rfl⟩ rfl hl.1 rfl (Nat.le_of_ble_eq_true rfl) dX12_chance_86 (fun r_34 hr_34 => ?_)
            exact W.lret (v := r_34) hx hb hr (fun t ht hW => ⟨r_34, rfl, trivial, ht⟩) (fun _ h => by cases h) dX12_chance_89
        · skip
          have k_35 := kk_eq rfl zi_0 c_15
          refine lv_ldc2 (v := (-1)) hx hb hown (hts _ tw_2045) dX12_chance_45 ?_
          exact W.lret (v := (-1)) hx hb hr (fun t ht hW => ⟨(-1), rfl, trivial, ht⟩) (fun _ h => by cases h) dX12_chance_48
      · skip
        refine lv_if_ne (tgt := 36) hx hb dX12_chance_29 (by decide) (fun c_36 => absurd (by decide) c_36) (fun c_36 => ?_)
        refine lv_ldc2 (v := (-2)) hx hb hown (hts _ tw_2044) dX12_chance_32 ?_
        exact W.lret (v := (-2)) hx hb hr (fun t ht hW => ⟨(-2), rfl, trivial, ht⟩) (fun _ h => by cases h) dX12_chance_35
    · skip
      refine lv_if_eq (tgt := 32) hx hb dX12_chance_18 (by decide) (fun c_37 => ?_) (fun c_37 => absurd (by decide) c_37)
      refine lv_ldc2 (v := (-2)) hx hb hown (hts _ tw_2044) dX12_chance_32 ?_
      exact W.lret (v := (-2)) hx hb hr (fun t ht hW => ⟨(-2), rfl, trivial, ht⟩) (fun _ h => by cases h) dX12_chance_35
  · skip
    refine lv_if_eq (tgt := 32) hx hb dX12_chance_6 (by decide) (fun c_38 => ?_) (fun c_38 => absurd (by decide) c_38)
    refine lv_ldc2 (v := (-2)) hx hb hown (hts _ tw_2044) dX12_chance_32 ?_
    exact W.lret (v := (-2)) hx hb hr (fun t ht hW => ⟨(-2), rfl, trivial, ht⟩) (fun _ h => by cases h) dX12_chance_35
set_option maxHeartbeats 8000000 in
set_option maxRecDepth 100000 in
theorem g_X12_isSure (l : Launch) (D : va_G) (cA : Nat → ClassId) (h0 : Nat) (m_thrown : Int32) (m_qworld : Nat) (m_qimages : Nat) (m_qhasImage : Nat) (m_qtape : Nat) (m_taped : Int32) (m_qfive : Nat) (m_size : Int32) (m_at : Int32) (m_from : Int32) (m_token : Int32) (m_value : Int32) (m_faultKind : Int32) (m_faultPlace : Int32) (m_qfresh : Nat) (m_startOne : Int32) (m_startOther : Int32) (m_latest : Int32) (m_leftBeats : Int32) (m_signed : Int32) (m_metMany : Int32) (m_qsums : Nat) (m_qpairs : Nat) (m_qgoesWith : Nat) (m_qsaid : Nat) (m_saidMany : Int32) (m_firstWait : Int32) (m_qfirstOrder : Nat) (m_bundleFirst : Int32) (m_qtiredBy : Nat) (m_tiredMany : Int32) (m_qmany : Nat) (m_qwidth : Nat) (m_qnumbers : Nat) (m_qmoving : Nat) (m_cworld : Nat → Int32) (p0 : Int32) (p1 : Int32) (h_m_taped : 0 ≤ (m_taped : Int32).toInt ∧ (m_taped : Int32).toInt ≤ 800) (h_m_size : 0 ≤ (m_size : Int32).toInt ∧ (m_size : Int32).toInt ≤ 800) (h_m_at : 0 ≤ (m_at : Int32).toInt ∧ (m_at : Int32).toInt ≤ 800) (h_m_from : 0 ≤ (m_from : Int32).toInt ∧ (m_from : Int32).toInt ≤ 800) (h_m_saidMany : 0 ≤ (m_saidMany : Int32).toInt ∧ (m_saidMany : Int32).toInt ≤ 60) (h_m_tiredMany : 0 ≤ (m_tiredMany : Int32).toInt ∧ (m_tiredMany : Int32).toInt ≤ 240) (h_p1 : 0 ≤ (p1 : Int32).toInt ∧ (p1 : Int32).toInt ≤ 100) (a_m_cworld_0 : WI m_cworld) : Met l yX12_isSure (Cond.code yX12_isSure cX12_isSure 5 (some .boolean) :: TB) (rmd 1 0 0) (PP D cA [(h0, .inr (12, [.int m_thrown, .ref m_qworld, .ref m_qimages, .ref m_qhasImage, .ref m_qtape, .int m_taped, .ref m_qfive, .int m_size, .int m_at, .int m_from, .int m_token, .int m_value, .int m_faultKind, .int m_faultPlace, .ref m_qfresh, .int m_startOne, .int m_startOther, .int m_latest, .int m_leftBeats, .int m_signed, .int m_metMany, .ref m_qsums, .ref m_qpairs, .ref m_qgoesWith, .ref m_qsaid, .int m_saidMany, .int m_firstWait, .ref m_qfirstOrder, .int m_bundleFirst, .ref m_qtiredBy, .int m_tiredMany, .ref m_qmany, .ref m_qwidth, .ref m_qnumbers, .ref m_qmoving])), (m_qworld, .inl (cA 1, 122, .inl m_cworld))] [.ref h0, .int p0, .int p1]) (vp_Si (fun r => ((1 ≤ (p0 : Int32).toInt) ∧ (r = 0)) ∨ ((r = 1)))) 0 0 (fun _ => False) := by
  refine Met.ofW (cc := cX12_isSure) (maxL := 5) (ret := (some .boolean)) (by decide) rfl ?_
  intro p e s m args below meth c s₁ B hml hv
  obtain ⟨rfl, hP, hKN⟩ := hv
  have hx := B.exec
  have hb := B.bytes
  have hr := B.returns
  have hts : ∀ w ∈ TB, w.before _ s = true := fun w h => atoms_spec B.pre w (List.mem_cons_of_mem _ h)
  have hown : s.vm.findClass RX12 = some m.cls := findClass_of_methodNamed B.named
  have hlocks := B.notSynchronized
  have hl := lv_entry ([.ref h0, .int p0, .int p1]) (n := 5) (Nat.le_of_ble_eq_true rfl)
  rw [lg_entry_eq]
  generalize (lg_sl ([.ref h0, .int p0, .int p1]) ++ List.replicate (5 - (lg_sl ([.ref h0, .int p0, .int p1])).length) Slot.unset).toArray = ls at hl ⊢
  have hl : lv_has ls 5 [(0, .ref h0), (1, .int p0), (2, .int p1)] := hl
  rcases (by omega : p0.toInt ≤ 0 ∨ 0 < p0.toInt) with k_sp | k_sp
  · skip
    refine lv_bipush (v := 10) hx hb dX12_isSure_0 (by decide) ?_
    refine lv_aload_n hx hb dX12_isSure_2 rfl (lv_at hl 0 rfl) ?_
    refine va_get (D := D) (ci := 12) (v := .ref m_qworld) (C := RX12) (T := TX12) (N := 35) hx hb hts inX12 hown hKN.1 hP 0 rfl rfl 1 (by decide) (hts _ tw_1420) (fun _ h9 => h9) rfl dX12_isSure_3 ?_
    refine lv_iconst (v := 2) hx hb dX12_isSure_6 (by decide) ?_
    refine va_iald hx hb hKN.1 hP 1 1 rfl rfl (by unfold vp_in; decide) dX12_isSure_7 ?_
    refine W.eq (g2 := F0 m 8 ls [.int (m_cworld 2), .int 10]) rfl ?_
    have k_1 := a_m_cworld_0.1.1.2.1 (2) (by decide) (by decide)
    refine lv_isub hx hb dX12_isSure_8 ?_
    refine lv_topi (fun x_2 ex_2 => ?_)
    have k_3 := ar_sub zi_10 rfl ex_2 (by omega) (by omega)
    obtain ⟨x_4, ex_4⟩ : ∃ y, x_2.toInt64 = y := ⟨_, rfl⟩
    refine lv_i2l (v := x_4) hx hb dX12_isSure_9 ex_4 ?_
    have k_5 := tt_i2l ex_4
    refine lv_iload_n hx hb dX12_isSure_10 rfl (lv_at hl 1 rfl) ?_
    refine cpSl (rest := []) ⟨hx, hb, hml, hown, hts⟩ hKN (hP.sub (ws' := []) [] rfl) (g_X12_power_z l D cA x_4 p0 (by omega)) (tb_S tw_2046 tw_2047 tw_114 tw_2048) hdX12_power ⟨rfl, rfl, Nat.le_of_ble_eq_true rfl, Nat.le_of_ble_eq_true rfl⟩ ⟨Nat.le_of_ble_eq_true rfl, Nat.le_of_ble_eq_true rfl⟩ rfl hl.1 rfl (Nat.le_of_ble_eq_true rfl) dX12_isSure_11 (fun r_6 hr_6 => ?_)
    obtain rfl := hr_6
    refine lv_lstore_n (lv' := [(3, .long 1), (0, .ref h0), (1, .int p0), (2, .int p1)]) hx hb dX12_isSure_14 rfl hl (by decide) rfl (fun ls hl => ?_)
    refine lv_iload_n hx hb dX12_isSure_15 rfl (lv_at hl 2 rfl) ?_
    refine lv_iconst (v := 2) hx hb dX12_isSure_16 (by decide) ?_
    refine lv_icmp_ge (tgt := 47) hx hb dX12_isSure_17 (by decide) (fun c_7 => ?_) (fun c_7 => ?_)
    · skip
      have k_8 := kk_le zi_2 rfl c_7
      exfalso; omega
    · skip
      have k_9 := kk_nle zi_2 rfl c_7
      refine lv_lload_n hx hb dX12_isSure_20 rfl (lv_at hl 0 rfl) ?_
      refine lv_ldc2 (v := 100) hx hb hown (hts _ tw_2060) dX12_isSure_21 ?_
      refine lv_lmul hx hb dX12_isSure_24 ?_
      refine lv_topl (fun x_10 ex_10 => ?_)
      obtain rfl : x_10 = 100 := ex_10.trans (by decide)
      refine lv_iload_n hx hb dX12_isSure_25 rfl (lv_at hl 3 rfl) ?_
      obtain ⟨x_11, ex_11⟩ : ∃ y, p1.toInt64 = y := ⟨_, rfl⟩
      refine lv_i2l (v := x_11) hx hb dX12_isSure_26 ex_11 ?_
      have k_12 := tt_i2l ex_11
      refine lv_ldc2 (v := 10) hx hb hown (hts _ tw_2049) dX12_isSure_27 ?_
      refine lv_iload_n hx hb dX12_isSure_30 rfl (lv_at hl 2 rfl) ?_
      have z_13 := zj_10
      refine cpSl (rest := [.long x_11, .long 100]) ⟨hx, hb, hml, hown, hts⟩ hKN (hP.sub (ws' := []) [] rfl) (g_X12_power_z l D cA 10 p0 (by omega)) (tb_S tw_2046 tw_2047 tw_114 tw_2048) hdX12_power ⟨rfl, rfl, Nat.le_of_ble_eq_true rfl, Nat.le_of_ble_eq_true rfl⟩ ⟨Nat.le_of_ble_eq_true rfl, Nat.le_of_ble_eq_true rfl⟩ rfl hl.1 rfl (Nat.le_of_ble_eq_true rfl) dX12_isSure_31 (fun r_14 hr_14 => ?_)
      obtain rfl := hr_14
      refine lv_lmul hx hb dX12_isSure_34 ?_
      refine lv_topl (fun x_15 ex_15 => ?_)
      have k_16 := congrArg Int64.toInt (ex_15.trans (Int64.mul_one _))
      refine W.lcmp hx hb dX12_isSure_35 ?_
      refine lv_if_lt (tgt := 43) hx hb dX12_isSure_36 (by decide) (fun c_17 => ?_) (fun c_17 => ?_)
      · skip
        have k_18 := jj_lt zj_100 rfl c_17
        exfalso; omega
      · skip
        have k_19 := jj_nlt zj_100 rfl c_17
        refine lv_iconst (v := 1) hx hb dX12_isSure_39 (by decide) ?_
        refine lv_goto (tgt := 69) hx hb dX12_isSure_40 (by decide) ?_
        exact W.zret (v := 1) hx hb hr (by decide) (fun t ht hW => ⟨1, rfl, (Or.inr (rfl)), ht⟩) (fun _ h => by cases h) dX12_isSure_69
  · skip
    refine lv_bipush (v := 10) hx hb dX12_isSure_0 (by decide) ?_
    refine lv_aload_n hx hb dX12_isSure_2 rfl (lv_at hl 0 rfl) ?_
    refine va_get (D := D) (ci := 12) (v := .ref m_qworld) (C := RX12) (T := TX12) (N := 35) hx hb hts inX12 hown hKN.1 hP 0 rfl rfl 1 (by decide) (hts _ tw_1420) (fun _ h9 => h9) rfl dX12_isSure_3 ?_
    refine lv_iconst (v := 2) hx hb dX12_isSure_6 (by decide) ?_
    refine va_iald hx hb hKN.1 hP 1 1 rfl rfl (by unfold vp_in; decide) dX12_isSure_7 ?_
    refine W.eq (g2 := F0 m 8 ls [.int (m_cworld 2), .int 10]) rfl ?_
    have k_20 := a_m_cworld_0.1.1.2.1 (2) (by decide) (by decide)
    refine lv_isub hx hb dX12_isSure_8 ?_
    refine lv_topi (fun x_21 ex_21 => ?_)
    have k_22 := ar_sub zi_10 rfl ex_21 (by omega) (by omega)
    obtain ⟨x_23, ex_23⟩ : ∃ y, x_21.toInt64 = y := ⟨_, rfl⟩
    refine lv_i2l (v := x_23) hx hb dX12_isSure_9 ex_23 ?_
    have k_24 := tt_i2l ex_23
    refine lv_iload_n hx hb dX12_isSure_10 rfl (lv_at hl 1 rfl) ?_
    refine cpSl (rest := []) ⟨hx, hb, hml, hown, hts⟩ hKN (hP.sub (ws' := []) [] rfl) (g_X12_power l D cA x_23 p0) (tb_S tw_2046 tw_2047 tw_114 tw_2048) hdX12_power ⟨rfl, rfl, Nat.le_of_ble_eq_true rfl, Nat.le_of_ble_eq_true rfl⟩ ⟨Nat.le_of_ble_eq_true rfl, Nat.le_of_ble_eq_true rfl⟩ rfl hl.1 rfl (Nat.le_of_ble_eq_true rfl) dX12_isSure_11 (fun r_25 hr_25 => ?_)
    refine lv_lstore_n (lv' := [(3, .long r_25), (0, .ref h0), (1, .int p0), (2, .int p1)]) hx hb dX12_isSure_14 rfl hl (by decide) rfl (fun ls hl => ?_)
    refine lv_iload_n hx hb dX12_isSure_15 rfl (lv_at hl 2 rfl) ?_
    refine lv_iconst (v := 2) hx hb dX12_isSure_16 (by decide) ?_
    refine lv_icmp_ge (tgt := 47) hx hb dX12_isSure_17 (by decide) (fun c_26 => ?_) (fun c_26 => ?_)
    · skip
      have k_27 := kk_le zi_2 rfl c_26
      refine lv_lload_n hx hb dX12_isSure_47 rfl (lv_at hl 0 rfl) ?_
      refine lv_iload_n hx hb dX12_isSure_48 rfl (lv_at hl 3 rfl) ?_
      obtain ⟨x_28, ex_28⟩ : ∃ y, p1.toInt64 = y := ⟨_, rfl⟩
      refine lv_i2l (v := x_28) hx hb dX12_isSure_49 ex_28 ?_
      have k_29 := tt_i2l ex_28
      refine lv_ldc2 (v := 10) hx hb hown (hts _ tw_2049) dX12_isSure_50 ?_
      refine lv_iload_n hx hb dX12_isSure_53 rfl (lv_at hl 2 rfl) ?_
      refine lv_iconst (v := 2) hx hb dX12_isSure_54 (by decide) ?_
      refine lv_isub hx hb dX12_isSure_55 ?_
      refine lv_topi (fun x_30 ex_30 => ?_)
      have b_32 := i32_bd p0
      have k_31 := ar_sub rfl zi_2 ex_30 (by omega) (by omega)
      have z_33 := zj_10
      refine cpSl (rest := [.long x_28, .long r_25]) ⟨hx, hb, hml, hown, hts⟩ hKN (hP.sub (ws' := []) [] rfl) (g_X12_power l D cA 10 x_30) (tb_S tw_2046 tw_2047 tw_114 tw_2048) hdX12_power ⟨rfl, rfl, Nat.le_of_ble_eq_true rfl, Nat.le_of_ble_eq_true rfl⟩ ⟨Nat.le_of_ble_eq_true rfl, Nat.le_of_ble_eq_true rfl⟩ rfl hl.1 rfl (Nat.le_of_ble_eq_true rfl) dX12_isSure_56 (fun r_34 hr_34 => ?_)
      refine lv_lmul hx hb dX12_isSure_59 ?_
      refine lv_topl (fun x_35 ex_35 => ?_)
      refine W.lcmp hx hb dX12_isSure_60 ?_
      refine lv_if_lt (tgt := 68) hx hb dX12_isSure_61 (by decide) (fun c_36 => ?_) (fun c_36 => ?_)
      · skip
        have b_38 := i64_bd r_25
        have b_39 := i64_bd x_35
        have k_37 := jj_lt rfl rfl c_36
        refine lv_iconst (v := 0) hx hb dX12_isSure_68 (by decide) ?_
        exact W.zret (v := 0) hx hb hr (by decide) (fun t ht hW => ⟨0, rfl, (Or.inl (⟨(by first | omega | assumption), rfl⟩)), ht⟩) (fun _ h => by cases h) dX12_isSure_69
      · skip
        have b_41 := i64_bd r_25
        have b_42 := i64_bd x_35
        have k_40 := jj_nlt rfl rfl c_36
        refine lv_iconst (v := 1) hx hb dX12_isSure_64 (by decide) ?_
        refine lv_goto (tgt := 69) hx hb dX12_isSure_65 (by decide) ?_
        exact W.zret (v := 1) hx hb hr (by decide) (fun t ht hW => ⟨1, rfl, (Or.inr (rfl)), ht⟩) (fun _ h => by cases h) dX12_isSure_69
    · skip
      have k_43 := kk_nle zi_2 rfl c_26
      refine lv_lload_n hx hb dX12_isSure_20 rfl (lv_at hl 0 rfl) ?_
      refine lv_ldc2 (v := 100) hx hb hown (hts _ tw_2060) dX12_isSure_21 ?_
      refine lv_lmul hx hb dX12_isSure_24 ?_
      refine lv_topl (fun x_44 ex_44 => ?_)
      refine lv_iload_n hx hb dX12_isSure_25 rfl (lv_at hl 3 rfl) ?_
      obtain ⟨x_45, ex_45⟩ : ∃ y, p1.toInt64 = y := ⟨_, rfl⟩
      refine lv_i2l (v := x_45) hx hb dX12_isSure_26 ex_45 ?_
      have k_46 := tt_i2l ex_45
      refine lv_ldc2 (v := 10) hx hb hown (hts _ tw_2049) dX12_isSure_27 ?_
      refine lv_iload_n hx hb dX12_isSure_30 rfl (lv_at hl 2 rfl) ?_
      have z_47 := zj_10
      refine cpSl (rest := [.long x_45, .long x_44]) ⟨hx, hb, hml, hown, hts⟩ hKN (hP.sub (ws' := []) [] rfl) (g_X12_power_t l D cA 10 p0 (by decide) (by omega)) (tb_S tw_2046 tw_2047 tw_114 tw_2048) hdX12_power ⟨rfl, rfl, Nat.le_of_ble_eq_true rfl, Nat.le_of_ble_eq_true rfl⟩ ⟨Nat.le_of_ble_eq_true rfl, Nat.le_of_ble_eq_true rfl⟩ rfl hl.1 rfl (Nat.le_of_ble_eq_true rfl) dX12_isSure_31 (fun r_48 hr_48 => ?_)
      obtain ⟨k_48_0_0, k_48_0_1⟩ := hr_48
      refine lv_lmul hx hb dX12_isSure_34 ?_
      refine lv_topl (fun x_49 ex_49 => ?_)
      refine W.lcmp hx hb dX12_isSure_35 ?_
      refine lv_if_lt (tgt := 43) hx hb dX12_isSure_36 (by decide) (fun c_50 => ?_) (fun c_50 => ?_)
      · skip
        have b_52 := i64_bd x_44
        have b_53 := i64_bd x_49
        have k_51 := jj_lt rfl rfl c_50
        refine lv_iconst (v := 0) hx hb dX12_isSure_43 (by decide) ?_
        refine lv_goto (tgt := 69) hx hb dX12_isSure_44 (by decide) ?_
        exact W.zret (v := 0) hx hb hr (by decide) (fun t ht hW => ⟨0, rfl, (Or.inl (⟨(by first | omega | assumption), rfl⟩)), ht⟩) (fun _ h => by cases h) dX12_isSure_69
      · skip
        have b_55 := i64_bd x_44
        have b_56 := i64_bd x_49
        have k_54 := jj_nlt rfl rfl c_50
        refine lv_iconst (v := 1) hx hb dX12_isSure_39 (by decide) ?_
        refine lv_goto (tgt := 69) hx hb dX12_isSure_40 (by decide) ?_
        exact W.zret (v := 1) hx hb hr (by decide) (fun t ht hW => ⟨1, rfl, (Or.inr (rfl)), ht⟩) (fun _ h => by cases h) dX12_isSure_69
set_option maxHeartbeats 8000000 in
set_option maxRecDepth 100000 in
theorem g_X12_sure (l : Launch) (D : va_G) (cA : Nat → ClassId) (h0 : Nat) (m_thrown : Int32) (m_qworld : Nat) (m_qimages : Nat) (m_qhasImage : Nat) (m_qtape : Nat) (m_taped : Int32) (m_qfive : Nat) (m_size : Int32) (m_at : Int32) (m_from : Int32) (m_token : Int32) (m_value : Int32) (m_faultKind : Int32) (m_faultPlace : Int32) (m_qfresh : Nat) (m_startOne : Int32) (m_startOther : Int32) (m_latest : Int32) (m_leftBeats : Int32) (m_signed : Int32) (m_metMany : Int32) (m_qsums : Nat) (m_qpairs : Nat) (m_qgoesWith : Nat) (m_qsaid : Nat) (m_saidMany : Int32) (m_firstWait : Int32) (m_qfirstOrder : Nat) (m_bundleFirst : Int32) (m_qtiredBy : Nat) (m_tiredMany : Int32) (m_qmany : Nat) (m_qwidth : Nat) (m_qnumbers : Nat) (m_qmoving : Nat) (m_cworld : Nat → Int32) (p0 : Int32) (p1 : Int32) (p2 : Int32) (h_m_taped : 0 ≤ (m_taped : Int32).toInt ∧ (m_taped : Int32).toInt ≤ 800) (h_m_size : 0 ≤ (m_size : Int32).toInt ∧ (m_size : Int32).toInt ≤ 800) (h_m_at : 0 ≤ (m_at : Int32).toInt ∧ (m_at : Int32).toInt ≤ 800) (h_m_from : 0 ≤ (m_from : Int32).toInt ∧ (m_from : Int32).toInt ≤ 800) (h_m_saidMany : 0 ≤ (m_saidMany : Int32).toInt ∧ (m_saidMany : Int32).toInt ≤ 60) (h_m_tiredMany : 0 ≤ (m_tiredMany : Int32).toInt ∧ (m_tiredMany : Int32).toInt ≤ 240) (a_m_cworld_0 : WI m_cworld) : Met l yX12_sure (Cond.code yX12_sure cX12_sure 5 (some .int) :: TB) (rmd 4 0 0) (PP D cA [(h0, .inr (12, [.int m_thrown, .ref m_qworld, .ref m_qimages, .ref m_qhasImage, .ref m_qtape, .int m_taped, .ref m_qfive, .int m_size, .int m_at, .int m_from, .int m_token, .int m_value, .int m_faultKind, .int m_faultPlace, .ref m_qfresh, .int m_startOne, .int m_startOther, .int m_latest, .int m_leftBeats, .int m_signed, .int m_metMany, .ref m_qsums, .ref m_qpairs, .ref m_qgoesWith, .ref m_qsaid, .int m_saidMany, .int m_firstWait, .ref m_qfirstOrder, .int m_bundleFirst, .ref m_qtiredBy, .int m_tiredMany, .ref m_qmany, .ref m_qwidth, .ref m_qnumbers, .ref m_qmoving])), (m_qworld, .inl (cA 1, 122, .inl m_cworld))] [.ref h0, .int p0, .int p1, .int p2]) (vp_Si (fun r => r.toInt ≤ 18)) 0 0 (fun _ => False) := by
  refine Met.ofW (cc := cX12_sure) (maxL := 5) (ret := (some .int)) (by decide) rfl ?_
  intro p e s m args below meth c s₁ B hml hv
  obtain ⟨rfl, hP, hKN⟩ := hv
  have hx := B.exec
  have hb := B.bytes
  have hr := B.returns
  have hts : ∀ w ∈ TB, w.before _ s = true := fun w h => atoms_spec B.pre w (List.mem_cons_of_mem _ h)
  have hown : s.vm.findClass RX12 = some m.cls := findClass_of_methodNamed B.named
  have hlocks := B.notSynchronized
  have hl := lv_entry ([.ref h0, .int p0, .int p1, .int p2]) (n := 5) (Nat.le_of_ble_eq_true rfl)
  rw [lg_entry_eq]
  generalize (lg_sl ([.ref h0, .int p0, .int p1, .int p2]) ++ List.replicate (5 - (lg_sl ([.ref h0, .int p0, .int p1, .int p2])).length) Slot.unset).toArray = ls at hl ⊢
  have hl : lv_has ls 5 [(0, .ref h0), (1, .int p0), (2, .int p1), (3, .int p2)] := hl
  refine lv_aload_n hx hb dX12_sure_0 rfl (lv_at hl 0 rfl) ?_
  refine lv_iload_n hx hb dX12_sure_1 rfl (lv_at hl 1 rfl) ?_
  refine lv_iload_n hx hb dX12_sure_2 rfl (lv_at hl 2 rfl) ?_
  refine cpVi (rest := []) ⟨hx, hb, hml, hown, hts⟩ hKN (hP.sub (ws' := [(h0, .inr (12, [.int m_thrown, .ref m_qworld, .ref m_qimages, .ref m_qhasImage, .ref m_qtape, .int m_taped, .ref m_qfive, .int m_size, .int m_at, .int m_from, .int m_token, .int m_value, .int m_faultKind, .int m_faultPlace, .ref m_qfresh, .int m_startOne, .int m_startOther, .int m_latest, .int m_leftBeats, .int m_signed, .int m_metMany, .ref m_qsums, .ref m_qpairs, .ref m_qgoesWith, .ref m_qsaid, .int m_saidMany, .int m_firstWait, .ref m_qfirstOrder, .int m_bundleFirst, .ref m_qtiredBy, .int m_tiredMany, .ref m_qmany, .ref m_qwidth, .ref m_qnumbers, .ref m_qmoving])), (m_qworld, .inl (cA 1, 122, .inl m_cworld))]) [0, 1] rfl) (g_X12_areMen l D cA h0 m_thrown m_qworld m_qimages m_qhasImage m_qtape m_taped m_qfive m_size m_at m_from m_token m_value m_faultKind m_faultPlace m_qfresh m_startOne m_startOther m_latest m_leftBeats m_signed m_metMany m_qsums m_qpairs m_qgoesWith m_qsaid m_saidMany m_firstWait m_qfirstOrder m_bundleFirst m_qtiredBy m_tiredMany m_qmany m_qwidth m_qnumbers m_qmoving m_cworld p0 p1 (by omega) (by omega) (by omega) (by omega) (by omega) (by omega) a_m_cworld_0) (tb_V tw_1771 tw_1773 tw_68 tw_114 tw_1774) hdX12_areMen ⟨rfl, rfl, Nat.le_of_ble_eq_true rfl, Nat.le_of_ble_eq_true rfl⟩ ⟨Nat.le_of_ble_eq_true rfl, Nat.le_of_ble_eq_true rfl⟩ rfl rfl rfl hl.1 rfl (Nat.le_of_ble_eq_true rfl) dX12_sure_3 (fun r_1 hr_1 => ?_)
  rcases hr_1 with ⟨k_1_0_0, k_1_0_1, k_1_0_2, k_1_0_3, k_1_0_4, k_1_0_5, k_1_0_6, k_1_0_7, rfl⟩ | rfl
  · skip
    refine lv_if_eq (tgt := 21) hx hb dX12_sure_6 (by decide) (fun c_2 => absurd c_2 (by decide)) (fun c_2 => ?_)
    refine lv_iload_n hx hb dX12_sure_9 rfl (lv_at hl 3 rfl) ?_
    obtain ⟨x_3, ex_3⟩ : ∃ y, p2.toInt64 = y := ⟨_, rfl⟩
    refine lv_i2l (v := x_3) hx hb dX12_sure_10 ex_3 ?_
    have k_4 := tt_i2l ex_3
    refine lv_lconst (v := 0) hx hb dX12_sure_11 (by decide) ?_
    refine lv_ldc2 (v := 100) hx hb hown (hts _ tw_2060) dX12_sure_12 ?_
    have z_5 := zj_0
    have z_6 := zj_100
    refine cpSi (rest := []) ⟨hx, hb, hml, hown, hts⟩ hKN (hP.sub (ws' := []) [] rfl) (g_X12_in l D cA x_3 0 100) (tb_S tw_1530 tw_1531 tw_114 tw_1532) hdX12_in ⟨rfl, rfl, Nat.le_of_ble_eq_true rfl, Nat.le_of_ble_eq_true rfl⟩ ⟨Nat.le_of_ble_eq_true rfl, Nat.le_of_ble_eq_true rfl⟩ rfl hl.1 rfl (Nat.le_of_ble_eq_true rfl) dX12_sure_15 (fun r_7 hr_7 => ?_)
    rcases hr_7 with ⟨k_7_0_0, k_7_0_1, rfl⟩ | ⟨k_7_1_0, rfl⟩
    · skip
      refine lv_if_ne (tgt := 24) hx hb dX12_sure_18 (by decide) (fun c_8 => ?_) (fun c_8 => absurd c_8 (by decide))
      refine lv_aload_n hx hb dX12_sure_24 rfl (lv_at hl 0 rfl) ?_
      refine lv_iload_n hx hb dX12_sure_25 rfl (lv_at hl 1 rfl) ?_
      refine lv_iload_n hx hb dX12_sure_26 rfl (lv_at hl 2 rfl) ?_
      refine cpVi (rest := []) ⟨hx, hb, hml, hown, hts⟩ hKN (hP.sub (ws' := [(h0, .inr (12, [.int m_thrown, .ref m_qworld, .ref m_qimages, .ref m_qhasImage, .ref m_qtape, .int m_taped, .ref m_qfive, .int m_size, .int m_at, .int m_from, .int m_token, .int m_value, .int m_faultKind, .int m_faultPlace, .ref m_qfresh, .int m_startOne, .int m_startOther, .int m_latest, .int m_leftBeats, .int m_signed, .int m_metMany, .ref m_qsums, .ref m_qpairs, .ref m_qgoesWith, .ref m_qsaid, .int m_saidMany, .int m_firstWait, .ref m_qfirstOrder, .int m_bundleFirst, .ref m_qtiredBy, .int m_tiredMany, .ref m_qmany, .ref m_qwidth, .ref m_qnumbers, .ref m_qmoving])), (m_qworld, .inl (cA 1, 122, .inl m_cworld))]) [0, 1] rfl) (g_X12_isPair l D cA h0 m_thrown m_qworld m_qimages m_qhasImage m_qtape m_taped m_qfive m_size m_at m_from m_token m_value m_faultKind m_faultPlace m_qfresh m_startOne m_startOther m_latest m_leftBeats m_signed m_metMany m_qsums m_qpairs m_qgoesWith m_qsaid m_saidMany m_firstWait m_qfirstOrder m_bundleFirst m_qtiredBy m_tiredMany m_qmany m_qwidth m_qnumbers m_qmoving m_cworld p0 p1 (by omega) (by omega) (by omega) (by omega) (by omega) (by omega) (by omega) (by omega) a_m_cworld_0) (tb_V tw_1775 tw_1777 tw_69 tw_114 tw_1778) hdX12_isPair ⟨rfl, rfl, Nat.le_of_ble_eq_true rfl, Nat.le_of_ble_eq_true rfl⟩ ⟨Nat.le_of_ble_eq_true rfl, Nat.le_of_ble_eq_true rfl⟩ rfl rfl rfl hl.1 rfl (Nat.le_of_ble_eq_true rfl) dX12_sure_27 (fun r_9 hr_9 => ?_)
      refine lv_if_ne (tgt := 35) hx hb dX12_sure_30 (by decide) (fun c_10 => ?_) (fun c_10 => ?_)
      · skip
        have k_11 := kk_ne rfl zi_0 c_10
        refine lv_bipush (v := 18) hx hb dX12_sure_35 (by decide) ?_
        refine lv_aload_n hx hb dX12_sure_37 rfl (lv_at hl 0 rfl) ?_
        refine lv_iload_n hx hb dX12_sure_38 rfl (lv_at hl 1 rfl) ?_
        refine lv_iload_n hx hb dX12_sure_39 rfl (lv_at hl 2 rfl) ?_
        refine cpVi (rest := [.int 18]) ⟨hx, hb, hml, hown, hts⟩ hKN (hP.sub (ws' := [(h0, .inr (12, [.int m_thrown, .ref m_qworld, .ref m_qimages, .ref m_qhasImage, .ref m_qtape, .int m_taped, .ref m_qfive, .int m_size, .int m_at, .int m_from, .int m_token, .int m_value, .int m_faultKind, .int m_faultPlace, .ref m_qfresh, .int m_startOne, .int m_startOther, .int m_latest, .int m_leftBeats, .int m_signed, .int m_metMany, .ref m_qsums, .ref m_qpairs, .ref m_qgoesWith, .ref m_qsaid, .int m_saidMany, .int m_firstWait, .ref m_qfirstOrder, .int m_bundleFirst, .ref m_qtiredBy, .int m_tiredMany, .ref m_qmany, .ref m_qwidth, .ref m_qnumbers, .ref m_qmoving])), (m_qworld, .inl (cA 1, 122, .inl m_cworld))]) [0, 1] rfl) (g_X12_holdOf l D cA h0 m_thrown m_qworld m_qimages m_qhasImage m_qtape m_taped m_qfive m_size m_at m_from m_token m_value m_faultKind m_faultPlace m_qfresh m_startOne m_startOther m_latest m_leftBeats m_signed m_metMany m_qsums m_qpairs m_qgoesWith m_qsaid m_saidMany m_firstWait m_qfirstOrder m_bundleFirst m_qtiredBy m_tiredMany m_qmany m_qwidth m_qnumbers m_qmoving m_cworld p0 p1 (by omega) (by omega) (by omega) (by omega) (by omega) (by omega) (by omega) (by omega) a_m_cworld_0) (tb_V tw_1700 tw_1702 tw_63 tw_114 tw_1703) hdX12_holdOf ⟨rfl, rfl, Nat.le_of_ble_eq_true rfl, Nat.le_of_ble_eq_true rfl⟩ ⟨Nat.le_of_ble_eq_true rfl, Nat.le_of_ble_eq_true rfl⟩ rfl rfl rfl hl.1 rfl (Nat.le_of_ble_eq_true rfl) dX12_sure_40 (fun r_12 hr_12 => ?_)
        have z_13 := zi_18
        refine cpSi (rest := []) ⟨hx, hb, hml, hown, hts⟩ hKN (hP.sub (ws' := []) [] rfl) (g_J9_min_7cf53 l D cA 18 r_12) (tb_S tw_1566 tw_555 tw_115 tw_556) hdJ9_min_7cf53 ⟨rfl, rfl, Nat.le_of_ble_eq_true rfl, Nat.le_of_ble_eq_true rfl⟩ ⟨Nat.le_of_ble_eq_true rfl, Nat.le_of_ble_eq_true rfl⟩ rfl hl.1 rfl (Nat.le_of_ble_eq_true rfl) dX12_sure_43 (fun r_14 hr_14 => ?_)
        obtain ⟨k_14_0_0, k_14_0_1, k_14_0_2⟩ := hr_14
        refine lv_istore (lv' := [(4, .int r_14), (0, .ref h0), (1, .int p0), (2, .int p1), (3, .int p2)]) hx hb dX12_sure_46 hl (by decide) rfl (fun ls hl => ?_)
        refine loopW (σ := Int32) (fun _ => []) (fun L4_21 H locs ls => (L4_21.toInt ≤ 18) ∧ H = s.heap ∧ locs = [] ∧ lv_has ls 5 [(4, .int L4_21), (0, .ref h0), (1, .int p0), (2, .int p1), (3, .int p2)]) (fun L4_21 => (L4_21.toInt + 2147483648).toNat) ?_ (r_14 : Int32) ⟨(show r_14.toInt ≤ 18 from by omega), rfl, rfl, hl⟩
        intro x_21 H locs ls hI_21 ih_21
        obtain ⟨L4_21, rfl⟩ : ∃ z, z = x_21 := ⟨_, rfl⟩
        obtain ⟨k0_21, rfl, rfl, hl⟩ := hI_21
        have hl : lv_has ls 5 [(4, .int L4_21), (0, .ref h0), (1, .int p0), (2, .int p1), (3, .int p2)] := hl
        refine lv_aload_n hx hb dX12_sure_48 rfl (lv_at hl 1 rfl) ?_
        refine lv_iload hx hb dX12_sure_49 (lv_at hl 0 rfl) ?_
        refine lv_iload_n hx hb dX12_sure_51 rfl (lv_at hl 4 rfl) ?_
        refine cpVi (rest := []) ⟨hx, hb, hml, hown, hts⟩ hKN (hP.sub (ws' := [(h0, .inr (12, [.int m_thrown, .ref m_qworld, .ref m_qimages, .ref m_qhasImage, .ref m_qtape, .int m_taped, .ref m_qfive, .int m_size, .int m_at, .int m_from, .int m_token, .int m_value, .int m_faultKind, .int m_faultPlace, .ref m_qfresh, .int m_startOne, .int m_startOther, .int m_latest, .int m_leftBeats, .int m_signed, .int m_metMany, .ref m_qsums, .ref m_qpairs, .ref m_qgoesWith, .ref m_qsaid, .int m_saidMany, .int m_firstWait, .ref m_qfirstOrder, .int m_bundleFirst, .ref m_qtiredBy, .int m_tiredMany, .ref m_qmany, .ref m_qwidth, .ref m_qnumbers, .ref m_qmoving])), (m_qworld, .inl (cA 1, 122, .inl m_cworld))]) [0, 1] rfl) (g_X12_isSure l D cA h0 m_thrown m_qworld m_qimages m_qhasImage m_qtape m_taped m_qfive m_size m_at m_from m_token m_value m_faultKind m_faultPlace m_qfresh m_startOne m_startOther m_latest m_leftBeats m_signed m_metMany m_qsums m_qpairs m_qgoesWith m_qsaid m_saidMany m_firstWait m_qfirstOrder m_bundleFirst m_qtiredBy m_tiredMany m_qmany m_qwidth m_qnumbers m_qmoving m_cworld L4_21 p2 (by omega) (by omega) (by omega) (by omega) (by omega) (by omega) (by omega) a_m_cworld_0) (tb_V tw_2061 tw_2063 tw_96 tw_114 tw_2064) hdX12_isSure ⟨rfl, rfl, Nat.le_of_ble_eq_true rfl, Nat.le_of_ble_eq_true rfl⟩ ⟨Nat.le_of_ble_eq_true rfl, Nat.le_of_ble_eq_true rfl⟩ rfl rfl rfl hl.1 rfl (Nat.le_of_ble_eq_true rfl) dX12_sure_52 (fun r_22 hr_22 => ?_)
        rcases hr_22 with ⟨k_22_0_0, rfl⟩ | rfl
        · skip
          refine lv_if_ne (tgt := 64) hx hb dX12_sure_55 (by decide) (fun c_23 => absurd (by decide) c_23) (fun c_23 => ?_)
          obtain ⟨x_24, ex_24⟩ : ∃ y : Int32, L4_21 + Int32.ofInt (-1) = y := ⟨_, rfl⟩
          have k_25 := ar_add (b := (-1)) rfl zi_m1 ex_24.symm (by omega) (by omega)
          refine lv_iinc (v := x_24) (lv' := [(4, .int x_24), (0, .ref h0), (1, .int p0), (2, .int p1), (3, .int p2)]) hx hb dX12_sure_58 hl (k := 0) rfl ex_24 (by decide) rfl (fun ls hl => ?_)
          refine lv_goto (tgt := 48) hx hb dX12_sure_61 (by decide) ?_
          exact ih_21 (x_24) _ _ _ ⟨(show x_24.toInt ≤ 18 from by omega), rfl, rfl, lv_sub hl [0, 1, 2, 3, 4] rfl⟩ (by show (x_24.toInt + 2147483648).toNat < (L4_21.toInt + 2147483648).toNat; omega)
        · skip
          refine lv_if_ne (tgt := 64) hx hb dX12_sure_55 (by decide) (fun c_26 => ?_) (fun c_26 => absurd c_26 (by decide))
          refine lv_iload hx hb dX12_sure_64 (lv_at hl 0 rfl) ?_
          exact W.iret (v := L4_21) hx hb hr (fun t ht hW => ⟨L4_21, rfl, (show L4_21.toInt ≤ 18 from by omega), ht⟩) (fun _ h => by cases h) dX12_sure_66
      · skip
        have k_27 := kk_eq rfl zi_0 c_10
        refine lv_iconst (v := (-1)) hx hb dX12_sure_33 (by decide) ?_
        exact W.iret (v := (-1)) hx hb hr (fun t ht hW => ⟨(-1), rfl, (show ((-1) : Int32).toInt ≤ 18 from by decide), ht⟩) (fun _ h => by cases h) dX12_sure_34
    · skip
      refine lv_if_ne (tgt := 24) hx hb dX12_sure_18 (by decide) (fun c_28 => absurd (by decide) c_28) (fun c_28 => ?_)
      refine lv_bipush (v := (-2)) hx hb dX12_sure_21 (by decide) ?_
      exact W.iret (v := (-2)) hx hb hr (fun t ht hW => ⟨(-2), rfl, (show ((-2) : Int32).toInt ≤ 18 from by decide), ht⟩) (fun _ h => by cases h) dX12_sure_23
  · skip
    refine lv_if_eq (tgt := 21) hx hb dX12_sure_6 (by decide) (fun c_29 => ?_) (fun c_29 => absurd (by decide) c_29)
    refine lv_bipush (v := (-2)) hx hb dX12_sure_21 (by decide) ?_
    exact W.iret (v := (-2)) hx hb hr (fun t ht hW => ⟨(-2), rfl, (show ((-2) : Int32).toInt ≤ 18 from by decide), ht⟩) (fun _ h => by cases h) dX12_sure_23
set_option maxHeartbeats 8000000 in
set_option maxRecDepth 100000 in
theorem g_X12_mean (l : Launch) (D : va_G) (cA : Nat → ClassId) (h0 : Nat) (m_thrown : Int32) (m_qworld : Nat) (m_qimages : Nat) (m_qhasImage : Nat) (m_qtape : Nat) (m_taped : Int32) (m_qfive : Nat) (m_size : Int32) (m_at : Int32) (m_from : Int32) (m_token : Int32) (m_value : Int32) (m_faultKind : Int32) (m_faultPlace : Int32) (m_qfresh : Nat) (m_startOne : Int32) (m_startOther : Int32) (m_latest : Int32) (m_leftBeats : Int32) (m_signed : Int32) (m_metMany : Int32) (m_qsums : Nat) (m_qpairs : Nat) (m_qgoesWith : Nat) (m_qsaid : Nat) (m_saidMany : Int32) (m_firstWait : Int32) (m_qfirstOrder : Nat) (m_bundleFirst : Int32) (m_qtiredBy : Nat) (m_tiredMany : Int32) (m_qmany : Nat) (m_qwidth : Nat) (m_qnumbers : Nat) (m_qmoving : Nat) (m_cworld : Nat → Int32) (p0 : Int32) (p1 : Int32) (p2 : Int32) (h_m_taped : 0 ≤ (m_taped : Int32).toInt ∧ (m_taped : Int32).toInt ≤ 800) (h_m_size : 0 ≤ (m_size : Int32).toInt ∧ (m_size : Int32).toInt ≤ 800) (h_m_at : 0 ≤ (m_at : Int32).toInt ∧ (m_at : Int32).toInt ≤ 800) (h_m_from : 0 ≤ (m_from : Int32).toInt ∧ (m_from : Int32).toInt ≤ 800) (h_m_saidMany : 0 ≤ (m_saidMany : Int32).toInt ∧ (m_saidMany : Int32).toInt ≤ 60) (h_m_tiredMany : 0 ≤ (m_tiredMany : Int32).toInt ∧ (m_tiredMany : Int32).toInt ≤ 240) (a_m_cworld_0 : WI m_cworld) : Met l yX12_mean (Cond.code yX12_mean cX12_mean 8 (some .long) :: TB) (rmd 4 0 0) (PP D cA [(h0, .inr (12, [.int m_thrown, .ref m_qworld, .ref m_qimages, .ref m_qhasImage, .ref m_qtape, .int m_taped, .ref m_qfive, .int m_size, .int m_at, .int m_from, .int m_token, .int m_value, .int m_faultKind, .int m_faultPlace, .ref m_qfresh, .int m_startOne, .int m_startOther, .int m_latest, .int m_leftBeats, .int m_signed, .int m_metMany, .ref m_qsums, .ref m_qpairs, .ref m_qgoesWith, .ref m_qsaid, .int m_saidMany, .int m_firstWait, .ref m_qfirstOrder, .int m_bundleFirst, .ref m_qtiredBy, .int m_tiredMany, .ref m_qmany, .ref m_qwidth, .ref m_qnumbers, .ref m_qmoving])), (m_qworld, .inl (cA 1, 122, .inl m_cworld))] [.ref h0, .int p0, .int p1, .int p2]) (vp_Sl (fun r => True)) 0 0 (fun _ => False) := by
  refine Met.ofW (cc := cX12_mean) (maxL := 8) (ret := (some .long)) (by decide) rfl ?_
  intro p e s m args below meth c s₁ B hml hv
  obtain ⟨rfl, hP, hKN⟩ := hv
  have hx := B.exec
  have hb := B.bytes
  have hr := B.returns
  have hts : ∀ w ∈ TB, w.before _ s = true := fun w h => atoms_spec B.pre w (List.mem_cons_of_mem _ h)
  have hown : s.vm.findClass RX12 = some m.cls := findClass_of_methodNamed B.named
  have hlocks := B.notSynchronized
  have hl := lv_entry ([.ref h0, .int p0, .int p1, .int p2]) (n := 8) (Nat.le_of_ble_eq_true rfl)
  rw [lg_entry_eq]
  generalize (lg_sl ([.ref h0, .int p0, .int p1, .int p2]) ++ List.replicate (8 - (lg_sl ([.ref h0, .int p0, .int p1, .int p2])).length) Slot.unset).toArray = ls at hl ⊢
  have hl : lv_has ls 8 [(0, .ref h0), (1, .int p0), (2, .int p1), (3, .int p2)] := hl
  refine lv_aload_n hx hb dX12_mean_0 rfl (lv_at hl 0 rfl) ?_
  refine lv_iload_n hx hb dX12_mean_1 rfl (lv_at hl 1 rfl) ?_
  refine lv_iload_n hx hb dX12_mean_2 rfl (lv_at hl 2 rfl) ?_
  refine cpVi (rest := []) ⟨hx, hb, hml, hown, hts⟩ hKN (hP.sub (ws' := [(h0, .inr (12, [.int m_thrown, .ref m_qworld, .ref m_qimages, .ref m_qhasImage, .ref m_qtape, .int m_taped, .ref m_qfive, .int m_size, .int m_at, .int m_from, .int m_token, .int m_value, .int m_faultKind, .int m_faultPlace, .ref m_qfresh, .int m_startOne, .int m_startOther, .int m_latest, .int m_leftBeats, .int m_signed, .int m_metMany, .ref m_qsums, .ref m_qpairs, .ref m_qgoesWith, .ref m_qsaid, .int m_saidMany, .int m_firstWait, .ref m_qfirstOrder, .int m_bundleFirst, .ref m_qtiredBy, .int m_tiredMany, .ref m_qmany, .ref m_qwidth, .ref m_qnumbers, .ref m_qmoving])), (m_qworld, .inl (cA 1, 122, .inl m_cworld))]) [0, 1] rfl) (g_X12_areMen l D cA h0 m_thrown m_qworld m_qimages m_qhasImage m_qtape m_taped m_qfive m_size m_at m_from m_token m_value m_faultKind m_faultPlace m_qfresh m_startOne m_startOther m_latest m_leftBeats m_signed m_metMany m_qsums m_qpairs m_qgoesWith m_qsaid m_saidMany m_firstWait m_qfirstOrder m_bundleFirst m_qtiredBy m_tiredMany m_qmany m_qwidth m_qnumbers m_qmoving m_cworld p0 p1 (by omega) (by omega) (by omega) (by omega) (by omega) (by omega) a_m_cworld_0) (tb_V tw_1771 tw_1773 tw_68 tw_114 tw_1774) hdX12_areMen ⟨rfl, rfl, Nat.le_of_ble_eq_true rfl, Nat.le_of_ble_eq_true rfl⟩ ⟨Nat.le_of_ble_eq_true rfl, Nat.le_of_ble_eq_true rfl⟩ rfl rfl rfl hl.1 rfl (Nat.le_of_ble_eq_true rfl) dX12_mean_3 (fun r_1 hr_1 => ?_)
  rcases hr_1 with ⟨k_1_0_0, k_1_0_1, k_1_0_2, k_1_0_3, k_1_0_4, k_1_0_5, k_1_0_6, k_1_0_7, rfl⟩ | rfl
  · skip
    refine lv_if_eq (tgt := 19) hx hb dX12_mean_6 (by decide) (fun c_2 => absurd c_2 (by decide)) (fun c_2 => ?_)
    refine lv_iload_n hx hb dX12_mean_9 rfl (lv_at hl 3 rfl) ?_
    obtain ⟨x_3, ex_3⟩ : ∃ y, p2.toInt64 = y := ⟨_, rfl⟩
    refine lv_i2l (v := x_3) hx hb dX12_mean_10 ex_3 ?_
    have k_4 := tt_i2l ex_3
    refine lv_lconst (v := 0) hx hb dX12_mean_11 (by decide) ?_
    refine lv_lconst (v := 1) hx hb dX12_mean_12 (by decide) ?_
    have z_5 := zj_0
    have z_6 := zj_1
    refine cpSi (rest := []) ⟨hx, hb, hml, hown, hts⟩ hKN (hP.sub (ws' := []) [] rfl) (g_X12_in l D cA x_3 0 1) (tb_S tw_1530 tw_1531 tw_114 tw_1532) hdX12_in ⟨rfl, rfl, Nat.le_of_ble_eq_true rfl, Nat.le_of_ble_eq_true rfl⟩ ⟨Nat.le_of_ble_eq_true rfl, Nat.le_of_ble_eq_true rfl⟩ rfl hl.1 rfl (Nat.le_of_ble_eq_true rfl) dX12_mean_13 (fun r_7 hr_7 => ?_)
    rcases hr_7 with ⟨k_7_0_0, k_7_0_1, rfl⟩ | ⟨k_7_1_0, rfl⟩
    · skip
      refine lv_if_ne (tgt := 23) hx hb dX12_mean_16 (by decide) (fun c_8 => ?_) (fun c_8 => absurd c_8 (by decide))
      refine lv_aload_n hx hb dX12_mean_23 rfl (lv_at hl 0 rfl) ?_
      refine lv_iload_n hx hb dX12_mean_24 rfl (lv_at hl 1 rfl) ?_
      refine lv_iload_n hx hb dX12_mean_25 rfl (lv_at hl 2 rfl) ?_
      refine cpVi (rest := []) ⟨hx, hb, hml, hown, hts⟩ hKN (hP.sub (ws' := [(h0, .inr (12, [.int m_thrown, .ref m_qworld, .ref m_qimages, .ref m_qhasImage, .ref m_qtape, .int m_taped, .ref m_qfive, .int m_size, .int m_at, .int m_from, .int m_token, .int m_value, .int m_faultKind, .int m_faultPlace, .ref m_qfresh, .int m_startOne, .int m_startOther, .int m_latest, .int m_leftBeats, .int m_signed, .int m_metMany, .ref m_qsums, .ref m_qpairs, .ref m_qgoesWith, .ref m_qsaid, .int m_saidMany, .int m_firstWait, .ref m_qfirstOrder, .int m_bundleFirst, .ref m_qtiredBy, .int m_tiredMany, .ref m_qmany, .ref m_qwidth, .ref m_qnumbers, .ref m_qmoving])), (m_qworld, .inl (cA 1, 122, .inl m_cworld))]) [0, 1] rfl) (g_X12_isPair l D cA h0 m_thrown m_qworld m_qimages m_qhasImage m_qtape m_taped m_qfive m_size m_at m_from m_token m_value m_faultKind m_faultPlace m_qfresh m_startOne m_startOther m_latest m_leftBeats m_signed m_metMany m_qsums m_qpairs m_qgoesWith m_qsaid m_saidMany m_firstWait m_qfirstOrder m_bundleFirst m_qtiredBy m_tiredMany m_qmany m_qwidth m_qnumbers m_qmoving m_cworld p0 p1 (by omega) (by omega) (by omega) (by omega) (by omega) (by omega) (by omega) (by omega) a_m_cworld_0) (tb_V tw_1775 tw_1777 tw_69 tw_114 tw_1778) hdX12_isPair ⟨rfl, rfl, Nat.le_of_ble_eq_true rfl, Nat.le_of_ble_eq_true rfl⟩ ⟨Nat.le_of_ble_eq_true rfl, Nat.le_of_ble_eq_true rfl⟩ rfl rfl rfl hl.1 rfl (Nat.le_of_ble_eq_true rfl) dX12_mean_26 (fun r_9 hr_9 => ?_)
      refine lv_if_ne (tgt := 36) hx hb dX12_mean_29 (by decide) (fun c_10 => ?_) (fun c_10 => ?_)
      · skip
        have k_11 := kk_ne rfl zi_0 c_10
        refine lv_bipush (v := 15) hx hb dX12_mean_36 (by decide) ?_
        refine lv_aload_n hx hb dX12_mean_38 rfl (lv_at hl 0 rfl) ?_
        refine lv_iload_n hx hb dX12_mean_39 rfl (lv_at hl 1 rfl) ?_
        refine lv_iload_n hx hb dX12_mean_40 rfl (lv_at hl 2 rfl) ?_
        refine cpVi (rest := [.int 15]) ⟨hx, hb, hml, hown, hts⟩ hKN (hP.sub (ws' := [(h0, .inr (12, [.int m_thrown, .ref m_qworld, .ref m_qimages, .ref m_qhasImage, .ref m_qtape, .int m_taped, .ref m_qfive, .int m_size, .int m_at, .int m_from, .int m_token, .int m_value, .int m_faultKind, .int m_faultPlace, .ref m_qfresh, .int m_startOne, .int m_startOther, .int m_latest, .int m_leftBeats, .int m_signed, .int m_metMany, .ref m_qsums, .ref m_qpairs, .ref m_qgoesWith, .ref m_qsaid, .int m_saidMany, .int m_firstWait, .ref m_qfirstOrder, .int m_bundleFirst, .ref m_qtiredBy, .int m_tiredMany, .ref m_qmany, .ref m_qwidth, .ref m_qnumbers, .ref m_qmoving])), (m_qworld, .inl (cA 1, 122, .inl m_cworld))]) [0, 1] rfl) (g_X12_holdOf l D cA h0 m_thrown m_qworld m_qimages m_qhasImage m_qtape m_taped m_qfive m_size m_at m_from m_token m_value m_faultKind m_faultPlace m_qfresh m_startOne m_startOther m_latest m_leftBeats m_signed m_metMany m_qsums m_qpairs m_qgoesWith m_qsaid m_saidMany m_firstWait m_qfirstOrder m_bundleFirst m_qtiredBy m_tiredMany m_qmany m_qwidth m_qnumbers m_qmoving m_cworld p0 p1 (by omega) (by omega) (by omega) (by omega) (by omega) (by omega) (by omega) (by omega) a_m_cworld_0) (tb_V tw_1700 tw_1702 tw_63 tw_114 tw_1703) hdX12_holdOf ⟨rfl, rfl, Nat.le_of_ble_eq_true rfl, Nat.le_of_ble_eq_true rfl⟩ ⟨Nat.le_of_ble_eq_true rfl, Nat.le_of_ble_eq_true rfl⟩ rfl rfl rfl hl.1 rfl (Nat.le_of_ble_eq_true rfl) dX12_mean_41 (fun r_12 hr_12 => ?_)
        have z_13 := zi_15
        refine cpSi (rest := []) ⟨hx, hb, hml, hown, hts⟩ hKN (hP.sub (ws' := []) [] rfl) (g_J9_min_7cf53 l D cA 15 r_12) (tb_S tw_1566 tw_555 tw_115 tw_556) hdJ9_min_7cf53 ⟨rfl, rfl, Nat.le_of_ble_eq_true rfl, Nat.le_of_ble_eq_true rfl⟩ ⟨Nat.le_of_ble_eq_true rfl, Nat.le_of_ble_eq_true rfl⟩ rfl hl.1 rfl (Nat.le_of_ble_eq_true rfl) dX12_mean_44 (fun r_14 hr_14 => ?_)
        obtain ⟨k_14_0_0, k_14_0_1, k_14_0_2⟩ := hr_14
        refine lv_istore (lv' := [(4, .int r_14), (0, .ref h0), (1, .int p0), (2, .int p1), (3, .int p2)]) hx hb dX12_mean_47 hl (by decide) rfl (fun ls hl => ?_)
        refine lv_lconst (v := 0) hx hb dX12_mean_49 (by decide) ?_
        refine lv_lstore (lv' := [(5, .long 0), (4, .int r_14), (0, .ref h0), (1, .int p0), (2, .int p1), (3, .int p2)]) hx hb dX12_mean_50 hl (by decide) rfl (fun ls hl => ?_)
        refine lv_iconst (v := 1) hx hb dX12_mean_52 (by decide) ?_
        refine lv_istore (lv' := [(7, .int 1), (5, .long 0), (4, .int r_14), (0, .ref h0), (1, .int p0), (2, .int p1), (3, .int p2)]) hx hb dX12_mean_53 hl (by decide) rfl (fun ls hl => ?_)
        refine loopW (σ := Int32 × Int64) (fun _ => []) (fun ⟨L7_105, L5_105⟩ H locs ls => (1 ≤ L7_105.toInt ∧ L7_105.toInt ≤ 16) ∧ H = s.heap ∧ locs = [] ∧ lv_has ls 8 [(7, .int L7_105), (5, .long L5_105), (4, .int r_14), (0, .ref h0), (1, .int p0), (2, .int p1), (3, .int p2)]) (fun ⟨L7_105, L5_105⟩ => (2147483647 - L7_105.toInt).toNat) ?_ ((1, 0) : Int32 × Int64) ⟨(by decide), rfl, rfl, hl⟩
        intro x_105 H locs ls hI_105 ih_105
        obtain ⟨L7_105, L5_105⟩ := x_105
        obtain ⟨k0_105, rfl, rfl, hl⟩ := hI_105
        have hl : lv_has ls 8 [(7, .int L7_105), (5, .long L5_105), (4, .int r_14), (0, .ref h0), (1, .int p0), (2, .int p1), (3, .int p2)] := hl
        refine lv_iload hx hb dX12_mean_55 (lv_at hl 0 rfl) ?_
        refine lv_iload hx hb dX12_mean_57 (lv_at hl 2 rfl) ?_
        refine lv_icmp_gt (tgt := 100) hx hb dX12_mean_59 (by decide) (fun c_106 => ?_) (fun c_106 => ?_)
        · skip
          have k_107 := kk_lt rfl rfl c_106
          refine lv_lload hx hb dX12_mean_100 (lv_at hl 1 rfl) ?_
          refine lv_ldc2 (v := 10) hx hb hown (hts _ tw_2049) dX12_mean_102 ?_
          refine lv_iload hx hb dX12_mean_105 (lv_at hl 2 rfl) ?_
          have z_108 := zj_10
          refine cpSl (rest := [.long L5_105]) ⟨hx, hb, hml, hown, hts⟩ hKN (hP.sub (ws' := []) [] rfl) (g_X12_power_t l D cA 10 r_14 (by decide) (by omega)) (tb_S tw_2046 tw_2047 tw_114 tw_2048) hdX12_power ⟨rfl, rfl, Nat.le_of_ble_eq_true rfl, Nat.le_of_ble_eq_true rfl⟩ ⟨Nat.le_of_ble_eq_true rfl, Nat.le_of_ble_eq_true rfl⟩ rfl hl.1 rfl (Nat.le_of_ble_eq_true rfl) dX12_mean_107 (fun r_109 hr_109 => ?_)
          obtain ⟨k_109_0_0, k_109_0_1⟩ := hr_109
          refine lv_iload_n hx hb dX12_mean_110 rfl (lv_at hl 6 rfl) ?_
          refine cpSl (rest := []) ⟨hx, hb, hml, hown, hts⟩ hKN (hP.sub (ws' := []) [] rfl) (g_X12_part l D cA L5_105 r_109 p2 (by omega)) (tb_S tw_2050 tw_2051 tw_114 tw_2052) hdX12_part ⟨rfl, rfl, Nat.le_of_ble_eq_true rfl, Nat.le_of_ble_eq_true rfl⟩ ⟨Nat.le_of_ble_eq_true rfl, Nat.le_of_ble_eq_true rfl⟩ rfl hl.1 rfl (Nat.le_of_ble_eq_true rfl) dX12_mean_111 (fun r_110 hr_110 => ?_)
          exact W.lret (v := r_110) hx hb hr (fun t ht hW => ⟨r_110, rfl, trivial, ht⟩) (fun _ h => by cases h) dX12_mean_114
        · skip
          have k_111 := kk_nlt rfl rfl c_106
          refine lv_lload hx hb dX12_mean_62 (lv_at hl 1 rfl) ?_
          refine lv_bipush (v := 10) hx hb dX12_mean_64 (by decide) ?_
          refine lv_aload_n hx hb dX12_mean_66 rfl (lv_at hl 3 rfl) ?_
          refine va_get (D := D) (ci := 12) (v := .ref m_qworld) (C := RX12) (T := TX12) (N := 35) hx hb hts inX12 hown hKN.1 hP 0 rfl rfl 1 (by decide) (hts _ tw_1420) (fun _ h9 => h9) rfl dX12_mean_67 ?_
          refine lv_iconst (v := 2) hx hb dX12_mean_70 (by decide) ?_
          refine va_iald hx hb hKN.1 hP 1 1 rfl rfl (by unfold vp_in; decide) dX12_mean_71 ?_
          refine W.eq (g2 := F0 m 72 ls [.int (m_cworld 2), .int 10, .long L5_105]) rfl ?_
          have k_112 := a_m_cworld_0.1.1.2.1 (2) (by decide) (by decide)
          refine lv_isub hx hb dX12_mean_72 ?_
          refine lv_topi (fun x_113 ex_113 => ?_)
          have k_114 := ar_sub zi_10 rfl ex_113 (by omega) (by omega)
          obtain ⟨x_115, ex_115⟩ : ∃ y, x_113.toInt64 = y := ⟨_, rfl⟩
          refine lv_i2l (v := x_115) hx hb dX12_mean_73 ex_115 ?_
          have k_116 := tt_i2l ex_115
          refine lv_iload hx hb dX12_mean_74 (lv_at hl 0 rfl) ?_
          refine cpSl (rest := [.long L5_105]) ⟨hx, hb, hml, hown, hts⟩ hKN (hP.sub (ws' := []) [] rfl) (g_X12_power l D cA x_115 L7_105) (tb_S tw_2046 tw_2047 tw_114 tw_2048) hdX12_power ⟨rfl, rfl, Nat.le_of_ble_eq_true rfl, Nat.le_of_ble_eq_true rfl⟩ ⟨Nat.le_of_ble_eq_true rfl, Nat.le_of_ble_eq_true rfl⟩ rfl hl.1 rfl (Nat.le_of_ble_eq_true rfl) dX12_mean_76 (fun r_117 hr_117 => ?_)
          refine lv_ldc2 (v := 10) hx hb hown (hts _ tw_2049) dX12_mean_79 ?_
          refine lv_iload hx hb dX12_mean_82 (lv_at hl 2 rfl) ?_
          refine lv_iload hx hb dX12_mean_84 (lv_at hl 0 rfl) ?_
          refine lv_isub hx hb dX12_mean_86 ?_
          refine lv_topi (fun x_118 ex_118 => ?_)
          have k_119 := ar_sub rfl rfl ex_118 (by omega) (by omega)
          have z_120 := zj_10
          refine cpSl (rest := [.long r_117, .long L5_105]) ⟨hx, hb, hml, hown, hts⟩ hKN (hP.sub (ws' := []) [] rfl) (g_X12_power_t l D cA 10 x_118 (by decide) (by omega)) (tb_S tw_2046 tw_2047 tw_114 tw_2048) hdX12_power ⟨rfl, rfl, Nat.le_of_ble_eq_true rfl, Nat.le_of_ble_eq_true rfl⟩ ⟨Nat.le_of_ble_eq_true rfl, Nat.le_of_ble_eq_true rfl⟩ rfl hl.1 rfl (Nat.le_of_ble_eq_true rfl) dX12_mean_87 (fun r_121 hr_121 => ?_)
          obtain ⟨k_121_0_0, k_121_0_1⟩ := hr_121
          refine lv_lmul hx hb dX12_mean_90 ?_
          refine lv_topl (fun x_122 ex_122 => ?_)
          refine lv_ladd hx hb dX12_mean_91 ?_
          refine lv_topl (fun x_123 ex_123 => ?_)
          refine lv_lstore (lv' := [(5, .long x_123), (7, .int L7_105), (4, .int r_14), (0, .ref h0), (1, .int p0), (2, .int p1), (3, .int p2)]) hx hb dX12_mean_92 hl (by decide) rfl (fun ls hl => ?_)
          obtain ⟨x_124, ex_124⟩ : ∃ y : Int32, L7_105 + Int32.ofInt 1 = y := ⟨_, rfl⟩
          have k_125 := ar_add (b := 1) rfl zi_1 ex_124.symm (by omega) (by omega)
          refine lv_iinc (v := x_124) (lv' := [(7, .int x_124), (5, .long x_123), (4, .int r_14), (0, .ref h0), (1, .int p0), (2, .int p1), (3, .int p2)]) hx hb dX12_mean_94 hl (k := 1) rfl ex_124 (by decide) rfl (fun ls hl => ?_)
          refine lv_goto (tgt := 55) hx hb dX12_mean_97 (by decide) ?_
          exact ih_105 (x_124, x_123) _ _ _ ⟨(show 1 ≤ x_124.toInt ∧ x_124.toInt ≤ 16 from by omega), rfl, rfl, lv_sub hl [0, 1, 2, 3, 4, 5, 6] rfl⟩ (by show (2147483647 - x_124.toInt).toNat < (2147483647 - L7_105.toInt).toNat; omega)
      · skip
        have k_126 := kk_eq rfl zi_0 c_10
        refine lv_ldc2 (v := (-1)) hx hb hown (hts _ tw_2045) dX12_mean_32 ?_
        exact W.lret (v := (-1)) hx hb hr (fun t ht hW => ⟨(-1), rfl, trivial, ht⟩) (fun _ h => by cases h) dX12_mean_35
    · skip
      refine lv_if_ne (tgt := 23) hx hb dX12_mean_16 (by decide) (fun c_127 => absurd (by decide) c_127) (fun c_127 => ?_)
      refine lv_ldc2 (v := (-2)) hx hb hown (hts _ tw_2044) dX12_mean_19 ?_
      exact W.lret (v := (-2)) hx hb hr (fun t ht hW => ⟨(-2), rfl, trivial, ht⟩) (fun _ h => by cases h) dX12_mean_22
  · skip
    refine lv_if_eq (tgt := 19) hx hb dX12_mean_6 (by decide) (fun c_128 => ?_) (fun c_128 => absurd (by decide) c_128)
    refine lv_ldc2 (v := (-2)) hx hb hown (hts _ tw_2044) dX12_mean_19 ?_
    exact W.lret (v := (-2)) hx hb hr (fun t ht hW => ⟨(-2), rfl, trivial, ht⟩) (fun _ h => by cases h) dX12_mean_22

theorem zj_20 : (20 : Int64).toInt = 20 := by decide
set_option maxHeartbeats 8000000 in
set_option maxRecDepth 100000 in
theorem g_X12_resinOf (l : Launch) (D : va_G) (cA : Nat → ClassId) (h0 : Nat) (m_thrown : Int32) (m_qworld : Nat) (m_qimages : Nat) (m_qhasImage : Nat) (m_qtape : Nat) (m_taped : Int32) (m_qfive : Nat) (m_size : Int32) (m_at : Int32) (m_from : Int32) (m_token : Int32) (m_value : Int32) (m_faultKind : Int32) (m_faultPlace : Int32) (m_qfresh : Nat) (m_startOne : Int32) (m_startOther : Int32) (m_latest : Int32) (m_leftBeats : Int32) (m_signed : Int32) (m_metMany : Int32) (m_qsums : Nat) (m_qpairs : Nat) (m_qgoesWith : Nat) (m_qsaid : Nat) (m_saidMany : Int32) (m_firstWait : Int32) (m_qfirstOrder : Nat) (m_bundleFirst : Int32) (m_qtiredBy : Nat) (m_tiredMany : Int32) (m_qmany : Nat) (m_qwidth : Nat) (m_qnumbers : Nat) (m_qmoving : Nat) (m_cworld : Nat → Int32) (p0 : Int32) (p1 : Int32) (p2 : Int32) (h_m_taped : 0 ≤ (m_taped : Int32).toInt ∧ (m_taped : Int32).toInt ≤ 800) (h_m_size : 0 ≤ (m_size : Int32).toInt ∧ (m_size : Int32).toInt ≤ 800) (h_m_at : 0 ≤ (m_at : Int32).toInt ∧ (m_at : Int32).toInt ≤ 800) (h_m_from : 0 ≤ (m_from : Int32).toInt ∧ (m_from : Int32).toInt ≤ 800) (h_m_saidMany : 0 ≤ (m_saidMany : Int32).toInt ∧ (m_saidMany : Int32).toInt ≤ 60) (h_m_tiredMany : 0 ≤ (m_tiredMany : Int32).toInt ∧ (m_tiredMany : Int32).toInt ≤ 240) (h_p0 : 0 ≤ (p0 : Int32).toInt ∧ (p0 : Int32).toInt ≤ 7) (h_p1 : 0 ≤ (p1 : Int32).toInt ∧ (p1 : Int32).toInt ≤ 7) (h_p2 : (p2 : Int32).toInt ≤ 20) (a_m_cworld_0 : WI m_cworld) : Met l yX12_resinOf (Cond.code yX12_resinOf cX12_resinOf 6 (some .int) :: TB) (rmd 1 0 0) (PP D cA [(h0, .inr (12, [.int m_thrown, .ref m_qworld, .ref m_qimages, .ref m_qhasImage, .ref m_qtape, .int m_taped, .ref m_qfive, .int m_size, .int m_at, .int m_from, .int m_token, .int m_value, .int m_faultKind, .int m_faultPlace, .ref m_qfresh, .int m_startOne, .int m_startOther, .int m_latest, .int m_leftBeats, .int m_signed, .int m_metMany, .ref m_qsums, .ref m_qpairs, .ref m_qgoesWith, .ref m_qsaid, .int m_saidMany, .int m_firstWait, .ref m_qfirstOrder, .int m_bundleFirst, .ref m_qtiredBy, .int m_tiredMany, .ref m_qmany, .ref m_qwidth, .ref m_qnumbers, .ref m_qmoving])), (m_qworld, .inl (cA 1, 122, .inl m_cworld))] [.ref h0, .int p0, .int p1, .int p2]) (vp_Si (fun r => 0 ≤ r.toInt ∧ r.toInt ≤ 100)) 0 0 (fun _ => False) := by
  refine Met.ofW (cc := cX12_resinOf) (maxL := 6) (ret := (some .int)) (by decide) rfl ?_
  intro p e s m args below meth c s₁ B hml hv
  obtain ⟨rfl, hP, hKN⟩ := hv
  have hx := B.exec
  have hb := B.bytes
  have hr := B.returns
  have hts : ∀ w ∈ TB, w.before _ s = true := fun w h => atoms_spec B.pre w (List.mem_cons_of_mem _ h)
  have hown : s.vm.findClass RX12 = some m.cls := findClass_of_methodNamed B.named
  have hlocks := B.notSynchronized
  have hl := lv_entry ([.ref h0, .int p0, .int p1, .int p2]) (n := 6) (Nat.le_of_ble_eq_true rfl)
  rw [lg_entry_eq]
  generalize (lg_sl ([.ref h0, .int p0, .int p1, .int p2]) ++ List.replicate (6 - (lg_sl ([.ref h0, .int p0, .int p1, .int p2])).length) Slot.unset).toArray = ls at hl ⊢
  have hl : lv_has ls 6 [(0, .ref h0), (1, .int p0), (2, .int p1), (3, .int p2)] := hl
  refine lv_iconst (v := 0) hx hb dX12_resinOf_0 (by decide) ?_
  refine lv_istore (lv' := [(4, .int 0), (0, .ref h0), (1, .int p0), (2, .int p1), (3, .int p2)]) hx hb dX12_resinOf_1 hl (by decide) rfl (fun ls hl => ?_)
  refine lv_iconst (v := 0) hx hb dX12_resinOf_3 (by decide) ?_
  refine lv_istore (lv' := [(5, .int 0), (4, .int 0), (0, .ref h0), (1, .int p0), (2, .int p1), (3, .int p2)]) hx hb dX12_resinOf_4 hl (by decide) rfl (fun ls hl => ?_)
  refine loopW (σ := Int32 × Int32) (fun _ => []) (fun ⟨L5_127, L4_127⟩ H locs ls => (0 ≤ L5_127.toInt ∧ L5_127.toInt ≤ 21) ∧ (0 ≤ L4_127.toInt ∧ L4_127.toInt ≤ 70) ∧ H = s.heap ∧ locs = [] ∧ lv_has ls 6 [(5, .int L5_127), (4, .int L4_127), (0, .ref h0), (1, .int p0), (2, .int p1), (3, .int p2)]) (fun ⟨L5_127, L4_127⟩ => (2147483647 - L5_127.toInt).toNat) ?_ ((0, 0) : Int32 × Int32) ⟨(by decide), (by decide), rfl, rfl, hl⟩
  intro x_127 H locs ls hI_127 ih_127
  obtain ⟨L5_127, L4_127⟩ := x_127
  obtain ⟨k0_127, k1_127, rfl, rfl, hl⟩ := hI_127
  have hl : lv_has ls 6 [(5, .int L5_127), (4, .int L4_127), (0, .ref h0), (1, .int p0), (2, .int p1), (3, .int p2)] := hl
  refine lv_iload hx hb dX12_resinOf_6 (lv_at hl 0 rfl) ?_
  refine lv_iload_n hx hb dX12_resinOf_8 rfl (lv_at hl 5 rfl) ?_
  refine lv_icmp_gt (tgt := 52) hx hb dX12_resinOf_9 (by decide) (fun c_128 => ?_) (fun c_128 => ?_)
  · skip
    have k_129 := kk_lt rfl rfl c_128
    refine lv_iload hx hb dX12_resinOf_52 (lv_at hl 1 rfl) ?_
    refine lv_aload_n hx hb dX12_resinOf_54 rfl (lv_at hl 2 rfl) ?_
    refine lv_iload_n hx hb dX12_resinOf_55 rfl (lv_at hl 3 rfl) ?_
    refine lv_iconst (v := 2) hx hb dX12_resinOf_56 (by decide) ?_
    have z_130 := zi_2
    refine cpVi (rest := [.int L4_127]) ⟨hx, hb, hml, hown, hts⟩ hKN (hP.sub (ws' := [(h0, .inr (12, [.int m_thrown, .ref m_qworld, .ref m_qimages, .ref m_qhasImage, .ref m_qtape, .int m_taped, .ref m_qfive, .int m_size, .int m_at, .int m_from, .int m_token, .int m_value, .int m_faultKind, .int m_faultPlace, .ref m_qfresh, .int m_startOne, .int m_startOther, .int m_latest, .int m_leftBeats, .int m_signed, .int m_metMany, .ref m_qsums, .ref m_qpairs, .ref m_qgoesWith, .ref m_qsaid, .int m_saidMany, .int m_firstWait, .ref m_qfirstOrder, .int m_bundleFirst, .ref m_qtiredBy, .int m_tiredMany, .ref m_qmany, .ref m_qwidth, .ref m_qnumbers, .ref m_qmoving])), (m_qworld, .inl (cA 1, 122, .inl m_cworld))]) [0, 1] rfl) (g_X12_of l D cA h0 m_thrown m_qworld m_qimages m_qhasImage m_qtape m_taped m_qfive m_size m_at m_from m_token m_value m_faultKind m_faultPlace m_qfresh m_startOne m_startOther m_latest m_leftBeats m_signed m_metMany m_qsums m_qpairs m_qgoesWith m_qsaid m_saidMany m_firstWait m_qfirstOrder m_bundleFirst m_qtiredBy m_tiredMany m_qmany m_qwidth m_qnumbers m_qmoving m_cworld p0 2 (by omega) (by omega) (by omega) (by omega) (by omega) (by omega) (by omega) (by decide) a_m_cworld_0) (tb_V tw_1640 tw_1642 tw_50 tw_114 tw_1643) hdX12_of ⟨rfl, rfl, Nat.le_of_ble_eq_true rfl, Nat.le_of_ble_eq_true rfl⟩ ⟨Nat.le_of_ble_eq_true rfl, Nat.le_of_ble_eq_true rfl⟩ rfl rfl rfl hl.1 rfl (Nat.le_of_ble_eq_true rfl) dX12_resinOf_57 (fun r_131 hr_131 => ?_)
    obtain ⟨k_131_0_0, k_131_0_1⟩ := hr_131
    refine lv_aload_n hx hb dX12_resinOf_60 rfl (lv_at hl 2 rfl) ?_
    refine lv_iload_n hx hb dX12_resinOf_61 rfl (lv_at hl 4 rfl) ?_
    refine lv_iconst (v := 2) hx hb dX12_resinOf_62 (by decide) ?_
    refine cpVi (rest := [.int r_131, .int L4_127]) ⟨hx, hb, hml, hown, hts⟩ hKN (hP.sub (ws' := [(h0, .inr (12, [.int m_thrown, .ref m_qworld, .ref m_qimages, .ref m_qhasImage, .ref m_qtape, .int m_taped, .ref m_qfive, .int m_size, .int m_at, .int m_from, .int m_token, .int m_value, .int m_faultKind, .int m_faultPlace, .ref m_qfresh, .int m_startOne, .int m_startOther, .int m_latest, .int m_leftBeats, .int m_signed, .int m_metMany, .ref m_qsums, .ref m_qpairs, .ref m_qgoesWith, .ref m_qsaid, .int m_saidMany, .int m_firstWait, .ref m_qfirstOrder, .int m_bundleFirst, .ref m_qtiredBy, .int m_tiredMany, .ref m_qmany, .ref m_qwidth, .ref m_qnumbers, .ref m_qmoving])), (m_qworld, .inl (cA 1, 122, .inl m_cworld))]) [0, 1] rfl) (g_X12_of l D cA h0 m_thrown m_qworld m_qimages m_qhasImage m_qtape m_taped m_qfive m_size m_at m_from m_token m_value m_faultKind m_faultPlace m_qfresh m_startOne m_startOther m_latest m_leftBeats m_signed m_metMany m_qsums m_qpairs m_qgoesWith m_qsaid m_saidMany m_firstWait m_qfirstOrder m_bundleFirst m_qtiredBy m_tiredMany m_qmany m_qwidth m_qnumbers m_qmoving m_cworld p1 2 (by omega) (by omega) (by omega) (by omega) (by omega) (by omega) (by omega) (by decide) a_m_cworld_0) (tb_V tw_1640 tw_1642 tw_50 tw_114 tw_1643) hdX12_of ⟨rfl, rfl, Nat.le_of_ble_eq_true rfl, Nat.le_of_ble_eq_true rfl⟩ ⟨Nat.le_of_ble_eq_true rfl, Nat.le_of_ble_eq_true rfl⟩ rfl rfl rfl hl.1 rfl (Nat.le_of_ble_eq_true rfl) dX12_resinOf_63 (fun r_132 hr_132 => ?_)
    obtain ⟨k_132_0_0, k_132_0_1⟩ := hr_132
    refine cpSi (rest := [.int L4_127]) ⟨hx, hb, hml, hown, hts⟩ hKN (hP.sub (ws' := []) [] rfl) (g_J9_min_7cf53 l D cA r_131 r_132) (tb_S tw_1566 tw_555 tw_115 tw_556) hdJ9_min_7cf53 ⟨rfl, rfl, Nat.le_of_ble_eq_true rfl, Nat.le_of_ble_eq_true rfl⟩ ⟨Nat.le_of_ble_eq_true rfl, Nat.le_of_ble_eq_true rfl⟩ rfl hl.1 rfl (Nat.le_of_ble_eq_true rfl) dX12_resinOf_66 (fun r_133 hr_133 => ?_)
    obtain ⟨k_133_0_0, k_133_0_1, k_133_0_2⟩ := hr_133
    refine lv_iadd hx hb dX12_resinOf_69 ?_
    refine lv_topi (fun x_134 ex_134 => ?_)
    have k_135 := ar_add rfl rfl ex_134 (by omega) (by omega)
    exact W.iret (v := x_134) hx hb hr (fun t ht hW => ⟨x_134, rfl, (show 0 ≤ x_134.toInt ∧ x_134.toInt ≤ 100 from by omega), ht⟩) (fun _ h => by cases h) dX12_resinOf_70
  · skip
    have k_136 := kk_nlt rfl rfl c_128
    refine lv_iload hx hb dX12_resinOf_12 (lv_at hl 1 rfl) ?_
    refine lv_aload_n hx hb dX12_resinOf_14 rfl (lv_at hl 2 rfl) ?_
    refine lv_iload_n hx hb dX12_resinOf_15 rfl (lv_at hl 3 rfl) ?_
    refine lv_iconst (v := 1) hx hb dX12_resinOf_16 (by decide) ?_
    have z_137 := zi_1
    refine cpVi (rest := [.int L4_127]) ⟨hx, hb, hml, hown, hts⟩ hKN (hP.sub (ws' := [(h0, .inr (12, [.int m_thrown, .ref m_qworld, .ref m_qimages, .ref m_qhasImage, .ref m_qtape, .int m_taped, .ref m_qfive, .int m_size, .int m_at, .int m_from, .int m_token, .int m_value, .int m_faultKind, .int m_faultPlace, .ref m_qfresh, .int m_startOne, .int m_startOther, .int m_latest, .int m_leftBeats, .int m_signed, .int m_metMany, .ref m_qsums, .ref m_qpairs, .ref m_qgoesWith, .ref m_qsaid, .int m_saidMany, .int m_firstWait, .ref m_qfirstOrder, .int m_bundleFirst, .ref m_qtiredBy, .int m_tiredMany, .ref m_qmany, .ref m_qwidth, .ref m_qnumbers, .ref m_qmoving])), (m_qworld, .inl (cA 1, 122, .inl m_cworld))]) [0, 1] rfl) (g_X12_of l D cA h0 m_thrown m_qworld m_qimages m_qhasImage m_qtape m_taped m_qfive m_size m_at m_from m_token m_value m_faultKind m_faultPlace m_qfresh m_startOne m_startOther m_latest m_leftBeats m_signed m_metMany m_qsums m_qpairs m_qgoesWith m_qsaid m_saidMany m_firstWait m_qfirstOrder m_bundleFirst m_qtiredBy m_tiredMany m_qmany m_qwidth m_qnumbers m_qmoving m_cworld p0 1 (by omega) (by omega) (by omega) (by omega) (by omega) (by omega) (by omega) (by decide) a_m_cworld_0) (tb_V tw_1640 tw_1642 tw_50 tw_114 tw_1643) hdX12_of ⟨rfl, rfl, Nat.le_of_ble_eq_true rfl, Nat.le_of_ble_eq_true rfl⟩ ⟨Nat.le_of_ble_eq_true rfl, Nat.le_of_ble_eq_true rfl⟩ rfl rfl rfl hl.1 rfl (Nat.le_of_ble_eq_true rfl) dX12_resinOf_17 (fun r_138 hr_138 => ?_)
    obtain ⟨k_138_0_0, k_138_0_1⟩ := hr_138
    refine lv_iconst (v := 2) hx hb dX12_resinOf_20 (by decide) ?_
    refine lv_iload hx hb dX12_resinOf_21 (lv_at hl 0 rfl) ?_
    refine lv_imul hx hb dX12_resinOf_23 ?_
    refine lv_topi (fun x_139 ex_139 => ?_)
    have k_140 := ar_mul zi_2 rfl ex_139 (by omega) (by omega)
    refine lv_iadd hx hb dX12_resinOf_24 ?_
    refine lv_topi (fun x_141 ex_141 => ?_)
    have k_142 := ar_add rfl rfl ex_141 (by omega) (by omega)
    refine lv_aload_n hx hb dX12_resinOf_25 rfl (lv_at hl 2 rfl) ?_
    refine lv_iload_n hx hb dX12_resinOf_26 rfl (lv_at hl 4 rfl) ?_
    refine lv_iconst (v := 1) hx hb dX12_resinOf_27 (by decide) ?_
    refine cpVi (rest := [.int x_141, .int L4_127]) ⟨hx, hb, hml, hown, hts⟩ hKN (hP.sub (ws' := [(h0, .inr (12, [.int m_thrown, .ref m_qworld, .ref m_qimages, .ref m_qhasImage, .ref m_qtape, .int m_taped, .ref m_qfive, .int m_size, .int m_at, .int m_from, .int m_token, .int m_value, .int m_faultKind, .int m_faultPlace, .ref m_qfresh, .int m_startOne, .int m_startOther, .int m_latest, .int m_leftBeats, .int m_signed, .int m_metMany, .ref m_qsums, .ref m_qpairs, .ref m_qgoesWith, .ref m_qsaid, .int m_saidMany, .int m_firstWait, .ref m_qfirstOrder, .int m_bundleFirst, .ref m_qtiredBy, .int m_tiredMany, .ref m_qmany, .ref m_qwidth, .ref m_qnumbers, .ref m_qmoving])), (m_qworld, .inl (cA 1, 122, .inl m_cworld))]) [0, 1] rfl) (g_X12_of l D cA h0 m_thrown m_qworld m_qimages m_qhasImage m_qtape m_taped m_qfive m_size m_at m_from m_token m_value m_faultKind m_faultPlace m_qfresh m_startOne m_startOther m_latest m_leftBeats m_signed m_metMany m_qsums m_qpairs m_qgoesWith m_qsaid m_saidMany m_firstWait m_qfirstOrder m_bundleFirst m_qtiredBy m_tiredMany m_qmany m_qwidth m_qnumbers m_qmoving m_cworld p1 1 (by omega) (by omega) (by omega) (by omega) (by omega) (by omega) (by omega) (by decide) a_m_cworld_0) (tb_V tw_1640 tw_1642 tw_50 tw_114 tw_1643) hdX12_of ⟨rfl, rfl, Nat.le_of_ble_eq_true rfl, Nat.le_of_ble_eq_true rfl⟩ ⟨Nat.le_of_ble_eq_true rfl, Nat.le_of_ble_eq_true rfl⟩ rfl rfl rfl hl.1 rfl (Nat.le_of_ble_eq_true rfl) dX12_resinOf_28 (fun r_143 hr_143 => ?_)
    obtain ⟨k_143_0_0, k_143_0_1⟩ := hr_143
    refine lv_iconst (v := 2) hx hb dX12_resinOf_31 (by decide) ?_
    refine lv_iload_n hx hb dX12_resinOf_32 rfl (lv_at hl 5 rfl) ?_
    refine lv_iload hx hb dX12_resinOf_33 (lv_at hl 0 rfl) ?_
    refine lv_isub hx hb dX12_resinOf_35 ?_
    refine lv_topi (fun x_144 ex_144 => ?_)
    have k_145 := ar_sub rfl rfl ex_144 (by omega) (by omega)
    refine lv_imul hx hb dX12_resinOf_36 ?_
    refine lv_topi (fun x_146 ex_146 => ?_)
    have k_147 := ar_mul zi_2 rfl ex_146 (by omega) (by omega)
    refine lv_iadd hx hb dX12_resinOf_37 ?_
    refine lv_topi (fun x_148 ex_148 => ?_)
    have k_149 := ar_add rfl rfl ex_148 (by omega) (by omega)
    refine cpSi (rest := [.int L4_127]) ⟨hx, hb, hml, hown, hts⟩ hKN (hP.sub (ws' := []) [] rfl) (g_J9_min_7cf53 l D cA x_141 x_148) (tb_S tw_1566 tw_555 tw_115 tw_556) hdJ9_min_7cf53 ⟨rfl, rfl, Nat.le_of_ble_eq_true rfl, Nat.le_of_ble_eq_true rfl⟩ ⟨Nat.le_of_ble_eq_true rfl, Nat.le_of_ble_eq_true rfl⟩ rfl hl.1 rfl (Nat.le_of_ble_eq_true rfl) dX12_resinOf_38 (fun r_150 hr_150 => ?_)
    obtain ⟨k_150_0_0, k_150_0_1, k_150_0_2⟩ := hr_150
    refine cpSi (rest := []) ⟨hx, hb, hml, hown, hts⟩ hKN (hP.sub (ws' := []) [] rfl) (g_J9_max_7cf53 l D cA L4_127 r_150) (tb_S tw_1735 tw_779 tw_115 tw_780) hdJ9_max_7cf53 ⟨rfl, rfl, Nat.le_of_ble_eq_true rfl, Nat.le_of_ble_eq_true rfl⟩ ⟨Nat.le_of_ble_eq_true rfl, Nat.le_of_ble_eq_true rfl⟩ rfl hl.1 rfl (Nat.le_of_ble_eq_true rfl) dX12_resinOf_41 (fun r_151 hr_151 => ?_)
    obtain ⟨k_151_0_0, k_151_0_1, k_151_0_2⟩ := hr_151
    refine lv_istore (lv' := [(4, .int r_151), (5, .int L5_127), (0, .ref h0), (1, .int p0), (2, .int p1), (3, .int p2)]) hx hb dX12_resinOf_44 hl (by decide) rfl (fun ls hl => ?_)
    obtain ⟨x_152, ex_152⟩ : ∃ y : Int32, L5_127 + Int32.ofInt 1 = y := ⟨_, rfl⟩
    have k_153 := ar_add (b := 1) rfl zi_1 ex_152.symm (by omega) (by omega)
    refine lv_iinc (v := x_152) (lv' := [(5, .int x_152), (4, .int r_151), (0, .ref h0), (1, .int p0), (2, .int p1), (3, .int p2)]) hx hb dX12_resinOf_46 hl (k := 1) rfl ex_152 (by decide) rfl (fun ls hl => ?_)
    refine lv_goto (tgt := 6) hx hb dX12_resinOf_49 (by decide) ?_
    exact ih_127 (x_152, r_151) _ _ _ ⟨(show 0 ≤ x_152.toInt ∧ x_152.toInt ≤ 21 from by omega), (show 0 ≤ r_151.toInt ∧ r_151.toInt ≤ 70 from by omega), rfl, rfl, lv_sub hl [0, 1, 2, 3, 4, 5] rfl⟩ (by show (2147483647 - x_152.toInt).toNat < (2147483647 - L5_127.toInt).toNat; omega)
set_option maxHeartbeats 8000000 in
set_option maxRecDepth 100000 in
theorem g_X12_resin (l : Launch) (D : va_G) (cA : Nat → ClassId) (h0 : Nat) (m_thrown : Int32) (m_qworld : Nat) (m_qimages : Nat) (m_qhasImage : Nat) (m_qtape : Nat) (m_taped : Int32) (m_qfive : Nat) (m_size : Int32) (m_at : Int32) (m_from : Int32) (m_token : Int32) (m_value : Int32) (m_faultKind : Int32) (m_faultPlace : Int32) (m_qfresh : Nat) (m_startOne : Int32) (m_startOther : Int32) (m_latest : Int32) (m_leftBeats : Int32) (m_signed : Int32) (m_metMany : Int32) (m_qsums : Nat) (m_qpairs : Nat) (m_qgoesWith : Nat) (m_qsaid : Nat) (m_saidMany : Int32) (m_firstWait : Int32) (m_qfirstOrder : Nat) (m_bundleFirst : Int32) (m_qtiredBy : Nat) (m_tiredMany : Int32) (m_qmany : Nat) (m_qwidth : Nat) (m_qnumbers : Nat) (m_qmoving : Nat) (m_cworld : Nat → Int32) (p0 : Int32) (p1 : Int32) (p2 : Int32) (h_m_taped : 0 ≤ (m_taped : Int32).toInt ∧ (m_taped : Int32).toInt ≤ 800) (h_m_size : 0 ≤ (m_size : Int32).toInt ∧ (m_size : Int32).toInt ≤ 800) (h_m_at : 0 ≤ (m_at : Int32).toInt ∧ (m_at : Int32).toInt ≤ 800) (h_m_from : 0 ≤ (m_from : Int32).toInt ∧ (m_from : Int32).toInt ≤ 800) (h_m_saidMany : 0 ≤ (m_saidMany : Int32).toInt ∧ (m_saidMany : Int32).toInt ≤ 60) (h_m_tiredMany : 0 ≤ (m_tiredMany : Int32).toInt ∧ (m_tiredMany : Int32).toInt ≤ 240) (a_m_cworld_0 : WI m_cworld) : Met l yX12_resin (Cond.code yX12_resin cX12_resin 4 (some .int) :: TB) (rmd 3 0 0) (PP D cA [(h0, .inr (12, [.int m_thrown, .ref m_qworld, .ref m_qimages, .ref m_qhasImage, .ref m_qtape, .int m_taped, .ref m_qfive, .int m_size, .int m_at, .int m_from, .int m_token, .int m_value, .int m_faultKind, .int m_faultPlace, .ref m_qfresh, .int m_startOne, .int m_startOther, .int m_latest, .int m_leftBeats, .int m_signed, .int m_metMany, .ref m_qsums, .ref m_qpairs, .ref m_qgoesWith, .ref m_qsaid, .int m_saidMany, .int m_firstWait, .ref m_qfirstOrder, .int m_bundleFirst, .ref m_qtiredBy, .int m_tiredMany, .ref m_qmany, .ref m_qwidth, .ref m_qnumbers, .ref m_qmoving])), (m_qworld, .inl (cA 1, 122, .inl m_cworld))] [.ref h0, .int p0, .int p1, .int p2]) (vp_Si (fun r => -2 ≤ r.toInt ∧ r.toInt ≤ 100)) 0 0 (fun _ => False) := by
  refine Met.ofW (cc := cX12_resin) (maxL := 4) (ret := (some .int)) (by decide) rfl ?_
  intro p e s m args below meth c s₁ B hml hv
  obtain ⟨rfl, hP, hKN⟩ := hv
  have hx := B.exec
  have hb := B.bytes
  have hr := B.returns
  have hts : ∀ w ∈ TB, w.before _ s = true := fun w h => atoms_spec B.pre w (List.mem_cons_of_mem _ h)
  have hown : s.vm.findClass RX12 = some m.cls := findClass_of_methodNamed B.named
  have hlocks := B.notSynchronized
  have hl := lv_entry ([.ref h0, .int p0, .int p1, .int p2]) (n := 4) (Nat.le_of_ble_eq_true rfl)
  rw [lg_entry_eq]
  generalize (lg_sl ([.ref h0, .int p0, .int p1, .int p2]) ++ List.replicate (4 - (lg_sl ([.ref h0, .int p0, .int p1, .int p2])).length) Slot.unset).toArray = ls at hl ⊢
  have hl : lv_has ls 4 [(0, .ref h0), (1, .int p0), (2, .int p1), (3, .int p2)] := hl
  refine lv_aload_n hx hb dX12_resin_0 rfl (lv_at hl 0 rfl) ?_
  refine lv_iload_n hx hb dX12_resin_1 rfl (lv_at hl 1 rfl) ?_
  refine lv_iload_n hx hb dX12_resin_2 rfl (lv_at hl 2 rfl) ?_
  refine cpVi (rest := []) ⟨hx, hb, hml, hown, hts⟩ hKN (hP.sub (ws' := [(h0, .inr (12, [.int m_thrown, .ref m_qworld, .ref m_qimages, .ref m_qhasImage, .ref m_qtape, .int m_taped, .ref m_qfive, .int m_size, .int m_at, .int m_from, .int m_token, .int m_value, .int m_faultKind, .int m_faultPlace, .ref m_qfresh, .int m_startOne, .int m_startOther, .int m_latest, .int m_leftBeats, .int m_signed, .int m_metMany, .ref m_qsums, .ref m_qpairs, .ref m_qgoesWith, .ref m_qsaid, .int m_saidMany, .int m_firstWait, .ref m_qfirstOrder, .int m_bundleFirst, .ref m_qtiredBy, .int m_tiredMany, .ref m_qmany, .ref m_qwidth, .ref m_qnumbers, .ref m_qmoving])), (m_qworld, .inl (cA 1, 122, .inl m_cworld))]) [0, 1] rfl) (g_X12_areMen l D cA h0 m_thrown m_qworld m_qimages m_qhasImage m_qtape m_taped m_qfive m_size m_at m_from m_token m_value m_faultKind m_faultPlace m_qfresh m_startOne m_startOther m_latest m_leftBeats m_signed m_metMany m_qsums m_qpairs m_qgoesWith m_qsaid m_saidMany m_firstWait m_qfirstOrder m_bundleFirst m_qtiredBy m_tiredMany m_qmany m_qwidth m_qnumbers m_qmoving m_cworld p0 p1 (by omega) (by omega) (by omega) (by omega) (by omega) (by omega) a_m_cworld_0) (tb_V tw_1771 tw_1773 tw_68 tw_114 tw_1774) hdX12_areMen ⟨rfl, rfl, Nat.le_of_ble_eq_true rfl, Nat.le_of_ble_eq_true rfl⟩ ⟨Nat.le_of_ble_eq_true rfl, Nat.le_of_ble_eq_true rfl⟩ rfl rfl rfl hl.1 rfl (Nat.le_of_ble_eq_true rfl) dX12_resin_3 (fun r_1 hr_1 => ?_)
  rcases hr_1 with ⟨k_1_0_0, k_1_0_1, k_1_0_2, k_1_0_3, k_1_0_4, k_1_0_5, k_1_0_6, k_1_0_7, rfl⟩ | rfl
  · skip
    refine lv_if_eq (tgt := 25) hx hb dX12_resin_6 (by decide) (fun c_2 => absurd c_2 (by decide)) (fun c_2 => ?_)
    refine lv_iload_n hx hb dX12_resin_9 rfl (lv_at hl 3 rfl) ?_
    obtain ⟨x_3, ex_3⟩ : ∃ y, p2.toInt64 = y := ⟨_, rfl⟩
    refine lv_i2l (v := x_3) hx hb dX12_resin_10 ex_3 ?_
    have k_4 := tt_i2l ex_3
    refine lv_lconst (v := 0) hx hb dX12_resin_11 (by decide) ?_
    refine lv_aload_n hx hb dX12_resin_12 rfl (lv_at hl 0 rfl) ?_
    refine va_get (D := D) (ci := 12) (v := .ref m_qworld) (C := RX12) (T := TX12) (N := 35) hx hb hts inX12 hown hKN.1 hP 0 rfl rfl 1 (by decide) (hts _ tw_1420) (fun _ h9 => h9) rfl dX12_resin_13 ?_
    refine lv_iconst (v := 3) hx hb dX12_resin_16 (by decide) ?_
    refine va_iald hx hb hKN.1 hP 1 1 rfl rfl (by unfold vp_in; decide) dX12_resin_17 ?_
    refine W.eq (g2 := F0 m 18 ls [.int (m_cworld 3), .long 0, .long x_3]) rfl ?_
    have k_5 := a_m_cworld_0.1.1.2.2.1 (3) (by decide) (by decide)
    obtain ⟨x_6, ex_6⟩ : ∃ y, ((m_cworld 3)).toInt64 = y := ⟨_, rfl⟩
    refine lv_i2l (v := x_6) hx hb dX12_resin_18 ex_6 ?_
    have k_7 := tt_i2l ex_6
    have z_8 := zj_0
    refine cpSi (rest := []) ⟨hx, hb, hml, hown, hts⟩ hKN (hP.sub (ws' := []) [] rfl) (g_X12_in l D cA x_3 0 x_6) (tb_S tw_1530 tw_1531 tw_114 tw_1532) hdX12_in ⟨rfl, rfl, Nat.le_of_ble_eq_true rfl, Nat.le_of_ble_eq_true rfl⟩ ⟨Nat.le_of_ble_eq_true rfl, Nat.le_of_ble_eq_true rfl⟩ rfl hl.1 rfl (Nat.le_of_ble_eq_true rfl) dX12_resin_19 (fun r_9 hr_9 => ?_)
    rcases hr_9 with ⟨k_9_0_0, k_9_0_1, rfl⟩ | ⟨k_9_1_0, rfl⟩
    · skip
      refine lv_if_ne (tgt := 28) hx hb dX12_resin_22 (by decide) (fun c_10 => ?_) (fun c_10 => absurd c_10 (by decide))
      refine lv_aload_n hx hb dX12_resin_28 rfl (lv_at hl 0 rfl) ?_
      refine lv_iload_n hx hb dX12_resin_29 rfl (lv_at hl 1 rfl) ?_
      refine lv_iload_n hx hb dX12_resin_30 rfl (lv_at hl 2 rfl) ?_
      refine cpVi (rest := []) ⟨hx, hb, hml, hown, hts⟩ hKN (hP.sub (ws' := [(h0, .inr (12, [.int m_thrown, .ref m_qworld, .ref m_qimages, .ref m_qhasImage, .ref m_qtape, .int m_taped, .ref m_qfive, .int m_size, .int m_at, .int m_from, .int m_token, .int m_value, .int m_faultKind, .int m_faultPlace, .ref m_qfresh, .int m_startOne, .int m_startOther, .int m_latest, .int m_leftBeats, .int m_signed, .int m_metMany, .ref m_qsums, .ref m_qpairs, .ref m_qgoesWith, .ref m_qsaid, .int m_saidMany, .int m_firstWait, .ref m_qfirstOrder, .int m_bundleFirst, .ref m_qtiredBy, .int m_tiredMany, .ref m_qmany, .ref m_qwidth, .ref m_qnumbers, .ref m_qmoving])), (m_qworld, .inl (cA 1, 122, .inl m_cworld))]) [0, 1] rfl) (g_X12_isPair l D cA h0 m_thrown m_qworld m_qimages m_qhasImage m_qtape m_taped m_qfive m_size m_at m_from m_token m_value m_faultKind m_faultPlace m_qfresh m_startOne m_startOther m_latest m_leftBeats m_signed m_metMany m_qsums m_qpairs m_qgoesWith m_qsaid m_saidMany m_firstWait m_qfirstOrder m_bundleFirst m_qtiredBy m_tiredMany m_qmany m_qwidth m_qnumbers m_qmoving m_cworld p0 p1 (by omega) (by omega) (by omega) (by omega) (by omega) (by omega) (by omega) (by omega) a_m_cworld_0) (tb_V tw_1775 tw_1777 tw_69 tw_114 tw_1778) hdX12_isPair ⟨rfl, rfl, Nat.le_of_ble_eq_true rfl, Nat.le_of_ble_eq_true rfl⟩ ⟨Nat.le_of_ble_eq_true rfl, Nat.le_of_ble_eq_true rfl⟩ rfl rfl rfl hl.1 rfl (Nat.le_of_ble_eq_true rfl) dX12_resin_31 (fun r_11 hr_11 => ?_)
      refine lv_if_eq (tgt := 47) hx hb dX12_resin_34 (by decide) (fun c_12 => ?_) (fun c_12 => ?_)
      · skip
        have k_13 := kk_eq rfl zi_0 c_12
        refine lv_iconst (v := (-1)) hx hb dX12_resin_47 (by decide) ?_
        exact W.iret (v := (-1)) hx hb hr (fun t ht hW => ⟨(-1), rfl, (show -2 ≤ ((-1) : Int32).toInt ∧ ((-1) : Int32).toInt ≤ 100 from by decide), ht⟩) (fun _ h => by cases h) dX12_resin_48
      · skip
        have k_14 := kk_ne rfl zi_0 c_12
        refine lv_aload_n hx hb dX12_resin_37 rfl (lv_at hl 0 rfl) ?_
        refine lv_iload_n hx hb dX12_resin_38 rfl (lv_at hl 1 rfl) ?_
        refine lv_iload_n hx hb dX12_resin_39 rfl (lv_at hl 2 rfl) ?_
        refine lv_iload_n hx hb dX12_resin_40 rfl (lv_at hl 3 rfl) ?_
        refine cpVi (rest := []) ⟨hx, hb, hml, hown, hts⟩ hKN (hP.sub (ws' := [(h0, .inr (12, [.int m_thrown, .ref m_qworld, .ref m_qimages, .ref m_qhasImage, .ref m_qtape, .int m_taped, .ref m_qfive, .int m_size, .int m_at, .int m_from, .int m_token, .int m_value, .int m_faultKind, .int m_faultPlace, .ref m_qfresh, .int m_startOne, .int m_startOther, .int m_latest, .int m_leftBeats, .int m_signed, .int m_metMany, .ref m_qsums, .ref m_qpairs, .ref m_qgoesWith, .ref m_qsaid, .int m_saidMany, .int m_firstWait, .ref m_qfirstOrder, .int m_bundleFirst, .ref m_qtiredBy, .int m_tiredMany, .ref m_qmany, .ref m_qwidth, .ref m_qnumbers, .ref m_qmoving])), (m_qworld, .inl (cA 1, 122, .inl m_cworld))]) [0, 1] rfl) (g_X12_resinOf l D cA h0 m_thrown m_qworld m_qimages m_qhasImage m_qtape m_taped m_qfive m_size m_at m_from m_token m_value m_faultKind m_faultPlace m_qfresh m_startOne m_startOther m_latest m_leftBeats m_signed m_metMany m_qsums m_qpairs m_qgoesWith m_qsaid m_saidMany m_firstWait m_qfirstOrder m_bundleFirst m_qtiredBy m_tiredMany m_qmany m_qwidth m_qnumbers m_qmoving m_cworld p0 p1 p2 (by omega) (by omega) (by omega) (by omega) (by omega) (by omega) (by omega) (by omega) (by omega) a_m_cworld_0) (tb_V tw_1830 tw_1832 tw_73 tw_114 tw_1833) hdX12_resinOf ⟨rfl, rfl, Nat.le_of_ble_eq_true rfl, Nat.le_of_ble_eq_true rfl⟩ ⟨Nat.le_of_ble_eq_true rfl, Nat.le_of_ble_eq_true rfl⟩ rfl rfl rfl hl.1 rfl (Nat.le_of_ble_eq_true rfl) dX12_resin_41 (fun r_15 hr_15 => ?_)
        refine lv_goto (tgt := 48) hx hb dX12_resin_44 (by decide) ?_
        exact W.iret (v := r_15) hx hb hr (fun t ht hW => ⟨r_15, rfl, (show -2 ≤ r_15.toInt ∧ r_15.toInt ≤ 100 from by omega), ht⟩) (fun _ h => by cases h) dX12_resin_48
    · skip
      refine lv_if_ne (tgt := 28) hx hb dX12_resin_22 (by decide) (fun c_16 => absurd (by decide) c_16) (fun c_16 => ?_)
      refine lv_bipush (v := (-2)) hx hb dX12_resin_25 (by decide) ?_
      exact W.iret (v := (-2)) hx hb hr (fun t ht hW => ⟨(-2), rfl, (show -2 ≤ ((-2) : Int32).toInt ∧ ((-2) : Int32).toInt ≤ 100 from by decide), ht⟩) (fun _ h => by cases h) dX12_resin_27
  · skip
    refine lv_if_eq (tgt := 25) hx hb dX12_resin_6 (by decide) (fun c_17 => ?_) (fun c_17 => absurd (by decide) c_17)
    refine lv_bipush (v := (-2)) hx hb dX12_resin_25 (by decide) ?_
    exact W.iret (v := (-2)) hx hb hr (fun t ht hW => ⟨(-2), rfl, (show -2 ≤ ((-2) : Int32).toInt ∧ ((-2) : Int32).toInt ≤ 100 from by decide), ht⟩) (fun _ h => by cases h) dX12_resin_27
set_option maxHeartbeats 8000000 in
set_option maxRecDepth 100000 in
theorem g_X12_worthOf (l : Launch) (D : va_G) (cA : Nat → ClassId) (h0 : Nat) (m_thrown : Int32) (m_qworld : Nat) (m_qimages : Nat) (m_qhasImage : Nat) (m_qtape : Nat) (m_taped : Int32) (m_qfive : Nat) (m_size : Int32) (m_at : Int32) (m_from : Int32) (m_token : Int32) (m_value : Int32) (m_faultKind : Int32) (m_faultPlace : Int32) (m_qfresh : Nat) (m_startOne : Int32) (m_startOther : Int32) (m_latest : Int32) (m_leftBeats : Int32) (m_signed : Int32) (m_metMany : Int32) (m_qsums : Nat) (m_qpairs : Nat) (m_qgoesWith : Nat) (m_qsaid : Nat) (m_saidMany : Int32) (m_firstWait : Int32) (m_qfirstOrder : Nat) (m_bundleFirst : Int32) (m_qtiredBy : Nat) (m_tiredMany : Int32) (m_qmany : Nat) (m_qwidth : Nat) (m_qnumbers : Nat) (m_qmoving : Nat) (m_cworld : Nat → Int32) (p0 : Int32) (p1 : Int32) (h_m_taped : 0 ≤ (m_taped : Int32).toInt ∧ (m_taped : Int32).toInt ≤ 800) (h_m_size : 0 ≤ (m_size : Int32).toInt ∧ (m_size : Int32).toInt ≤ 800) (h_m_at : 0 ≤ (m_at : Int32).toInt ∧ (m_at : Int32).toInt ≤ 800) (h_m_from : 0 ≤ (m_from : Int32).toInt ∧ (m_from : Int32).toInt ≤ 800) (h_m_saidMany : 0 ≤ (m_saidMany : Int32).toInt ∧ (m_saidMany : Int32).toInt ≤ 60) (h_m_tiredMany : 0 ≤ (m_tiredMany : Int32).toInt ∧ (m_tiredMany : Int32).toInt ≤ 240) (h_p1 : 0 ≤ (p1 : Int32).toInt ∧ (p1 : Int32).toInt ≤ 1) (a_m_cworld_0 : WI m_cworld) : Met l yX12_worthOf (Cond.code yX12_worthOf cX12_worthOf 5 (some .int) :: TB) (rmd 1 0 0) (PP D cA [(h0, .inr (12, [.int m_thrown, .ref m_qworld, .ref m_qimages, .ref m_qhasImage, .ref m_qtape, .int m_taped, .ref m_qfive, .int m_size, .int m_at, .int m_from, .int m_token, .int m_value, .int m_faultKind, .int m_faultPlace, .ref m_qfresh, .int m_startOne, .int m_startOther, .int m_latest, .int m_leftBeats, .int m_signed, .int m_metMany, .ref m_qsums, .ref m_qpairs, .ref m_qgoesWith, .ref m_qsaid, .int m_saidMany, .int m_firstWait, .ref m_qfirstOrder, .int m_bundleFirst, .ref m_qtiredBy, .int m_tiredMany, .ref m_qmany, .ref m_qwidth, .ref m_qnumbers, .ref m_qmoving])), (m_qworld, .inl (cA 1, 122, .inl m_cworld))] [.ref h0, .int p0, .int p1]) (vp_Si (fun r => True)) 0 0 (fun _ => False) := by
  refine Met.ofW (cc := cX12_worthOf) (maxL := 5) (ret := (some .int)) (by decide) rfl ?_
  intro p e s m args below meth c s₁ B hml hv
  obtain ⟨rfl, hP, hKN⟩ := hv
  have hx := B.exec
  have hb := B.bytes
  have hr := B.returns
  have hts : ∀ w ∈ TB, w.before _ s = true := fun w h => atoms_spec B.pre w (List.mem_cons_of_mem _ h)
  have hown : s.vm.findClass RX12 = some m.cls := findClass_of_methodNamed B.named
  have hlocks := B.notSynchronized
  have hl := lv_entry ([.ref h0, .int p0, .int p1]) (n := 5) (Nat.le_of_ble_eq_true rfl)
  rw [lg_entry_eq]
  generalize (lg_sl ([.ref h0, .int p0, .int p1]) ++ List.replicate (5 - (lg_sl ([.ref h0, .int p0, .int p1])).length) Slot.unset).toArray = ls at hl ⊢
  have hl : lv_has ls 5 [(0, .ref h0), (1, .int p0), (2, .int p1)] := hl
  refine lv_iconst (v := 0) hx hb dX12_worthOf_0 (by decide) ?_
  refine lv_istore_n (lv' := [(3, .int 0), (0, .ref h0), (1, .int p0), (2, .int p1)]) hx hb dX12_worthOf_1 rfl hl (by decide) rfl (fun ls hl => ?_)
  refine lv_iconst (v := 0) hx hb dX12_worthOf_2 (by decide) ?_
  refine lv_istore (lv' := [(4, .int 0), (3, .int 0), (0, .ref h0), (1, .int p0), (2, .int p1)]) hx hb dX12_worthOf_3 hl (by decide) rfl (fun ls hl => ?_)
  refine loopW (σ := Int32 × Int32) (fun _ => []) (fun ⟨L4_76, L3_76⟩ H locs ls => (0 ≤ L4_76.toInt ∧ L4_76.toInt ≤ 7) ∧ H = s.heap ∧ locs = [] ∧ lv_has ls 5 [(4, .int L4_76), (3, .int L3_76), (0, .ref h0), (1, .int p0), (2, .int p1)]) (fun ⟨L4_76, L3_76⟩ => (2147483647 - L4_76.toInt).toNat) ?_ ((0, 0) : Int32 × Int32) ⟨(by decide), rfl, rfl, hl⟩
  intro x_76 H locs ls hI_76 ih_76
  obtain ⟨L4_76, L3_76⟩ := x_76
  obtain ⟨k0_76, rfl, rfl, hl⟩ := hI_76
  have hl : lv_has ls 5 [(4, .int L4_76), (3, .int L3_76), (0, .ref h0), (1, .int p0), (2, .int p1)] := hl
  refine lv_iload hx hb dX12_worthOf_5 (lv_at hl 0 rfl) ?_
  refine lv_aload_n hx hb dX12_worthOf_7 rfl (lv_at hl 2 rfl) ?_
  refine va_get (D := D) (ci := 12) (v := .ref m_qworld) (C := RX12) (T := TX12) (N := 35) hx hb hts inX12 hown hKN.1 hP 0 rfl rfl 1 (by decide) (hts _ tw_1420) (fun _ h9 => h9) rfl dX12_worthOf_8 ?_
  refine lv_iconst (v := 5) hx hb dX12_worthOf_11 (by decide) ?_
  refine va_iald hx hb hKN.1 hP 1 1 rfl rfl (by unfold vp_in; decide) dX12_worthOf_12 ?_
  refine W.eq (g2 := F0 m 13 ls [.int (m_cworld 5), .int L4_76]) rfl ?_
  have k_77 := a_m_cworld_0.1.1.2.2.2.2.1 (5) (by decide) (by decide)
  refine lv_icmp_ge (tgt := 41) hx hb dX12_worthOf_13 (by decide) (fun c_78 => ?_) (fun c_78 => ?_)
  · skip
    have k_79 := kk_le rfl rfl c_78
    refine lv_iload_n hx hb dX12_worthOf_41 rfl (lv_at hl 1 rfl) ?_
    exact W.iret (v := L3_76) hx hb hr (fun t ht hW => ⟨L3_76, rfl, trivial, ht⟩) (fun _ h => by cases h) dX12_worthOf_42
  · skip
    have k_80 := kk_nle rfl rfl c_78
    refine lv_iload_n hx hb dX12_worthOf_16 rfl (lv_at hl 1 rfl) ?_
    refine lv_iload_n hx hb dX12_worthOf_17 rfl (lv_at hl 3 rfl) ?_
    refine lv_iload hx hb dX12_worthOf_18 (lv_at hl 0 rfl) ?_
    refine cpSi (rest := [.int L3_76]) ⟨hx, hb, hml, hown, hts⟩ hKN (hP.sub (ws' := []) [] rfl) (g_X12_bit l D cA p0 L4_76) (tb_S tw_1807 tw_1808 tw_114 tw_1809) hdX12_bit ⟨rfl, rfl, Nat.le_of_ble_eq_true rfl, Nat.le_of_ble_eq_true rfl⟩ ⟨Nat.le_of_ble_eq_true rfl, Nat.le_of_ble_eq_true rfl⟩ rfl hl.1 rfl (Nat.le_of_ble_eq_true rfl) dX12_worthOf_20 (fun r_81 hr_81 => ?_)
    refine lv_aload_n hx hb dX12_worthOf_23 rfl (lv_at hl 2 rfl) ?_
    refine lv_iload hx hb dX12_worthOf_24 (lv_at hl 0 rfl) ?_
    refine lv_iconst (v := 1) hx hb dX12_worthOf_26 (by decide) ?_
    refine lv_iload_n hx hb dX12_worthOf_27 rfl (lv_at hl 4 rfl) ?_
    refine lv_iadd hx hb dX12_worthOf_28 ?_
    refine lv_topi (fun x_82 ex_82 => ?_)
    have k_83 := ar_add zi_1 rfl ex_82 (by omega) (by omega)
    refine cpVi (rest := [.int r_81, .int L3_76]) ⟨hx, hb, hml, hown, hts⟩ hKN (hP.sub (ws' := [(h0, .inr (12, [.int m_thrown, .ref m_qworld, .ref m_qimages, .ref m_qhasImage, .ref m_qtape, .int m_taped, .ref m_qfive, .int m_size, .int m_at, .int m_from, .int m_token, .int m_value, .int m_faultKind, .int m_faultPlace, .ref m_qfresh, .int m_startOne, .int m_startOther, .int m_latest, .int m_leftBeats, .int m_signed, .int m_metMany, .ref m_qsums, .ref m_qpairs, .ref m_qgoesWith, .ref m_qsaid, .int m_saidMany, .int m_firstWait, .ref m_qfirstOrder, .int m_bundleFirst, .ref m_qtiredBy, .int m_tiredMany, .ref m_qmany, .ref m_qwidth, .ref m_qnumbers, .ref m_qmoving])), (m_qworld, .inl (cA 1, 122, .inl m_cworld))]) [0, 1] rfl) (g_X12_ofClause l D cA h0 m_thrown m_qworld m_qimages m_qhasImage m_qtape m_taped m_qfive m_size m_at m_from m_token m_value m_faultKind m_faultPlace m_qfresh m_startOne m_startOther m_latest m_leftBeats m_signed m_metMany m_qsums m_qpairs m_qgoesWith m_qsaid m_saidMany m_firstWait m_qfirstOrder m_bundleFirst m_qtiredBy m_tiredMany m_qmany m_qwidth m_qnumbers m_qmoving m_cworld L4_76 x_82 (by omega) (by omega) (by omega) (by omega) (by omega) (by omega) (by omega) (by omega) a_m_cworld_0) (tb_V tw_1652 tw_1654 tw_52 tw_114 tw_1655) hdX12_ofClause ⟨rfl, rfl, Nat.le_of_ble_eq_true rfl, Nat.le_of_ble_eq_true rfl⟩ ⟨Nat.le_of_ble_eq_true rfl, Nat.le_of_ble_eq_true rfl⟩ rfl rfl rfl hl.1 rfl (Nat.le_of_ble_eq_true rfl) dX12_worthOf_29 (fun r_84 hr_84 => ?_)
    refine lv_imul hx hb dX12_worthOf_32 ?_
    refine lv_topi (fun x_85 ex_85 => ?_)
    have k_86 := ar_mulv (A := 1) (B := 99) ex_85 (by omega) (by omega) (by decide)
    refine lv_iadd hx hb dX12_worthOf_33 ?_
    refine lv_topi (fun x_87 ex_87 => ?_)
    refine lv_istore_n (lv' := [(3, .int x_87), (4, .int L4_76), (0, .ref h0), (1, .int p0), (2, .int p1)]) hx hb dX12_worthOf_34 rfl hl (by decide) rfl (fun ls hl => ?_)
    obtain ⟨x_89, ex_89⟩ : ∃ y : Int32, L4_76 + Int32.ofInt 1 = y := ⟨_, rfl⟩
    have k_90 := ar_add (b := 1) rfl zi_1 ex_89.symm (by omega) (by omega)
    refine lv_iinc (v := x_89) (lv' := [(4, .int x_89), (3, .int x_87), (0, .ref h0), (1, .int p0), (2, .int p1)]) hx hb dX12_worthOf_35 hl (k := 1) rfl ex_89 (by decide) rfl (fun ls hl => ?_)
    refine lv_goto (tgt := 5) hx hb dX12_worthOf_38 (by decide) ?_
    exact ih_76 (x_89, x_87) _ _ _ ⟨(show 0 ≤ x_89.toInt ∧ x_89.toInt ≤ 7 from by omega), rfl, rfl, lv_sub hl [0, 1, 2, 3, 4] rfl⟩ (by show (2147483647 - x_89.toInt).toNat < (2147483647 - L4_76.toInt).toNat; omega)
set_option maxHeartbeats 8000000 in
set_option maxRecDepth 100000 in
theorem g_X12_saysOf (l : Launch) (D : va_G) (cA : Nat → ClassId) (h0 : Nat) (m_thrown : Int32) (m_qworld : Nat) (m_qimages : Nat) (m_qhasImage : Nat) (m_qtape : Nat) (m_taped : Int32) (m_qfive : Nat) (m_size : Int32) (m_at : Int32) (m_from : Int32) (m_token : Int32) (m_value : Int32) (m_faultKind : Int32) (m_faultPlace : Int32) (m_qfresh : Nat) (m_startOne : Int32) (m_startOther : Int32) (m_latest : Int32) (m_leftBeats : Int32) (m_signed : Int32) (m_metMany : Int32) (m_qsums : Nat) (m_qpairs : Nat) (m_qgoesWith : Nat) (m_qsaid : Nat) (m_saidMany : Int32) (m_firstWait : Int32) (m_qfirstOrder : Nat) (m_bundleFirst : Int32) (m_qtiredBy : Nat) (m_tiredMany : Int32) (m_qmany : Nat) (m_qwidth : Nat) (m_qnumbers : Nat) (m_qmoving : Nat) (m_cworld : Nat → Int32) (p0 : Int32) (h_m_taped : 0 ≤ (m_taped : Int32).toInt ∧ (m_taped : Int32).toInt ≤ 800) (h_m_size : 0 ≤ (m_size : Int32).toInt ∧ (m_size : Int32).toInt ≤ 800) (h_m_at : 0 ≤ (m_at : Int32).toInt ∧ (m_at : Int32).toInt ≤ 800) (h_m_from : 0 ≤ (m_from : Int32).toInt ∧ (m_from : Int32).toInt ≤ 800) (h_m_saidMany : 0 ≤ (m_saidMany : Int32).toInt ∧ (m_saidMany : Int32).toInt ≤ 60) (h_m_tiredMany : 0 ≤ (m_tiredMany : Int32).toInt ∧ (m_tiredMany : Int32).toInt ≤ 240) (a_m_cworld_0 : WI m_cworld) : Met l yX12_saysOf (Cond.code yX12_saysOf cX12_saysOf 4 (some .int) :: TB) (rmd 1 0 0) (PP D cA [(h0, .inr (12, [.int m_thrown, .ref m_qworld, .ref m_qimages, .ref m_qhasImage, .ref m_qtape, .int m_taped, .ref m_qfive, .int m_size, .int m_at, .int m_from, .int m_token, .int m_value, .int m_faultKind, .int m_faultPlace, .ref m_qfresh, .int m_startOne, .int m_startOther, .int m_latest, .int m_leftBeats, .int m_signed, .int m_metMany, .ref m_qsums, .ref m_qpairs, .ref m_qgoesWith, .ref m_qsaid, .int m_saidMany, .int m_firstWait, .ref m_qfirstOrder, .int m_bundleFirst, .ref m_qtiredBy, .int m_tiredMany, .ref m_qmany, .ref m_qwidth, .ref m_qnumbers, .ref m_qmoving])), (m_qworld, .inl (cA 1, 122, .inl m_cworld))] [.ref h0, .int p0]) (vp_Si (fun r => True)) 0 0 (fun _ => False) := by
  refine Met.ofW (cc := cX12_saysOf) (maxL := 4) (ret := (some .int)) (by decide) rfl ?_
  intro p e s m args below meth c s₁ B hml hv
  obtain ⟨rfl, hP, hKN⟩ := hv
  have hx := B.exec
  have hb := B.bytes
  have hr := B.returns
  have hts : ∀ w ∈ TB, w.before _ s = true := fun w h => atoms_spec B.pre w (List.mem_cons_of_mem _ h)
  have hown : s.vm.findClass RX12 = some m.cls := findClass_of_methodNamed B.named
  have hlocks := B.notSynchronized
  have hl := lv_entry ([.ref h0, .int p0]) (n := 4) (Nat.le_of_ble_eq_true rfl)
  rw [lg_entry_eq]
  generalize (lg_sl ([.ref h0, .int p0]) ++ List.replicate (4 - (lg_sl ([.ref h0, .int p0])).length) Slot.unset).toArray = ls at hl ⊢
  have hl : lv_has ls 4 [(0, .ref h0), (1, .int p0)] := hl
  refine lv_iconst (v := 0) hx hb dX12_saysOf_0 (by decide) ?_
  refine lv_istore_n (lv' := [(2, .int 0), (0, .ref h0), (1, .int p0)]) hx hb dX12_saysOf_1 rfl hl (by decide) rfl (fun ls hl => ?_)
  refine lv_iconst (v := 0) hx hb dX12_saysOf_2 (by decide) ?_
  refine lv_istore_n (lv' := [(3, .int 0), (2, .int 0), (0, .ref h0), (1, .int p0)]) hx hb dX12_saysOf_3 rfl hl (by decide) rfl (fun ls hl => ?_)
  refine loopW (σ := Int32 × Int32) (fun _ => []) (fun ⟨L3_71, L2_71⟩ H locs ls => (0 ≤ L3_71.toInt ∧ L3_71.toInt ≤ 7) ∧ H = s.heap ∧ locs = [] ∧ lv_has ls 4 [(3, .int L3_71), (2, .int L2_71), (0, .ref h0), (1, .int p0)]) (fun ⟨L3_71, L2_71⟩ => (2147483647 - L3_71.toInt).toNat) ?_ ((0, 0) : Int32 × Int32) ⟨(by decide), rfl, rfl, hl⟩
  intro x_71 H locs ls hI_71 ih_71
  obtain ⟨L3_71, L2_71⟩ := x_71
  obtain ⟨k0_71, rfl, rfl, hl⟩ := hI_71
  have hl : lv_has ls 4 [(3, .int L3_71), (2, .int L2_71), (0, .ref h0), (1, .int p0)] := hl
  refine lv_iload_n hx hb dX12_saysOf_4 rfl (lv_at hl 0 rfl) ?_
  refine lv_aload_n hx hb dX12_saysOf_5 rfl (lv_at hl 2 rfl) ?_
  refine va_get (D := D) (ci := 12) (v := .ref m_qworld) (C := RX12) (T := TX12) (N := 35) hx hb hts inX12 hown hKN.1 hP 0 rfl rfl 1 (by decide) (hts _ tw_1420) (fun _ h9 => h9) rfl dX12_saysOf_6 ?_
  refine lv_iconst (v := 5) hx hb dX12_saysOf_9 (by decide) ?_
  refine va_iald hx hb hKN.1 hP 1 1 rfl rfl (by unfold vp_in; decide) dX12_saysOf_10 ?_
  refine W.eq (g2 := F0 m 11 ls [.int (m_cworld 5), .int L3_71]) rfl ?_
  have k_72 := a_m_cworld_0.1.1.2.2.2.2.1 (5) (by decide) (by decide)
  refine lv_icmp_ge (tgt := 35) hx hb dX12_saysOf_11 (by decide) (fun c_73 => ?_) (fun c_73 => ?_)
  · skip
    have k_74 := kk_le rfl rfl c_73
    refine lv_iload_n hx hb dX12_saysOf_35 rfl (lv_at hl 1 rfl) ?_
    exact W.iret (v := L2_71) hx hb hr (fun t ht hW => ⟨L2_71, rfl, trivial, ht⟩) (fun _ h => by cases h) dX12_saysOf_36
  · skip
    have k_75 := kk_nle rfl rfl c_73
    refine lv_iload_n hx hb dX12_saysOf_14 rfl (lv_at hl 1 rfl) ?_
    refine lv_iload_n hx hb dX12_saysOf_15 rfl (lv_at hl 3 rfl) ?_
    refine lv_iload_n hx hb dX12_saysOf_16 rfl (lv_at hl 0 rfl) ?_
    refine cpSi (rest := [.int L2_71]) ⟨hx, hb, hml, hown, hts⟩ hKN (hP.sub (ws' := []) [] rfl) (g_X12_bit l D cA p0 L3_71) (tb_S tw_1807 tw_1808 tw_114 tw_1809) hdX12_bit ⟨rfl, rfl, Nat.le_of_ble_eq_true rfl, Nat.le_of_ble_eq_true rfl⟩ ⟨Nat.le_of_ble_eq_true rfl, Nat.le_of_ble_eq_true rfl⟩ rfl hl.1 rfl (Nat.le_of_ble_eq_true rfl) dX12_saysOf_17 (fun r_76 hr_76 => ?_)
    refine lv_aload_n hx hb dX12_saysOf_20 rfl (lv_at hl 2 rfl) ?_
    refine lv_iload_n hx hb dX12_saysOf_21 rfl (lv_at hl 0 rfl) ?_
    refine lv_iconst (v := 0) hx hb dX12_saysOf_22 (by decide) ?_
    have z_77 := zi_0
    refine cpVi (rest := [.int r_76, .int L2_71]) ⟨hx, hb, hml, hown, hts⟩ hKN (hP.sub (ws' := [(h0, .inr (12, [.int m_thrown, .ref m_qworld, .ref m_qimages, .ref m_qhasImage, .ref m_qtape, .int m_taped, .ref m_qfive, .int m_size, .int m_at, .int m_from, .int m_token, .int m_value, .int m_faultKind, .int m_faultPlace, .ref m_qfresh, .int m_startOne, .int m_startOther, .int m_latest, .int m_leftBeats, .int m_signed, .int m_metMany, .ref m_qsums, .ref m_qpairs, .ref m_qgoesWith, .ref m_qsaid, .int m_saidMany, .int m_firstWait, .ref m_qfirstOrder, .int m_bundleFirst, .ref m_qtiredBy, .int m_tiredMany, .ref m_qmany, .ref m_qwidth, .ref m_qnumbers, .ref m_qmoving])), (m_qworld, .inl (cA 1, 122, .inl m_cworld))]) [0, 1] rfl) (g_X12_ofClause l D cA h0 m_thrown m_qworld m_qimages m_qhasImage m_qtape m_taped m_qfive m_size m_at m_from m_token m_value m_faultKind m_faultPlace m_qfresh m_startOne m_startOther m_latest m_leftBeats m_signed m_metMany m_qsums m_qpairs m_qgoesWith m_qsaid m_saidMany m_firstWait m_qfirstOrder m_bundleFirst m_qtiredBy m_tiredMany m_qmany m_qwidth m_qnumbers m_qmoving m_cworld L3_71 0 (by omega) (by omega) (by omega) (by omega) (by omega) (by omega) (by omega) (by decide) a_m_cworld_0) (tb_V tw_1652 tw_1654 tw_52 tw_114 tw_1655) hdX12_ofClause ⟨rfl, rfl, Nat.le_of_ble_eq_true rfl, Nat.le_of_ble_eq_true rfl⟩ ⟨Nat.le_of_ble_eq_true rfl, Nat.le_of_ble_eq_true rfl⟩ rfl rfl rfl hl.1 rfl (Nat.le_of_ble_eq_true rfl) dX12_saysOf_23 (fun r_78 hr_78 => ?_)
    refine lv_imul hx hb dX12_saysOf_26 ?_
    refine lv_topi (fun x_79 ex_79 => ?_)
    have k_80 := ar_mulv (A := 1) (B := 99) ex_79 (by omega) (by omega) (by decide)
    refine lv_iadd hx hb dX12_saysOf_27 ?_
    refine lv_topi (fun x_81 ex_81 => ?_)
    refine lv_istore_n (lv' := [(2, .int x_81), (3, .int L3_71), (0, .ref h0), (1, .int p0)]) hx hb dX12_saysOf_28 rfl hl (by decide) rfl (fun ls hl => ?_)
    obtain ⟨x_83, ex_83⟩ : ∃ y : Int32, L3_71 + Int32.ofInt 1 = y := ⟨_, rfl⟩
    have k_84 := ar_add (b := 1) rfl zi_1 ex_83.symm (by omega) (by omega)
    refine lv_iinc (v := x_83) (lv' := [(3, .int x_83), (2, .int x_81), (0, .ref h0), (1, .int p0)]) hx hb dX12_saysOf_29 hl (k := 1) rfl ex_83 (by decide) rfl (fun ls hl => ?_)
    refine lv_goto (tgt := 4) hx hb dX12_saysOf_32 (by decide) ?_
    exact ih_71 (x_83, x_81) _ _ _ ⟨(show 0 ≤ x_83.toInt ∧ x_83.toInt ≤ 7 from by omega), rfl, rfl, lv_sub hl [0, 1, 2, 3] rfl⟩ (by show (2147483647 - x_83.toInt).toNat < (2147483647 - L3_71.toInt).toNat; omega)
set_option maxHeartbeats 8000000 in
set_option maxRecDepth 100000 in
theorem g_X12_allClauses (l : Launch) (D : va_G) (cA : Nat → ClassId) (h0 : Nat) (m_thrown : Int32) (m_qworld : Nat) (m_qimages : Nat) (m_qhasImage : Nat) (m_qtape : Nat) (m_taped : Int32) (m_qfive : Nat) (m_size : Int32) (m_at : Int32) (m_from : Int32) (m_token : Int32) (m_value : Int32) (m_faultKind : Int32) (m_faultPlace : Int32) (m_qfresh : Nat) (m_startOne : Int32) (m_startOther : Int32) (m_latest : Int32) (m_leftBeats : Int32) (m_signed : Int32) (m_metMany : Int32) (m_qsums : Nat) (m_qpairs : Nat) (m_qgoesWith : Nat) (m_qsaid : Nat) (m_saidMany : Int32) (m_firstWait : Int32) (m_qfirstOrder : Nat) (m_bundleFirst : Int32) (m_qtiredBy : Nat) (m_tiredMany : Int32) (m_qmany : Nat) (m_qwidth : Nat) (m_qnumbers : Nat) (m_qmoving : Nat) (m_cworld : Nat → Int32) (h_m_taped : 0 ≤ (m_taped : Int32).toInt ∧ (m_taped : Int32).toInt ≤ 800) (h_m_size : 0 ≤ (m_size : Int32).toInt ∧ (m_size : Int32).toInt ≤ 800) (h_m_at : 0 ≤ (m_at : Int32).toInt ∧ (m_at : Int32).toInt ≤ 800) (h_m_from : 0 ≤ (m_from : Int32).toInt ∧ (m_from : Int32).toInt ≤ 800) (h_m_saidMany : 0 ≤ (m_saidMany : Int32).toInt ∧ (m_saidMany : Int32).toInt ≤ 60) (h_m_tiredMany : 0 ≤ (m_tiredMany : Int32).toInt ∧ (m_tiredMany : Int32).toInt ≤ 240) (a_m_cworld_0 : WI m_cworld) : Met l yX12_allClauses (Cond.code yX12_allClauses cX12_allClauses 1 (some .int) :: TB) (rmd 0 0 0) (PP D cA [(h0, .inr (12, [.int m_thrown, .ref m_qworld, .ref m_qimages, .ref m_qhasImage, .ref m_qtape, .int m_taped, .ref m_qfive, .int m_size, .int m_at, .int m_from, .int m_token, .int m_value, .int m_faultKind, .int m_faultPlace, .ref m_qfresh, .int m_startOne, .int m_startOther, .int m_latest, .int m_leftBeats, .int m_signed, .int m_metMany, .ref m_qsums, .ref m_qpairs, .ref m_qgoesWith, .ref m_qsaid, .int m_saidMany, .int m_firstWait, .ref m_qfirstOrder, .int m_bundleFirst, .ref m_qtiredBy, .int m_tiredMany, .ref m_qmany, .ref m_qwidth, .ref m_qnumbers, .ref m_qmoving])), (m_qworld, .inl (cA 1, 122, .inl m_cworld))] [.ref h0]) (vp_Si (fun r => 0 ≤ r.toInt ∧ r.toInt ≤ 127)) 0 0 (fun _ => False) := by
  refine Met.ofW (cc := cX12_allClauses) (maxL := 1) (ret := (some .int)) (by decide) rfl ?_
  intro p e s m args below meth c s₁ B hml hv
  obtain ⟨rfl, hP, hKN⟩ := hv
  have hx := B.exec
  have hb := B.bytes
  have hr := B.returns
  have hts : ∀ w ∈ TB, w.before _ s = true := fun w h => atoms_spec B.pre w (List.mem_cons_of_mem _ h)
  have hown : s.vm.findClass RX12 = some m.cls := findClass_of_methodNamed B.named
  have hlocks := B.notSynchronized
  have hl := lv_entry ([.ref h0]) (n := 1) (Nat.le_of_ble_eq_true rfl)
  rw [lg_entry_eq]
  generalize (lg_sl ([.ref h0]) ++ List.replicate (1 - (lg_sl ([.ref h0])).length) Slot.unset).toArray = ls at hl ⊢
  have hl : lv_has ls 1 [(0, .ref h0)] := hl
  refine lv_iconst (v := 1) hx hb dX12_allClauses_0 (by decide) ?_
  refine lv_aload_n hx hb dX12_allClauses_1 rfl (lv_at hl 0 rfl) ?_
  refine va_get (D := D) (ci := 12) (v := .ref m_qworld) (C := RX12) (T := TX12) (N := 35) hx hb hts inX12 hown hKN.1 hP 0 rfl rfl 1 (by decide) (hts _ tw_1420) (fun _ h9 => h9) rfl dX12_allClauses_2 ?_
  refine lv_iconst (v := 5) hx hb dX12_allClauses_5 (by decide) ?_
  refine va_iald hx hb hKN.1 hP 1 1 rfl rfl (by unfold vp_in; decide) dX12_allClauses_6 ?_
  refine W.eq (g2 := F0 m 7 ls [.int (m_cworld 5), .int 1]) rfl ?_
  have k_1 := a_m_cworld_0.1.1.2.2.2.2.1 (5) (by decide) (by decide)
  refine lv_ishl hx hb dX12_allClauses_7 ?_
  refine lv_topi (fun x_2 ex_2 => ?_)
  have k_3 := ar_shl1 ex_2 (by omega) (by omega)
  refine lv_iconst (v := 1) hx hb dX12_allClauses_8 (by decide) ?_
  refine lv_isub hx hb dX12_allClauses_9 ?_
  refine lv_topi (fun x_4 ex_4 => ?_)
  have k_5 := ar_sub rfl zi_1 ex_4 (by omega) (by omega)
  exact W.iret (v := x_4) hx hb hr (fun t ht hW => ⟨x_4, rfl, (show 0 ≤ x_4.toInt ∧ x_4.toInt ≤ 127 from by omega), ht⟩) (fun _ h => by cases h) dX12_allClauses_10
set_option maxHeartbeats 8000000 in
set_option maxRecDepth 100000 in
theorem g_X12_fullOf (l : Launch) (D : va_G) (cA : Nat → ClassId) (h0 : Nat) (m_thrown : Int32) (m_qworld : Nat) (m_qimages : Nat) (m_qhasImage : Nat) (m_qtape : Nat) (m_taped : Int32) (m_qfive : Nat) (m_size : Int32) (m_at : Int32) (m_from : Int32) (m_token : Int32) (m_value : Int32) (m_faultKind : Int32) (m_faultPlace : Int32) (m_qfresh : Nat) (m_startOne : Int32) (m_startOther : Int32) (m_latest : Int32) (m_leftBeats : Int32) (m_signed : Int32) (m_metMany : Int32) (m_qsums : Nat) (m_qpairs : Nat) (m_qgoesWith : Nat) (m_qsaid : Nat) (m_saidMany : Int32) (m_firstWait : Int32) (m_qfirstOrder : Nat) (m_bundleFirst : Int32) (m_qtiredBy : Nat) (m_tiredMany : Int32) (m_qmany : Nat) (m_qwidth : Nat) (m_qnumbers : Nat) (m_qmoving : Nat) (m_cworld : Nat → Int32) (p0 : Int32) (h_m_taped : 0 ≤ (m_taped : Int32).toInt ∧ (m_taped : Int32).toInt ≤ 800) (h_m_size : 0 ≤ (m_size : Int32).toInt ∧ (m_size : Int32).toInt ≤ 800) (h_m_at : 0 ≤ (m_at : Int32).toInt ∧ (m_at : Int32).toInt ≤ 800) (h_m_from : 0 ≤ (m_from : Int32).toInt ∧ (m_from : Int32).toInt ≤ 800) (h_m_saidMany : 0 ≤ (m_saidMany : Int32).toInt ∧ (m_saidMany : Int32).toInt ≤ 60) (h_m_tiredMany : 0 ≤ (m_tiredMany : Int32).toInt ∧ (m_tiredMany : Int32).toInt ≤ 240) (a_m_cworld_0 : WI m_cworld) : Met l yX12_fullOf (Cond.code yX12_fullOf cX12_fullOf 4 (some .int) :: TB) (rmd 2 0 0) (PP D cA [(h0, .inr (12, [.int m_thrown, .ref m_qworld, .ref m_qimages, .ref m_qhasImage, .ref m_qtape, .int m_taped, .ref m_qfive, .int m_size, .int m_at, .int m_from, .int m_token, .int m_value, .int m_faultKind, .int m_faultPlace, .ref m_qfresh, .int m_startOne, .int m_startOther, .int m_latest, .int m_leftBeats, .int m_signed, .int m_metMany, .ref m_qsums, .ref m_qpairs, .ref m_qgoesWith, .ref m_qsaid, .int m_saidMany, .int m_firstWait, .ref m_qfirstOrder, .int m_bundleFirst, .ref m_qtiredBy, .int m_tiredMany, .ref m_qmany, .ref m_qwidth, .ref m_qnumbers, .ref m_qmoving])), (m_qworld, .inl (cA 1, 122, .inl m_cworld))] [.ref h0, .int p0]) (vp_Si (fun r => 0 ≤ r.toInt ∧ r.toInt ≤ 127)) 0 0 (fun _ => False) := by
  refine Met.ofW (cc := cX12_fullOf) (maxL := 4) (ret := (some .int)) (by decide) rfl ?_
  intro p e s m args below meth c s₁ B hml hv
  obtain ⟨rfl, hP, hKN⟩ := hv
  have hx := B.exec
  have hb := B.bytes
  have hr := B.returns
  have hts : ∀ w ∈ TB, w.before _ s = true := fun w h => atoms_spec B.pre w (List.mem_cons_of_mem _ h)
  have hown : s.vm.findClass RX12 = some m.cls := findClass_of_methodNamed B.named
  have hlocks := B.notSynchronized
  have hl := lv_entry ([.ref h0, .int p0]) (n := 4) (Nat.le_of_ble_eq_true rfl)
  rw [lg_entry_eq]
  generalize (lg_sl ([.ref h0, .int p0]) ++ List.replicate (4 - (lg_sl ([.ref h0, .int p0])).length) Slot.unset).toArray = ls at hl ⊢
  have hl : lv_has ls 4 [(0, .ref h0), (1, .int p0)] := hl
  refine lv_iconst (v := 0) hx hb dX12_fullOf_0 (by decide) ?_
  refine lv_istore_n (lv' := [(2, .int 0), (0, .ref h0), (1, .int p0)]) hx hb dX12_fullOf_1 rfl hl (by decide) rfl (fun ls hl => ?_)
  refine lv_iconst (v := 1) hx hb dX12_fullOf_2 (by decide) ?_
  refine lv_istore_n (lv' := [(3, .int 1), (2, .int 0), (0, .ref h0), (1, .int p0)]) hx hb dX12_fullOf_3 rfl hl (by decide) rfl (fun ls hl => ?_)
  refine loopW (σ := Int32 × Int32) (fun _ => []) (fun ⟨L3_169, L2_169⟩ H locs ls => (1 ≤ L3_169.toInt ∧ L3_169.toInt ≤ 128) ∧ (0 ≤ L2_169.toInt ∧ L2_169.toInt ≤ 127) ∧ H = s.heap ∧ locs = [] ∧ lv_has ls 4 [(3, .int L3_169), (2, .int L2_169), (0, .ref h0), (1, .int p0)]) (fun ⟨L3_169, L2_169⟩ => (2147483647 - L3_169.toInt).toNat) ?_ ((1, 0) : Int32 × Int32) ⟨(by decide), (by decide), rfl, rfl, hl⟩
  intro x_169 H locs ls hI_169 ih_169
  obtain ⟨L3_169, L2_169⟩ := x_169
  obtain ⟨k0_169, k1_169, rfl, rfl, hl⟩ := hI_169
  have hl : lv_has ls 4 [(3, .int L3_169), (2, .int L2_169), (0, .ref h0), (1, .int p0)] := hl
  refine lv_iload_n hx hb dX12_fullOf_4 rfl (lv_at hl 0 rfl) ?_
  refine lv_aload_n hx hb dX12_fullOf_5 rfl (lv_at hl 2 rfl) ?_
  refine cpVi (rest := [.int L3_169]) ⟨hx, hb, hml, hown, hts⟩ hKN (hP.sub (ws' := [(h0, .inr (12, [.int m_thrown, .ref m_qworld, .ref m_qimages, .ref m_qhasImage, .ref m_qtape, .int m_taped, .ref m_qfive, .int m_size, .int m_at, .int m_from, .int m_token, .int m_value, .int m_faultKind, .int m_faultPlace, .ref m_qfresh, .int m_startOne, .int m_startOther, .int m_latest, .int m_leftBeats, .int m_signed, .int m_metMany, .ref m_qsums, .ref m_qpairs, .ref m_qgoesWith, .ref m_qsaid, .int m_saidMany, .int m_firstWait, .ref m_qfirstOrder, .int m_bundleFirst, .ref m_qtiredBy, .int m_tiredMany, .ref m_qmany, .ref m_qwidth, .ref m_qnumbers, .ref m_qmoving])), (m_qworld, .inl (cA 1, 122, .inl m_cworld))]) [0, 1] rfl) (g_X12_allClauses l D cA h0 m_thrown m_qworld m_qimages m_qhasImage m_qtape m_taped m_qfive m_size m_at m_from m_token m_value m_faultKind m_faultPlace m_qfresh m_startOne m_startOther m_latest m_leftBeats m_signed m_metMany m_qsums m_qpairs m_qgoesWith m_qsaid m_saidMany m_firstWait m_qfirstOrder m_bundleFirst m_qtiredBy m_tiredMany m_qmany m_qwidth m_qnumbers m_qmoving m_cworld (by omega) (by omega) (by omega) (by omega) (by omega) (by omega) a_m_cworld_0) (tb_V tw_1908 tw_1910 tw_83 tw_114 tw_1911) hdX12_allClauses ⟨rfl, rfl, Nat.le_of_ble_eq_true rfl, Nat.le_of_ble_eq_true rfl⟩ ⟨Nat.le_of_ble_eq_true rfl, Nat.le_of_ble_eq_true rfl⟩ rfl rfl rfl hl.1 rfl (Nat.le_of_ble_eq_true rfl) dX12_fullOf_6 (fun r_170 hr_170 => ?_)
  refine lv_icmp_gt (tgt := 40) hx hb dX12_fullOf_9 (by decide) (fun c_171 => ?_) (fun c_171 => ?_)
  · skip
    have k_172 := kk_lt rfl rfl c_171
    refine lv_iload_n hx hb dX12_fullOf_40 rfl (lv_at hl 1 rfl) ?_
    exact W.iret (v := L2_169) hx hb hr (fun t ht hW => ⟨L2_169, rfl, (show 0 ≤ L2_169.toInt ∧ L2_169.toInt ≤ 127 from by omega), ht⟩) (fun _ h => by cases h) dX12_fullOf_41
  · skip
    have k_173 := kk_nlt rfl rfl c_171
    refine lv_aload_n hx hb dX12_fullOf_12 rfl (lv_at hl 2 rfl) ?_
    refine lv_iload_n hx hb dX12_fullOf_13 rfl (lv_at hl 0 rfl) ?_
    refine cpVi (rest := []) ⟨hx, hb, hml, hown, hts⟩ hKN (hP.sub (ws' := [(h0, .inr (12, [.int m_thrown, .ref m_qworld, .ref m_qimages, .ref m_qhasImage, .ref m_qtape, .int m_taped, .ref m_qfive, .int m_size, .int m_at, .int m_from, .int m_token, .int m_value, .int m_faultKind, .int m_faultPlace, .ref m_qfresh, .int m_startOne, .int m_startOther, .int m_latest, .int m_leftBeats, .int m_signed, .int m_metMany, .ref m_qsums, .ref m_qpairs, .ref m_qgoesWith, .ref m_qsaid, .int m_saidMany, .int m_firstWait, .ref m_qfirstOrder, .int m_bundleFirst, .ref m_qtiredBy, .int m_tiredMany, .ref m_qmany, .ref m_qwidth, .ref m_qnumbers, .ref m_qmoving])), (m_qworld, .inl (cA 1, 122, .inl m_cworld))]) [0, 1] rfl) (g_X12_saysOf l D cA h0 m_thrown m_qworld m_qimages m_qhasImage m_qtape m_taped m_qfive m_size m_at m_from m_token m_value m_faultKind m_faultPlace m_qfresh m_startOne m_startOther m_latest m_leftBeats m_signed m_metMany m_qsums m_qpairs m_qgoesWith m_qsaid m_saidMany m_firstWait m_qfirstOrder m_bundleFirst m_qtiredBy m_tiredMany m_qmany m_qwidth m_qnumbers m_qmoving m_cworld L3_169 (by omega) (by omega) (by omega) (by omega) (by omega) (by omega) a_m_cworld_0) (tb_V tw_1912 tw_1914 tw_84 tw_114 tw_1915) hdX12_saysOf ⟨rfl, rfl, Nat.le_of_ble_eq_true rfl, Nat.le_of_ble_eq_true rfl⟩ ⟨Nat.le_of_ble_eq_true rfl, Nat.le_of_ble_eq_true rfl⟩ rfl rfl rfl hl.1 rfl (Nat.le_of_ble_eq_true rfl) dX12_fullOf_14 (fun r_174 hr_174 => ?_)
    refine lv_iload_n hx hb dX12_fullOf_17 rfl (lv_at hl 3 rfl) ?_
    refine lv_icmp_gt (tgt := 34) hx hb dX12_fullOf_18 (by decide) (fun c_175 => ?_) (fun c_175 => ?_)
    · skip
      have b_177 := i32_bd p0
      have b_178 := i32_bd r_174
      have k_176 := kk_lt rfl rfl c_175
      obtain ⟨x_179, ex_179⟩ : ∃ y : Int32, L3_169 + Int32.ofInt 1 = y := ⟨_, rfl⟩
      have k_180 := ar_add (b := 1) rfl zi_1 ex_179.symm (by omega) (by omega)
      refine lv_iinc (v := x_179) (lv' := [(3, .int x_179), (2, .int L2_169), (0, .ref h0), (1, .int p0)]) hx hb dX12_fullOf_34 hl (k := 0) rfl ex_179 (by decide) rfl (fun ls hl => ?_)
      refine lv_goto (tgt := 4) hx hb dX12_fullOf_37 (by decide) ?_
      exact ih_169 (x_179, L2_169) _ _ _ ⟨(show 1 ≤ x_179.toInt ∧ x_179.toInt ≤ 128 from by omega), (show 0 ≤ L2_169.toInt ∧ L2_169.toInt ≤ 127 from by omega), rfl, rfl, lv_sub hl [0, 1, 2, 3] rfl⟩ (by show (2147483647 - x_179.toInt).toNat < (2147483647 - L3_169.toInt).toNat; omega)
    · skip
      have b_182 := i32_bd p0
      have b_183 := i32_bd r_174
      have k_181 := kk_nlt rfl rfl c_175
      refine lv_iload_n hx hb dX12_fullOf_21 rfl (lv_at hl 0 rfl) ?_
      refine cpSi (rest := []) ⟨hx, hb, hml, hown, hts⟩ hKN (hP.sub (ws' := []) [] rfl) (g_X12_bits l D cA L3_169) (tb_S tw_1916 tw_1917 tw_114 tw_1918) hdX12_bits ⟨rfl, rfl, Nat.le_of_ble_eq_true rfl, Nat.le_of_ble_eq_true rfl⟩ ⟨Nat.le_of_ble_eq_true rfl, Nat.le_of_ble_eq_true rfl⟩ rfl hl.1 rfl (Nat.le_of_ble_eq_true rfl) dX12_fullOf_22 (fun r_184 hr_184 => ?_)
      refine lv_iload_n hx hb dX12_fullOf_25 rfl (lv_at hl 1 rfl) ?_
      refine cpSi (rest := [.int r_184]) ⟨hx, hb, hml, hown, hts⟩ hKN (hP.sub (ws' := []) [] rfl) (g_X12_bits l D cA L2_169) (tb_S tw_1916 tw_1917 tw_114 tw_1918) hdX12_bits ⟨rfl, rfl, Nat.le_of_ble_eq_true rfl, Nat.le_of_ble_eq_true rfl⟩ ⟨Nat.le_of_ble_eq_true rfl, Nat.le_of_ble_eq_true rfl⟩ rfl hl.1 rfl (Nat.le_of_ble_eq_true rfl) dX12_fullOf_26 (fun r_185 hr_185 => ?_)
      refine lv_icmp_le (tgt := 34) hx hb dX12_fullOf_29 (by decide) (fun c_186 => ?_) (fun c_186 => ?_)
      · skip
        have b_188 := i32_bd r_184
        have b_189 := i32_bd r_185
        have k_187 := kk_le rfl rfl c_186
        obtain ⟨x_190, ex_190⟩ : ∃ y : Int32, L3_169 + Int32.ofInt 1 = y := ⟨_, rfl⟩
        have k_191 := ar_add (b := 1) rfl zi_1 ex_190.symm (by omega) (by omega)
        refine lv_iinc (v := x_190) (lv' := [(3, .int x_190), (2, .int L2_169), (0, .ref h0), (1, .int p0)]) hx hb dX12_fullOf_34 hl (k := 0) rfl ex_190 (by decide) rfl (fun ls hl => ?_)
        refine lv_goto (tgt := 4) hx hb dX12_fullOf_37 (by decide) ?_
        exact ih_169 (x_190, L2_169) _ _ _ ⟨(show 1 ≤ x_190.toInt ∧ x_190.toInt ≤ 128 from by omega), (show 0 ≤ L2_169.toInt ∧ L2_169.toInt ≤ 127 from by omega), rfl, rfl, lv_sub hl [0, 1, 2, 3] rfl⟩ (by show (2147483647 - x_190.toInt).toNat < (2147483647 - L3_169.toInt).toNat; omega)
      · skip
        have b_193 := i32_bd r_184
        have b_194 := i32_bd r_185
        have k_192 := kk_nle rfl rfl c_186
        refine lv_iload_n hx hb dX12_fullOf_32 rfl (lv_at hl 0 rfl) ?_
        refine lv_istore_n (lv' := [(2, .int L3_169), (3, .int L3_169), (0, .ref h0), (1, .int p0)]) hx hb dX12_fullOf_33 rfl hl (by decide) rfl (fun ls hl => ?_)
        obtain ⟨x_195, ex_195⟩ : ∃ y : Int32, L3_169 + Int32.ofInt 1 = y := ⟨_, rfl⟩
        have k_196 := ar_add (b := 1) rfl zi_1 ex_195.symm (by omega) (by omega)
        refine lv_iinc (v := x_195) (lv' := [(3, .int x_195), (2, .int L3_169), (0, .ref h0), (1, .int p0)]) hx hb dX12_fullOf_34 hl (k := 1) rfl ex_195 (by decide) rfl (fun ls hl => ?_)
        refine lv_goto (tgt := 4) hx hb dX12_fullOf_37 (by decide) ?_
        exact ih_169 (x_195, L3_169) _ _ _ ⟨(show 1 ≤ x_195.toInt ∧ x_195.toInt ≤ 128 from by omega), (show 0 ≤ L3_169.toInt ∧ L3_169.toInt ≤ 127 from by omega), rfl, rfl, lv_sub hl [0, 1, 2, 3] rfl⟩ (by show (2147483647 - x_195.toInt).toNat < (2147483647 - L3_169.toInt).toNat; omega)
set_option maxHeartbeats 8000000 in
set_option maxRecDepth 100000 in
theorem g_X12_full (l : Launch) (D : va_G) (cA : Nat → ClassId) (h0 : Nat) (m_thrown : Int32) (m_qworld : Nat) (m_qimages : Nat) (m_qhasImage : Nat) (m_qtape : Nat) (m_taped : Int32) (m_qfive : Nat) (m_size : Int32) (m_at : Int32) (m_from : Int32) (m_token : Int32) (m_value : Int32) (m_faultKind : Int32) (m_faultPlace : Int32) (m_qfresh : Nat) (m_startOne : Int32) (m_startOther : Int32) (m_latest : Int32) (m_leftBeats : Int32) (m_signed : Int32) (m_metMany : Int32) (m_qsums : Nat) (m_qpairs : Nat) (m_qgoesWith : Nat) (m_qsaid : Nat) (m_saidMany : Int32) (m_firstWait : Int32) (m_qfirstOrder : Nat) (m_bundleFirst : Int32) (m_qtiredBy : Nat) (m_tiredMany : Int32) (m_qmany : Nat) (m_qwidth : Nat) (m_qnumbers : Nat) (m_qmoving : Nat) (m_cworld : Nat → Int32) (p0 : Int32) (h_m_taped : 0 ≤ (m_taped : Int32).toInt ∧ (m_taped : Int32).toInt ≤ 800) (h_m_size : 0 ≤ (m_size : Int32).toInt ∧ (m_size : Int32).toInt ≤ 800) (h_m_at : 0 ≤ (m_at : Int32).toInt ∧ (m_at : Int32).toInt ≤ 800) (h_m_from : 0 ≤ (m_from : Int32).toInt ∧ (m_from : Int32).toInt ≤ 800) (h_m_saidMany : 0 ≤ (m_saidMany : Int32).toInt ∧ (m_saidMany : Int32).toInt ≤ 60) (h_m_tiredMany : 0 ≤ (m_tiredMany : Int32).toInt ∧ (m_tiredMany : Int32).toInt ≤ 240) (a_m_cworld_0 : WI m_cworld) : Met l yX12_full (Cond.code yX12_full cX12_full 2 (some .int) :: TB) (rmd 3 0 0) (PP D cA [(h0, .inr (12, [.int m_thrown, .ref m_qworld, .ref m_qimages, .ref m_qhasImage, .ref m_qtape, .int m_taped, .ref m_qfive, .int m_size, .int m_at, .int m_from, .int m_token, .int m_value, .int m_faultKind, .int m_faultPlace, .ref m_qfresh, .int m_startOne, .int m_startOther, .int m_latest, .int m_leftBeats, .int m_signed, .int m_metMany, .ref m_qsums, .ref m_qpairs, .ref m_qgoesWith, .ref m_qsaid, .int m_saidMany, .int m_firstWait, .ref m_qfirstOrder, .int m_bundleFirst, .ref m_qtiredBy, .int m_tiredMany, .ref m_qmany, .ref m_qwidth, .ref m_qnumbers, .ref m_qmoving])), (m_qworld, .inl (cA 1, 122, .inl m_cworld))] [.ref h0, .int p0]) (vp_Si (fun r => True)) 0 0 (fun _ => False) := by
  refine Met.ofW (cc := cX12_full) (maxL := 2) (ret := (some .int)) (by decide) rfl ?_
  intro p e s m args below meth c s₁ B hml hv
  obtain ⟨rfl, hP, hKN⟩ := hv
  have hx := B.exec
  have hb := B.bytes
  have hr := B.returns
  have hts : ∀ w ∈ TB, w.before _ s = true := fun w h => atoms_spec B.pre w (List.mem_cons_of_mem _ h)
  have hown : s.vm.findClass RX12 = some m.cls := findClass_of_methodNamed B.named
  have hlocks := B.notSynchronized
  have hl := lv_entry ([.ref h0, .int p0]) (n := 2) (Nat.le_of_ble_eq_true rfl)
  rw [lg_entry_eq]
  generalize (lg_sl ([.ref h0, .int p0]) ++ List.replicate (2 - (lg_sl ([.ref h0, .int p0])).length) Slot.unset).toArray = ls at hl ⊢
  have hl : lv_has ls 2 [(0, .ref h0), (1, .int p0)] := hl
  refine lv_aload_n hx hb dX12_full_0 rfl (lv_at hl 0 rfl) ?_
  refine lv_iload_n hx hb dX12_full_1 rfl (lv_at hl 1 rfl) ?_
  refine lv_iconst (v := 0) hx hb dX12_full_2 (by decide) ?_
  have z_1 := zi_0
  refine cpVi (rest := []) ⟨hx, hb, hml, hown, hts⟩ hKN (hP.sub (ws' := [(h0, .inr (12, [.int m_thrown, .ref m_qworld, .ref m_qimages, .ref m_qhasImage, .ref m_qtape, .int m_taped, .ref m_qfive, .int m_size, .int m_at, .int m_from, .int m_token, .int m_value, .int m_faultKind, .int m_faultPlace, .ref m_qfresh, .int m_startOne, .int m_startOther, .int m_latest, .int m_leftBeats, .int m_signed, .int m_metMany, .ref m_qsums, .ref m_qpairs, .ref m_qgoesWith, .ref m_qsaid, .int m_saidMany, .int m_firstWait, .ref m_qfirstOrder, .int m_bundleFirst, .ref m_qtiredBy, .int m_tiredMany, .ref m_qmany, .ref m_qwidth, .ref m_qnumbers, .ref m_qmoving])), (m_qworld, .inl (cA 1, 122, .inl m_cworld))]) [0, 1] rfl) (g_X12_isHold l D cA h0 m_thrown m_qworld m_qimages m_qhasImage m_qtape m_taped m_qfive m_size m_at m_from m_token m_value m_faultKind m_faultPlace m_qfresh m_startOne m_startOther m_latest m_leftBeats m_signed m_metMany m_qsums m_qpairs m_qgoesWith m_qsaid m_saidMany m_firstWait m_qfirstOrder m_bundleFirst m_qtiredBy m_tiredMany m_qmany m_qwidth m_qnumbers m_qmoving m_cworld p0 0 (by omega) (by omega) (by omega) (by omega) (by omega) (by omega) a_m_cworld_0) (tb_V tw_1871 tw_1873 tw_78 tw_114 tw_1874) hdX12_isHold ⟨rfl, rfl, Nat.le_of_ble_eq_true rfl, Nat.le_of_ble_eq_true rfl⟩ ⟨Nat.le_of_ble_eq_true rfl, Nat.le_of_ble_eq_true rfl⟩ rfl rfl rfl hl.1 rfl (Nat.le_of_ble_eq_true rfl) dX12_full_3 (fun r_2 hr_2 => ?_)
  rcases hr_2 with ⟨k_2_0_0, k_2_0_1, k_2_0_2, k_2_0_3, k_2_0_4, k_2_0_5, rfl⟩ | rfl
  · skip
    refine lv_if_eq (tgt := 20) hx hb dX12_full_6 (by decide) (fun c_3 => absurd c_3 (by decide)) (fun c_3 => ?_)
    refine lv_aload_n hx hb dX12_full_9 rfl (lv_at hl 0 rfl) ?_
    refine lv_iload_n hx hb dX12_full_10 rfl (lv_at hl 1 rfl) ?_
    refine cpVi (rest := []) ⟨hx, hb, hml, hown, hts⟩ hKN (hP.sub (ws' := [(h0, .inr (12, [.int m_thrown, .ref m_qworld, .ref m_qimages, .ref m_qhasImage, .ref m_qtape, .int m_taped, .ref m_qfive, .int m_size, .int m_at, .int m_from, .int m_token, .int m_value, .int m_faultKind, .int m_faultPlace, .ref m_qfresh, .int m_startOne, .int m_startOther, .int m_latest, .int m_leftBeats, .int m_signed, .int m_metMany, .ref m_qsums, .ref m_qpairs, .ref m_qgoesWith, .ref m_qsaid, .int m_saidMany, .int m_firstWait, .ref m_qfirstOrder, .int m_bundleFirst, .ref m_qtiredBy, .int m_tiredMany, .ref m_qmany, .ref m_qwidth, .ref m_qnumbers, .ref m_qmoving])), (m_qworld, .inl (cA 1, 122, .inl m_cworld))]) [0, 1] rfl) (g_X12_fullOf l D cA h0 m_thrown m_qworld m_qimages m_qhasImage m_qtape m_taped m_qfive m_size m_at m_from m_token m_value m_faultKind m_faultPlace m_qfresh m_startOne m_startOther m_latest m_leftBeats m_signed m_metMany m_qsums m_qpairs m_qgoesWith m_qsaid m_saidMany m_firstWait m_qfirstOrder m_bundleFirst m_qtiredBy m_tiredMany m_qmany m_qwidth m_qnumbers m_qmoving m_cworld p0 (by omega) (by omega) (by omega) (by omega) (by omega) (by omega) a_m_cworld_0) (tb_V tw_1904 tw_1906 tw_82 tw_114 tw_1907) hdX12_fullOf ⟨rfl, rfl, Nat.le_of_ble_eq_true rfl, Nat.le_of_ble_eq_true rfl⟩ ⟨Nat.le_of_ble_eq_true rfl, Nat.le_of_ble_eq_true rfl⟩ rfl rfl rfl hl.1 rfl (Nat.le_of_ble_eq_true rfl) dX12_full_11 (fun r_4 hr_4 => ?_)
    refine cpSi (rest := []) ⟨hx, hb, hml, hown, hts⟩ hKN (hP.sub (ws' := []) [] rfl) (g_X12_bits l D cA r_4) (tb_S tw_1916 tw_1917 tw_114 tw_1918) hdX12_bits ⟨rfl, rfl, Nat.le_of_ble_eq_true rfl, Nat.le_of_ble_eq_true rfl⟩ ⟨Nat.le_of_ble_eq_true rfl, Nat.le_of_ble_eq_true rfl⟩ rfl hl.1 rfl (Nat.le_of_ble_eq_true rfl) dX12_full_14 (fun r_5 hr_5 => ?_)
    refine lv_goto (tgt := 22) hx hb dX12_full_17 (by decide) ?_
    exact W.iret (v := r_5) hx hb hr (fun t ht hW => ⟨r_5, rfl, trivial, ht⟩) (fun _ h => by cases h) dX12_full_22
  · skip
    refine lv_if_eq (tgt := 20) hx hb dX12_full_6 (by decide) (fun c_6 => ?_) (fun c_6 => absurd (by decide) c_6)
    refine lv_bipush (v := (-2)) hx hb dX12_full_20 (by decide) ?_
    exact W.iret (v := (-2)) hx hb hr (fun t ht hW => ⟨(-2), rfl, trivial, ht⟩) (fun _ h => by cases h) dX12_full_22
set_option maxHeartbeats 8000000 in
set_option maxRecDepth 100000 in
theorem g_X12_fulls (l : Launch) (D : va_G) (cA : Nat → ClassId) (h0 : Nat) (m_thrown : Int32) (m_qworld : Nat) (m_qimages : Nat) (m_qhasImage : Nat) (m_qtape : Nat) (m_taped : Int32) (m_qfive : Nat) (m_size : Int32) (m_at : Int32) (m_from : Int32) (m_token : Int32) (m_value : Int32) (m_faultKind : Int32) (m_faultPlace : Int32) (m_qfresh : Nat) (m_startOne : Int32) (m_startOther : Int32) (m_latest : Int32) (m_leftBeats : Int32) (m_signed : Int32) (m_metMany : Int32) (m_qsums : Nat) (m_qpairs : Nat) (m_qgoesWith : Nat) (m_qsaid : Nat) (m_saidMany : Int32) (m_firstWait : Int32) (m_qfirstOrder : Nat) (m_bundleFirst : Int32) (m_qtiredBy : Nat) (m_tiredMany : Int32) (m_qmany : Nat) (m_qwidth : Nat) (m_qnumbers : Nat) (m_qmoving : Nat) (m_cworld : Nat → Int32) (p0 : Int32) (h_m_taped : 0 ≤ (m_taped : Int32).toInt ∧ (m_taped : Int32).toInt ≤ 800) (h_m_size : 0 ≤ (m_size : Int32).toInt ∧ (m_size : Int32).toInt ≤ 800) (h_m_at : 0 ≤ (m_at : Int32).toInt ∧ (m_at : Int32).toInt ≤ 800) (h_m_from : 0 ≤ (m_from : Int32).toInt ∧ (m_from : Int32).toInt ≤ 800) (h_m_saidMany : 0 ≤ (m_saidMany : Int32).toInt ∧ (m_saidMany : Int32).toInt ≤ 60) (h_m_tiredMany : 0 ≤ (m_tiredMany : Int32).toInt ∧ (m_tiredMany : Int32).toInt ≤ 240) (a_m_cworld_0 : WI m_cworld) : Met l yX12_fulls (Cond.code yX12_fulls cX12_fulls 2 (some .int) :: TB) (rmd 3 0 0) (PP D cA [(h0, .inr (12, [.int m_thrown, .ref m_qworld, .ref m_qimages, .ref m_qhasImage, .ref m_qtape, .int m_taped, .ref m_qfive, .int m_size, .int m_at, .int m_from, .int m_token, .int m_value, .int m_faultKind, .int m_faultPlace, .ref m_qfresh, .int m_startOne, .int m_startOther, .int m_latest, .int m_leftBeats, .int m_signed, .int m_metMany, .ref m_qsums, .ref m_qpairs, .ref m_qgoesWith, .ref m_qsaid, .int m_saidMany, .int m_firstWait, .ref m_qfirstOrder, .int m_bundleFirst, .ref m_qtiredBy, .int m_tiredMany, .ref m_qmany, .ref m_qwidth, .ref m_qnumbers, .ref m_qmoving])), (m_qworld, .inl (cA 1, 122, .inl m_cworld))] [.ref h0, .int p0]) (vp_Si (fun r => -2 ≤ r.toInt ∧ r.toInt ≤ 127)) 0 0 (fun _ => False) := by
  refine Met.ofW (cc := cX12_fulls) (maxL := 2) (ret := (some .int)) (by decide) rfl ?_
  intro p e s m args below meth c s₁ B hml hv
  obtain ⟨rfl, hP, hKN⟩ := hv
  have hx := B.exec
  have hb := B.bytes
  have hr := B.returns
  have hts : ∀ w ∈ TB, w.before _ s = true := fun w h => atoms_spec B.pre w (List.mem_cons_of_mem _ h)
  have hown : s.vm.findClass RX12 = some m.cls := findClass_of_methodNamed B.named
  have hlocks := B.notSynchronized
  have hl := lv_entry ([.ref h0, .int p0]) (n := 2) (Nat.le_of_ble_eq_true rfl)
  rw [lg_entry_eq]
  generalize (lg_sl ([.ref h0, .int p0]) ++ List.replicate (2 - (lg_sl ([.ref h0, .int p0])).length) Slot.unset).toArray = ls at hl ⊢
  have hl : lv_has ls 2 [(0, .ref h0), (1, .int p0)] := hl
  refine lv_aload_n hx hb dX12_fulls_0 rfl (lv_at hl 0 rfl) ?_
  refine lv_iload_n hx hb dX12_fulls_1 rfl (lv_at hl 1 rfl) ?_
  refine lv_iconst (v := 0) hx hb dX12_fulls_2 (by decide) ?_
  have z_1 := zi_0
  refine cpVi (rest := []) ⟨hx, hb, hml, hown, hts⟩ hKN (hP.sub (ws' := [(h0, .inr (12, [.int m_thrown, .ref m_qworld, .ref m_qimages, .ref m_qhasImage, .ref m_qtape, .int m_taped, .ref m_qfive, .int m_size, .int m_at, .int m_from, .int m_token, .int m_value, .int m_faultKind, .int m_faultPlace, .ref m_qfresh, .int m_startOne, .int m_startOther, .int m_latest, .int m_leftBeats, .int m_signed, .int m_metMany, .ref m_qsums, .ref m_qpairs, .ref m_qgoesWith, .ref m_qsaid, .int m_saidMany, .int m_firstWait, .ref m_qfirstOrder, .int m_bundleFirst, .ref m_qtiredBy, .int m_tiredMany, .ref m_qmany, .ref m_qwidth, .ref m_qnumbers, .ref m_qmoving])), (m_qworld, .inl (cA 1, 122, .inl m_cworld))]) [0, 1] rfl) (g_X12_isHold l D cA h0 m_thrown m_qworld m_qimages m_qhasImage m_qtape m_taped m_qfive m_size m_at m_from m_token m_value m_faultKind m_faultPlace m_qfresh m_startOne m_startOther m_latest m_leftBeats m_signed m_metMany m_qsums m_qpairs m_qgoesWith m_qsaid m_saidMany m_firstWait m_qfirstOrder m_bundleFirst m_qtiredBy m_tiredMany m_qmany m_qwidth m_qnumbers m_qmoving m_cworld p0 0 (by omega) (by omega) (by omega) (by omega) (by omega) (by omega) a_m_cworld_0) (tb_V tw_1871 tw_1873 tw_78 tw_114 tw_1874) hdX12_isHold ⟨rfl, rfl, Nat.le_of_ble_eq_true rfl, Nat.le_of_ble_eq_true rfl⟩ ⟨Nat.le_of_ble_eq_true rfl, Nat.le_of_ble_eq_true rfl⟩ rfl rfl rfl hl.1 rfl (Nat.le_of_ble_eq_true rfl) dX12_fulls_3 (fun r_2 hr_2 => ?_)
  rcases hr_2 with ⟨k_2_0_0, k_2_0_1, k_2_0_2, k_2_0_3, k_2_0_4, k_2_0_5, rfl⟩ | rfl
  · skip
    refine lv_if_eq (tgt := 17) hx hb dX12_fulls_6 (by decide) (fun c_3 => absurd c_3 (by decide)) (fun c_3 => ?_)
    refine lv_aload_n hx hb dX12_fulls_9 rfl (lv_at hl 0 rfl) ?_
    refine lv_iload_n hx hb dX12_fulls_10 rfl (lv_at hl 1 rfl) ?_
    refine cpVi (rest := []) ⟨hx, hb, hml, hown, hts⟩ hKN (hP.sub (ws' := [(h0, .inr (12, [.int m_thrown, .ref m_qworld, .ref m_qimages, .ref m_qhasImage, .ref m_qtape, .int m_taped, .ref m_qfive, .int m_size, .int m_at, .int m_from, .int m_token, .int m_value, .int m_faultKind, .int m_faultPlace, .ref m_qfresh, .int m_startOne, .int m_startOther, .int m_latest, .int m_leftBeats, .int m_signed, .int m_metMany, .ref m_qsums, .ref m_qpairs, .ref m_qgoesWith, .ref m_qsaid, .int m_saidMany, .int m_firstWait, .ref m_qfirstOrder, .int m_bundleFirst, .ref m_qtiredBy, .int m_tiredMany, .ref m_qmany, .ref m_qwidth, .ref m_qnumbers, .ref m_qmoving])), (m_qworld, .inl (cA 1, 122, .inl m_cworld))]) [0, 1] rfl) (g_X12_fullOf l D cA h0 m_thrown m_qworld m_qimages m_qhasImage m_qtape m_taped m_qfive m_size m_at m_from m_token m_value m_faultKind m_faultPlace m_qfresh m_startOne m_startOther m_latest m_leftBeats m_signed m_metMany m_qsums m_qpairs m_qgoesWith m_qsaid m_saidMany m_firstWait m_qfirstOrder m_bundleFirst m_qtiredBy m_tiredMany m_qmany m_qwidth m_qnumbers m_qmoving m_cworld p0 (by omega) (by omega) (by omega) (by omega) (by omega) (by omega) a_m_cworld_0) (tb_V tw_1904 tw_1906 tw_82 tw_114 tw_1907) hdX12_fullOf ⟨rfl, rfl, Nat.le_of_ble_eq_true rfl, Nat.le_of_ble_eq_true rfl⟩ ⟨Nat.le_of_ble_eq_true rfl, Nat.le_of_ble_eq_true rfl⟩ rfl rfl rfl hl.1 rfl (Nat.le_of_ble_eq_true rfl) dX12_fulls_11 (fun r_4 hr_4 => ?_)
    refine lv_goto (tgt := 19) hx hb dX12_fulls_14 (by decide) ?_
    exact W.iret (v := r_4) hx hb hr (fun t ht hW => ⟨r_4, rfl, (show -2 ≤ r_4.toInt ∧ r_4.toInt ≤ 127 from by omega), ht⟩) (fun _ h => by cases h) dX12_fulls_19
  · skip
    refine lv_if_eq (tgt := 17) hx hb dX12_fulls_6 (by decide) (fun c_5 => ?_) (fun c_5 => absurd (by decide) c_5)
    refine lv_bipush (v := (-2)) hx hb dX12_fulls_17 (by decide) ?_
    exact W.iret (v := (-2)) hx hb hr (fun t ht hW => ⟨(-2), rfl, (show -2 ≤ ((-2) : Int32).toInt ∧ ((-2) : Int32).toInt ≤ 127 from by decide), ht⟩) (fun _ h => by cases h) dX12_fulls_19
set_option maxHeartbeats 8000000 in
set_option maxRecDepth 100000 in
theorem g_X12_bothOf (l : Launch) (D : va_G) (cA : Nat → ClassId) (h0 : Nat) (m_thrown : Int32) (m_qworld : Nat) (m_qimages : Nat) (m_qhasImage : Nat) (m_qtape : Nat) (m_taped : Int32) (m_qfive : Nat) (m_size : Int32) (m_at : Int32) (m_from : Int32) (m_token : Int32) (m_value : Int32) (m_faultKind : Int32) (m_faultPlace : Int32) (m_qfresh : Nat) (m_startOne : Int32) (m_startOther : Int32) (m_latest : Int32) (m_leftBeats : Int32) (m_signed : Int32) (m_metMany : Int32) (m_qsums : Nat) (m_qpairs : Nat) (m_qgoesWith : Nat) (m_qsaid : Nat) (m_saidMany : Int32) (m_firstWait : Int32) (m_qfirstOrder : Nat) (m_bundleFirst : Int32) (m_qtiredBy : Nat) (m_tiredMany : Int32) (m_qmany : Nat) (m_qwidth : Nat) (m_qnumbers : Nat) (m_qmoving : Nat) (m_cworld : Nat → Int32) (p0 : Int32) (h_m_taped : 0 ≤ (m_taped : Int32).toInt ∧ (m_taped : Int32).toInt ≤ 800) (h_m_size : 0 ≤ (m_size : Int32).toInt ∧ (m_size : Int32).toInt ≤ 800) (h_m_at : 0 ≤ (m_at : Int32).toInt ∧ (m_at : Int32).toInt ≤ 800) (h_m_from : 0 ≤ (m_from : Int32).toInt ∧ (m_from : Int32).toInt ≤ 800) (h_m_saidMany : 0 ≤ (m_saidMany : Int32).toInt ∧ (m_saidMany : Int32).toInt ≤ 60) (h_m_tiredMany : 0 ≤ (m_tiredMany : Int32).toInt ∧ (m_tiredMany : Int32).toInt ≤ 240) (a_m_cworld_0 : WI m_cworld) : Met l yX12_bothOf (Cond.code yX12_bothOf cX12_bothOf 2 (some .int) :: TB) (rmd 2 0 0) (PP D cA [(h0, .inr (12, [.int m_thrown, .ref m_qworld, .ref m_qimages, .ref m_qhasImage, .ref m_qtape, .int m_taped, .ref m_qfive, .int m_size, .int m_at, .int m_from, .int m_token, .int m_value, .int m_faultKind, .int m_faultPlace, .ref m_qfresh, .int m_startOne, .int m_startOther, .int m_latest, .int m_leftBeats, .int m_signed, .int m_metMany, .ref m_qsums, .ref m_qpairs, .ref m_qgoesWith, .ref m_qsaid, .int m_saidMany, .int m_firstWait, .ref m_qfirstOrder, .int m_bundleFirst, .ref m_qtiredBy, .int m_tiredMany, .ref m_qmany, .ref m_qwidth, .ref m_qnumbers, .ref m_qmoving])), (m_qworld, .inl (cA 1, 122, .inl m_cworld))] [.ref h0, .int p0]) (vp_Si (fun r => True)) 0 0 (fun _ => False) := by
  refine Met.ofW (cc := cX12_bothOf) (maxL := 2) (ret := (some .int)) (by decide) rfl ?_
  intro p e s m args below meth c s₁ B hml hv
  obtain ⟨rfl, hP, hKN⟩ := hv
  have hx := B.exec
  have hb := B.bytes
  have hr := B.returns
  have hts : ∀ w ∈ TB, w.before _ s = true := fun w h => atoms_spec B.pre w (List.mem_cons_of_mem _ h)
  have hown : s.vm.findClass RX12 = some m.cls := findClass_of_methodNamed B.named
  have hlocks := B.notSynchronized
  have hl := lv_entry ([.ref h0, .int p0]) (n := 2) (Nat.le_of_ble_eq_true rfl)
  rw [lg_entry_eq]
  generalize (lg_sl ([.ref h0, .int p0]) ++ List.replicate (2 - (lg_sl ([.ref h0, .int p0])).length) Slot.unset).toArray = ls at hl ⊢
  have hl : lv_has ls 2 [(0, .ref h0), (1, .int p0)] := hl
  refine lv_aload_n hx hb dX12_bothOf_0 rfl (lv_at hl 0 rfl) ?_
  refine lv_iload_n hx hb dX12_bothOf_1 rfl (lv_at hl 1 rfl) ?_
  refine lv_iconst (v := 0) hx hb dX12_bothOf_2 (by decide) ?_
  have z_1 := zi_0
  refine cpVi (rest := []) ⟨hx, hb, hml, hown, hts⟩ hKN (hP.sub (ws' := [(h0, .inr (12, [.int m_thrown, .ref m_qworld, .ref m_qimages, .ref m_qhasImage, .ref m_qtape, .int m_taped, .ref m_qfive, .int m_size, .int m_at, .int m_from, .int m_token, .int m_value, .int m_faultKind, .int m_faultPlace, .ref m_qfresh, .int m_startOne, .int m_startOther, .int m_latest, .int m_leftBeats, .int m_signed, .int m_metMany, .ref m_qsums, .ref m_qpairs, .ref m_qgoesWith, .ref m_qsaid, .int m_saidMany, .int m_firstWait, .ref m_qfirstOrder, .int m_bundleFirst, .ref m_qtiredBy, .int m_tiredMany, .ref m_qmany, .ref m_qwidth, .ref m_qnumbers, .ref m_qmoving])), (m_qworld, .inl (cA 1, 122, .inl m_cworld))]) [0, 1] rfl) (g_X12_worthOf l D cA h0 m_thrown m_qworld m_qimages m_qhasImage m_qtape m_taped m_qfive m_size m_at m_from m_token m_value m_faultKind m_faultPlace m_qfresh m_startOne m_startOther m_latest m_leftBeats m_signed m_metMany m_qsums m_qpairs m_qgoesWith m_qsaid m_saidMany m_firstWait m_qfirstOrder m_bundleFirst m_qtiredBy m_tiredMany m_qmany m_qwidth m_qnumbers m_qmoving m_cworld p0 0 (by omega) (by omega) (by omega) (by omega) (by omega) (by omega) (by decide) a_m_cworld_0) (tb_V tw_1935 tw_1937 tw_87 tw_114 tw_1938) hdX12_worthOf ⟨rfl, rfl, Nat.le_of_ble_eq_true rfl, Nat.le_of_ble_eq_true rfl⟩ ⟨Nat.le_of_ble_eq_true rfl, Nat.le_of_ble_eq_true rfl⟩ rfl rfl rfl hl.1 rfl (Nat.le_of_ble_eq_true rfl) dX12_bothOf_3 (fun r_2 hr_2 => ?_)
  refine lv_aload_n hx hb dX12_bothOf_6 rfl (lv_at hl 0 rfl) ?_
  refine lv_iload_n hx hb dX12_bothOf_7 rfl (lv_at hl 1 rfl) ?_
  refine lv_iconst (v := 1) hx hb dX12_bothOf_8 (by decide) ?_
  have z_3 := zi_1
  refine cpVi (rest := [.int r_2]) ⟨hx, hb, hml, hown, hts⟩ hKN (hP.sub (ws' := [(h0, .inr (12, [.int m_thrown, .ref m_qworld, .ref m_qimages, .ref m_qhasImage, .ref m_qtape, .int m_taped, .ref m_qfive, .int m_size, .int m_at, .int m_from, .int m_token, .int m_value, .int m_faultKind, .int m_faultPlace, .ref m_qfresh, .int m_startOne, .int m_startOther, .int m_latest, .int m_leftBeats, .int m_signed, .int m_metMany, .ref m_qsums, .ref m_qpairs, .ref m_qgoesWith, .ref m_qsaid, .int m_saidMany, .int m_firstWait, .ref m_qfirstOrder, .int m_bundleFirst, .ref m_qtiredBy, .int m_tiredMany, .ref m_qmany, .ref m_qwidth, .ref m_qnumbers, .ref m_qmoving])), (m_qworld, .inl (cA 1, 122, .inl m_cworld))]) [0, 1] rfl) (g_X12_worthOf l D cA h0 m_thrown m_qworld m_qimages m_qhasImage m_qtape m_taped m_qfive m_size m_at m_from m_token m_value m_faultKind m_faultPlace m_qfresh m_startOne m_startOther m_latest m_leftBeats m_signed m_metMany m_qsums m_qpairs m_qgoesWith m_qsaid m_saidMany m_firstWait m_qfirstOrder m_bundleFirst m_qtiredBy m_tiredMany m_qmany m_qwidth m_qnumbers m_qmoving m_cworld p0 1 (by omega) (by omega) (by omega) (by omega) (by omega) (by omega) (by decide) a_m_cworld_0) (tb_V tw_1935 tw_1937 tw_87 tw_114 tw_1938) hdX12_worthOf ⟨rfl, rfl, Nat.le_of_ble_eq_true rfl, Nat.le_of_ble_eq_true rfl⟩ ⟨Nat.le_of_ble_eq_true rfl, Nat.le_of_ble_eq_true rfl⟩ rfl rfl rfl hl.1 rfl (Nat.le_of_ble_eq_true rfl) dX12_bothOf_9 (fun r_4 hr_4 => ?_)
  refine lv_iadd hx hb dX12_bothOf_12 ?_
  refine lv_topi (fun x_5 ex_5 => ?_)
  exact W.iret (v := x_5) hx hb hr (fun t ht hW => ⟨x_5, rfl, trivial, ht⟩) (fun _ h => by cases h) dX12_bothOf_13
set_option maxHeartbeats 8000000 in
set_option maxRecDepth 100000 in
theorem g_X12_onceOf (l : Launch) (D : va_G) (cA : Nat → ClassId) (h0 : Nat) (m_thrown : Int32) (m_qworld : Nat) (m_qimages : Nat) (m_qhasImage : Nat) (m_qtape : Nat) (m_taped : Int32) (m_qfive : Nat) (m_size : Int32) (m_at : Int32) (m_from : Int32) (m_token : Int32) (m_value : Int32) (m_faultKind : Int32) (m_faultPlace : Int32) (m_qfresh : Nat) (m_startOne : Int32) (m_startOther : Int32) (m_latest : Int32) (m_leftBeats : Int32) (m_signed : Int32) (m_metMany : Int32) (m_qsums : Nat) (m_qpairs : Nat) (m_qgoesWith : Nat) (m_qsaid : Nat) (m_saidMany : Int32) (m_firstWait : Int32) (m_qfirstOrder : Nat) (m_bundleFirst : Int32) (m_qtiredBy : Nat) (m_tiredMany : Int32) (m_qmany : Nat) (m_qwidth : Nat) (m_qnumbers : Nat) (m_qmoving : Nat) (m_cworld : Nat → Int32) (p0 : Int32) (h_m_taped : 0 ≤ (m_taped : Int32).toInt ∧ (m_taped : Int32).toInt ≤ 800) (h_m_size : 0 ≤ (m_size : Int32).toInt ∧ (m_size : Int32).toInt ≤ 800) (h_m_at : 0 ≤ (m_at : Int32).toInt ∧ (m_at : Int32).toInt ≤ 800) (h_m_from : 0 ≤ (m_from : Int32).toInt ∧ (m_from : Int32).toInt ≤ 800) (h_m_saidMany : 0 ≤ (m_saidMany : Int32).toInt ∧ (m_saidMany : Int32).toInt ≤ 60) (h_m_tiredMany : 0 ≤ (m_tiredMany : Int32).toInt ∧ (m_tiredMany : Int32).toInt ≤ 240) (a_m_cworld_0 : WI m_cworld) : Met l yX12_onceOf (Cond.code yX12_onceOf cX12_onceOf 4 (some .int) :: TB) (rmd 3 0 0) (PP D cA [(h0, .inr (12, [.int m_thrown, .ref m_qworld, .ref m_qimages, .ref m_qhasImage, .ref m_qtape, .int m_taped, .ref m_qfive, .int m_size, .int m_at, .int m_from, .int m_token, .int m_value, .int m_faultKind, .int m_faultPlace, .ref m_qfresh, .int m_startOne, .int m_startOther, .int m_latest, .int m_leftBeats, .int m_signed, .int m_metMany, .ref m_qsums, .ref m_qpairs, .ref m_qgoesWith, .ref m_qsaid, .int m_saidMany, .int m_firstWait, .ref m_qfirstOrder, .int m_bundleFirst, .ref m_qtiredBy, .int m_tiredMany, .ref m_qmany, .ref m_qwidth, .ref m_qnumbers, .ref m_qmoving])), (m_qworld, .inl (cA 1, 122, .inl m_cworld))] [.ref h0, .int p0]) (vp_Si (fun r => 0 ≤ r.toInt ∧ r.toInt ≤ 127)) 0 0 (fun _ => False) := by
  refine Met.ofW (cc := cX12_onceOf) (maxL := 4) (ret := (some .int)) (by decide) rfl ?_
  intro p e s m args below meth c s₁ B hml hv
  obtain ⟨rfl, hP, hKN⟩ := hv
  have hx := B.exec
  have hb := B.bytes
  have hr := B.returns
  have hts : ∀ w ∈ TB, w.before _ s = true := fun w h => atoms_spec B.pre w (List.mem_cons_of_mem _ h)
  have hown : s.vm.findClass RX12 = some m.cls := findClass_of_methodNamed B.named
  have hlocks := B.notSynchronized
  have hl := lv_entry ([.ref h0, .int p0]) (n := 4) (Nat.le_of_ble_eq_true rfl)
  rw [lg_entry_eq]
  generalize (lg_sl ([.ref h0, .int p0]) ++ List.replicate (4 - (lg_sl ([.ref h0, .int p0])).length) Slot.unset).toArray = ls at hl ⊢
  have hl : lv_has ls 4 [(0, .ref h0), (1, .int p0)] := hl
  refine lv_iconst (v := 0) hx hb dX12_onceOf_0 (by decide) ?_
  refine lv_istore_n (lv' := [(2, .int 0), (0, .ref h0), (1, .int p0)]) hx hb dX12_onceOf_1 rfl hl (by decide) rfl (fun ls hl => ?_)
  refine lv_iconst (v := 1) hx hb dX12_onceOf_2 (by decide) ?_
  refine lv_istore_n (lv' := [(3, .int 1), (2, .int 0), (0, .ref h0), (1, .int p0)]) hx hb dX12_onceOf_3 rfl hl (by decide) rfl (fun ls hl => ?_)
  refine loopW (σ := Int32 × Int32) (fun _ => []) (fun ⟨L3_169, L2_169⟩ H locs ls => (1 ≤ L3_169.toInt ∧ L3_169.toInt ≤ 128) ∧ (0 ≤ L2_169.toInt ∧ L2_169.toInt ≤ 127) ∧ H = s.heap ∧ locs = [] ∧ lv_has ls 4 [(3, .int L3_169), (2, .int L2_169), (0, .ref h0), (1, .int p0)]) (fun ⟨L3_169, L2_169⟩ => (2147483647 - L3_169.toInt).toNat) ?_ ((1, 0) : Int32 × Int32) ⟨(by decide), (by decide), rfl, rfl, hl⟩
  intro x_169 H locs ls hI_169 ih_169
  obtain ⟨L3_169, L2_169⟩ := x_169
  obtain ⟨k0_169, k1_169, rfl, rfl, hl⟩ := hI_169
  have hl : lv_has ls 4 [(3, .int L3_169), (2, .int L2_169), (0, .ref h0), (1, .int p0)] := hl
  refine lv_iload_n hx hb dX12_onceOf_4 rfl (lv_at hl 0 rfl) ?_
  refine lv_aload_n hx hb dX12_onceOf_5 rfl (lv_at hl 2 rfl) ?_
  refine cpVi (rest := [.int L3_169]) ⟨hx, hb, hml, hown, hts⟩ hKN (hP.sub (ws' := [(h0, .inr (12, [.int m_thrown, .ref m_qworld, .ref m_qimages, .ref m_qhasImage, .ref m_qtape, .int m_taped, .ref m_qfive, .int m_size, .int m_at, .int m_from, .int m_token, .int m_value, .int m_faultKind, .int m_faultPlace, .ref m_qfresh, .int m_startOne, .int m_startOther, .int m_latest, .int m_leftBeats, .int m_signed, .int m_metMany, .ref m_qsums, .ref m_qpairs, .ref m_qgoesWith, .ref m_qsaid, .int m_saidMany, .int m_firstWait, .ref m_qfirstOrder, .int m_bundleFirst, .ref m_qtiredBy, .int m_tiredMany, .ref m_qmany, .ref m_qwidth, .ref m_qnumbers, .ref m_qmoving])), (m_qworld, .inl (cA 1, 122, .inl m_cworld))]) [0, 1] rfl) (g_X12_allClauses l D cA h0 m_thrown m_qworld m_qimages m_qhasImage m_qtape m_taped m_qfive m_size m_at m_from m_token m_value m_faultKind m_faultPlace m_qfresh m_startOne m_startOther m_latest m_leftBeats m_signed m_metMany m_qsums m_qpairs m_qgoesWith m_qsaid m_saidMany m_firstWait m_qfirstOrder m_bundleFirst m_qtiredBy m_tiredMany m_qmany m_qwidth m_qnumbers m_qmoving m_cworld (by omega) (by omega) (by omega) (by omega) (by omega) (by omega) a_m_cworld_0) (tb_V tw_1908 tw_1910 tw_83 tw_114 tw_1911) hdX12_allClauses ⟨rfl, rfl, Nat.le_of_ble_eq_true rfl, Nat.le_of_ble_eq_true rfl⟩ ⟨Nat.le_of_ble_eq_true rfl, Nat.le_of_ble_eq_true rfl⟩ rfl rfl rfl hl.1 rfl (Nat.le_of_ble_eq_true rfl) dX12_onceOf_6 (fun r_170 hr_170 => ?_)
  refine lv_icmp_gt (tgt := 42) hx hb dX12_onceOf_9 (by decide) (fun c_171 => ?_) (fun c_171 => ?_)
  · skip
    have k_172 := kk_lt rfl rfl c_171
    refine lv_iload_n hx hb dX12_onceOf_42 rfl (lv_at hl 1 rfl) ?_
    exact W.iret (v := L2_169) hx hb hr (fun t ht hW => ⟨L2_169, rfl, (show 0 ≤ L2_169.toInt ∧ L2_169.toInt ≤ 127 from by omega), ht⟩) (fun _ h => by cases h) dX12_onceOf_43
  · skip
    have k_173 := kk_nlt rfl rfl c_171
    refine lv_aload_n hx hb dX12_onceOf_12 rfl (lv_at hl 2 rfl) ?_
    refine lv_iload_n hx hb dX12_onceOf_13 rfl (lv_at hl 0 rfl) ?_
    refine cpVi (rest := []) ⟨hx, hb, hml, hown, hts⟩ hKN (hP.sub (ws' := [(h0, .inr (12, [.int m_thrown, .ref m_qworld, .ref m_qimages, .ref m_qhasImage, .ref m_qtape, .int m_taped, .ref m_qfive, .int m_size, .int m_at, .int m_from, .int m_token, .int m_value, .int m_faultKind, .int m_faultPlace, .ref m_qfresh, .int m_startOne, .int m_startOther, .int m_latest, .int m_leftBeats, .int m_signed, .int m_metMany, .ref m_qsums, .ref m_qpairs, .ref m_qgoesWith, .ref m_qsaid, .int m_saidMany, .int m_firstWait, .ref m_qfirstOrder, .int m_bundleFirst, .ref m_qtiredBy, .int m_tiredMany, .ref m_qmany, .ref m_qwidth, .ref m_qnumbers, .ref m_qmoving])), (m_qworld, .inl (cA 1, 122, .inl m_cworld))]) [0, 1] rfl) (g_X12_saysOf l D cA h0 m_thrown m_qworld m_qimages m_qhasImage m_qtape m_taped m_qfive m_size m_at m_from m_token m_value m_faultKind m_faultPlace m_qfresh m_startOne m_startOther m_latest m_leftBeats m_signed m_metMany m_qsums m_qpairs m_qgoesWith m_qsaid m_saidMany m_firstWait m_qfirstOrder m_bundleFirst m_qtiredBy m_tiredMany m_qmany m_qwidth m_qnumbers m_qmoving m_cworld L3_169 (by omega) (by omega) (by omega) (by omega) (by omega) (by omega) a_m_cworld_0) (tb_V tw_1912 tw_1914 tw_84 tw_114 tw_1915) hdX12_saysOf ⟨rfl, rfl, Nat.le_of_ble_eq_true rfl, Nat.le_of_ble_eq_true rfl⟩ ⟨Nat.le_of_ble_eq_true rfl, Nat.le_of_ble_eq_true rfl⟩ rfl rfl rfl hl.1 rfl (Nat.le_of_ble_eq_true rfl) dX12_onceOf_14 (fun r_174 hr_174 => ?_)
    refine lv_iload_n hx hb dX12_onceOf_17 rfl (lv_at hl 3 rfl) ?_
    refine lv_icmp_gt (tgt := 36) hx hb dX12_onceOf_18 (by decide) (fun c_175 => ?_) (fun c_175 => ?_)
    · skip
      have b_177 := i32_bd p0
      have b_178 := i32_bd r_174
      have k_176 := kk_lt rfl rfl c_175
      obtain ⟨x_179, ex_179⟩ : ∃ y : Int32, L3_169 + Int32.ofInt 1 = y := ⟨_, rfl⟩
      have k_180 := ar_add (b := 1) rfl zi_1 ex_179.symm (by omega) (by omega)
      refine lv_iinc (v := x_179) (lv' := [(3, .int x_179), (2, .int L2_169), (0, .ref h0), (1, .int p0)]) hx hb dX12_onceOf_36 hl (k := 0) rfl ex_179 (by decide) rfl (fun ls hl => ?_)
      refine lv_goto (tgt := 4) hx hb dX12_onceOf_39 (by decide) ?_
      exact ih_169 (x_179, L2_169) _ _ _ ⟨(show 1 ≤ x_179.toInt ∧ x_179.toInt ≤ 128 from by omega), (show 0 ≤ L2_169.toInt ∧ L2_169.toInt ≤ 127 from by omega), rfl, rfl, lv_sub hl [0, 1, 2, 3] rfl⟩ (by show (2147483647 - x_179.toInt).toNat < (2147483647 - L3_169.toInt).toNat; omega)
    · skip
      have b_182 := i32_bd p0
      have b_183 := i32_bd r_174
      have k_181 := kk_nlt rfl rfl c_175
      refine lv_aload_n hx hb dX12_onceOf_21 rfl (lv_at hl 2 rfl) ?_
      refine lv_iload_n hx hb dX12_onceOf_22 rfl (lv_at hl 0 rfl) ?_
      refine cpVi (rest := []) ⟨hx, hb, hml, hown, hts⟩ hKN (hP.sub (ws' := [(h0, .inr (12, [.int m_thrown, .ref m_qworld, .ref m_qimages, .ref m_qhasImage, .ref m_qtape, .int m_taped, .ref m_qfive, .int m_size, .int m_at, .int m_from, .int m_token, .int m_value, .int m_faultKind, .int m_faultPlace, .ref m_qfresh, .int m_startOne, .int m_startOther, .int m_latest, .int m_leftBeats, .int m_signed, .int m_metMany, .ref m_qsums, .ref m_qpairs, .ref m_qgoesWith, .ref m_qsaid, .int m_saidMany, .int m_firstWait, .ref m_qfirstOrder, .int m_bundleFirst, .ref m_qtiredBy, .int m_tiredMany, .ref m_qmany, .ref m_qwidth, .ref m_qnumbers, .ref m_qmoving])), (m_qworld, .inl (cA 1, 122, .inl m_cworld))]) [0, 1] rfl) (g_X12_bothOf l D cA h0 m_thrown m_qworld m_qimages m_qhasImage m_qtape m_taped m_qfive m_size m_at m_from m_token m_value m_faultKind m_faultPlace m_qfresh m_startOne m_startOther m_latest m_leftBeats m_signed m_metMany m_qsums m_qpairs m_qgoesWith m_qsaid m_saidMany m_firstWait m_qfirstOrder m_bundleFirst m_qtiredBy m_tiredMany m_qmany m_qwidth m_qnumbers m_qmoving m_cworld L3_169 (by omega) (by omega) (by omega) (by omega) (by omega) (by omega) a_m_cworld_0) (tb_V tw_1931 tw_1933 tw_86 tw_114 tw_1934) hdX12_bothOf ⟨rfl, rfl, Nat.le_of_ble_eq_true rfl, Nat.le_of_ble_eq_true rfl⟩ ⟨Nat.le_of_ble_eq_true rfl, Nat.le_of_ble_eq_true rfl⟩ rfl rfl rfl hl.1 rfl (Nat.le_of_ble_eq_true rfl) dX12_onceOf_23 (fun r_184 hr_184 => ?_)
      refine lv_aload_n hx hb dX12_onceOf_26 rfl (lv_at hl 2 rfl) ?_
      refine lv_iload_n hx hb dX12_onceOf_27 rfl (lv_at hl 1 rfl) ?_
      refine cpVi (rest := [.int r_184]) ⟨hx, hb, hml, hown, hts⟩ hKN (hP.sub (ws' := [(h0, .inr (12, [.int m_thrown, .ref m_qworld, .ref m_qimages, .ref m_qhasImage, .ref m_qtape, .int m_taped, .ref m_qfive, .int m_size, .int m_at, .int m_from, .int m_token, .int m_value, .int m_faultKind, .int m_faultPlace, .ref m_qfresh, .int m_startOne, .int m_startOther, .int m_latest, .int m_leftBeats, .int m_signed, .int m_metMany, .ref m_qsums, .ref m_qpairs, .ref m_qgoesWith, .ref m_qsaid, .int m_saidMany, .int m_firstWait, .ref m_qfirstOrder, .int m_bundleFirst, .ref m_qtiredBy, .int m_tiredMany, .ref m_qmany, .ref m_qwidth, .ref m_qnumbers, .ref m_qmoving])), (m_qworld, .inl (cA 1, 122, .inl m_cworld))]) [0, 1] rfl) (g_X12_bothOf l D cA h0 m_thrown m_qworld m_qimages m_qhasImage m_qtape m_taped m_qfive m_size m_at m_from m_token m_value m_faultKind m_faultPlace m_qfresh m_startOne m_startOther m_latest m_leftBeats m_signed m_metMany m_qsums m_qpairs m_qgoesWith m_qsaid m_saidMany m_firstWait m_qfirstOrder m_bundleFirst m_qtiredBy m_tiredMany m_qmany m_qwidth m_qnumbers m_qmoving m_cworld L2_169 (by omega) (by omega) (by omega) (by omega) (by omega) (by omega) a_m_cworld_0) (tb_V tw_1931 tw_1933 tw_86 tw_114 tw_1934) hdX12_bothOf ⟨rfl, rfl, Nat.le_of_ble_eq_true rfl, Nat.le_of_ble_eq_true rfl⟩ ⟨Nat.le_of_ble_eq_true rfl, Nat.le_of_ble_eq_true rfl⟩ rfl rfl rfl hl.1 rfl (Nat.le_of_ble_eq_true rfl) dX12_onceOf_28 (fun r_185 hr_185 => ?_)
      refine lv_icmp_le (tgt := 36) hx hb dX12_onceOf_31 (by decide) (fun c_186 => ?_) (fun c_186 => ?_)
      · skip
        have b_188 := i32_bd r_184
        have b_189 := i32_bd r_185
        have k_187 := kk_le rfl rfl c_186
        obtain ⟨x_190, ex_190⟩ : ∃ y : Int32, L3_169 + Int32.ofInt 1 = y := ⟨_, rfl⟩
        have k_191 := ar_add (b := 1) rfl zi_1 ex_190.symm (by omega) (by omega)
        refine lv_iinc (v := x_190) (lv' := [(3, .int x_190), (2, .int L2_169), (0, .ref h0), (1, .int p0)]) hx hb dX12_onceOf_36 hl (k := 0) rfl ex_190 (by decide) rfl (fun ls hl => ?_)
        refine lv_goto (tgt := 4) hx hb dX12_onceOf_39 (by decide) ?_
        exact ih_169 (x_190, L2_169) _ _ _ ⟨(show 1 ≤ x_190.toInt ∧ x_190.toInt ≤ 128 from by omega), (show 0 ≤ L2_169.toInt ∧ L2_169.toInt ≤ 127 from by omega), rfl, rfl, lv_sub hl [0, 1, 2, 3] rfl⟩ (by show (2147483647 - x_190.toInt).toNat < (2147483647 - L3_169.toInt).toNat; omega)
      · skip
        have b_193 := i32_bd r_184
        have b_194 := i32_bd r_185
        have k_192 := kk_nle rfl rfl c_186
        refine lv_iload_n hx hb dX12_onceOf_34 rfl (lv_at hl 0 rfl) ?_
        refine lv_istore_n (lv' := [(2, .int L3_169), (3, .int L3_169), (0, .ref h0), (1, .int p0)]) hx hb dX12_onceOf_35 rfl hl (by decide) rfl (fun ls hl => ?_)
        obtain ⟨x_195, ex_195⟩ : ∃ y : Int32, L3_169 + Int32.ofInt 1 = y := ⟨_, rfl⟩
        have k_196 := ar_add (b := 1) rfl zi_1 ex_195.symm (by omega) (by omega)
        refine lv_iinc (v := x_195) (lv' := [(3, .int x_195), (2, .int L3_169), (0, .ref h0), (1, .int p0)]) hx hb dX12_onceOf_36 hl (k := 1) rfl ex_195 (by decide) rfl (fun ls hl => ?_)
        refine lv_goto (tgt := 4) hx hb dX12_onceOf_39 (by decide) ?_
        exact ih_169 (x_195, L3_169) _ _ _ ⟨(show 1 ≤ x_195.toInt ∧ x_195.toInt ≤ 128 from by omega), (show 0 ≤ L3_169.toInt ∧ L3_169.toInt ≤ 127 from by omega), rfl, rfl, lv_sub hl [0, 1, 2, 3] rfl⟩ (by show (2147483647 - x_195.toInt).toNat < (2147483647 - L3_169.toInt).toNat; omega)
set_option maxHeartbeats 8000000 in
set_option maxRecDepth 100000 in
theorem g_X12_once (l : Launch) (D : va_G) (cA : Nat → ClassId) (h0 : Nat) (m_thrown : Int32) (m_qworld : Nat) (m_qimages : Nat) (m_qhasImage : Nat) (m_qtape : Nat) (m_taped : Int32) (m_qfive : Nat) (m_size : Int32) (m_at : Int32) (m_from : Int32) (m_token : Int32) (m_value : Int32) (m_faultKind : Int32) (m_faultPlace : Int32) (m_qfresh : Nat) (m_startOne : Int32) (m_startOther : Int32) (m_latest : Int32) (m_leftBeats : Int32) (m_signed : Int32) (m_metMany : Int32) (m_qsums : Nat) (m_qpairs : Nat) (m_qgoesWith : Nat) (m_qsaid : Nat) (m_saidMany : Int32) (m_firstWait : Int32) (m_qfirstOrder : Nat) (m_bundleFirst : Int32) (m_qtiredBy : Nat) (m_tiredMany : Int32) (m_qmany : Nat) (m_qwidth : Nat) (m_qnumbers : Nat) (m_qmoving : Nat) (m_cworld : Nat → Int32) (p0 : Int32) (h_m_taped : 0 ≤ (m_taped : Int32).toInt ∧ (m_taped : Int32).toInt ≤ 800) (h_m_size : 0 ≤ (m_size : Int32).toInt ∧ (m_size : Int32).toInt ≤ 800) (h_m_at : 0 ≤ (m_at : Int32).toInt ∧ (m_at : Int32).toInt ≤ 800) (h_m_from : 0 ≤ (m_from : Int32).toInt ∧ (m_from : Int32).toInt ≤ 800) (h_m_saidMany : 0 ≤ (m_saidMany : Int32).toInt ∧ (m_saidMany : Int32).toInt ≤ 60) (h_m_tiredMany : 0 ≤ (m_tiredMany : Int32).toInt ∧ (m_tiredMany : Int32).toInt ≤ 240) (a_m_cworld_0 : WI m_cworld) : Met l yX12_once (Cond.code yX12_once cX12_once 2 (some .int) :: TB) (rmd 4 0 0) (PP D cA [(h0, .inr (12, [.int m_thrown, .ref m_qworld, .ref m_qimages, .ref m_qhasImage, .ref m_qtape, .int m_taped, .ref m_qfive, .int m_size, .int m_at, .int m_from, .int m_token, .int m_value, .int m_faultKind, .int m_faultPlace, .ref m_qfresh, .int m_startOne, .int m_startOther, .int m_latest, .int m_leftBeats, .int m_signed, .int m_metMany, .ref m_qsums, .ref m_qpairs, .ref m_qgoesWith, .ref m_qsaid, .int m_saidMany, .int m_firstWait, .ref m_qfirstOrder, .int m_bundleFirst, .ref m_qtiredBy, .int m_tiredMany, .ref m_qmany, .ref m_qwidth, .ref m_qnumbers, .ref m_qmoving])), (m_qworld, .inl (cA 1, 122, .inl m_cworld))] [.ref h0, .int p0]) (vp_Si (fun r => True)) 0 0 (fun _ => False) := by
  refine Met.ofW (cc := cX12_once) (maxL := 2) (ret := (some .int)) (by decide) rfl ?_
  intro p e s m args below meth c s₁ B hml hv
  obtain ⟨rfl, hP, hKN⟩ := hv
  have hx := B.exec
  have hb := B.bytes
  have hr := B.returns
  have hts : ∀ w ∈ TB, w.before _ s = true := fun w h => atoms_spec B.pre w (List.mem_cons_of_mem _ h)
  have hown : s.vm.findClass RX12 = some m.cls := findClass_of_methodNamed B.named
  have hlocks := B.notSynchronized
  have hl := lv_entry ([.ref h0, .int p0]) (n := 2) (Nat.le_of_ble_eq_true rfl)
  rw [lg_entry_eq]
  generalize (lg_sl ([.ref h0, .int p0]) ++ List.replicate (2 - (lg_sl ([.ref h0, .int p0])).length) Slot.unset).toArray = ls at hl ⊢
  have hl : lv_has ls 2 [(0, .ref h0), (1, .int p0)] := hl
  refine lv_aload_n hx hb dX12_once_0 rfl (lv_at hl 0 rfl) ?_
  refine lv_iload_n hx hb dX12_once_1 rfl (lv_at hl 1 rfl) ?_
  refine lv_iconst (v := 0) hx hb dX12_once_2 (by decide) ?_
  have z_1 := zi_0
  refine cpVi (rest := []) ⟨hx, hb, hml, hown, hts⟩ hKN (hP.sub (ws' := [(h0, .inr (12, [.int m_thrown, .ref m_qworld, .ref m_qimages, .ref m_qhasImage, .ref m_qtape, .int m_taped, .ref m_qfive, .int m_size, .int m_at, .int m_from, .int m_token, .int m_value, .int m_faultKind, .int m_faultPlace, .ref m_qfresh, .int m_startOne, .int m_startOther, .int m_latest, .int m_leftBeats, .int m_signed, .int m_metMany, .ref m_qsums, .ref m_qpairs, .ref m_qgoesWith, .ref m_qsaid, .int m_saidMany, .int m_firstWait, .ref m_qfirstOrder, .int m_bundleFirst, .ref m_qtiredBy, .int m_tiredMany, .ref m_qmany, .ref m_qwidth, .ref m_qnumbers, .ref m_qmoving])), (m_qworld, .inl (cA 1, 122, .inl m_cworld))]) [0, 1] rfl) (g_X12_isHold l D cA h0 m_thrown m_qworld m_qimages m_qhasImage m_qtape m_taped m_qfive m_size m_at m_from m_token m_value m_faultKind m_faultPlace m_qfresh m_startOne m_startOther m_latest m_leftBeats m_signed m_metMany m_qsums m_qpairs m_qgoesWith m_qsaid m_saidMany m_firstWait m_qfirstOrder m_bundleFirst m_qtiredBy m_tiredMany m_qmany m_qwidth m_qnumbers m_qmoving m_cworld p0 0 (by omega) (by omega) (by omega) (by omega) (by omega) (by omega) a_m_cworld_0) (tb_V tw_1871 tw_1873 tw_78 tw_114 tw_1874) hdX12_isHold ⟨rfl, rfl, Nat.le_of_ble_eq_true rfl, Nat.le_of_ble_eq_true rfl⟩ ⟨Nat.le_of_ble_eq_true rfl, Nat.le_of_ble_eq_true rfl⟩ rfl rfl rfl hl.1 rfl (Nat.le_of_ble_eq_true rfl) dX12_once_3 (fun r_2 hr_2 => ?_)
  rcases hr_2 with ⟨k_2_0_0, k_2_0_1, k_2_0_2, k_2_0_3, k_2_0_4, k_2_0_5, rfl⟩ | rfl
  · skip
    refine lv_if_eq (tgt := 21) hx hb dX12_once_6 (by decide) (fun c_3 => absurd c_3 (by decide)) (fun c_3 => ?_)
    refine lv_aload_n hx hb dX12_once_9 rfl (lv_at hl 0 rfl) ?_
    refine lv_aload_n hx hb dX12_once_10 rfl (lv_at hl 0 rfl) ?_
    refine lv_iload_n hx hb dX12_once_11 rfl (lv_at hl 1 rfl) ?_
    refine cpVi (rest := [.ref h0]) ⟨hx, hb, hml, hown, hts⟩ hKN (hP.sub (ws' := [(h0, .inr (12, [.int m_thrown, .ref m_qworld, .ref m_qimages, .ref m_qhasImage, .ref m_qtape, .int m_taped, .ref m_qfive, .int m_size, .int m_at, .int m_from, .int m_token, .int m_value, .int m_faultKind, .int m_faultPlace, .ref m_qfresh, .int m_startOne, .int m_startOther, .int m_latest, .int m_leftBeats, .int m_signed, .int m_metMany, .ref m_qsums, .ref m_qpairs, .ref m_qgoesWith, .ref m_qsaid, .int m_saidMany, .int m_firstWait, .ref m_qfirstOrder, .int m_bundleFirst, .ref m_qtiredBy, .int m_tiredMany, .ref m_qmany, .ref m_qwidth, .ref m_qnumbers, .ref m_qmoving])), (m_qworld, .inl (cA 1, 122, .inl m_cworld))]) [0, 1] rfl) (g_X12_onceOf l D cA h0 m_thrown m_qworld m_qimages m_qhasImage m_qtape m_taped m_qfive m_size m_at m_from m_token m_value m_faultKind m_faultPlace m_qfresh m_startOne m_startOther m_latest m_leftBeats m_signed m_metMany m_qsums m_qpairs m_qgoesWith m_qsaid m_saidMany m_firstWait m_qfirstOrder m_bundleFirst m_qtiredBy m_tiredMany m_qmany m_qwidth m_qnumbers m_qmoving m_cworld p0 (by omega) (by omega) (by omega) (by omega) (by omega) (by omega) a_m_cworld_0) (tb_V tw_1927 tw_1929 tw_85 tw_114 tw_1930) hdX12_onceOf ⟨rfl, rfl, Nat.le_of_ble_eq_true rfl, Nat.le_of_ble_eq_true rfl⟩ ⟨Nat.le_of_ble_eq_true rfl, Nat.le_of_ble_eq_true rfl⟩ rfl rfl rfl hl.1 rfl (Nat.le_of_ble_eq_true rfl) dX12_once_12 (fun r_4 hr_4 => ?_)
    refine cpVi (rest := []) ⟨hx, hb, hml, hown, hts⟩ hKN (hP.sub (ws' := [(h0, .inr (12, [.int m_thrown, .ref m_qworld, .ref m_qimages, .ref m_qhasImage, .ref m_qtape, .int m_taped, .ref m_qfive, .int m_size, .int m_at, .int m_from, .int m_token, .int m_value, .int m_faultKind, .int m_faultPlace, .ref m_qfresh, .int m_startOne, .int m_startOther, .int m_latest, .int m_leftBeats, .int m_signed, .int m_metMany, .ref m_qsums, .ref m_qpairs, .ref m_qgoesWith, .ref m_qsaid, .int m_saidMany, .int m_firstWait, .ref m_qfirstOrder, .int m_bundleFirst, .ref m_qtiredBy, .int m_tiredMany, .ref m_qmany, .ref m_qwidth, .ref m_qnumbers, .ref m_qmoving])), (m_qworld, .inl (cA 1, 122, .inl m_cworld))]) [0, 1] rfl) (g_X12_bothOf l D cA h0 m_thrown m_qworld m_qimages m_qhasImage m_qtape m_taped m_qfive m_size m_at m_from m_token m_value m_faultKind m_faultPlace m_qfresh m_startOne m_startOther m_latest m_leftBeats m_signed m_metMany m_qsums m_qpairs m_qgoesWith m_qsaid m_saidMany m_firstWait m_qfirstOrder m_bundleFirst m_qtiredBy m_tiredMany m_qmany m_qwidth m_qnumbers m_qmoving m_cworld r_4 (by omega) (by omega) (by omega) (by omega) (by omega) (by omega) a_m_cworld_0) (tb_V tw_1931 tw_1933 tw_86 tw_114 tw_1934) hdX12_bothOf ⟨rfl, rfl, Nat.le_of_ble_eq_true rfl, Nat.le_of_ble_eq_true rfl⟩ ⟨Nat.le_of_ble_eq_true rfl, Nat.le_of_ble_eq_true rfl⟩ rfl rfl rfl hl.1 rfl (Nat.le_of_ble_eq_true rfl) dX12_once_15 (fun r_5 hr_5 => ?_)
    refine lv_goto (tgt := 23) hx hb dX12_once_18 (by decide) ?_
    exact W.iret (v := r_5) hx hb hr (fun t ht hW => ⟨r_5, rfl, trivial, ht⟩) (fun _ h => by cases h) dX12_once_23
  · skip
    refine lv_if_eq (tgt := 21) hx hb dX12_once_6 (by decide) (fun c_6 => ?_) (fun c_6 => absurd (by decide) c_6)
    refine lv_bipush (v := (-2)) hx hb dX12_once_21 (by decide) ?_
    exact W.iret (v := (-2)) hx hb hr (fun t ht hW => ⟨(-2), rfl, trivial, ht⟩) (fun _ h => by cases h) dX12_once_23
set_option maxHeartbeats 8000000 in
set_option maxRecDepth 100000 in
theorem g_X12_onces (l : Launch) (D : va_G) (cA : Nat → ClassId) (h0 : Nat) (m_thrown : Int32) (m_qworld : Nat) (m_qimages : Nat) (m_qhasImage : Nat) (m_qtape : Nat) (m_taped : Int32) (m_qfive : Nat) (m_size : Int32) (m_at : Int32) (m_from : Int32) (m_token : Int32) (m_value : Int32) (m_faultKind : Int32) (m_faultPlace : Int32) (m_qfresh : Nat) (m_startOne : Int32) (m_startOther : Int32) (m_latest : Int32) (m_leftBeats : Int32) (m_signed : Int32) (m_metMany : Int32) (m_qsums : Nat) (m_qpairs : Nat) (m_qgoesWith : Nat) (m_qsaid : Nat) (m_saidMany : Int32) (m_firstWait : Int32) (m_qfirstOrder : Nat) (m_bundleFirst : Int32) (m_qtiredBy : Nat) (m_tiredMany : Int32) (m_qmany : Nat) (m_qwidth : Nat) (m_qnumbers : Nat) (m_qmoving : Nat) (m_cworld : Nat → Int32) (p0 : Int32) (h_m_taped : 0 ≤ (m_taped : Int32).toInt ∧ (m_taped : Int32).toInt ≤ 800) (h_m_size : 0 ≤ (m_size : Int32).toInt ∧ (m_size : Int32).toInt ≤ 800) (h_m_at : 0 ≤ (m_at : Int32).toInt ∧ (m_at : Int32).toInt ≤ 800) (h_m_from : 0 ≤ (m_from : Int32).toInt ∧ (m_from : Int32).toInt ≤ 800) (h_m_saidMany : 0 ≤ (m_saidMany : Int32).toInt ∧ (m_saidMany : Int32).toInt ≤ 60) (h_m_tiredMany : 0 ≤ (m_tiredMany : Int32).toInt ∧ (m_tiredMany : Int32).toInt ≤ 240) (a_m_cworld_0 : WI m_cworld) : Met l yX12_onces (Cond.code yX12_onces cX12_onces 2 (some .int) :: TB) (rmd 4 0 0) (PP D cA [(h0, .inr (12, [.int m_thrown, .ref m_qworld, .ref m_qimages, .ref m_qhasImage, .ref m_qtape, .int m_taped, .ref m_qfive, .int m_size, .int m_at, .int m_from, .int m_token, .int m_value, .int m_faultKind, .int m_faultPlace, .ref m_qfresh, .int m_startOne, .int m_startOther, .int m_latest, .int m_leftBeats, .int m_signed, .int m_metMany, .ref m_qsums, .ref m_qpairs, .ref m_qgoesWith, .ref m_qsaid, .int m_saidMany, .int m_firstWait, .ref m_qfirstOrder, .int m_bundleFirst, .ref m_qtiredBy, .int m_tiredMany, .ref m_qmany, .ref m_qwidth, .ref m_qnumbers, .ref m_qmoving])), (m_qworld, .inl (cA 1, 122, .inl m_cworld))] [.ref h0, .int p0]) (vp_Si (fun r => -2 ≤ r.toInt ∧ r.toInt ≤ 127)) 0 0 (fun _ => False) := by
  refine Met.ofW (cc := cX12_onces) (maxL := 2) (ret := (some .int)) (by decide) rfl ?_
  intro p e s m args below meth c s₁ B hml hv
  obtain ⟨rfl, hP, hKN⟩ := hv
  have hx := B.exec
  have hb := B.bytes
  have hr := B.returns
  have hts : ∀ w ∈ TB, w.before _ s = true := fun w h => atoms_spec B.pre w (List.mem_cons_of_mem _ h)
  have hown : s.vm.findClass RX12 = some m.cls := findClass_of_methodNamed B.named
  have hlocks := B.notSynchronized
  have hl := lv_entry ([.ref h0, .int p0]) (n := 2) (Nat.le_of_ble_eq_true rfl)
  rw [lg_entry_eq]
  generalize (lg_sl ([.ref h0, .int p0]) ++ List.replicate (2 - (lg_sl ([.ref h0, .int p0])).length) Slot.unset).toArray = ls at hl ⊢
  have hl : lv_has ls 2 [(0, .ref h0), (1, .int p0)] := hl
  refine lv_aload_n hx hb dX12_onces_0 rfl (lv_at hl 0 rfl) ?_
  refine lv_iload_n hx hb dX12_onces_1 rfl (lv_at hl 1 rfl) ?_
  refine lv_iconst (v := 0) hx hb dX12_onces_2 (by decide) ?_
  have z_1 := zi_0
  refine cpVi (rest := []) ⟨hx, hb, hml, hown, hts⟩ hKN (hP.sub (ws' := [(h0, .inr (12, [.int m_thrown, .ref m_qworld, .ref m_qimages, .ref m_qhasImage, .ref m_qtape, .int m_taped, .ref m_qfive, .int m_size, .int m_at, .int m_from, .int m_token, .int m_value, .int m_faultKind, .int m_faultPlace, .ref m_qfresh, .int m_startOne, .int m_startOther, .int m_latest, .int m_leftBeats, .int m_signed, .int m_metMany, .ref m_qsums, .ref m_qpairs, .ref m_qgoesWith, .ref m_qsaid, .int m_saidMany, .int m_firstWait, .ref m_qfirstOrder, .int m_bundleFirst, .ref m_qtiredBy, .int m_tiredMany, .ref m_qmany, .ref m_qwidth, .ref m_qnumbers, .ref m_qmoving])), (m_qworld, .inl (cA 1, 122, .inl m_cworld))]) [0, 1] rfl) (g_X12_isHold l D cA h0 m_thrown m_qworld m_qimages m_qhasImage m_qtape m_taped m_qfive m_size m_at m_from m_token m_value m_faultKind m_faultPlace m_qfresh m_startOne m_startOther m_latest m_leftBeats m_signed m_metMany m_qsums m_qpairs m_qgoesWith m_qsaid m_saidMany m_firstWait m_qfirstOrder m_bundleFirst m_qtiredBy m_tiredMany m_qmany m_qwidth m_qnumbers m_qmoving m_cworld p0 0 (by omega) (by omega) (by omega) (by omega) (by omega) (by omega) a_m_cworld_0) (tb_V tw_1871 tw_1873 tw_78 tw_114 tw_1874) hdX12_isHold ⟨rfl, rfl, Nat.le_of_ble_eq_true rfl, Nat.le_of_ble_eq_true rfl⟩ ⟨Nat.le_of_ble_eq_true rfl, Nat.le_of_ble_eq_true rfl⟩ rfl rfl rfl hl.1 rfl (Nat.le_of_ble_eq_true rfl) dX12_onces_3 (fun r_2 hr_2 => ?_)
  rcases hr_2 with ⟨k_2_0_0, k_2_0_1, k_2_0_2, k_2_0_3, k_2_0_4, k_2_0_5, rfl⟩ | rfl
  · skip
    refine lv_if_eq (tgt := 17) hx hb dX12_onces_6 (by decide) (fun c_3 => absurd c_3 (by decide)) (fun c_3 => ?_)
    refine lv_aload_n hx hb dX12_onces_9 rfl (lv_at hl 0 rfl) ?_
    refine lv_iload_n hx hb dX12_onces_10 rfl (lv_at hl 1 rfl) ?_
    refine cpVi (rest := []) ⟨hx, hb, hml, hown, hts⟩ hKN (hP.sub (ws' := [(h0, .inr (12, [.int m_thrown, .ref m_qworld, .ref m_qimages, .ref m_qhasImage, .ref m_qtape, .int m_taped, .ref m_qfive, .int m_size, .int m_at, .int m_from, .int m_token, .int m_value, .int m_faultKind, .int m_faultPlace, .ref m_qfresh, .int m_startOne, .int m_startOther, .int m_latest, .int m_leftBeats, .int m_signed, .int m_metMany, .ref m_qsums, .ref m_qpairs, .ref m_qgoesWith, .ref m_qsaid, .int m_saidMany, .int m_firstWait, .ref m_qfirstOrder, .int m_bundleFirst, .ref m_qtiredBy, .int m_tiredMany, .ref m_qmany, .ref m_qwidth, .ref m_qnumbers, .ref m_qmoving])), (m_qworld, .inl (cA 1, 122, .inl m_cworld))]) [0, 1] rfl) (g_X12_onceOf l D cA h0 m_thrown m_qworld m_qimages m_qhasImage m_qtape m_taped m_qfive m_size m_at m_from m_token m_value m_faultKind m_faultPlace m_qfresh m_startOne m_startOther m_latest m_leftBeats m_signed m_metMany m_qsums m_qpairs m_qgoesWith m_qsaid m_saidMany m_firstWait m_qfirstOrder m_bundleFirst m_qtiredBy m_tiredMany m_qmany m_qwidth m_qnumbers m_qmoving m_cworld p0 (by omega) (by omega) (by omega) (by omega) (by omega) (by omega) a_m_cworld_0) (tb_V tw_1927 tw_1929 tw_85 tw_114 tw_1930) hdX12_onceOf ⟨rfl, rfl, Nat.le_of_ble_eq_true rfl, Nat.le_of_ble_eq_true rfl⟩ ⟨Nat.le_of_ble_eq_true rfl, Nat.le_of_ble_eq_true rfl⟩ rfl rfl rfl hl.1 rfl (Nat.le_of_ble_eq_true rfl) dX12_onces_11 (fun r_4 hr_4 => ?_)
    refine lv_goto (tgt := 19) hx hb dX12_onces_14 (by decide) ?_
    exact W.iret (v := r_4) hx hb hr (fun t ht hW => ⟨r_4, rfl, (show -2 ≤ r_4.toInt ∧ r_4.toInt ≤ 127 from by omega), ht⟩) (fun _ h => by cases h) dX12_onces_19
  · skip
    refine lv_if_eq (tgt := 17) hx hb dX12_onces_6 (by decide) (fun c_5 => ?_) (fun c_5 => absurd (by decide) c_5)
    refine lv_bipush (v := (-2)) hx hb dX12_onces_17 (by decide) ?_
    exact W.iret (v := (-2)) hx hb hr (fun t ht hW => ⟨(-2), rfl, (show -2 ≤ ((-2) : Int32).toInt ∧ ((-2) : Int32).toInt ≤ 127 from by decide), ht⟩) (fun _ h => by cases h) dX12_onces_19
set_option maxHeartbeats 8000000 in
set_option maxRecDepth 100000 in
theorem g_X12_worth (l : Launch) (D : va_G) (cA : Nat → ClassId) (h0 : Nat) (m_thrown : Int32) (m_qworld : Nat) (m_qimages : Nat) (m_qhasImage : Nat) (m_qtape : Nat) (m_taped : Int32) (m_qfive : Nat) (m_size : Int32) (m_at : Int32) (m_from : Int32) (m_token : Int32) (m_value : Int32) (m_faultKind : Int32) (m_faultPlace : Int32) (m_qfresh : Nat) (m_startOne : Int32) (m_startOther : Int32) (m_latest : Int32) (m_leftBeats : Int32) (m_signed : Int32) (m_metMany : Int32) (m_qsums : Nat) (m_qpairs : Nat) (m_qgoesWith : Nat) (m_qsaid : Nat) (m_saidMany : Int32) (m_firstWait : Int32) (m_qfirstOrder : Nat) (m_bundleFirst : Int32) (m_qtiredBy : Nat) (m_tiredMany : Int32) (m_qmany : Nat) (m_qwidth : Nat) (m_qnumbers : Nat) (m_qmoving : Nat) (m_cworld : Nat → Int32) (p0 : Int32) (p1 : Int32) (h_m_taped : 0 ≤ (m_taped : Int32).toInt ∧ (m_taped : Int32).toInt ≤ 800) (h_m_size : 0 ≤ (m_size : Int32).toInt ∧ (m_size : Int32).toInt ≤ 800) (h_m_at : 0 ≤ (m_at : Int32).toInt ∧ (m_at : Int32).toInt ≤ 800) (h_m_from : 0 ≤ (m_from : Int32).toInt ∧ (m_from : Int32).toInt ≤ 800) (h_m_saidMany : 0 ≤ (m_saidMany : Int32).toInt ∧ (m_saidMany : Int32).toInt ≤ 60) (h_m_tiredMany : 0 ≤ (m_tiredMany : Int32).toInt ∧ (m_tiredMany : Int32).toInt ≤ 240) (a_m_cworld_0 : WI m_cworld) : Met l yX12_worth (Cond.code yX12_worth cX12_worth 3 (some .int) :: TB) (rmd 2 0 0) (PP D cA [(h0, .inr (12, [.int m_thrown, .ref m_qworld, .ref m_qimages, .ref m_qhasImage, .ref m_qtape, .int m_taped, .ref m_qfive, .int m_size, .int m_at, .int m_from, .int m_token, .int m_value, .int m_faultKind, .int m_faultPlace, .ref m_qfresh, .int m_startOne, .int m_startOther, .int m_latest, .int m_leftBeats, .int m_signed, .int m_metMany, .ref m_qsums, .ref m_qpairs, .ref m_qgoesWith, .ref m_qsaid, .int m_saidMany, .int m_firstWait, .ref m_qfirstOrder, .int m_bundleFirst, .ref m_qtiredBy, .int m_tiredMany, .ref m_qmany, .ref m_qwidth, .ref m_qnumbers, .ref m_qmoving])), (m_qworld, .inl (cA 1, 122, .inl m_cworld))] [.ref h0, .int p0, .int p1]) (vp_Si (fun r => True)) 0 0 (fun _ => False) := by
  refine Met.ofW (cc := cX12_worth) (maxL := 3) (ret := (some .int)) (by decide) rfl ?_
  intro p e s m args below meth c s₁ B hml hv
  obtain ⟨rfl, hP, hKN⟩ := hv
  have hx := B.exec
  have hb := B.bytes
  have hr := B.returns
  have hts : ∀ w ∈ TB, w.before _ s = true := fun w h => atoms_spec B.pre w (List.mem_cons_of_mem _ h)
  have hown : s.vm.findClass RX12 = some m.cls := findClass_of_methodNamed B.named
  have hlocks := B.notSynchronized
  have hl := lv_entry ([.ref h0, .int p0, .int p1]) (n := 3) (Nat.le_of_ble_eq_true rfl)
  rw [lg_entry_eq]
  generalize (lg_sl ([.ref h0, .int p0, .int p1]) ++ List.replicate (3 - (lg_sl ([.ref h0, .int p0, .int p1])).length) Slot.unset).toArray = ls at hl ⊢
  have hl : lv_has ls 3 [(0, .ref h0), (1, .int p0), (2, .int p1)] := hl
  refine lv_aload_n hx hb dX12_worth_0 rfl (lv_at hl 0 rfl) ?_
  refine lv_iload_n hx hb dX12_worth_1 rfl (lv_at hl 2 rfl) ?_
  refine cpVi (rest := []) ⟨hx, hb, hml, hown, hts⟩ hKN (hP.sub (ws' := [(h0, .inr (12, [.int m_thrown, .ref m_qworld, .ref m_qimages, .ref m_qhasImage, .ref m_qtape, .int m_taped, .ref m_qfive, .int m_size, .int m_at, .int m_from, .int m_token, .int m_value, .int m_faultKind, .int m_faultPlace, .ref m_qfresh, .int m_startOne, .int m_startOther, .int m_latest, .int m_leftBeats, .int m_signed, .int m_metMany, .ref m_qsums, .ref m_qpairs, .ref m_qgoesWith, .ref m_qsaid, .int m_saidMany, .int m_firstWait, .ref m_qfirstOrder, .int m_bundleFirst, .ref m_qtiredBy, .int m_tiredMany, .ref m_qmany, .ref m_qwidth, .ref m_qnumbers, .ref m_qmoving])), (m_qworld, .inl (cA 1, 122, .inl m_cworld))]) [0, 1] rfl) (g_X12_isSide l D cA h0 m_thrown m_qworld m_qimages m_qhasImage m_qtape m_taped m_qfive m_size m_at m_from m_token m_value m_faultKind m_faultPlace m_qfresh m_startOne m_startOther m_latest m_leftBeats m_signed m_metMany m_qsums m_qpairs m_qgoesWith m_qsaid m_saidMany m_firstWait m_qfirstOrder m_bundleFirst m_qtiredBy m_tiredMany m_qmany m_qwidth m_qnumbers m_qmoving m_cworld p1 (by omega) (by omega) (by omega) (by omega) (by omega) (by omega) a_m_cworld_0) (tb_V tw_1660 tw_1662 tw_53 tw_114 tw_1663) hdX12_isSide ⟨rfl, rfl, Nat.le_of_ble_eq_true rfl, Nat.le_of_ble_eq_true rfl⟩ ⟨Nat.le_of_ble_eq_true rfl, Nat.le_of_ble_eq_true rfl⟩ rfl rfl rfl hl.1 rfl (Nat.le_of_ble_eq_true rfl) dX12_worth_2 (fun r_1 hr_1 => ?_)
  rcases hr_1 with ⟨k_1_0_0, k_1_0_1, k_1_0_2, k_1_0_3, k_1_0_4, k_1_0_5, rfl⟩ | rfl
  · skip
    refine lv_if_eq (tgt := 31) hx hb dX12_worth_5 (by decide) (fun c_2 => absurd c_2 (by decide)) (fun c_2 => ?_)
    refine lv_iload_n hx hb dX12_worth_8 rfl (lv_at hl 1 rfl) ?_
    obtain ⟨x_3, ex_3⟩ : ∃ y, p0.toInt64 = y := ⟨_, rfl⟩
    refine lv_i2l (v := x_3) hx hb dX12_worth_9 ex_3 ?_
    have k_4 := tt_i2l ex_3
    refine lv_lconst (v := 0) hx hb dX12_worth_10 (by decide) ?_
    refine lv_aload_n hx hb dX12_worth_11 rfl (lv_at hl 0 rfl) ?_
    refine cpVi (rest := [.long 0, .long x_3]) ⟨hx, hb, hml, hown, hts⟩ hKN (hP.sub (ws' := [(h0, .inr (12, [.int m_thrown, .ref m_qworld, .ref m_qimages, .ref m_qhasImage, .ref m_qtape, .int m_taped, .ref m_qfive, .int m_size, .int m_at, .int m_from, .int m_token, .int m_value, .int m_faultKind, .int m_faultPlace, .ref m_qfresh, .int m_startOne, .int m_startOther, .int m_latest, .int m_leftBeats, .int m_signed, .int m_metMany, .ref m_qsums, .ref m_qpairs, .ref m_qgoesWith, .ref m_qsaid, .int m_saidMany, .int m_firstWait, .ref m_qfirstOrder, .int m_bundleFirst, .ref m_qtiredBy, .int m_tiredMany, .ref m_qmany, .ref m_qwidth, .ref m_qnumbers, .ref m_qmoving])), (m_qworld, .inl (cA 1, 122, .inl m_cworld))]) [0, 1] rfl) (g_X12_allClauses l D cA h0 m_thrown m_qworld m_qimages m_qhasImage m_qtape m_taped m_qfive m_size m_at m_from m_token m_value m_faultKind m_faultPlace m_qfresh m_startOne m_startOther m_latest m_leftBeats m_signed m_metMany m_qsums m_qpairs m_qgoesWith m_qsaid m_saidMany m_firstWait m_qfirstOrder m_bundleFirst m_qtiredBy m_tiredMany m_qmany m_qwidth m_qnumbers m_qmoving m_cworld (by omega) (by omega) (by omega) (by omega) (by omega) (by omega) a_m_cworld_0) (tb_V tw_1908 tw_1910 tw_83 tw_114 tw_1911) hdX12_allClauses ⟨rfl, rfl, Nat.le_of_ble_eq_true rfl, Nat.le_of_ble_eq_true rfl⟩ ⟨Nat.le_of_ble_eq_true rfl, Nat.le_of_ble_eq_true rfl⟩ rfl rfl rfl hl.1 rfl (Nat.le_of_ble_eq_true rfl) dX12_worth_12 (fun r_5 hr_5 => ?_)
    obtain ⟨x_6, ex_6⟩ : ∃ y, r_5.toInt64 = y := ⟨_, rfl⟩
    refine lv_i2l (v := x_6) hx hb dX12_worth_15 ex_6 ?_
    have k_7 := tt_i2l ex_6
    have z_8 := zj_0
    refine cpSi (rest := []) ⟨hx, hb, hml, hown, hts⟩ hKN (hP.sub (ws' := []) [] rfl) (g_X12_in l D cA x_3 0 x_6) (tb_S tw_1530 tw_1531 tw_114 tw_1532) hdX12_in ⟨rfl, rfl, Nat.le_of_ble_eq_true rfl, Nat.le_of_ble_eq_true rfl⟩ ⟨Nat.le_of_ble_eq_true rfl, Nat.le_of_ble_eq_true rfl⟩ rfl hl.1 rfl (Nat.le_of_ble_eq_true rfl) dX12_worth_16 (fun r_9 hr_9 => ?_)
    rcases hr_9 with ⟨k_9_0_0, k_9_0_1, rfl⟩ | ⟨k_9_1_0, rfl⟩
    · skip
      refine lv_if_eq (tgt := 31) hx hb dX12_worth_19 (by decide) (fun c_10 => absurd c_10 (by decide)) (fun c_10 => ?_)
      refine lv_aload_n hx hb dX12_worth_22 rfl (lv_at hl 0 rfl) ?_
      refine lv_iload_n hx hb dX12_worth_23 rfl (lv_at hl 1 rfl) ?_
      refine lv_iload_n hx hb dX12_worth_24 rfl (lv_at hl 2 rfl) ?_
      refine cpVi (rest := []) ⟨hx, hb, hml, hown, hts⟩ hKN (hP.sub (ws' := [(h0, .inr (12, [.int m_thrown, .ref m_qworld, .ref m_qimages, .ref m_qhasImage, .ref m_qtape, .int m_taped, .ref m_qfive, .int m_size, .int m_at, .int m_from, .int m_token, .int m_value, .int m_faultKind, .int m_faultPlace, .ref m_qfresh, .int m_startOne, .int m_startOther, .int m_latest, .int m_leftBeats, .int m_signed, .int m_metMany, .ref m_qsums, .ref m_qpairs, .ref m_qgoesWith, .ref m_qsaid, .int m_saidMany, .int m_firstWait, .ref m_qfirstOrder, .int m_bundleFirst, .ref m_qtiredBy, .int m_tiredMany, .ref m_qmany, .ref m_qwidth, .ref m_qnumbers, .ref m_qmoving])), (m_qworld, .inl (cA 1, 122, .inl m_cworld))]) [0, 1] rfl) (g_X12_worthOf l D cA h0 m_thrown m_qworld m_qimages m_qhasImage m_qtape m_taped m_qfive m_size m_at m_from m_token m_value m_faultKind m_faultPlace m_qfresh m_startOne m_startOther m_latest m_leftBeats m_signed m_metMany m_qsums m_qpairs m_qgoesWith m_qsaid m_saidMany m_firstWait m_qfirstOrder m_bundleFirst m_qtiredBy m_tiredMany m_qmany m_qwidth m_qnumbers m_qmoving m_cworld p0 p1 (by omega) (by omega) (by omega) (by omega) (by omega) (by omega) (by omega) a_m_cworld_0) (tb_V tw_1935 tw_1937 tw_87 tw_114 tw_1938) hdX12_worthOf ⟨rfl, rfl, Nat.le_of_ble_eq_true rfl, Nat.le_of_ble_eq_true rfl⟩ ⟨Nat.le_of_ble_eq_true rfl, Nat.le_of_ble_eq_true rfl⟩ rfl rfl rfl hl.1 rfl (Nat.le_of_ble_eq_true rfl) dX12_worth_25 (fun r_11 hr_11 => ?_)
      refine lv_goto (tgt := 34) hx hb dX12_worth_28 (by decide) ?_
      exact W.iret (v := r_11) hx hb hr (fun t ht hW => ⟨r_11, rfl, trivial, ht⟩) (fun _ h => by cases h) dX12_worth_34
    · skip
      refine lv_if_eq (tgt := 31) hx hb dX12_worth_19 (by decide) (fun c_12 => ?_) (fun c_12 => absurd (by decide) c_12)
      refine lv_sipush (v := (-1000)) hx hb dX12_worth_31 (by decide) ?_
      exact W.iret (v := (-1000)) hx hb hr (fun t ht hW => ⟨(-1000), rfl, trivial, ht⟩) (fun _ h => by cases h) dX12_worth_34
  · skip
    refine lv_if_eq (tgt := 31) hx hb dX12_worth_5 (by decide) (fun c_13 => ?_) (fun c_13 => absurd (by decide) c_13)
    refine lv_sipush (v := (-1000)) hx hb dX12_worth_31 (by decide) ?_
    exact W.iret (v := (-1000)) hx hb hr (fun t ht hW => ⟨(-1000), rfl, trivial, ht⟩) (fun _ h => by cases h) dX12_worth_34
set_option maxHeartbeats 8000000 in
set_option maxRecDepth 100000 in
theorem g_X12_isSigned (l : Launch) (D : va_G) (cA : Nat → ClassId) (h0 : Nat) (m_thrown : Int32) (m_qworld : Nat) (m_qimages : Nat) (m_qhasImage : Nat) (m_qtape : Nat) (m_taped : Int32) (m_qfive : Nat) (m_size : Int32) (m_at : Int32) (m_from : Int32) (m_token : Int32) (m_value : Int32) (m_faultKind : Int32) (m_faultPlace : Int32) (m_qfresh : Nat) (m_startOne : Int32) (m_startOther : Int32) (m_latest : Int32) (m_leftBeats : Int32) (m_signed : Int32) (m_metMany : Int32) (m_qsums : Nat) (m_qpairs : Nat) (m_qgoesWith : Nat) (m_qsaid : Nat) (m_saidMany : Int32) (m_firstWait : Int32) (m_qfirstOrder : Nat) (m_bundleFirst : Int32) (m_qtiredBy : Nat) (m_tiredMany : Int32) (m_qmany : Nat) (m_qwidth : Nat) (m_qnumbers : Nat) (m_qmoving : Nat) (m_cworld : Nat → Int32) (p0 : Int32) (h_m_taped : 0 ≤ (m_taped : Int32).toInt ∧ (m_taped : Int32).toInt ≤ 800) (h_m_size : 0 ≤ (m_size : Int32).toInt ∧ (m_size : Int32).toInt ≤ 800) (h_m_at : 0 ≤ (m_at : Int32).toInt ∧ (m_at : Int32).toInt ≤ 800) (h_m_from : 0 ≤ (m_from : Int32).toInt ∧ (m_from : Int32).toInt ≤ 800) (h_m_saidMany : 0 ≤ (m_saidMany : Int32).toInt ∧ (m_saidMany : Int32).toInt ≤ 60) (h_m_tiredMany : 0 ≤ (m_tiredMany : Int32).toInt ∧ (m_tiredMany : Int32).toInt ≤ 240) (a_m_cworld_0 : WI m_cworld) : Met l yX12_isSigned (Cond.code yX12_isSigned cX12_isSigned 2 (some .boolean) :: TB) (rmd 2 0 0) (PP D cA [(h0, .inr (12, [.int m_thrown, .ref m_qworld, .ref m_qimages, .ref m_qhasImage, .ref m_qtape, .int m_taped, .ref m_qfive, .int m_size, .int m_at, .int m_from, .int m_token, .int m_value, .int m_faultKind, .int m_faultPlace, .ref m_qfresh, .int m_startOne, .int m_startOther, .int m_latest, .int m_leftBeats, .int m_signed, .int m_metMany, .ref m_qsums, .ref m_qpairs, .ref m_qgoesWith, .ref m_qsaid, .int m_saidMany, .int m_firstWait, .ref m_qfirstOrder, .int m_bundleFirst, .ref m_qtiredBy, .int m_tiredMany, .ref m_qmany, .ref m_qwidth, .ref m_qnumbers, .ref m_qmoving])), (m_qworld, .inl (cA 1, 122, .inl m_cworld))] [.ref h0, .int p0]) (vp_Si (fun r => 0 ≤ r.toInt ∧ r.toInt ≤ 1)) 0 0 (fun _ => False) := by
  refine Met.ofW (cc := cX12_isSigned) (maxL := 2) (ret := (some .boolean)) (by decide) rfl ?_
  intro p e s m args below meth c s₁ B hml hv
  obtain ⟨rfl, hP, hKN⟩ := hv
  have hx := B.exec
  have hb := B.bytes
  have hr := B.returns
  have hts : ∀ w ∈ TB, w.before _ s = true := fun w h => atoms_spec B.pre w (List.mem_cons_of_mem _ h)
  have hown : s.vm.findClass RX12 = some m.cls := findClass_of_methodNamed B.named
  have hlocks := B.notSynchronized
  have hl := lv_entry ([.ref h0, .int p0]) (n := 2) (Nat.le_of_ble_eq_true rfl)
  rw [lg_entry_eq]
  generalize (lg_sl ([.ref h0, .int p0]) ++ List.replicate (2 - (lg_sl ([.ref h0, .int p0])).length) Slot.unset).toArray = ls at hl ⊢
  have hl : lv_has ls 2 [(0, .ref h0), (1, .int p0)] := hl
  refine lv_aload_n hx hb dX12_isSigned_0 rfl (lv_at hl 0 rfl) ?_
  refine lv_iload_n hx hb dX12_isSigned_1 rfl (lv_at hl 1 rfl) ?_
  refine lv_iconst (v := 0) hx hb dX12_isSigned_2 (by decide) ?_
  have z_1 := zi_0
  refine cpVi (rest := []) ⟨hx, hb, hml, hown, hts⟩ hKN (hP.sub (ws' := [(h0, .inr (12, [.int m_thrown, .ref m_qworld, .ref m_qimages, .ref m_qhasImage, .ref m_qtape, .int m_taped, .ref m_qfive, .int m_size, .int m_at, .int m_from, .int m_token, .int m_value, .int m_faultKind, .int m_faultPlace, .ref m_qfresh, .int m_startOne, .int m_startOther, .int m_latest, .int m_leftBeats, .int m_signed, .int m_metMany, .ref m_qsums, .ref m_qpairs, .ref m_qgoesWith, .ref m_qsaid, .int m_saidMany, .int m_firstWait, .ref m_qfirstOrder, .int m_bundleFirst, .ref m_qtiredBy, .int m_tiredMany, .ref m_qmany, .ref m_qwidth, .ref m_qnumbers, .ref m_qmoving])), (m_qworld, .inl (cA 1, 122, .inl m_cworld))]) [0, 1] rfl) (g_X12_worthOf l D cA h0 m_thrown m_qworld m_qimages m_qhasImage m_qtape m_taped m_qfive m_size m_at m_from m_token m_value m_faultKind m_faultPlace m_qfresh m_startOne m_startOther m_latest m_leftBeats m_signed m_metMany m_qsums m_qpairs m_qgoesWith m_qsaid m_saidMany m_firstWait m_qfirstOrder m_bundleFirst m_qtiredBy m_tiredMany m_qmany m_qwidth m_qnumbers m_qmoving m_cworld p0 0 (by omega) (by omega) (by omega) (by omega) (by omega) (by omega) (by decide) a_m_cworld_0) (tb_V tw_1935 tw_1937 tw_87 tw_114 tw_1938) hdX12_worthOf ⟨rfl, rfl, Nat.le_of_ble_eq_true rfl, Nat.le_of_ble_eq_true rfl⟩ ⟨Nat.le_of_ble_eq_true rfl, Nat.le_of_ble_eq_true rfl⟩ rfl rfl rfl hl.1 rfl (Nat.le_of_ble_eq_true rfl) dX12_isSigned_3 (fun r_2 hr_2 => ?_)
  refine lv_if_lt (tgt := 22) hx hb dX12_isSigned_6 (by decide) (fun c_3 => ?_) (fun c_3 => ?_)
  · skip
    have b_5 := i32_bd r_2
    have k_4 := kk_lt rfl zi_0 c_3
    refine lv_iconst (v := 0) hx hb dX12_isSigned_22 (by decide) ?_
    exact W.zret (v := 0) hx hb hr (by decide) (fun t ht hW => ⟨0, rfl, (show 0 ≤ (0 : Int32).toInt ∧ (0 : Int32).toInt ≤ 1 from by decide), ht⟩) (fun _ h => by cases h) dX12_isSigned_23
  · skip
    have b_7 := i32_bd r_2
    have k_6 := kk_nlt rfl zi_0 c_3
    refine lv_aload_n hx hb dX12_isSigned_9 rfl (lv_at hl 0 rfl) ?_
    refine lv_iload_n hx hb dX12_isSigned_10 rfl (lv_at hl 1 rfl) ?_
    refine lv_iconst (v := 1) hx hb dX12_isSigned_11 (by decide) ?_
    have z_8 := zi_1
    refine cpVi (rest := []) ⟨hx, hb, hml, hown, hts⟩ hKN (hP.sub (ws' := [(h0, .inr (12, [.int m_thrown, .ref m_qworld, .ref m_qimages, .ref m_qhasImage, .ref m_qtape, .int m_taped, .ref m_qfive, .int m_size, .int m_at, .int m_from, .int m_token, .int m_value, .int m_faultKind, .int m_faultPlace, .ref m_qfresh, .int m_startOne, .int m_startOther, .int m_latest, .int m_leftBeats, .int m_signed, .int m_metMany, .ref m_qsums, .ref m_qpairs, .ref m_qgoesWith, .ref m_qsaid, .int m_saidMany, .int m_firstWait, .ref m_qfirstOrder, .int m_bundleFirst, .ref m_qtiredBy, .int m_tiredMany, .ref m_qmany, .ref m_qwidth, .ref m_qnumbers, .ref m_qmoving])), (m_qworld, .inl (cA 1, 122, .inl m_cworld))]) [0, 1] rfl) (g_X12_worthOf l D cA h0 m_thrown m_qworld m_qimages m_qhasImage m_qtape m_taped m_qfive m_size m_at m_from m_token m_value m_faultKind m_faultPlace m_qfresh m_startOne m_startOther m_latest m_leftBeats m_signed m_metMany m_qsums m_qpairs m_qgoesWith m_qsaid m_saidMany m_firstWait m_qfirstOrder m_bundleFirst m_qtiredBy m_tiredMany m_qmany m_qwidth m_qnumbers m_qmoving m_cworld p0 1 (by omega) (by omega) (by omega) (by omega) (by omega) (by omega) (by decide) a_m_cworld_0) (tb_V tw_1935 tw_1937 tw_87 tw_114 tw_1938) hdX12_worthOf ⟨rfl, rfl, Nat.le_of_ble_eq_true rfl, Nat.le_of_ble_eq_true rfl⟩ ⟨Nat.le_of_ble_eq_true rfl, Nat.le_of_ble_eq_true rfl⟩ rfl rfl rfl hl.1 rfl (Nat.le_of_ble_eq_true rfl) dX12_isSigned_12 (fun r_9 hr_9 => ?_)
    refine lv_if_lt (tgt := 22) hx hb dX12_isSigned_15 (by decide) (fun c_10 => ?_) (fun c_10 => ?_)
    · skip
      have b_12 := i32_bd r_9
      have k_11 := kk_lt rfl zi_0 c_10
      refine lv_iconst (v := 0) hx hb dX12_isSigned_22 (by decide) ?_
      exact W.zret (v := 0) hx hb hr (by decide) (fun t ht hW => ⟨0, rfl, (show 0 ≤ (0 : Int32).toInt ∧ (0 : Int32).toInt ≤ 1 from by decide), ht⟩) (fun _ h => by cases h) dX12_isSigned_23
    · skip
      have b_14 := i32_bd r_9
      have k_13 := kk_nlt rfl zi_0 c_10
      refine lv_iconst (v := 1) hx hb dX12_isSigned_18 (by decide) ?_
      refine lv_goto (tgt := 23) hx hb dX12_isSigned_19 (by decide) ?_
      exact W.zret (v := 1) hx hb hr (by decide) (fun t ht hW => ⟨1, rfl, (show 0 ≤ (1 : Int32).toInt ∧ (1 : Int32).toInt ≤ 1 from by decide), ht⟩) (fun _ h => by cases h) dX12_isSigned_23
set_option maxHeartbeats 8000000 in
set_option maxRecDepth 100000 in
theorem g_X12_signs (l : Launch) (D : va_G) (cA : Nat → ClassId) (h0 : Nat) (m_thrown : Int32) (m_qworld : Nat) (m_qimages : Nat) (m_qhasImage : Nat) (m_qtape : Nat) (m_taped : Int32) (m_qfive : Nat) (m_size : Int32) (m_at : Int32) (m_from : Int32) (m_token : Int32) (m_value : Int32) (m_faultKind : Int32) (m_faultPlace : Int32) (m_qfresh : Nat) (m_startOne : Int32) (m_startOther : Int32) (m_latest : Int32) (m_leftBeats : Int32) (m_signed : Int32) (m_metMany : Int32) (m_qsums : Nat) (m_qpairs : Nat) (m_qgoesWith : Nat) (m_qsaid : Nat) (m_saidMany : Int32) (m_firstWait : Int32) (m_qfirstOrder : Nat) (m_bundleFirst : Int32) (m_qtiredBy : Nat) (m_tiredMany : Int32) (m_qmany : Nat) (m_qwidth : Nat) (m_qnumbers : Nat) (m_qmoving : Nat) (m_cworld : Nat → Int32) (h_m_taped : 0 ≤ (m_taped : Int32).toInt ∧ (m_taped : Int32).toInt ≤ 800) (h_m_size : 0 ≤ (m_size : Int32).toInt ∧ (m_size : Int32).toInt ≤ 800) (h_m_at : 0 ≤ (m_at : Int32).toInt ∧ (m_at : Int32).toInt ≤ 800) (h_m_from : 0 ≤ (m_from : Int32).toInt ∧ (m_from : Int32).toInt ≤ 800) (h_m_saidMany : 0 ≤ (m_saidMany : Int32).toInt ∧ (m_saidMany : Int32).toInt ≤ 60) (h_m_tiredMany : 0 ≤ (m_tiredMany : Int32).toInt ∧ (m_tiredMany : Int32).toInt ≤ 240) (a_m_cworld_0 : WI m_cworld) : Met l yX12_signs (Cond.code yX12_signs cX12_signs 3 (some .int) :: TB) (rmd 3 0 0) (PP D cA [(h0, .inr (12, [.int m_thrown, .ref m_qworld, .ref m_qimages, .ref m_qhasImage, .ref m_qtape, .int m_taped, .ref m_qfive, .int m_size, .int m_at, .int m_from, .int m_token, .int m_value, .int m_faultKind, .int m_faultPlace, .ref m_qfresh, .int m_startOne, .int m_startOther, .int m_latest, .int m_leftBeats, .int m_signed, .int m_metMany, .ref m_qsums, .ref m_qpairs, .ref m_qgoesWith, .ref m_qsaid, .int m_saidMany, .int m_firstWait, .ref m_qfirstOrder, .int m_bundleFirst, .ref m_qtiredBy, .int m_tiredMany, .ref m_qmany, .ref m_qwidth, .ref m_qnumbers, .ref m_qmoving])), (m_qworld, .inl (cA 1, 122, .inl m_cworld))] [.ref h0]) (vp_Si (fun r => True)) 0 0 (fun _ => False) := by
  refine Met.ofW (cc := cX12_signs) (maxL := 3) (ret := (some .int)) (by decide) rfl ?_
  intro p e s m args below meth c s₁ B hml hv
  obtain ⟨rfl, hP, hKN⟩ := hv
  have hx := B.exec
  have hb := B.bytes
  have hr := B.returns
  have hts : ∀ w ∈ TB, w.before _ s = true := fun w h => atoms_spec B.pre w (List.mem_cons_of_mem _ h)
  have hown : s.vm.findClass RX12 = some m.cls := findClass_of_methodNamed B.named
  have hlocks := B.notSynchronized
  have hl := lv_entry ([.ref h0]) (n := 3) (Nat.le_of_ble_eq_true rfl)
  rw [lg_entry_eq]
  generalize (lg_sl ([.ref h0]) ++ List.replicate (3 - (lg_sl ([.ref h0])).length) Slot.unset).toArray = ls at hl ⊢
  have hl : lv_has ls 3 [(0, .ref h0)] := hl
  refine lv_aload_n hx hb dX12_signs_0 rfl (lv_at hl 0 rfl) ?_
  refine cpVi (rest := []) ⟨hx, hb, hml, hown, hts⟩ hKN (hP.sub (ws' := [(h0, .inr (12, [.int m_thrown, .ref m_qworld, .ref m_qimages, .ref m_qhasImage, .ref m_qtape, .int m_taped, .ref m_qfive, .int m_size, .int m_at, .int m_from, .int m_token, .int m_value, .int m_faultKind, .int m_faultPlace, .ref m_qfresh, .int m_startOne, .int m_startOther, .int m_latest, .int m_leftBeats, .int m_signed, .int m_metMany, .ref m_qsums, .ref m_qpairs, .ref m_qgoesWith, .ref m_qsaid, .int m_saidMany, .int m_firstWait, .ref m_qfirstOrder, .int m_bundleFirst, .ref m_qtiredBy, .int m_tiredMany, .ref m_qmany, .ref m_qwidth, .ref m_qnumbers, .ref m_qmoving])), (m_qworld, .inl (cA 1, 122, .inl m_cworld))]) [0, 1] rfl) (g_X12_isGorge l D cA h0 m_thrown m_qworld m_qimages m_qhasImage m_qtape m_taped m_qfive m_size m_at m_from m_token m_value m_faultKind m_faultPlace m_qfresh m_startOne m_startOther m_latest m_leftBeats m_signed m_metMany m_qsums m_qpairs m_qgoesWith m_qsaid m_saidMany m_firstWait m_qfirstOrder m_bundleFirst m_qtiredBy m_tiredMany m_qmany m_qwidth m_qnumbers m_qmoving m_cworld (by omega) (by omega) (by omega) (by omega) (by omega) (by omega) a_m_cworld_0) (tb_V tw_1664 tw_1666 tw_54 tw_114 tw_1667) hdX12_isGorge ⟨rfl, rfl, Nat.le_of_ble_eq_true rfl, Nat.le_of_ble_eq_true rfl⟩ ⟨Nat.le_of_ble_eq_true rfl, Nat.le_of_ble_eq_true rfl⟩ rfl rfl rfl hl.1 rfl (Nat.le_of_ble_eq_true rfl) dX12_signs_1 (fun r_1 hr_1 => ?_)
  rcases hr_1 with ⟨k_1_0_0, k_1_0_1, k_1_0_2, k_1_0_3, rfl⟩ | rfl
  · skip
    refine lv_if_ne (tgt := 10) hx hb dX12_signs_4 (by decide) (fun c_2 => ?_) (fun c_2 => absurd c_2 (by decide))
    refine lv_iconst (v := 0) hx hb dX12_signs_10 (by decide) ?_
    refine lv_istore_n (lv' := [(1, .int 0), (0, .ref h0)]) hx hb dX12_signs_11 rfl hl (by decide) rfl (fun ls hl => ?_)
    refine lv_iconst (v := 0) hx hb dX12_signs_12 (by decide) ?_
    refine lv_istore_n (lv' := [(2, .int 0), (1, .int 0), (0, .ref h0)]) hx hb dX12_signs_13 rfl hl (by decide) rfl (fun ls hl => ?_)
    refine loopW (σ := Int32 × Int32) (fun _ => []) (fun ⟨L2_108, L1_108⟩ H locs ls => (0 ≤ L2_108.toInt ∧ L2_108.toInt ≤ 128) ∧ H = s.heap ∧ locs = [] ∧ lv_has ls 3 [(2, .int L2_108), (1, .int L1_108), (0, .ref h0)]) (fun ⟨L2_108, L1_108⟩ => (2147483647 - L2_108.toInt).toNat) ?_ ((0, 0) : Int32 × Int32) ⟨(by decide), rfl, rfl, hl⟩
    intro x_108 H locs ls hI_108 ih_108
    obtain ⟨L2_108, L1_108⟩ := x_108
    obtain ⟨k0_108, rfl, rfl, hl⟩ := hI_108
    have hl : lv_has ls 3 [(2, .int L2_108), (1, .int L1_108), (0, .ref h0)] := hl
    refine lv_iload_n hx hb dX12_signs_14 rfl (lv_at hl 0 rfl) ?_
    refine lv_aload_n hx hb dX12_signs_15 rfl (lv_at hl 2 rfl) ?_
    refine cpVi (rest := [.int L2_108]) ⟨hx, hb, hml, hown, hts⟩ hKN (hP.sub (ws' := [(h0, .inr (12, [.int m_thrown, .ref m_qworld, .ref m_qimages, .ref m_qhasImage, .ref m_qtape, .int m_taped, .ref m_qfive, .int m_size, .int m_at, .int m_from, .int m_token, .int m_value, .int m_faultKind, .int m_faultPlace, .ref m_qfresh, .int m_startOne, .int m_startOther, .int m_latest, .int m_leftBeats, .int m_signed, .int m_metMany, .ref m_qsums, .ref m_qpairs, .ref m_qgoesWith, .ref m_qsaid, .int m_saidMany, .int m_firstWait, .ref m_qfirstOrder, .int m_bundleFirst, .ref m_qtiredBy, .int m_tiredMany, .ref m_qmany, .ref m_qwidth, .ref m_qnumbers, .ref m_qmoving])), (m_qworld, .inl (cA 1, 122, .inl m_cworld))]) [0, 1] rfl) (g_X12_allClauses l D cA h0 m_thrown m_qworld m_qimages m_qhasImage m_qtape m_taped m_qfive m_size m_at m_from m_token m_value m_faultKind m_faultPlace m_qfresh m_startOne m_startOther m_latest m_leftBeats m_signed m_metMany m_qsums m_qpairs m_qgoesWith m_qsaid m_saidMany m_firstWait m_qfirstOrder m_bundleFirst m_qtiredBy m_tiredMany m_qmany m_qwidth m_qnumbers m_qmoving m_cworld (by omega) (by omega) (by omega) (by omega) (by omega) (by omega) a_m_cworld_0) (tb_V tw_1908 tw_1910 tw_83 tw_114 tw_1911) hdX12_allClauses ⟨rfl, rfl, Nat.le_of_ble_eq_true rfl, Nat.le_of_ble_eq_true rfl⟩ ⟨Nat.le_of_ble_eq_true rfl, Nat.le_of_ble_eq_true rfl⟩ rfl rfl rfl hl.1 rfl (Nat.le_of_ble_eq_true rfl) dX12_signs_16 (fun r_109 hr_109 => ?_)
    refine lv_icmp_gt (tgt := 44) hx hb dX12_signs_19 (by decide) (fun c_110 => ?_) (fun c_110 => ?_)
    · skip
      have k_111 := kk_lt rfl rfl c_110
      refine lv_iload_n hx hb dX12_signs_44 rfl (lv_at hl 1 rfl) ?_
      exact W.iret (v := L1_108) hx hb hr (fun t ht hW => ⟨L1_108, rfl, trivial, ht⟩) (fun _ h => by cases h) dX12_signs_45
    · skip
      have k_112 := kk_nlt rfl rfl c_110
      refine lv_iload_n hx hb dX12_signs_22 rfl (lv_at hl 1 rfl) ?_
      refine lv_aload_n hx hb dX12_signs_23 rfl (lv_at hl 2 rfl) ?_
      refine lv_iload_n hx hb dX12_signs_24 rfl (lv_at hl 0 rfl) ?_
      refine cpVi (rest := [.int L1_108]) ⟨hx, hb, hml, hown, hts⟩ hKN (hP.sub (ws' := [(h0, .inr (12, [.int m_thrown, .ref m_qworld, .ref m_qimages, .ref m_qhasImage, .ref m_qtape, .int m_taped, .ref m_qfive, .int m_size, .int m_at, .int m_from, .int m_token, .int m_value, .int m_faultKind, .int m_faultPlace, .ref m_qfresh, .int m_startOne, .int m_startOther, .int m_latest, .int m_leftBeats, .int m_signed, .int m_metMany, .ref m_qsums, .ref m_qpairs, .ref m_qgoesWith, .ref m_qsaid, .int m_saidMany, .int m_firstWait, .ref m_qfirstOrder, .int m_bundleFirst, .ref m_qtiredBy, .int m_tiredMany, .ref m_qmany, .ref m_qwidth, .ref m_qnumbers, .ref m_qmoving])), (m_qworld, .inl (cA 1, 122, .inl m_cworld))]) [0, 1] rfl) (g_X12_isSigned l D cA h0 m_thrown m_qworld m_qimages m_qhasImage m_qtape m_taped m_qfive m_size m_at m_from m_token m_value m_faultKind m_faultPlace m_qfresh m_startOne m_startOther m_latest m_leftBeats m_signed m_metMany m_qsums m_qpairs m_qgoesWith m_qsaid m_saidMany m_firstWait m_qfirstOrder m_bundleFirst m_qtiredBy m_tiredMany m_qmany m_qwidth m_qnumbers m_qmoving m_cworld L2_108 (by omega) (by omega) (by omega) (by omega) (by omega) (by omega) a_m_cworld_0) (tb_V tw_1951 tw_1953 tw_88 tw_114 tw_1954) hdX12_isSigned ⟨rfl, rfl, Nat.le_of_ble_eq_true rfl, Nat.le_of_ble_eq_true rfl⟩ ⟨Nat.le_of_ble_eq_true rfl, Nat.le_of_ble_eq_true rfl⟩ rfl rfl rfl hl.1 rfl (Nat.le_of_ble_eq_true rfl) dX12_signs_25 (fun r_113 hr_113 => ?_)
      refine lv_if_eq (tgt := 35) hx hb dX12_signs_28 (by decide) (fun c_114 => ?_) (fun c_114 => ?_)
      · skip
        have k_115 := kk_eq rfl zi_0 c_114
        refine lv_iconst (v := 0) hx hb dX12_signs_35 (by decide) ?_
        refine lv_iadd hx hb dX12_signs_36 ?_
        refine lv_topi (fun x_116 ex_116 => ?_)
        have b_118 := i32_bd L1_108
        have k_117 := ar_add rfl zi_0 ex_116 (by omega) (by omega)
        refine lv_istore_n (lv' := [(1, .int x_116), (2, .int L2_108), (0, .ref h0)]) hx hb dX12_signs_37 rfl hl (by decide) rfl (fun ls hl => ?_)
        obtain ⟨x_119, ex_119⟩ : ∃ y : Int32, L2_108 + Int32.ofInt 1 = y := ⟨_, rfl⟩
        have k_120 := ar_add (b := 1) rfl zi_1 ex_119.symm (by omega) (by omega)
        refine lv_iinc (v := x_119) (lv' := [(2, .int x_119), (1, .int x_116), (0, .ref h0)]) hx hb dX12_signs_38 hl (k := 1) rfl ex_119 (by decide) rfl (fun ls hl => ?_)
        refine lv_goto (tgt := 14) hx hb dX12_signs_41 (by decide) ?_
        exact ih_108 (x_119, x_116) _ _ _ ⟨(show 0 ≤ x_119.toInt ∧ x_119.toInt ≤ 128 from by omega), rfl, rfl, lv_sub hl [0, 1, 2] rfl⟩ (by show (2147483647 - x_119.toInt).toNat < (2147483647 - L2_108.toInt).toNat; omega)
      · skip
        have k_121 := kk_ne rfl zi_0 c_114
        refine lv_iconst (v := 1) hx hb dX12_signs_31 (by decide) ?_
        refine lv_goto (tgt := 36) hx hb dX12_signs_32 (by decide) ?_
        refine lv_iadd hx hb dX12_signs_36 ?_
        refine lv_topi (fun x_122 ex_122 => ?_)
        refine lv_istore_n (lv' := [(1, .int x_122), (2, .int L2_108), (0, .ref h0)]) hx hb dX12_signs_37 rfl hl (by decide) rfl (fun ls hl => ?_)
        obtain ⟨x_124, ex_124⟩ : ∃ y : Int32, L2_108 + Int32.ofInt 1 = y := ⟨_, rfl⟩
        have k_125 := ar_add (b := 1) rfl zi_1 ex_124.symm (by omega) (by omega)
        refine lv_iinc (v := x_124) (lv' := [(2, .int x_124), (1, .int x_122), (0, .ref h0)]) hx hb dX12_signs_38 hl (k := 1) rfl ex_124 (by decide) rfl (fun ls hl => ?_)
        refine lv_goto (tgt := 14) hx hb dX12_signs_41 (by decide) ?_
        exact ih_108 (x_124, x_122) _ _ _ ⟨(show 0 ≤ x_124.toInt ∧ x_124.toInt ≤ 128 from by omega), rfl, rfl, lv_sub hl [0, 1, 2] rfl⟩ (by show (2147483647 - x_124.toInt).toNat < (2147483647 - L2_108.toInt).toNat; omega)
  · skip
    refine lv_if_ne (tgt := 10) hx hb dX12_signs_4 (by decide) (fun c_126 => absurd (by decide) c_126) (fun c_126 => ?_)
    refine lv_bipush (v := (-2)) hx hb dX12_signs_7 (by decide) ?_
    exact W.iret (v := (-2)) hx hb hr (fun t ht hW => ⟨(-2), rfl, trivial, ht⟩) (fun _ h => by cases h) dX12_signs_9
set_option maxHeartbeats 8000000 in
set_option maxRecDepth 100000 in
theorem g_X12_deal (l : Launch) (D : va_G) (cA : Nat → ClassId) (h0 : Nat) (m_thrown : Int32) (m_qworld : Nat) (m_qimages : Nat) (m_qhasImage : Nat) (m_qtape : Nat) (m_taped : Int32) (m_qfive : Nat) (m_size : Int32) (m_at : Int32) (m_from : Int32) (m_token : Int32) (m_value : Int32) (m_faultKind : Int32) (m_faultPlace : Int32) (m_qfresh : Nat) (m_startOne : Int32) (m_startOther : Int32) (m_latest : Int32) (m_leftBeats : Int32) (m_signed : Int32) (m_metMany : Int32) (m_qsums : Nat) (m_qpairs : Nat) (m_qgoesWith : Nat) (m_qsaid : Nat) (m_saidMany : Int32) (m_firstWait : Int32) (m_qfirstOrder : Nat) (m_bundleFirst : Int32) (m_qtiredBy : Nat) (m_tiredMany : Int32) (m_qmany : Nat) (m_qwidth : Nat) (m_qnumbers : Nat) (m_qmoving : Nat) (m_cworld : Nat → Int32) (h_m_taped : 0 ≤ (m_taped : Int32).toInt ∧ (m_taped : Int32).toInt ≤ 800) (h_m_size : 0 ≤ (m_size : Int32).toInt ∧ (m_size : Int32).toInt ≤ 800) (h_m_at : 0 ≤ (m_at : Int32).toInt ∧ (m_at : Int32).toInt ≤ 800) (h_m_from : 0 ≤ (m_from : Int32).toInt ∧ (m_from : Int32).toInt ≤ 800) (h_m_saidMany : 0 ≤ (m_saidMany : Int32).toInt ∧ (m_saidMany : Int32).toInt ≤ 60) (h_m_tiredMany : 0 ≤ (m_tiredMany : Int32).toInt ∧ (m_tiredMany : Int32).toInt ≤ 240) (a_m_cworld_0 : WI m_cworld) : Met l yX12_deal (Cond.code yX12_deal cX12_deal 3 (some .int) :: TB) (rmd 3 0 0) (PP D cA [(h0, .inr (12, [.int m_thrown, .ref m_qworld, .ref m_qimages, .ref m_qhasImage, .ref m_qtape, .int m_taped, .ref m_qfive, .int m_size, .int m_at, .int m_from, .int m_token, .int m_value, .int m_faultKind, .int m_faultPlace, .ref m_qfresh, .int m_startOne, .int m_startOther, .int m_latest, .int m_leftBeats, .int m_signed, .int m_metMany, .ref m_qsums, .ref m_qpairs, .ref m_qgoesWith, .ref m_qsaid, .int m_saidMany, .int m_firstWait, .ref m_qfirstOrder, .int m_bundleFirst, .ref m_qtiredBy, .int m_tiredMany, .ref m_qmany, .ref m_qwidth, .ref m_qnumbers, .ref m_qmoving])), (m_qworld, .inl (cA 1, 122, .inl m_cworld))] [.ref h0]) (vp_Si (fun r => -2 ≤ r.toInt ∧ r.toInt ≤ 127)) 0 0 (fun _ => False) := by
  refine Met.ofW (cc := cX12_deal) (maxL := 3) (ret := (some .int)) (by decide) rfl ?_
  intro p e s m args below meth c s₁ B hml hv
  obtain ⟨rfl, hP, hKN⟩ := hv
  have hx := B.exec
  have hb := B.bytes
  have hr := B.returns
  have hts : ∀ w ∈ TB, w.before _ s = true := fun w h => atoms_spec B.pre w (List.mem_cons_of_mem _ h)
  have hown : s.vm.findClass RX12 = some m.cls := findClass_of_methodNamed B.named
  have hlocks := B.notSynchronized
  have hl := lv_entry ([.ref h0]) (n := 3) (Nat.le_of_ble_eq_true rfl)
  rw [lg_entry_eq]
  generalize (lg_sl ([.ref h0]) ++ List.replicate (3 - (lg_sl ([.ref h0])).length) Slot.unset).toArray = ls at hl ⊢
  have hl : lv_has ls 3 [(0, .ref h0)] := hl
  refine lv_aload_n hx hb dX12_deal_0 rfl (lv_at hl 0 rfl) ?_
  refine cpVi (rest := []) ⟨hx, hb, hml, hown, hts⟩ hKN (hP.sub (ws' := [(h0, .inr (12, [.int m_thrown, .ref m_qworld, .ref m_qimages, .ref m_qhasImage, .ref m_qtape, .int m_taped, .ref m_qfive, .int m_size, .int m_at, .int m_from, .int m_token, .int m_value, .int m_faultKind, .int m_faultPlace, .ref m_qfresh, .int m_startOne, .int m_startOther, .int m_latest, .int m_leftBeats, .int m_signed, .int m_metMany, .ref m_qsums, .ref m_qpairs, .ref m_qgoesWith, .ref m_qsaid, .int m_saidMany, .int m_firstWait, .ref m_qfirstOrder, .int m_bundleFirst, .ref m_qtiredBy, .int m_tiredMany, .ref m_qmany, .ref m_qwidth, .ref m_qnumbers, .ref m_qmoving])), (m_qworld, .inl (cA 1, 122, .inl m_cworld))]) [0, 1] rfl) (g_X12_isGorge l D cA h0 m_thrown m_qworld m_qimages m_qhasImage m_qtape m_taped m_qfive m_size m_at m_from m_token m_value m_faultKind m_faultPlace m_qfresh m_startOne m_startOther m_latest m_leftBeats m_signed m_metMany m_qsums m_qpairs m_qgoesWith m_qsaid m_saidMany m_firstWait m_qfirstOrder m_bundleFirst m_qtiredBy m_tiredMany m_qmany m_qwidth m_qnumbers m_qmoving m_cworld (by omega) (by omega) (by omega) (by omega) (by omega) (by omega) a_m_cworld_0) (tb_V tw_1664 tw_1666 tw_54 tw_114 tw_1667) hdX12_isGorge ⟨rfl, rfl, Nat.le_of_ble_eq_true rfl, Nat.le_of_ble_eq_true rfl⟩ ⟨Nat.le_of_ble_eq_true rfl, Nat.le_of_ble_eq_true rfl⟩ rfl rfl rfl hl.1 rfl (Nat.le_of_ble_eq_true rfl) dX12_deal_1 (fun r_1 hr_1 => ?_)
  rcases hr_1 with ⟨k_1_0_0, k_1_0_1, k_1_0_2, k_1_0_3, rfl⟩ | rfl
  · skip
    refine lv_if_ne (tgt := 10) hx hb dX12_deal_4 (by decide) (fun c_2 => ?_) (fun c_2 => absurd c_2 (by decide))
    refine lv_iconst (v := 0) hx hb dX12_deal_10 (by decide) ?_
    refine lv_istore_n (lv' := [(1, .int 0), (0, .ref h0)]) hx hb dX12_deal_11 rfl hl (by decide) rfl (fun ls hl => ?_)
    refine lv_iconst (v := 1) hx hb dX12_deal_12 (by decide) ?_
    refine lv_istore_n (lv' := [(2, .int 1), (1, .int 0), (0, .ref h0)]) hx hb dX12_deal_13 rfl hl (by decide) rfl (fun ls hl => ?_)
    refine loopW (σ := Int32 × Int32) (fun _ => []) (fun ⟨L2_195, L1_195⟩ H locs ls => (1 ≤ L2_195.toInt ∧ L2_195.toInt ≤ 128) ∧ (0 ≤ L1_195.toInt ∧ L1_195.toInt ≤ 127) ∧ H = s.heap ∧ locs = [] ∧ lv_has ls 3 [(2, .int L2_195), (1, .int L1_195), (0, .ref h0)]) (fun ⟨L2_195, L1_195⟩ => (2147483647 - L2_195.toInt).toNat) ?_ ((1, 0) : Int32 × Int32) ⟨(by decide), (by decide), rfl, rfl, hl⟩
    intro x_195 H locs ls hI_195 ih_195
    obtain ⟨L2_195, L1_195⟩ := x_195
    obtain ⟨k0_195, k1_195, rfl, rfl, hl⟩ := hI_195
    have hl : lv_has ls 3 [(2, .int L2_195), (1, .int L1_195), (0, .ref h0)] := hl
    refine lv_iload_n hx hb dX12_deal_14 rfl (lv_at hl 0 rfl) ?_
    refine lv_aload_n hx hb dX12_deal_15 rfl (lv_at hl 2 rfl) ?_
    refine cpVi (rest := [.int L2_195]) ⟨hx, hb, hml, hown, hts⟩ hKN (hP.sub (ws' := [(h0, .inr (12, [.int m_thrown, .ref m_qworld, .ref m_qimages, .ref m_qhasImage, .ref m_qtape, .int m_taped, .ref m_qfive, .int m_size, .int m_at, .int m_from, .int m_token, .int m_value, .int m_faultKind, .int m_faultPlace, .ref m_qfresh, .int m_startOne, .int m_startOther, .int m_latest, .int m_leftBeats, .int m_signed, .int m_metMany, .ref m_qsums, .ref m_qpairs, .ref m_qgoesWith, .ref m_qsaid, .int m_saidMany, .int m_firstWait, .ref m_qfirstOrder, .int m_bundleFirst, .ref m_qtiredBy, .int m_tiredMany, .ref m_qmany, .ref m_qwidth, .ref m_qnumbers, .ref m_qmoving])), (m_qworld, .inl (cA 1, 122, .inl m_cworld))]) [0, 1] rfl) (g_X12_allClauses l D cA h0 m_thrown m_qworld m_qimages m_qhasImage m_qtape m_taped m_qfive m_size m_at m_from m_token m_value m_faultKind m_faultPlace m_qfresh m_startOne m_startOther m_latest m_leftBeats m_signed m_metMany m_qsums m_qpairs m_qgoesWith m_qsaid m_saidMany m_firstWait m_qfirstOrder m_bundleFirst m_qtiredBy m_tiredMany m_qmany m_qwidth m_qnumbers m_qmoving m_cworld (by omega) (by omega) (by omega) (by omega) (by omega) (by omega) a_m_cworld_0) (tb_V tw_1908 tw_1910 tw_83 tw_114 tw_1911) hdX12_allClauses ⟨rfl, rfl, Nat.le_of_ble_eq_true rfl, Nat.le_of_ble_eq_true rfl⟩ ⟨Nat.le_of_ble_eq_true rfl, Nat.le_of_ble_eq_true rfl⟩ rfl rfl rfl hl.1 rfl (Nat.le_of_ble_eq_true rfl) dX12_deal_16 (fun r_196 hr_196 => ?_)
    refine lv_icmp_gt (tgt := 67) hx hb dX12_deal_19 (by decide) (fun c_197 => ?_) (fun c_197 => ?_)
    · skip
      have k_198 := kk_lt rfl rfl c_197
      refine lv_iload_n hx hb dX12_deal_67 rfl (lv_at hl 1 rfl) ?_
      exact W.iret (v := L1_195) hx hb hr (fun t ht hW => ⟨L1_195, rfl, (show -2 ≤ L1_195.toInt ∧ L1_195.toInt ≤ 127 from by omega), ht⟩) (fun _ h => by cases h) dX12_deal_68
    · skip
      have k_199 := kk_nlt rfl rfl c_197
      refine lv_aload_n hx hb dX12_deal_22 rfl (lv_at hl 2 rfl) ?_
      refine lv_iload_n hx hb dX12_deal_23 rfl (lv_at hl 0 rfl) ?_
      refine cpVi (rest := []) ⟨hx, hb, hml, hown, hts⟩ hKN (hP.sub (ws' := [(h0, .inr (12, [.int m_thrown, .ref m_qworld, .ref m_qimages, .ref m_qhasImage, .ref m_qtape, .int m_taped, .ref m_qfive, .int m_size, .int m_at, .int m_from, .int m_token, .int m_value, .int m_faultKind, .int m_faultPlace, .ref m_qfresh, .int m_startOne, .int m_startOther, .int m_latest, .int m_leftBeats, .int m_signed, .int m_metMany, .ref m_qsums, .ref m_qpairs, .ref m_qgoesWith, .ref m_qsaid, .int m_saidMany, .int m_firstWait, .ref m_qfirstOrder, .int m_bundleFirst, .ref m_qtiredBy, .int m_tiredMany, .ref m_qmany, .ref m_qwidth, .ref m_qnumbers, .ref m_qmoving])), (m_qworld, .inl (cA 1, 122, .inl m_cworld))]) [0, 1] rfl) (g_X12_isSigned l D cA h0 m_thrown m_qworld m_qimages m_qhasImage m_qtape m_taped m_qfive m_size m_at m_from m_token m_value m_faultKind m_faultPlace m_qfresh m_startOne m_startOther m_latest m_leftBeats m_signed m_metMany m_qsums m_qpairs m_qgoesWith m_qsaid m_saidMany m_firstWait m_qfirstOrder m_bundleFirst m_qtiredBy m_tiredMany m_qmany m_qwidth m_qnumbers m_qmoving m_cworld L2_195 (by omega) (by omega) (by omega) (by omega) (by omega) (by omega) a_m_cworld_0) (tb_V tw_1951 tw_1953 tw_88 tw_114 tw_1954) hdX12_isSigned ⟨rfl, rfl, Nat.le_of_ble_eq_true rfl, Nat.le_of_ble_eq_true rfl⟩ ⟨Nat.le_of_ble_eq_true rfl, Nat.le_of_ble_eq_true rfl⟩ rfl rfl rfl hl.1 rfl (Nat.le_of_ble_eq_true rfl) dX12_deal_24 (fun r_200 hr_200 => ?_)
      refine lv_if_eq (tgt := 61) hx hb dX12_deal_27 (by decide) (fun c_201 => ?_) (fun c_201 => ?_)
      · skip
        have k_202 := kk_eq rfl zi_0 c_201
        obtain ⟨x_203, ex_203⟩ : ∃ y : Int32, L2_195 + Int32.ofInt 1 = y := ⟨_, rfl⟩
        have k_204 := ar_add (b := 1) rfl zi_1 ex_203.symm (by omega) (by omega)
        refine lv_iinc (v := x_203) (lv' := [(2, .int x_203), (1, .int L1_195), (0, .ref h0)]) hx hb dX12_deal_61 hl (k := 0) rfl ex_203 (by decide) rfl (fun ls hl => ?_)
        refine lv_goto (tgt := 14) hx hb dX12_deal_64 (by decide) ?_
        exact ih_195 (x_203, L1_195) _ _ _ ⟨(show 1 ≤ x_203.toInt ∧ x_203.toInt ≤ 128 from by omega), (show 0 ≤ L1_195.toInt ∧ L1_195.toInt ≤ 127 from by omega), rfl, rfl, lv_sub hl [0, 1, 2] rfl⟩ (by show (2147483647 - x_203.toInt).toNat < (2147483647 - L2_195.toInt).toNat; omega)
      · skip
        have k_205 := kk_ne rfl zi_0 c_201
        refine lv_aload_n hx hb dX12_deal_30 rfl (lv_at hl 2 rfl) ?_
        refine lv_iload_n hx hb dX12_deal_31 rfl (lv_at hl 0 rfl) ?_
        refine lv_iconst (v := 0) hx hb dX12_deal_32 (by decide) ?_
        have z_206 := zi_0
        refine cpVi (rest := []) ⟨hx, hb, hml, hown, hts⟩ hKN (hP.sub (ws' := [(h0, .inr (12, [.int m_thrown, .ref m_qworld, .ref m_qimages, .ref m_qhasImage, .ref m_qtape, .int m_taped, .ref m_qfive, .int m_size, .int m_at, .int m_from, .int m_token, .int m_value, .int m_faultKind, .int m_faultPlace, .ref m_qfresh, .int m_startOne, .int m_startOther, .int m_latest, .int m_leftBeats, .int m_signed, .int m_metMany, .ref m_qsums, .ref m_qpairs, .ref m_qgoesWith, .ref m_qsaid, .int m_saidMany, .int m_firstWait, .ref m_qfirstOrder, .int m_bundleFirst, .ref m_qtiredBy, .int m_tiredMany, .ref m_qmany, .ref m_qwidth, .ref m_qnumbers, .ref m_qmoving])), (m_qworld, .inl (cA 1, 122, .inl m_cworld))]) [0, 1] rfl) (g_X12_worthOf l D cA h0 m_thrown m_qworld m_qimages m_qhasImage m_qtape m_taped m_qfive m_size m_at m_from m_token m_value m_faultKind m_faultPlace m_qfresh m_startOne m_startOther m_latest m_leftBeats m_signed m_metMany m_qsums m_qpairs m_qgoesWith m_qsaid m_saidMany m_firstWait m_qfirstOrder m_bundleFirst m_qtiredBy m_tiredMany m_qmany m_qwidth m_qnumbers m_qmoving m_cworld L2_195 0 (by omega) (by omega) (by omega) (by omega) (by omega) (by omega) (by decide) a_m_cworld_0) (tb_V tw_1935 tw_1937 tw_87 tw_114 tw_1938) hdX12_worthOf ⟨rfl, rfl, Nat.le_of_ble_eq_true rfl, Nat.le_of_ble_eq_true rfl⟩ ⟨Nat.le_of_ble_eq_true rfl, Nat.le_of_ble_eq_true rfl⟩ rfl rfl rfl hl.1 rfl (Nat.le_of_ble_eq_true rfl) dX12_deal_33 (fun r_207 hr_207 => ?_)
        refine lv_aload_n hx hb dX12_deal_36 rfl (lv_at hl 2 rfl) ?_
        refine lv_iload_n hx hb dX12_deal_37 rfl (lv_at hl 0 rfl) ?_
        refine lv_iconst (v := 1) hx hb dX12_deal_38 (by decide) ?_
        have z_208 := zi_1
        refine cpVi (rest := [.int r_207]) ⟨hx, hb, hml, hown, hts⟩ hKN (hP.sub (ws' := [(h0, .inr (12, [.int m_thrown, .ref m_qworld, .ref m_qimages, .ref m_qhasImage, .ref m_qtape, .int m_taped, .ref m_qfive, .int m_size, .int m_at, .int m_from, .int m_token, .int m_value, .int m_faultKind, .int m_faultPlace, .ref m_qfresh, .int m_startOne, .int m_startOther, .int m_latest, .int m_leftBeats, .int m_signed, .int m_metMany, .ref m_qsums, .ref m_qpairs, .ref m_qgoesWith, .ref m_qsaid, .int m_saidMany, .int m_firstWait, .ref m_qfirstOrder, .int m_bundleFirst, .ref m_qtiredBy, .int m_tiredMany, .ref m_qmany, .ref m_qwidth, .ref m_qnumbers, .ref m_qmoving])), (m_qworld, .inl (cA 1, 122, .inl m_cworld))]) [0, 1] rfl) (g_X12_worthOf l D cA h0 m_thrown m_qworld m_qimages m_qhasImage m_qtape m_taped m_qfive m_size m_at m_from m_token m_value m_faultKind m_faultPlace m_qfresh m_startOne m_startOther m_latest m_leftBeats m_signed m_metMany m_qsums m_qpairs m_qgoesWith m_qsaid m_saidMany m_firstWait m_qfirstOrder m_bundleFirst m_qtiredBy m_tiredMany m_qmany m_qwidth m_qnumbers m_qmoving m_cworld L2_195 1 (by omega) (by omega) (by omega) (by omega) (by omega) (by omega) (by decide) a_m_cworld_0) (tb_V tw_1935 tw_1937 tw_87 tw_114 tw_1938) hdX12_worthOf ⟨rfl, rfl, Nat.le_of_ble_eq_true rfl, Nat.le_of_ble_eq_true rfl⟩ ⟨Nat.le_of_ble_eq_true rfl, Nat.le_of_ble_eq_true rfl⟩ rfl rfl rfl hl.1 rfl (Nat.le_of_ble_eq_true rfl) dX12_deal_39 (fun r_209 hr_209 => ?_)
        refine lv_imul hx hb dX12_deal_42 ?_
        refine lv_topi (fun x_210 ex_210 => ?_)
        refine lv_aload_n hx hb dX12_deal_43 rfl (lv_at hl 2 rfl) ?_
        refine lv_iload_n hx hb dX12_deal_44 rfl (lv_at hl 1 rfl) ?_
        refine lv_iconst (v := 0) hx hb dX12_deal_45 (by decide) ?_
        refine cpVi (rest := [.int x_210]) ⟨hx, hb, hml, hown, hts⟩ hKN (hP.sub (ws' := [(h0, .inr (12, [.int m_thrown, .ref m_qworld, .ref m_qimages, .ref m_qhasImage, .ref m_qtape, .int m_taped, .ref m_qfive, .int m_size, .int m_at, .int m_from, .int m_token, .int m_value, .int m_faultKind, .int m_faultPlace, .ref m_qfresh, .int m_startOne, .int m_startOther, .int m_latest, .int m_leftBeats, .int m_signed, .int m_metMany, .ref m_qsums, .ref m_qpairs, .ref m_qgoesWith, .ref m_qsaid, .int m_saidMany, .int m_firstWait, .ref m_qfirstOrder, .int m_bundleFirst, .ref m_qtiredBy, .int m_tiredMany, .ref m_qmany, .ref m_qwidth, .ref m_qnumbers, .ref m_qmoving])), (m_qworld, .inl (cA 1, 122, .inl m_cworld))]) [0, 1] rfl) (g_X12_worthOf l D cA h0 m_thrown m_qworld m_qimages m_qhasImage m_qtape m_taped m_qfive m_size m_at m_from m_token m_value m_faultKind m_faultPlace m_qfresh m_startOne m_startOther m_latest m_leftBeats m_signed m_metMany m_qsums m_qpairs m_qgoesWith m_qsaid m_saidMany m_firstWait m_qfirstOrder m_bundleFirst m_qtiredBy m_tiredMany m_qmany m_qwidth m_qnumbers m_qmoving m_cworld L1_195 0 (by omega) (by omega) (by omega) (by omega) (by omega) (by omega) (by decide) a_m_cworld_0) (tb_V tw_1935 tw_1937 tw_87 tw_114 tw_1938) hdX12_worthOf ⟨rfl, rfl, Nat.le_of_ble_eq_true rfl, Nat.le_of_ble_eq_true rfl⟩ ⟨Nat.le_of_ble_eq_true rfl, Nat.le_of_ble_eq_true rfl⟩ rfl rfl rfl hl.1 rfl (Nat.le_of_ble_eq_true rfl) dX12_deal_46 (fun r_212 hr_212 => ?_)
        refine lv_aload_n hx hb dX12_deal_49 rfl (lv_at hl 2 rfl) ?_
        refine lv_iload_n hx hb dX12_deal_50 rfl (lv_at hl 1 rfl) ?_
        refine lv_iconst (v := 1) hx hb dX12_deal_51 (by decide) ?_
        refine cpVi (rest := [.int r_212, .int x_210]) ⟨hx, hb, hml, hown, hts⟩ hKN (hP.sub (ws' := [(h0, .inr (12, [.int m_thrown, .ref m_qworld, .ref m_qimages, .ref m_qhasImage, .ref m_qtape, .int m_taped, .ref m_qfive, .int m_size, .int m_at, .int m_from, .int m_token, .int m_value, .int m_faultKind, .int m_faultPlace, .ref m_qfresh, .int m_startOne, .int m_startOther, .int m_latest, .int m_leftBeats, .int m_signed, .int m_metMany, .ref m_qsums, .ref m_qpairs, .ref m_qgoesWith, .ref m_qsaid, .int m_saidMany, .int m_firstWait, .ref m_qfirstOrder, .int m_bundleFirst, .ref m_qtiredBy, .int m_tiredMany, .ref m_qmany, .ref m_qwidth, .ref m_qnumbers, .ref m_qmoving])), (m_qworld, .inl (cA 1, 122, .inl m_cworld))]) [0, 1] rfl) (g_X12_worthOf l D cA h0 m_thrown m_qworld m_qimages m_qhasImage m_qtape m_taped m_qfive m_size m_at m_from m_token m_value m_faultKind m_faultPlace m_qfresh m_startOne m_startOther m_latest m_leftBeats m_signed m_metMany m_qsums m_qpairs m_qgoesWith m_qsaid m_saidMany m_firstWait m_qfirstOrder m_bundleFirst m_qtiredBy m_tiredMany m_qmany m_qwidth m_qnumbers m_qmoving m_cworld L1_195 1 (by omega) (by omega) (by omega) (by omega) (by omega) (by omega) (by decide) a_m_cworld_0) (tb_V tw_1935 tw_1937 tw_87 tw_114 tw_1938) hdX12_worthOf ⟨rfl, rfl, Nat.le_of_ble_eq_true rfl, Nat.le_of_ble_eq_true rfl⟩ ⟨Nat.le_of_ble_eq_true rfl, Nat.le_of_ble_eq_true rfl⟩ rfl rfl rfl hl.1 rfl (Nat.le_of_ble_eq_true rfl) dX12_deal_52 (fun r_213 hr_213 => ?_)
        refine lv_imul hx hb dX12_deal_55 ?_
        refine lv_topi (fun x_214 ex_214 => ?_)
        refine lv_icmp_le (tgt := 61) hx hb dX12_deal_56 (by decide) (fun c_216 => ?_) (fun c_216 => ?_)
        · skip
          have b_218 := i32_bd x_210
          have b_219 := i32_bd x_214
          have k_217 := kk_le rfl rfl c_216
          obtain ⟨x_220, ex_220⟩ : ∃ y : Int32, L2_195 + Int32.ofInt 1 = y := ⟨_, rfl⟩
          have k_221 := ar_add (b := 1) rfl zi_1 ex_220.symm (by omega) (by omega)
          refine lv_iinc (v := x_220) (lv' := [(2, .int x_220), (1, .int L1_195), (0, .ref h0)]) hx hb dX12_deal_61 hl (k := 0) rfl ex_220 (by decide) rfl (fun ls hl => ?_)
          refine lv_goto (tgt := 14) hx hb dX12_deal_64 (by decide) ?_
          exact ih_195 (x_220, L1_195) _ _ _ ⟨(show 1 ≤ x_220.toInt ∧ x_220.toInt ≤ 128 from by omega), (show 0 ≤ L1_195.toInt ∧ L1_195.toInt ≤ 127 from by omega), rfl, rfl, lv_sub hl [0, 1, 2] rfl⟩ (by show (2147483647 - x_220.toInt).toNat < (2147483647 - L2_195.toInt).toNat; omega)
        · skip
          have b_223 := i32_bd x_210
          have b_224 := i32_bd x_214
          have k_222 := kk_nle rfl rfl c_216
          refine lv_iload_n hx hb dX12_deal_59 rfl (lv_at hl 0 rfl) ?_
          refine lv_istore_n (lv' := [(1, .int L2_195), (2, .int L2_195), (0, .ref h0)]) hx hb dX12_deal_60 rfl hl (by decide) rfl (fun ls hl => ?_)
          obtain ⟨x_225, ex_225⟩ : ∃ y : Int32, L2_195 + Int32.ofInt 1 = y := ⟨_, rfl⟩
          have k_226 := ar_add (b := 1) rfl zi_1 ex_225.symm (by omega) (by omega)
          refine lv_iinc (v := x_225) (lv' := [(2, .int x_225), (1, .int L2_195), (0, .ref h0)]) hx hb dX12_deal_61 hl (k := 1) rfl ex_225 (by decide) rfl (fun ls hl => ?_)
          refine lv_goto (tgt := 14) hx hb dX12_deal_64 (by decide) ?_
          exact ih_195 (x_225, L2_195) _ _ _ ⟨(show 1 ≤ x_225.toInt ∧ x_225.toInt ≤ 128 from by omega), (show 0 ≤ L2_195.toInt ∧ L2_195.toInt ≤ 127 from by omega), rfl, rfl, lv_sub hl [0, 1, 2] rfl⟩ (by show (2147483647 - x_225.toInt).toNat < (2147483647 - L2_195.toInt).toNat; omega)
  · skip
    refine lv_if_ne (tgt := 10) hx hb dX12_deal_4 (by decide) (fun c_227 => absurd (by decide) c_227) (fun c_227 => ?_)
    refine lv_bipush (v := (-2)) hx hb dX12_deal_7 (by decide) ?_
    exact W.iret (v := (-2)) hx hb hr (fun t ht hW => ⟨(-2), rfl, (show -2 ≤ ((-2) : Int32).toInt ∧ ((-2) : Int32).toInt ≤ 127 from by decide), ht⟩) (fun _ h => by cases h) dX12_deal_9
set_option maxHeartbeats 8000000 in
set_option maxRecDepth 100000 in
theorem g_X12_even (l : Launch) (D : va_G) (cA : Nat → ClassId) (h0 : Nat) (m_thrown : Int32) (m_qworld : Nat) (m_qimages : Nat) (m_qhasImage : Nat) (m_qtape : Nat) (m_taped : Int32) (m_qfive : Nat) (m_size : Int32) (m_at : Int32) (m_from : Int32) (m_token : Int32) (m_value : Int32) (m_faultKind : Int32) (m_faultPlace : Int32) (m_qfresh : Nat) (m_startOne : Int32) (m_startOther : Int32) (m_latest : Int32) (m_leftBeats : Int32) (m_signed : Int32) (m_metMany : Int32) (m_qsums : Nat) (m_qpairs : Nat) (m_qgoesWith : Nat) (m_qsaid : Nat) (m_saidMany : Int32) (m_firstWait : Int32) (m_qfirstOrder : Nat) (m_bundleFirst : Int32) (m_qtiredBy : Nat) (m_tiredMany : Int32) (m_qmany : Nat) (m_qwidth : Nat) (m_qnumbers : Nat) (m_qmoving : Nat) (m_cworld : Nat → Int32) (h_m_taped : 0 ≤ (m_taped : Int32).toInt ∧ (m_taped : Int32).toInt ≤ 800) (h_m_size : 0 ≤ (m_size : Int32).toInt ∧ (m_size : Int32).toInt ≤ 800) (h_m_at : 0 ≤ (m_at : Int32).toInt ∧ (m_at : Int32).toInt ≤ 800) (h_m_from : 0 ≤ (m_from : Int32).toInt ∧ (m_from : Int32).toInt ≤ 800) (h_m_saidMany : 0 ≤ (m_saidMany : Int32).toInt ∧ (m_saidMany : Int32).toInt ≤ 60) (h_m_tiredMany : 0 ≤ (m_tiredMany : Int32).toInt ∧ (m_tiredMany : Int32).toInt ≤ 240) (a_m_cworld_0 : WI m_cworld) : Met l yX12_even (Cond.code yX12_even cX12_even 3 (some .int) :: TB) (rmd 2 0 0) (PP D cA [(h0, .inr (12, [.int m_thrown, .ref m_qworld, .ref m_qimages, .ref m_qhasImage, .ref m_qtape, .int m_taped, .ref m_qfive, .int m_size, .int m_at, .int m_from, .int m_token, .int m_value, .int m_faultKind, .int m_faultPlace, .ref m_qfresh, .int m_startOne, .int m_startOther, .int m_latest, .int m_leftBeats, .int m_signed, .int m_metMany, .ref m_qsums, .ref m_qpairs, .ref m_qgoesWith, .ref m_qsaid, .int m_saidMany, .int m_firstWait, .ref m_qfirstOrder, .int m_bundleFirst, .ref m_qtiredBy, .int m_tiredMany, .ref m_qmany, .ref m_qwidth, .ref m_qnumbers, .ref m_qmoving])), (m_qworld, .inl (cA 1, 122, .inl m_cworld))] [.ref h0]) (vp_Si (fun r => -2 ≤ r.toInt)) 0 0 (fun _ => False) := by
  refine Met.ofW (cc := cX12_even) (maxL := 3) (ret := (some .int)) (by decide) rfl ?_
  intro p e s m args below meth c s₁ B hml hv
  obtain ⟨rfl, hP, hKN⟩ := hv
  have hx := B.exec
  have hb := B.bytes
  have hr := B.returns
  have hts : ∀ w ∈ TB, w.before _ s = true := fun w h => atoms_spec B.pre w (List.mem_cons_of_mem _ h)
  have hown : s.vm.findClass RX12 = some m.cls := findClass_of_methodNamed B.named
  have hlocks := B.notSynchronized
  have hl := lv_entry ([.ref h0]) (n := 3) (Nat.le_of_ble_eq_true rfl)
  rw [lg_entry_eq]
  generalize (lg_sl ([.ref h0]) ++ List.replicate (3 - (lg_sl ([.ref h0])).length) Slot.unset).toArray = ls at hl ⊢
  have hl : lv_has ls 3 [(0, .ref h0)] := hl
  refine lv_aload_n hx hb dX12_even_0 rfl (lv_at hl 0 rfl) ?_
  refine cpVi (rest := []) ⟨hx, hb, hml, hown, hts⟩ hKN (hP.sub (ws' := [(h0, .inr (12, [.int m_thrown, .ref m_qworld, .ref m_qimages, .ref m_qhasImage, .ref m_qtape, .int m_taped, .ref m_qfive, .int m_size, .int m_at, .int m_from, .int m_token, .int m_value, .int m_faultKind, .int m_faultPlace, .ref m_qfresh, .int m_startOne, .int m_startOther, .int m_latest, .int m_leftBeats, .int m_signed, .int m_metMany, .ref m_qsums, .ref m_qpairs, .ref m_qgoesWith, .ref m_qsaid, .int m_saidMany, .int m_firstWait, .ref m_qfirstOrder, .int m_bundleFirst, .ref m_qtiredBy, .int m_tiredMany, .ref m_qmany, .ref m_qwidth, .ref m_qnumbers, .ref m_qmoving])), (m_qworld, .inl (cA 1, 122, .inl m_cworld))]) [0, 1] rfl) (g_X12_isGorge l D cA h0 m_thrown m_qworld m_qimages m_qhasImage m_qtape m_taped m_qfive m_size m_at m_from m_token m_value m_faultKind m_faultPlace m_qfresh m_startOne m_startOther m_latest m_leftBeats m_signed m_metMany m_qsums m_qpairs m_qgoesWith m_qsaid m_saidMany m_firstWait m_qfirstOrder m_bundleFirst m_qtiredBy m_tiredMany m_qmany m_qwidth m_qnumbers m_qmoving m_cworld (by omega) (by omega) (by omega) (by omega) (by omega) (by omega) a_m_cworld_0) (tb_V tw_1664 tw_1666 tw_54 tw_114 tw_1667) hdX12_isGorge ⟨rfl, rfl, Nat.le_of_ble_eq_true rfl, Nat.le_of_ble_eq_true rfl⟩ ⟨Nat.le_of_ble_eq_true rfl, Nat.le_of_ble_eq_true rfl⟩ rfl rfl rfl hl.1 rfl (Nat.le_of_ble_eq_true rfl) dX12_even_1 (fun r_1 hr_1 => ?_)
  rcases hr_1 with ⟨k_1_0_0, k_1_0_1, k_1_0_2, k_1_0_3, rfl⟩ | rfl
  · skip
    refine lv_if_ne (tgt := 10) hx hb dX12_even_4 (by decide) (fun c_2 => ?_) (fun c_2 => absurd c_2 (by decide))
    refine lv_iconst (v := 0) hx hb dX12_even_10 (by decide) ?_
    refine lv_istore_n (lv' := [(1, .int 0), (0, .ref h0)]) hx hb dX12_even_11 rfl hl (by decide) rfl (fun ls hl => ?_)
    refine lv_iconst (v := 1) hx hb dX12_even_12 (by decide) ?_
    refine lv_istore_n (lv' := [(2, .int 1), (1, .int 0), (0, .ref h0)]) hx hb dX12_even_13 rfl hl (by decide) rfl (fun ls hl => ?_)
    refine loopW (σ := Int32 × Int32) (fun _ => []) (fun ⟨L2_68, L1_68⟩ H locs ls => (1 ≤ L2_68.toInt ∧ L2_68.toInt ≤ 128) ∧ (0 ≤ L1_68.toInt) ∧ H = s.heap ∧ locs = [] ∧ lv_has ls 3 [(2, .int L2_68), (1, .int L1_68), (0, .ref h0)]) (fun ⟨L2_68, L1_68⟩ => (2147483647 - L2_68.toInt).toNat) ?_ ((1, 0) : Int32 × Int32) ⟨(by decide), (by decide), rfl, rfl, hl⟩
    intro x_68 H locs ls hI_68 ih_68
    obtain ⟨L2_68, L1_68⟩ := x_68
    obtain ⟨k0_68, k1_68, rfl, rfl, hl⟩ := hI_68
    have hl : lv_has ls 3 [(2, .int L2_68), (1, .int L1_68), (0, .ref h0)] := hl
    refine lv_iload_n hx hb dX12_even_14 rfl (lv_at hl 0 rfl) ?_
    refine lv_aload_n hx hb dX12_even_15 rfl (lv_at hl 2 rfl) ?_
    refine cpVi (rest := [.int L2_68]) ⟨hx, hb, hml, hown, hts⟩ hKN (hP.sub (ws' := [(h0, .inr (12, [.int m_thrown, .ref m_qworld, .ref m_qimages, .ref m_qhasImage, .ref m_qtape, .int m_taped, .ref m_qfive, .int m_size, .int m_at, .int m_from, .int m_token, .int m_value, .int m_faultKind, .int m_faultPlace, .ref m_qfresh, .int m_startOne, .int m_startOther, .int m_latest, .int m_leftBeats, .int m_signed, .int m_metMany, .ref m_qsums, .ref m_qpairs, .ref m_qgoesWith, .ref m_qsaid, .int m_saidMany, .int m_firstWait, .ref m_qfirstOrder, .int m_bundleFirst, .ref m_qtiredBy, .int m_tiredMany, .ref m_qmany, .ref m_qwidth, .ref m_qnumbers, .ref m_qmoving])), (m_qworld, .inl (cA 1, 122, .inl m_cworld))]) [0, 1] rfl) (g_X12_allClauses l D cA h0 m_thrown m_qworld m_qimages m_qhasImage m_qtape m_taped m_qfive m_size m_at m_from m_token m_value m_faultKind m_faultPlace m_qfresh m_startOne m_startOther m_latest m_leftBeats m_signed m_metMany m_qsums m_qpairs m_qgoesWith m_qsaid m_saidMany m_firstWait m_qfirstOrder m_bundleFirst m_qtiredBy m_tiredMany m_qmany m_qwidth m_qnumbers m_qmoving m_cworld (by omega) (by omega) (by omega) (by omega) (by omega) (by omega) a_m_cworld_0) (tb_V tw_1908 tw_1910 tw_83 tw_114 tw_1911) hdX12_allClauses ⟨rfl, rfl, Nat.le_of_ble_eq_true rfl, Nat.le_of_ble_eq_true rfl⟩ ⟨Nat.le_of_ble_eq_true rfl, Nat.le_of_ble_eq_true rfl⟩ rfl rfl rfl hl.1 rfl (Nat.le_of_ble_eq_true rfl) dX12_even_16 (fun r_69 hr_69 => ?_)
    refine lv_icmp_gt (tgt := 48) hx hb dX12_even_19 (by decide) (fun c_70 => ?_) (fun c_70 => ?_)
    · skip
      have k_71 := kk_lt rfl rfl c_70
      refine lv_iload_n hx hb dX12_even_48 rfl (lv_at hl 1 rfl) ?_
      exact W.iret (v := L1_68) hx hb hr (fun t ht hW => ⟨L1_68, rfl, (show -2 ≤ L1_68.toInt from by omega), ht⟩) (fun _ h => by cases h) dX12_even_49
    · skip
      have k_72 := kk_nlt rfl rfl c_70
      refine lv_iload_n hx hb dX12_even_22 rfl (lv_at hl 1 rfl) ?_
      refine lv_aload_n hx hb dX12_even_23 rfl (lv_at hl 2 rfl) ?_
      refine lv_iload_n hx hb dX12_even_24 rfl (lv_at hl 0 rfl) ?_
      refine lv_iconst (v := 0) hx hb dX12_even_25 (by decide) ?_
      have z_73 := zi_0
      refine cpVi (rest := [.int L1_68]) ⟨hx, hb, hml, hown, hts⟩ hKN (hP.sub (ws' := [(h0, .inr (12, [.int m_thrown, .ref m_qworld, .ref m_qimages, .ref m_qhasImage, .ref m_qtape, .int m_taped, .ref m_qfive, .int m_size, .int m_at, .int m_from, .int m_token, .int m_value, .int m_faultKind, .int m_faultPlace, .ref m_qfresh, .int m_startOne, .int m_startOther, .int m_latest, .int m_leftBeats, .int m_signed, .int m_metMany, .ref m_qsums, .ref m_qpairs, .ref m_qgoesWith, .ref m_qsaid, .int m_saidMany, .int m_firstWait, .ref m_qfirstOrder, .int m_bundleFirst, .ref m_qtiredBy, .int m_tiredMany, .ref m_qmany, .ref m_qwidth, .ref m_qnumbers, .ref m_qmoving])), (m_qworld, .inl (cA 1, 122, .inl m_cworld))]) [0, 1] rfl) (g_X12_worthOf l D cA h0 m_thrown m_qworld m_qimages m_qhasImage m_qtape m_taped m_qfive m_size m_at m_from m_token m_value m_faultKind m_faultPlace m_qfresh m_startOne m_startOther m_latest m_leftBeats m_signed m_metMany m_qsums m_qpairs m_qgoesWith m_qsaid m_saidMany m_firstWait m_qfirstOrder m_bundleFirst m_qtiredBy m_tiredMany m_qmany m_qwidth m_qnumbers m_qmoving m_cworld L2_68 0 (by omega) (by omega) (by omega) (by omega) (by omega) (by omega) (by decide) a_m_cworld_0) (tb_V tw_1935 tw_1937 tw_87 tw_114 tw_1938) hdX12_worthOf ⟨rfl, rfl, Nat.le_of_ble_eq_true rfl, Nat.le_of_ble_eq_true rfl⟩ ⟨Nat.le_of_ble_eq_true rfl, Nat.le_of_ble_eq_true rfl⟩ rfl rfl rfl hl.1 rfl (Nat.le_of_ble_eq_true rfl) dX12_even_26 (fun r_74 hr_74 => ?_)
      refine lv_aload_n hx hb dX12_even_29 rfl (lv_at hl 2 rfl) ?_
      refine lv_iload_n hx hb dX12_even_30 rfl (lv_at hl 0 rfl) ?_
      refine lv_iconst (v := 1) hx hb dX12_even_31 (by decide) ?_
      have z_75 := zi_1
      refine cpVi (rest := [.int r_74, .int L1_68]) ⟨hx, hb, hml, hown, hts⟩ hKN (hP.sub (ws' := [(h0, .inr (12, [.int m_thrown, .ref m_qworld, .ref m_qimages, .ref m_qhasImage, .ref m_qtape, .int m_taped, .ref m_qfive, .int m_size, .int m_at, .int m_from, .int m_token, .int m_value, .int m_faultKind, .int m_faultPlace, .ref m_qfresh, .int m_startOne, .int m_startOther, .int m_latest, .int m_leftBeats, .int m_signed, .int m_metMany, .ref m_qsums, .ref m_qpairs, .ref m_qgoesWith, .ref m_qsaid, .int m_saidMany, .int m_firstWait, .ref m_qfirstOrder, .int m_bundleFirst, .ref m_qtiredBy, .int m_tiredMany, .ref m_qmany, .ref m_qwidth, .ref m_qnumbers, .ref m_qmoving])), (m_qworld, .inl (cA 1, 122, .inl m_cworld))]) [0, 1] rfl) (g_X12_worthOf l D cA h0 m_thrown m_qworld m_qimages m_qhasImage m_qtape m_taped m_qfive m_size m_at m_from m_token m_value m_faultKind m_faultPlace m_qfresh m_startOne m_startOther m_latest m_leftBeats m_signed m_metMany m_qsums m_qpairs m_qgoesWith m_qsaid m_saidMany m_firstWait m_qfirstOrder m_bundleFirst m_qtiredBy m_tiredMany m_qmany m_qwidth m_qnumbers m_qmoving m_cworld L2_68 1 (by omega) (by omega) (by omega) (by omega) (by omega) (by omega) (by decide) a_m_cworld_0) (tb_V tw_1935 tw_1937 tw_87 tw_114 tw_1938) hdX12_worthOf ⟨rfl, rfl, Nat.le_of_ble_eq_true rfl, Nat.le_of_ble_eq_true rfl⟩ ⟨Nat.le_of_ble_eq_true rfl, Nat.le_of_ble_eq_true rfl⟩ rfl rfl rfl hl.1 rfl (Nat.le_of_ble_eq_true rfl) dX12_even_32 (fun r_76 hr_76 => ?_)
      refine cpSi (rest := [.int L1_68]) ⟨hx, hb, hml, hown, hts⟩ hKN (hP.sub (ws' := []) [] rfl) (g_J9_min_7cf53 l D cA r_74 r_76) (tb_S tw_1566 tw_555 tw_115 tw_556) hdJ9_min_7cf53 ⟨rfl, rfl, Nat.le_of_ble_eq_true rfl, Nat.le_of_ble_eq_true rfl⟩ ⟨Nat.le_of_ble_eq_true rfl, Nat.le_of_ble_eq_true rfl⟩ rfl hl.1 rfl (Nat.le_of_ble_eq_true rfl) dX12_even_35 (fun r_77 hr_77 => ?_)
      obtain ⟨k_77_0_0, k_77_0_1, k_77_0_2⟩ := hr_77
      refine cpSi (rest := []) ⟨hx, hb, hml, hown, hts⟩ hKN (hP.sub (ws' := []) [] rfl) (g_J9_max_7cf53 l D cA L1_68 r_77) (tb_S tw_1735 tw_779 tw_115 tw_780) hdJ9_max_7cf53 ⟨rfl, rfl, Nat.le_of_ble_eq_true rfl, Nat.le_of_ble_eq_true rfl⟩ ⟨Nat.le_of_ble_eq_true rfl, Nat.le_of_ble_eq_true rfl⟩ rfl hl.1 rfl (Nat.le_of_ble_eq_true rfl) dX12_even_38 (fun r_78 hr_78 => ?_)
      obtain ⟨k_78_0_0, k_78_0_1, k_78_0_2⟩ := hr_78
      refine lv_istore_n (lv' := [(1, .int r_78), (2, .int L2_68), (0, .ref h0)]) hx hb dX12_even_41 rfl hl (by decide) rfl (fun ls hl => ?_)
      obtain ⟨x_79, ex_79⟩ : ∃ y : Int32, L2_68 + Int32.ofInt 1 = y := ⟨_, rfl⟩
      have k_80 := ar_add (b := 1) rfl zi_1 ex_79.symm (by omega) (by omega)
      refine lv_iinc (v := x_79) (lv' := [(2, .int x_79), (1, .int r_78), (0, .ref h0)]) hx hb dX12_even_42 hl (k := 1) rfl ex_79 (by decide) rfl (fun ls hl => ?_)
      refine lv_goto (tgt := 14) hx hb dX12_even_45 (by decide) ?_
      exact ih_68 (x_79, r_78) _ _ _ ⟨(show 1 ≤ x_79.toInt ∧ x_79.toInt ≤ 128 from by omega), (show 0 ≤ r_78.toInt from by omega), rfl, rfl, lv_sub hl [0, 1, 2] rfl⟩ (by show (2147483647 - x_79.toInt).toNat < (2147483647 - L2_68.toInt).toNat; omega)
  · skip
    refine lv_if_ne (tgt := 10) hx hb dX12_even_4 (by decide) (fun c_81 => absurd (by decide) c_81) (fun c_81 => ?_)
    refine lv_bipush (v := (-2)) hx hb dX12_even_7 (by decide) ?_
    exact W.iret (v := (-2)) hx hb hr (fun t ht hW => ⟨(-2), rfl, (show -2 ≤ ((-2) : Int32).toInt from by decide), ht⟩) (fun _ h => by cases h) dX12_even_9
set_option maxHeartbeats 8000000 in
set_option maxRecDepth 100000 in
theorem g_X12_mustOf (l : Launch) (D : va_G) (cA : Nat → ClassId) (h0 : Nat) (m_thrown : Int32) (m_qworld : Nat) (m_qimages : Nat) (m_qhasImage : Nat) (m_qtape : Nat) (m_taped : Int32) (m_qfive : Nat) (m_size : Int32) (m_at : Int32) (m_from : Int32) (m_token : Int32) (m_value : Int32) (m_faultKind : Int32) (m_faultPlace : Int32) (m_qfresh : Nat) (m_startOne : Int32) (m_startOther : Int32) (m_latest : Int32) (m_leftBeats : Int32) (m_signed : Int32) (m_metMany : Int32) (m_qsums : Nat) (m_qpairs : Nat) (m_qgoesWith : Nat) (m_qsaid : Nat) (m_saidMany : Int32) (m_firstWait : Int32) (m_qfirstOrder : Nat) (m_bundleFirst : Int32) (m_qtiredBy : Nat) (m_tiredMany : Int32) (m_qmany : Nat) (m_qwidth : Nat) (m_qnumbers : Nat) (m_qmoving : Nat) (m_cworld : Nat → Int32) (p0 : Int32) (h_m_taped : 0 ≤ (m_taped : Int32).toInt ∧ (m_taped : Int32).toInt ≤ 800) (h_m_size : 0 ≤ (m_size : Int32).toInt ∧ (m_size : Int32).toInt ≤ 800) (h_m_at : 0 ≤ (m_at : Int32).toInt ∧ (m_at : Int32).toInt ≤ 800) (h_m_from : 0 ≤ (m_from : Int32).toInt ∧ (m_from : Int32).toInt ≤ 800) (h_m_saidMany : 0 ≤ (m_saidMany : Int32).toInt ∧ (m_saidMany : Int32).toInt ≤ 60) (h_m_tiredMany : 0 ≤ (m_tiredMany : Int32).toInt ∧ (m_tiredMany : Int32).toInt ≤ 240) (h_p0 : 0 ≤ (p0 : Int32).toInt ∧ (p0 : Int32).toInt ≤ 1) (a_m_cworld_0 : WI m_cworld) : Met l yX12_mustOf (Cond.code yX12_mustOf cX12_mustOf 4 (some .int) :: TB) (rmd 2 0 0) (PP D cA [(h0, .inr (12, [.int m_thrown, .ref m_qworld, .ref m_qimages, .ref m_qhasImage, .ref m_qtape, .int m_taped, .ref m_qfive, .int m_size, .int m_at, .int m_from, .int m_token, .int m_value, .int m_faultKind, .int m_faultPlace, .ref m_qfresh, .int m_startOne, .int m_startOther, .int m_latest, .int m_leftBeats, .int m_signed, .int m_metMany, .ref m_qsums, .ref m_qpairs, .ref m_qgoesWith, .ref m_qsaid, .int m_saidMany, .int m_firstWait, .ref m_qfirstOrder, .int m_bundleFirst, .ref m_qtiredBy, .int m_tiredMany, .ref m_qmany, .ref m_qwidth, .ref m_qnumbers, .ref m_qmoving])), (m_qworld, .inl (cA 1, 122, .inl m_cworld))] [.ref h0, .int p0]) (vp_Si (fun r => 0 ≤ r.toInt ∧ r.toInt ≤ 127)) 0 0 (fun _ => False) := by
  refine Met.ofW (cc := cX12_mustOf) (maxL := 4) (ret := (some .int)) (by decide) rfl ?_
  intro p e s m args below meth c s₁ B hml hv
  obtain ⟨rfl, hP, hKN⟩ := hv
  have hx := B.exec
  have hb := B.bytes
  have hr := B.returns
  have hts : ∀ w ∈ TB, w.before _ s = true := fun w h => atoms_spec B.pre w (List.mem_cons_of_mem _ h)
  have hown : s.vm.findClass RX12 = some m.cls := findClass_of_methodNamed B.named
  have hlocks := B.notSynchronized
  have hl := lv_entry ([.ref h0, .int p0]) (n := 4) (Nat.le_of_ble_eq_true rfl)
  rw [lg_entry_eq]
  generalize (lg_sl ([.ref h0, .int p0]) ++ List.replicate (4 - (lg_sl ([.ref h0, .int p0])).length) Slot.unset).toArray = ls at hl ⊢
  have hl : lv_has ls 4 [(0, .ref h0), (1, .int p0)] := hl
  refine lv_aload_n hx hb dX12_mustOf_0 rfl (lv_at hl 0 rfl) ?_
  refine cpVi (rest := []) ⟨hx, hb, hml, hown, hts⟩ hKN (hP.sub (ws' := [(h0, .inr (12, [.int m_thrown, .ref m_qworld, .ref m_qimages, .ref m_qhasImage, .ref m_qtape, .int m_taped, .ref m_qfive, .int m_size, .int m_at, .int m_from, .int m_token, .int m_value, .int m_faultKind, .int m_faultPlace, .ref m_qfresh, .int m_startOne, .int m_startOther, .int m_latest, .int m_leftBeats, .int m_signed, .int m_metMany, .ref m_qsums, .ref m_qpairs, .ref m_qgoesWith, .ref m_qsaid, .int m_saidMany, .int m_firstWait, .ref m_qfirstOrder, .int m_bundleFirst, .ref m_qtiredBy, .int m_tiredMany, .ref m_qmany, .ref m_qwidth, .ref m_qnumbers, .ref m_qmoving])), (m_qworld, .inl (cA 1, 122, .inl m_cworld))]) [0, 1] rfl) (g_X12_allClauses l D cA h0 m_thrown m_qworld m_qimages m_qhasImage m_qtape m_taped m_qfive m_size m_at m_from m_token m_value m_faultKind m_faultPlace m_qfresh m_startOne m_startOther m_latest m_leftBeats m_signed m_metMany m_qsums m_qpairs m_qgoesWith m_qsaid m_saidMany m_firstWait m_qfirstOrder m_bundleFirst m_qtiredBy m_tiredMany m_qmany m_qwidth m_qnumbers m_qmoving m_cworld (by omega) (by omega) (by omega) (by omega) (by omega) (by omega) a_m_cworld_0) (tb_V tw_1908 tw_1910 tw_83 tw_114 tw_1911) hdX12_allClauses ⟨rfl, rfl, Nat.le_of_ble_eq_true rfl, Nat.le_of_ble_eq_true rfl⟩ ⟨Nat.le_of_ble_eq_true rfl, Nat.le_of_ble_eq_true rfl⟩ rfl rfl rfl hl.1 rfl (Nat.le_of_ble_eq_true rfl) dX12_mustOf_1 (fun r_1 hr_1 => ?_)
  refine lv_istore_n (lv' := [(2, .int r_1), (0, .ref h0), (1, .int p0)]) hx hb dX12_mustOf_4 rfl hl (by decide) rfl (fun ls hl => ?_)
  refine lv_aload_n hx hb dX12_mustOf_5 rfl (lv_at hl 1 rfl) ?_
  refine cpVi (rest := []) ⟨hx, hb, hml, hown, hts⟩ hKN (hP.sub (ws' := [(h0, .inr (12, [.int m_thrown, .ref m_qworld, .ref m_qimages, .ref m_qhasImage, .ref m_qtape, .int m_taped, .ref m_qfive, .int m_size, .int m_at, .int m_from, .int m_token, .int m_value, .int m_faultKind, .int m_faultPlace, .ref m_qfresh, .int m_startOne, .int m_startOther, .int m_latest, .int m_leftBeats, .int m_signed, .int m_metMany, .ref m_qsums, .ref m_qpairs, .ref m_qgoesWith, .ref m_qsaid, .int m_saidMany, .int m_firstWait, .ref m_qfirstOrder, .int m_bundleFirst, .ref m_qtiredBy, .int m_tiredMany, .ref m_qmany, .ref m_qwidth, .ref m_qnumbers, .ref m_qmoving])), (m_qworld, .inl (cA 1, 122, .inl m_cworld))]) [0, 1] rfl) (g_X12_allClauses l D cA h0 m_thrown m_qworld m_qimages m_qhasImage m_qtape m_taped m_qfive m_size m_at m_from m_token m_value m_faultKind m_faultPlace m_qfresh m_startOne m_startOther m_latest m_leftBeats m_signed m_metMany m_qsums m_qpairs m_qgoesWith m_qsaid m_saidMany m_firstWait m_qfirstOrder m_bundleFirst m_qtiredBy m_tiredMany m_qmany m_qwidth m_qnumbers m_qmoving m_cworld (by omega) (by omega) (by omega) (by omega) (by omega) (by omega) a_m_cworld_0) (tb_V tw_1908 tw_1910 tw_83 tw_114 tw_1911) hdX12_allClauses ⟨rfl, rfl, Nat.le_of_ble_eq_true rfl, Nat.le_of_ble_eq_true rfl⟩ ⟨Nat.le_of_ble_eq_true rfl, Nat.le_of_ble_eq_true rfl⟩ rfl rfl rfl hl.1 rfl (Nat.le_of_ble_eq_true rfl) dX12_mustOf_6 (fun r_2 hr_2 => ?_)
  refine lv_istore_n (lv' := [(3, .int r_2), (2, .int r_1), (0, .ref h0), (1, .int p0)]) hx hb dX12_mustOf_9 rfl hl (by decide) rfl (fun ls hl => ?_)
  refine loopW (σ := Int32 × Int32) (fun _ => []) (fun ⟨L3_63, L2_63⟩ H locs ls => (-1 ≤ L3_63.toInt ∧ L3_63.toInt ≤ 127) ∧ (0 ≤ L2_63.toInt ∧ L2_63.toInt ≤ 127) ∧ H = s.heap ∧ locs = [] ∧ lv_has ls 4 [(3, .int L3_63), (2, .int L2_63), (0, .ref h0), (1, .int p0)]) (fun ⟨L3_63, L2_63⟩ => (L3_63.toInt + 2147483648).toNat) ?_ ((r_2, r_1) : Int32 × Int32) ⟨(show -1 ≤ r_2.toInt ∧ r_2.toInt ≤ 127 from by omega), (show 0 ≤ r_1.toInt ∧ r_1.toInt ≤ 127 from by omega), rfl, rfl, hl⟩
  intro x_63 H locs ls hI_63 ih_63
  obtain ⟨L3_63, L2_63⟩ := x_63
  obtain ⟨k0_63, k1_63, rfl, rfl, hl⟩ := hI_63
  have hl : lv_has ls 4 [(3, .int L3_63), (2, .int L2_63), (0, .ref h0), (1, .int p0)] := hl
  refine lv_iload_n hx hb dX12_mustOf_10 rfl (lv_at hl 0 rfl) ?_
  refine lv_if_lt (tgt := 49) hx hb dX12_mustOf_11 (by decide) (fun c_64 => ?_) (fun c_64 => ?_)
  · skip
    have k_65 := kk_lt rfl zi_0 c_64
    refine lv_iload_n hx hb dX12_mustOf_49 rfl (lv_at hl 1 rfl) ?_
    exact W.iret (v := L2_63) hx hb hr (fun t ht hW => ⟨L2_63, rfl, (show 0 ≤ L2_63.toInt ∧ L2_63.toInt ≤ 127 from by omega), ht⟩) (fun _ h => by cases h) dX12_mustOf_50
  · skip
    have k_66 := kk_nlt rfl zi_0 c_64
    refine lv_aload_n hx hb dX12_mustOf_14 rfl (lv_at hl 2 rfl) ?_
    refine lv_aload_n hx hb dX12_mustOf_15 rfl (lv_at hl 2 rfl) ?_
    refine cpVi (rest := [.ref h0]) ⟨hx, hb, hml, hown, hts⟩ hKN (hP.sub (ws' := [(h0, .inr (12, [.int m_thrown, .ref m_qworld, .ref m_qimages, .ref m_qhasImage, .ref m_qtape, .int m_taped, .ref m_qfive, .int m_size, .int m_at, .int m_from, .int m_token, .int m_value, .int m_faultKind, .int m_faultPlace, .ref m_qfresh, .int m_startOne, .int m_startOther, .int m_latest, .int m_leftBeats, .int m_signed, .int m_metMany, .ref m_qsums, .ref m_qpairs, .ref m_qgoesWith, .ref m_qsaid, .int m_saidMany, .int m_firstWait, .ref m_qfirstOrder, .int m_bundleFirst, .ref m_qtiredBy, .int m_tiredMany, .ref m_qmany, .ref m_qwidth, .ref m_qnumbers, .ref m_qmoving])), (m_qworld, .inl (cA 1, 122, .inl m_cworld))]) [0, 1] rfl) (g_X12_allClauses l D cA h0 m_thrown m_qworld m_qimages m_qhasImage m_qtape m_taped m_qfive m_size m_at m_from m_token m_value m_faultKind m_faultPlace m_qfresh m_startOne m_startOther m_latest m_leftBeats m_signed m_metMany m_qsums m_qpairs m_qgoesWith m_qsaid m_saidMany m_firstWait m_qfirstOrder m_bundleFirst m_qtiredBy m_tiredMany m_qmany m_qwidth m_qnumbers m_qmoving m_cworld (by omega) (by omega) (by omega) (by omega) (by omega) (by omega) a_m_cworld_0) (tb_V tw_1908 tw_1910 tw_83 tw_114 tw_1911) hdX12_allClauses ⟨rfl, rfl, Nat.le_of_ble_eq_true rfl, Nat.le_of_ble_eq_true rfl⟩ ⟨Nat.le_of_ble_eq_true rfl, Nat.le_of_ble_eq_true rfl⟩ rfl rfl rfl hl.1 rfl (Nat.le_of_ble_eq_true rfl) dX12_mustOf_16 (fun r_67 hr_67 => ?_)
    refine lv_iload_n hx hb dX12_mustOf_19 rfl (lv_at hl 0 rfl) ?_
    refine lv_iconst (v := (-1)) hx hb dX12_mustOf_20 (by decide) ?_
    refine lv_ixor hx hb dX12_mustOf_21 ?_
    refine lv_topi (fun x_68 ex_68 => ?_)
    refine lv_iand hx hb dX12_mustOf_22 ?_
    refine lv_topi (fun x_70 ex_70 => ?_)
    have k_71 := ar_andL rfl ex_70 (by omega)
    refine lv_iload_n hx hb dX12_mustOf_23 rfl (lv_at hl 3 rfl) ?_
    refine cpVi (rest := []) ⟨hx, hb, hml, hown, hts⟩ hKN (hP.sub (ws' := [(h0, .inr (12, [.int m_thrown, .ref m_qworld, .ref m_qimages, .ref m_qhasImage, .ref m_qtape, .int m_taped, .ref m_qfive, .int m_size, .int m_at, .int m_from, .int m_token, .int m_value, .int m_faultKind, .int m_faultPlace, .ref m_qfresh, .int m_startOne, .int m_startOther, .int m_latest, .int m_leftBeats, .int m_signed, .int m_metMany, .ref m_qsums, .ref m_qpairs, .ref m_qgoesWith, .ref m_qsaid, .int m_saidMany, .int m_firstWait, .ref m_qfirstOrder, .int m_bundleFirst, .ref m_qtiredBy, .int m_tiredMany, .ref m_qmany, .ref m_qwidth, .ref m_qnumbers, .ref m_qmoving])), (m_qworld, .inl (cA 1, 122, .inl m_cworld))]) [0, 1] rfl) (g_X12_worthOf l D cA h0 m_thrown m_qworld m_qimages m_qhasImage m_qtape m_taped m_qfive m_size m_at m_from m_token m_value m_faultKind m_faultPlace m_qfresh m_startOne m_startOther m_latest m_leftBeats m_signed m_metMany m_qsums m_qpairs m_qgoesWith m_qsaid m_saidMany m_firstWait m_qfirstOrder m_bundleFirst m_qtiredBy m_tiredMany m_qmany m_qwidth m_qnumbers m_qmoving m_cworld x_70 p0 (by omega) (by omega) (by omega) (by omega) (by omega) (by omega) (by omega) a_m_cworld_0) (tb_V tw_1935 tw_1937 tw_87 tw_114 tw_1938) hdX12_worthOf ⟨rfl, rfl, Nat.le_of_ble_eq_true rfl, Nat.le_of_ble_eq_true rfl⟩ ⟨Nat.le_of_ble_eq_true rfl, Nat.le_of_ble_eq_true rfl⟩ rfl rfl rfl hl.1 rfl (Nat.le_of_ble_eq_true rfl) dX12_mustOf_24 (fun r_72 hr_72 => ?_)
    refine lv_if_lt (tgt := 43) hx hb dX12_mustOf_27 (by decide) (fun c_73 => ?_) (fun c_73 => ?_)
    · skip
      have b_75 := i32_bd r_72
      have k_74 := kk_lt rfl zi_0 c_73
      obtain ⟨x_76, ex_76⟩ : ∃ y : Int32, L3_63 + Int32.ofInt (-1) = y := ⟨_, rfl⟩
      have k_77 := ar_add (b := (-1)) rfl zi_m1 ex_76.symm (by omega) (by omega)
      refine lv_iinc (v := x_76) (lv' := [(3, .int x_76), (2, .int L2_63), (0, .ref h0), (1, .int p0)]) hx hb dX12_mustOf_43 hl (k := 0) rfl ex_76 (by decide) rfl (fun ls hl => ?_)
      refine lv_goto (tgt := 10) hx hb dX12_mustOf_46 (by decide) ?_
      exact ih_63 (x_76, L2_63) _ _ _ ⟨(show -1 ≤ x_76.toInt ∧ x_76.toInt ≤ 127 from by omega), (show 0 ≤ L2_63.toInt ∧ L2_63.toInt ≤ 127 from by omega), rfl, rfl, lv_sub hl [0, 1, 2, 3] rfl⟩ (by show (x_76.toInt + 2147483648).toNat < (L3_63.toInt + 2147483648).toNat; omega)
    · skip
      have b_79 := i32_bd r_72
      have k_78 := kk_nlt rfl zi_0 c_73
      refine lv_iload_n hx hb dX12_mustOf_30 rfl (lv_at hl 0 rfl) ?_
      refine cpSi (rest := []) ⟨hx, hb, hml, hown, hts⟩ hKN (hP.sub (ws' := []) [] rfl) (g_X12_bits l D cA L3_63) (tb_S tw_1916 tw_1917 tw_114 tw_1918) hdX12_bits ⟨rfl, rfl, Nat.le_of_ble_eq_true rfl, Nat.le_of_ble_eq_true rfl⟩ ⟨Nat.le_of_ble_eq_true rfl, Nat.le_of_ble_eq_true rfl⟩ rfl hl.1 rfl (Nat.le_of_ble_eq_true rfl) dX12_mustOf_31 (fun r_80 hr_80 => ?_)
      refine lv_iload_n hx hb dX12_mustOf_34 rfl (lv_at hl 1 rfl) ?_
      refine cpSi (rest := [.int r_80]) ⟨hx, hb, hml, hown, hts⟩ hKN (hP.sub (ws' := []) [] rfl) (g_X12_bits l D cA L2_63) (tb_S tw_1916 tw_1917 tw_114 tw_1918) hdX12_bits ⟨rfl, rfl, Nat.le_of_ble_eq_true rfl, Nat.le_of_ble_eq_true rfl⟩ ⟨Nat.le_of_ble_eq_true rfl, Nat.le_of_ble_eq_true rfl⟩ rfl hl.1 rfl (Nat.le_of_ble_eq_true rfl) dX12_mustOf_35 (fun r_81 hr_81 => ?_)
      refine lv_icmp_gt (tgt := 43) hx hb dX12_mustOf_38 (by decide) (fun c_82 => ?_) (fun c_82 => ?_)
      · skip
        have b_84 := i32_bd r_81
        have b_85 := i32_bd r_80
        have k_83 := kk_lt rfl rfl c_82
        obtain ⟨x_86, ex_86⟩ : ∃ y : Int32, L3_63 + Int32.ofInt (-1) = y := ⟨_, rfl⟩
        have k_87 := ar_add (b := (-1)) rfl zi_m1 ex_86.symm (by omega) (by omega)
        refine lv_iinc (v := x_86) (lv' := [(3, .int x_86), (2, .int L2_63), (0, .ref h0), (1, .int p0)]) hx hb dX12_mustOf_43 hl (k := 0) rfl ex_86 (by decide) rfl (fun ls hl => ?_)
        refine lv_goto (tgt := 10) hx hb dX12_mustOf_46 (by decide) ?_
        exact ih_63 (x_86, L2_63) _ _ _ ⟨(show -1 ≤ x_86.toInt ∧ x_86.toInt ≤ 127 from by omega), (show 0 ≤ L2_63.toInt ∧ L2_63.toInt ≤ 127 from by omega), rfl, rfl, lv_sub hl [0, 1, 2, 3] rfl⟩ (by show (x_86.toInt + 2147483648).toNat < (L3_63.toInt + 2147483648).toNat; omega)
      · skip
        have b_89 := i32_bd r_81
        have b_90 := i32_bd r_80
        have k_88 := kk_nlt rfl rfl c_82
        refine lv_iload_n hx hb dX12_mustOf_41 rfl (lv_at hl 0 rfl) ?_
        refine lv_istore_n (lv' := [(2, .int L3_63), (3, .int L3_63), (0, .ref h0), (1, .int p0)]) hx hb dX12_mustOf_42 rfl hl (by decide) rfl (fun ls hl => ?_)
        obtain ⟨x_91, ex_91⟩ : ∃ y : Int32, L3_63 + Int32.ofInt (-1) = y := ⟨_, rfl⟩
        have k_92 := ar_add (b := (-1)) rfl zi_m1 ex_91.symm (by omega) (by omega)
        refine lv_iinc (v := x_91) (lv' := [(3, .int x_91), (2, .int L3_63), (0, .ref h0), (1, .int p0)]) hx hb dX12_mustOf_43 hl (k := 1) rfl ex_91 (by decide) rfl (fun ls hl => ?_)
        refine lv_goto (tgt := 10) hx hb dX12_mustOf_46 (by decide) ?_
        exact ih_63 (x_91, L3_63) _ _ _ ⟨(show -1 ≤ x_91.toInt ∧ x_91.toInt ≤ 127 from by omega), (show 0 ≤ L3_63.toInt ∧ L3_63.toInt ≤ 127 from by omega), rfl, rfl, lv_sub hl [0, 1, 2, 3] rfl⟩ (by show (x_91.toInt + 2147483648).toNat < (L3_63.toInt + 2147483648).toNat; omega)
set_option maxHeartbeats 8000000 in
set_option maxRecDepth 100000 in
theorem g_X12_veto (l : Launch) (D : va_G) (cA : Nat → ClassId) (h0 : Nat) (m_thrown : Int32) (m_qworld : Nat) (m_qimages : Nat) (m_qhasImage : Nat) (m_qtape : Nat) (m_taped : Int32) (m_qfive : Nat) (m_size : Int32) (m_at : Int32) (m_from : Int32) (m_token : Int32) (m_value : Int32) (m_faultKind : Int32) (m_faultPlace : Int32) (m_qfresh : Nat) (m_startOne : Int32) (m_startOther : Int32) (m_latest : Int32) (m_leftBeats : Int32) (m_signed : Int32) (m_metMany : Int32) (m_qsums : Nat) (m_qpairs : Nat) (m_qgoesWith : Nat) (m_qsaid : Nat) (m_saidMany : Int32) (m_firstWait : Int32) (m_qfirstOrder : Nat) (m_bundleFirst : Int32) (m_qtiredBy : Nat) (m_tiredMany : Int32) (m_qmany : Nat) (m_qwidth : Nat) (m_qnumbers : Nat) (m_qmoving : Nat) (m_cworld : Nat → Int32) (p0 : Int32) (h_m_taped : 0 ≤ (m_taped : Int32).toInt ∧ (m_taped : Int32).toInt ≤ 800) (h_m_size : 0 ≤ (m_size : Int32).toInt ∧ (m_size : Int32).toInt ≤ 800) (h_m_at : 0 ≤ (m_at : Int32).toInt ∧ (m_at : Int32).toInt ≤ 800) (h_m_from : 0 ≤ (m_from : Int32).toInt ∧ (m_from : Int32).toInt ≤ 800) (h_m_saidMany : 0 ≤ (m_saidMany : Int32).toInt ∧ (m_saidMany : Int32).toInt ≤ 60) (h_m_tiredMany : 0 ≤ (m_tiredMany : Int32).toInt ∧ (m_tiredMany : Int32).toInt ≤ 240) (a_m_cworld_0 : WI m_cworld) : Met l yX12_veto (Cond.code yX12_veto cX12_veto 4 (some .int) :: TB) (rmd 2 0 0) (PP D cA [(h0, .inr (12, [.int m_thrown, .ref m_qworld, .ref m_qimages, .ref m_qhasImage, .ref m_qtape, .int m_taped, .ref m_qfive, .int m_size, .int m_at, .int m_from, .int m_token, .int m_value, .int m_faultKind, .int m_faultPlace, .ref m_qfresh, .int m_startOne, .int m_startOther, .int m_latest, .int m_leftBeats, .int m_signed, .int m_metMany, .ref m_qsums, .ref m_qpairs, .ref m_qgoesWith, .ref m_qsaid, .int m_saidMany, .int m_firstWait, .ref m_qfirstOrder, .int m_bundleFirst, .ref m_qtiredBy, .int m_tiredMany, .ref m_qmany, .ref m_qwidth, .ref m_qnumbers, .ref m_qmoving])), (m_qworld, .inl (cA 1, 122, .inl m_cworld))] [.ref h0, .int p0]) (vp_Si (fun r => -2 ≤ r.toInt ∧ r.toInt ≤ 127)) 0 0 (fun _ => False) := by
  refine Met.ofW (cc := cX12_veto) (maxL := 4) (ret := (some .int)) (by decide) rfl ?_
  intro p e s m args below meth c s₁ B hml hv
  obtain ⟨rfl, hP, hKN⟩ := hv
  have hx := B.exec
  have hb := B.bytes
  have hr := B.returns
  have hts : ∀ w ∈ TB, w.before _ s = true := fun w h => atoms_spec B.pre w (List.mem_cons_of_mem _ h)
  have hown : s.vm.findClass RX12 = some m.cls := findClass_of_methodNamed B.named
  have hlocks := B.notSynchronized
  have hl := lv_entry ([.ref h0, .int p0]) (n := 4) (Nat.le_of_ble_eq_true rfl)
  rw [lg_entry_eq]
  generalize (lg_sl ([.ref h0, .int p0]) ++ List.replicate (4 - (lg_sl ([.ref h0, .int p0])).length) Slot.unset).toArray = ls at hl ⊢
  have hl : lv_has ls 4 [(0, .ref h0), (1, .int p0)] := hl
  refine lv_aload_n hx hb dX12_veto_0 rfl (lv_at hl 0 rfl) ?_
  refine lv_iload_n hx hb dX12_veto_1 rfl (lv_at hl 1 rfl) ?_
  refine cpVi (rest := []) ⟨hx, hb, hml, hown, hts⟩ hKN (hP.sub (ws' := [(h0, .inr (12, [.int m_thrown, .ref m_qworld, .ref m_qimages, .ref m_qhasImage, .ref m_qtape, .int m_taped, .ref m_qfive, .int m_size, .int m_at, .int m_from, .int m_token, .int m_value, .int m_faultKind, .int m_faultPlace, .ref m_qfresh, .int m_startOne, .int m_startOther, .int m_latest, .int m_leftBeats, .int m_signed, .int m_metMany, .ref m_qsums, .ref m_qpairs, .ref m_qgoesWith, .ref m_qsaid, .int m_saidMany, .int m_firstWait, .ref m_qfirstOrder, .int m_bundleFirst, .ref m_qtiredBy, .int m_tiredMany, .ref m_qmany, .ref m_qwidth, .ref m_qnumbers, .ref m_qmoving])), (m_qworld, .inl (cA 1, 122, .inl m_cworld))]) [0, 1] rfl) (g_X12_isSide l D cA h0 m_thrown m_qworld m_qimages m_qhasImage m_qtape m_taped m_qfive m_size m_at m_from m_token m_value m_faultKind m_faultPlace m_qfresh m_startOne m_startOther m_latest m_leftBeats m_signed m_metMany m_qsums m_qpairs m_qgoesWith m_qsaid m_saidMany m_firstWait m_qfirstOrder m_bundleFirst m_qtiredBy m_tiredMany m_qmany m_qwidth m_qnumbers m_qmoving m_cworld p0 (by omega) (by omega) (by omega) (by omega) (by omega) (by omega) a_m_cworld_0) (tb_V tw_1660 tw_1662 tw_53 tw_114 tw_1663) hdX12_isSide ⟨rfl, rfl, Nat.le_of_ble_eq_true rfl, Nat.le_of_ble_eq_true rfl⟩ ⟨Nat.le_of_ble_eq_true rfl, Nat.le_of_ble_eq_true rfl⟩ rfl rfl rfl hl.1 rfl (Nat.le_of_ble_eq_true rfl) dX12_veto_2 (fun r_1 hr_1 => ?_)
  rcases hr_1 with ⟨k_1_0_0, k_1_0_1, k_1_0_2, k_1_0_3, k_1_0_4, k_1_0_5, rfl⟩ | rfl
  · skip
    refine lv_if_ne (tgt := 11) hx hb dX12_veto_5 (by decide) (fun c_2 => ?_) (fun c_2 => absurd c_2 (by decide))
    refine lv_iconst (v := 0) hx hb dX12_veto_11 (by decide) ?_
    refine lv_istore_n (lv' := [(2, .int 0), (0, .ref h0), (1, .int p0)]) hx hb dX12_veto_12 rfl hl (by decide) rfl (fun ls hl => ?_)
    refine lv_iconst (v := 0) hx hb dX12_veto_13 (by decide) ?_
    refine lv_istore_n (lv' := [(3, .int 0), (2, .int 0), (0, .ref h0), (1, .int p0)]) hx hb dX12_veto_14 rfl hl (by decide) rfl (fun ls hl => ?_)
    refine loopW (σ := Int32 × Int32) (fun _ => []) (fun ⟨L3_129, L2_129⟩ H locs ls => (0 ≤ L3_129.toInt ∧ L3_129.toInt ≤ 7) ∧ (0 ≤ L2_129.toInt ∧ L2_129.toInt ≤ 127) ∧ H = s.heap ∧ locs = [] ∧ lv_has ls 4 [(3, .int L3_129), (2, .int L2_129), (0, .ref h0), (1, .int p0)]) (fun ⟨L3_129, L2_129⟩ => (2147483647 - L3_129.toInt).toNat) ?_ ((0, 0) : Int32 × Int32) ⟨(by decide), (by decide), rfl, rfl, hl⟩
    intro x_129 H locs ls hI_129 ih_129
    obtain ⟨L3_129, L2_129⟩ := x_129
    obtain ⟨k0_129, k1_129, rfl, rfl, hl⟩ := hI_129
    have hl : lv_has ls 4 [(3, .int L3_129), (2, .int L2_129), (0, .ref h0), (1, .int p0)] := hl
    refine lv_iload_n hx hb dX12_veto_15 rfl (lv_at hl 0 rfl) ?_
    refine lv_aload_n hx hb dX12_veto_16 rfl (lv_at hl 2 rfl) ?_
    refine va_get (D := D) (ci := 12) (v := .ref m_qworld) (C := RX12) (T := TX12) (N := 35) hx hb hts inX12 hown hKN.1 hP 0 rfl rfl 1 (by decide) (hts _ tw_1420) (fun _ h9 => h9) rfl dX12_veto_17 ?_
    refine lv_iconst (v := 5) hx hb dX12_veto_20 (by decide) ?_
    refine va_iald hx hb hKN.1 hP 1 1 rfl rfl (by unfold vp_in; decide) dX12_veto_21 ?_
    refine W.eq (g2 := F0 m 22 ls [.int (m_cworld 5), .int L3_129]) rfl ?_
    have k_130 := a_m_cworld_0.1.1.2.2.2.2.1 (5) (by decide) (by decide)
    refine lv_icmp_ge (tgt := 52) hx hb dX12_veto_22 (by decide) (fun c_131 => ?_) (fun c_131 => ?_)
    · skip
      have k_132 := kk_le rfl rfl c_131
      refine lv_iload_n hx hb dX12_veto_52 rfl (lv_at hl 1 rfl) ?_
      exact W.iret (v := L2_129) hx hb hr (fun t ht hW => ⟨L2_129, rfl, (show -2 ≤ L2_129.toInt ∧ L2_129.toInt ≤ 127 from by omega), ht⟩) (fun _ h => by cases h) dX12_veto_53
    · skip
      have k_133 := kk_nle rfl rfl c_131
      refine lv_iload_n hx hb dX12_veto_25 rfl (lv_at hl 1 rfl) ?_
      refine lv_aload_n hx hb dX12_veto_26 rfl (lv_at hl 2 rfl) ?_
      refine lv_iload_n hx hb dX12_veto_27 rfl (lv_at hl 0 rfl) ?_
      refine lv_iconst (v := 1) hx hb dX12_veto_28 (by decide) ?_
      refine lv_iload_n hx hb dX12_veto_29 rfl (lv_at hl 3 rfl) ?_
      refine lv_iadd hx hb dX12_veto_30 ?_
      refine lv_topi (fun x_134 ex_134 => ?_)
      have k_135 := ar_add zi_1 rfl ex_134 (by omega) (by omega)
      refine cpVi (rest := [.int L2_129]) ⟨hx, hb, hml, hown, hts⟩ hKN (hP.sub (ws' := [(h0, .inr (12, [.int m_thrown, .ref m_qworld, .ref m_qimages, .ref m_qhasImage, .ref m_qtape, .int m_taped, .ref m_qfive, .int m_size, .int m_at, .int m_from, .int m_token, .int m_value, .int m_faultKind, .int m_faultPlace, .ref m_qfresh, .int m_startOne, .int m_startOther, .int m_latest, .int m_leftBeats, .int m_signed, .int m_metMany, .ref m_qsums, .ref m_qpairs, .ref m_qgoesWith, .ref m_qsaid, .int m_saidMany, .int m_firstWait, .ref m_qfirstOrder, .int m_bundleFirst, .ref m_qtiredBy, .int m_tiredMany, .ref m_qmany, .ref m_qwidth, .ref m_qnumbers, .ref m_qmoving])), (m_qworld, .inl (cA 1, 122, .inl m_cworld))]) [0, 1] rfl) (g_X12_ofClause l D cA h0 m_thrown m_qworld m_qimages m_qhasImage m_qtape m_taped m_qfive m_size m_at m_from m_token m_value m_faultKind m_faultPlace m_qfresh m_startOne m_startOther m_latest m_leftBeats m_signed m_metMany m_qsums m_qpairs m_qgoesWith m_qsaid m_saidMany m_firstWait m_qfirstOrder m_bundleFirst m_qtiredBy m_tiredMany m_qmany m_qwidth m_qnumbers m_qmoving m_cworld L3_129 x_134 (by omega) (by omega) (by omega) (by omega) (by omega) (by omega) (by omega) (by omega) a_m_cworld_0) (tb_V tw_1652 tw_1654 tw_52 tw_114 tw_1655) hdX12_ofClause ⟨rfl, rfl, Nat.le_of_ble_eq_true rfl, Nat.le_of_ble_eq_true rfl⟩ ⟨Nat.le_of_ble_eq_true rfl, Nat.le_of_ble_eq_true rfl⟩ rfl rfl rfl hl.1 rfl (Nat.le_of_ble_eq_true rfl) dX12_veto_31 (fun r_136 hr_136 => ?_)
      refine lv_if_ge (tgt := 43) hx hb dX12_veto_34 (by decide) (fun c_137 => ?_) (fun c_137 => ?_)
      · skip
        have k_138 := kk_le zi_0 rfl c_137
        refine lv_iconst (v := 0) hx hb dX12_veto_43 (by decide) ?_
        refine lv_ior hx hb dX12_veto_44 ?_
        refine lv_topi (fun x_139 ex_139 => ?_)
        have k_140 := ar_or (n := 7) (M := 128) rfl zi_0 ex_139 (by decide) (by decide) (by omega) (by omega)
        refine lv_istore_n (lv' := [(2, .int x_139), (3, .int L3_129), (0, .ref h0), (1, .int p0)]) hx hb dX12_veto_45 rfl hl (by decide) rfl (fun ls hl => ?_)
        obtain ⟨x_141, ex_141⟩ : ∃ y : Int32, L3_129 + Int32.ofInt 1 = y := ⟨_, rfl⟩
        have k_142 := ar_add (b := 1) rfl zi_1 ex_141.symm (by omega) (by omega)
        refine lv_iinc (v := x_141) (lv' := [(3, .int x_141), (2, .int x_139), (0, .ref h0), (1, .int p0)]) hx hb dX12_veto_46 hl (k := 1) rfl ex_141 (by decide) rfl (fun ls hl => ?_)
        refine lv_goto (tgt := 15) hx hb dX12_veto_49 (by decide) ?_
        exact ih_129 (x_141, x_139) _ _ _ ⟨(show 0 ≤ x_141.toInt ∧ x_141.toInt ≤ 7 from by omega), (show 0 ≤ x_139.toInt ∧ x_139.toInt ≤ 127 from by omega), rfl, rfl, lv_sub hl [0, 1, 2, 3] rfl⟩ (by show (2147483647 - x_141.toInt).toNat < (2147483647 - L3_129.toInt).toNat; omega)
      · skip
        have k_143 := kk_nle zi_0 rfl c_137
        refine lv_iconst (v := 1) hx hb dX12_veto_37 (by decide) ?_
        refine lv_iload_n hx hb dX12_veto_38 rfl (lv_at hl 0 rfl) ?_
        refine lv_ishl hx hb dX12_veto_39 ?_
        refine lv_topi (fun x_144 ex_144 => ?_)
        have k_145 := ar_shl1 ex_144 (by omega) (by omega)
        refine lv_goto (tgt := 44) hx hb dX12_veto_40 (by decide) ?_
        refine lv_ior hx hb dX12_veto_44 ?_
        refine lv_topi (fun x_146 ex_146 => ?_)
        have k_147 := ar_or (n := 7) (M := 128) rfl rfl ex_146 (by decide) (by decide) (by omega) (by omega)
        refine lv_istore_n (lv' := [(2, .int x_146), (3, .int L3_129), (0, .ref h0), (1, .int p0)]) hx hb dX12_veto_45 rfl hl (by decide) rfl (fun ls hl => ?_)
        obtain ⟨x_148, ex_148⟩ : ∃ y : Int32, L3_129 + Int32.ofInt 1 = y := ⟨_, rfl⟩
        have k_149 := ar_add (b := 1) rfl zi_1 ex_148.symm (by omega) (by omega)
        refine lv_iinc (v := x_148) (lv' := [(3, .int x_148), (2, .int x_146), (0, .ref h0), (1, .int p0)]) hx hb dX12_veto_46 hl (k := 1) rfl ex_148 (by decide) rfl (fun ls hl => ?_)
        refine lv_goto (tgt := 15) hx hb dX12_veto_49 (by decide) ?_
        exact ih_129 (x_148, x_146) _ _ _ ⟨(show 0 ≤ x_148.toInt ∧ x_148.toInt ≤ 7 from by omega), (show 0 ≤ x_146.toInt ∧ x_146.toInt ≤ 127 from by omega), rfl, rfl, lv_sub hl [0, 1, 2, 3] rfl⟩ (by show (2147483647 - x_148.toInt).toNat < (2147483647 - L3_129.toInt).toNat; omega)
  · skip
    refine lv_if_ne (tgt := 11) hx hb dX12_veto_5 (by decide) (fun c_150 => absurd (by decide) c_150) (fun c_150 => ?_)
    refine lv_bipush (v := (-2)) hx hb dX12_veto_8 (by decide) ?_
    exact W.iret (v := (-2)) hx hb hr (fun t ht hW => ⟨(-2), rfl, (show -2 ≤ ((-2) : Int32).toInt ∧ ((-2) : Int32).toInt ≤ 127 from by decide), ht⟩) (fun _ h => by cases h) dX12_veto_10
set_option maxHeartbeats 8000000 in
set_option maxRecDepth 100000 in
theorem g_X12_must (l : Launch) (D : va_G) (cA : Nat → ClassId) (h0 : Nat) (m_thrown : Int32) (m_qworld : Nat) (m_qimages : Nat) (m_qhasImage : Nat) (m_qtape : Nat) (m_taped : Int32) (m_qfive : Nat) (m_size : Int32) (m_at : Int32) (m_from : Int32) (m_token : Int32) (m_value : Int32) (m_faultKind : Int32) (m_faultPlace : Int32) (m_qfresh : Nat) (m_startOne : Int32) (m_startOther : Int32) (m_latest : Int32) (m_leftBeats : Int32) (m_signed : Int32) (m_metMany : Int32) (m_qsums : Nat) (m_qpairs : Nat) (m_qgoesWith : Nat) (m_qsaid : Nat) (m_saidMany : Int32) (m_firstWait : Int32) (m_qfirstOrder : Nat) (m_bundleFirst : Int32) (m_qtiredBy : Nat) (m_tiredMany : Int32) (m_qmany : Nat) (m_qwidth : Nat) (m_qnumbers : Nat) (m_qmoving : Nat) (m_cworld : Nat → Int32) (p0 : Int32) (h_m_taped : 0 ≤ (m_taped : Int32).toInt ∧ (m_taped : Int32).toInt ≤ 800) (h_m_size : 0 ≤ (m_size : Int32).toInt ∧ (m_size : Int32).toInt ≤ 800) (h_m_at : 0 ≤ (m_at : Int32).toInt ∧ (m_at : Int32).toInt ≤ 800) (h_m_from : 0 ≤ (m_from : Int32).toInt ∧ (m_from : Int32).toInt ≤ 800) (h_m_saidMany : 0 ≤ (m_saidMany : Int32).toInt ∧ (m_saidMany : Int32).toInt ≤ 60) (h_m_tiredMany : 0 ≤ (m_tiredMany : Int32).toInt ∧ (m_tiredMany : Int32).toInt ≤ 240) (a_m_cworld_0 : WI m_cworld) : Met l yX12_must (Cond.code yX12_must cX12_must 2 (some .int) :: TB) (rmd 3 0 0) (PP D cA [(h0, .inr (12, [.int m_thrown, .ref m_qworld, .ref m_qimages, .ref m_qhasImage, .ref m_qtape, .int m_taped, .ref m_qfive, .int m_size, .int m_at, .int m_from, .int m_token, .int m_value, .int m_faultKind, .int m_faultPlace, .ref m_qfresh, .int m_startOne, .int m_startOther, .int m_latest, .int m_leftBeats, .int m_signed, .int m_metMany, .ref m_qsums, .ref m_qpairs, .ref m_qgoesWith, .ref m_qsaid, .int m_saidMany, .int m_firstWait, .ref m_qfirstOrder, .int m_bundleFirst, .ref m_qtiredBy, .int m_tiredMany, .ref m_qmany, .ref m_qwidth, .ref m_qnumbers, .ref m_qmoving])), (m_qworld, .inl (cA 1, 122, .inl m_cworld))] [.ref h0, .int p0]) (vp_Si (fun r => True)) 0 0 (fun _ => False) := by
  refine Met.ofW (cc := cX12_must) (maxL := 2) (ret := (some .int)) (by decide) rfl ?_
  intro p e s m args below meth c s₁ B hml hv
  obtain ⟨rfl, hP, hKN⟩ := hv
  have hx := B.exec
  have hb := B.bytes
  have hr := B.returns
  have hts : ∀ w ∈ TB, w.before _ s = true := fun w h => atoms_spec B.pre w (List.mem_cons_of_mem _ h)
  have hown : s.vm.findClass RX12 = some m.cls := findClass_of_methodNamed B.named
  have hlocks := B.notSynchronized
  have hl := lv_entry ([.ref h0, .int p0]) (n := 2) (Nat.le_of_ble_eq_true rfl)
  rw [lg_entry_eq]
  generalize (lg_sl ([.ref h0, .int p0]) ++ List.replicate (2 - (lg_sl ([.ref h0, .int p0])).length) Slot.unset).toArray = ls at hl ⊢
  have hl : lv_has ls 2 [(0, .ref h0), (1, .int p0)] := hl
  refine lv_aload_n hx hb dX12_must_0 rfl (lv_at hl 0 rfl) ?_
  refine lv_iload_n hx hb dX12_must_1 rfl (lv_at hl 1 rfl) ?_
  refine cpVi (rest := []) ⟨hx, hb, hml, hown, hts⟩ hKN (hP.sub (ws' := [(h0, .inr (12, [.int m_thrown, .ref m_qworld, .ref m_qimages, .ref m_qhasImage, .ref m_qtape, .int m_taped, .ref m_qfive, .int m_size, .int m_at, .int m_from, .int m_token, .int m_value, .int m_faultKind, .int m_faultPlace, .ref m_qfresh, .int m_startOne, .int m_startOther, .int m_latest, .int m_leftBeats, .int m_signed, .int m_metMany, .ref m_qsums, .ref m_qpairs, .ref m_qgoesWith, .ref m_qsaid, .int m_saidMany, .int m_firstWait, .ref m_qfirstOrder, .int m_bundleFirst, .ref m_qtiredBy, .int m_tiredMany, .ref m_qmany, .ref m_qwidth, .ref m_qnumbers, .ref m_qmoving])), (m_qworld, .inl (cA 1, 122, .inl m_cworld))]) [0, 1] rfl) (g_X12_isSide l D cA h0 m_thrown m_qworld m_qimages m_qhasImage m_qtape m_taped m_qfive m_size m_at m_from m_token m_value m_faultKind m_faultPlace m_qfresh m_startOne m_startOther m_latest m_leftBeats m_signed m_metMany m_qsums m_qpairs m_qgoesWith m_qsaid m_saidMany m_firstWait m_qfirstOrder m_bundleFirst m_qtiredBy m_tiredMany m_qmany m_qwidth m_qnumbers m_qmoving m_cworld p0 (by omega) (by omega) (by omega) (by omega) (by omega) (by omega) a_m_cworld_0) (tb_V tw_1660 tw_1662 tw_53 tw_114 tw_1663) hdX12_isSide ⟨rfl, rfl, Nat.le_of_ble_eq_true rfl, Nat.le_of_ble_eq_true rfl⟩ ⟨Nat.le_of_ble_eq_true rfl, Nat.le_of_ble_eq_true rfl⟩ rfl rfl rfl hl.1 rfl (Nat.le_of_ble_eq_true rfl) dX12_must_2 (fun r_1 hr_1 => ?_)
  rcases hr_1 with ⟨k_1_0_0, k_1_0_1, k_1_0_2, k_1_0_3, k_1_0_4, k_1_0_5, rfl⟩ | rfl
  · skip
    refine lv_if_eq (tgt := 19) hx hb dX12_must_5 (by decide) (fun c_2 => absurd c_2 (by decide)) (fun c_2 => ?_)
    refine lv_aload_n hx hb dX12_must_8 rfl (lv_at hl 0 rfl) ?_
    refine lv_iload_n hx hb dX12_must_9 rfl (lv_at hl 1 rfl) ?_
    refine cpVi (rest := []) ⟨hx, hb, hml, hown, hts⟩ hKN (hP.sub (ws' := [(h0, .inr (12, [.int m_thrown, .ref m_qworld, .ref m_qimages, .ref m_qhasImage, .ref m_qtape, .int m_taped, .ref m_qfive, .int m_size, .int m_at, .int m_from, .int m_token, .int m_value, .int m_faultKind, .int m_faultPlace, .ref m_qfresh, .int m_startOne, .int m_startOther, .int m_latest, .int m_leftBeats, .int m_signed, .int m_metMany, .ref m_qsums, .ref m_qpairs, .ref m_qgoesWith, .ref m_qsaid, .int m_saidMany, .int m_firstWait, .ref m_qfirstOrder, .int m_bundleFirst, .ref m_qtiredBy, .int m_tiredMany, .ref m_qmany, .ref m_qwidth, .ref m_qnumbers, .ref m_qmoving])), (m_qworld, .inl (cA 1, 122, .inl m_cworld))]) [0, 1] rfl) (g_X12_mustOf l D cA h0 m_thrown m_qworld m_qimages m_qhasImage m_qtape m_taped m_qfive m_size m_at m_from m_token m_value m_faultKind m_faultPlace m_qfresh m_startOne m_startOther m_latest m_leftBeats m_signed m_metMany m_qsums m_qpairs m_qgoesWith m_qsaid m_saidMany m_firstWait m_qfirstOrder m_bundleFirst m_qtiredBy m_tiredMany m_qmany m_qwidth m_qnumbers m_qmoving m_cworld p0 (by omega) (by omega) (by omega) (by omega) (by omega) (by omega) (by omega) a_m_cworld_0) (tb_V tw_1971 tw_1973 tw_89 tw_114 tw_1974) hdX12_mustOf ⟨rfl, rfl, Nat.le_of_ble_eq_true rfl, Nat.le_of_ble_eq_true rfl⟩ ⟨Nat.le_of_ble_eq_true rfl, Nat.le_of_ble_eq_true rfl⟩ rfl rfl rfl hl.1 rfl (Nat.le_of_ble_eq_true rfl) dX12_must_10 (fun r_3 hr_3 => ?_)
    refine cpSi (rest := []) ⟨hx, hb, hml, hown, hts⟩ hKN (hP.sub (ws' := []) [] rfl) (g_X12_bits l D cA r_3) (tb_S tw_1916 tw_1917 tw_114 tw_1918) hdX12_bits ⟨rfl, rfl, Nat.le_of_ble_eq_true rfl, Nat.le_of_ble_eq_true rfl⟩ ⟨Nat.le_of_ble_eq_true rfl, Nat.le_of_ble_eq_true rfl⟩ rfl hl.1 rfl (Nat.le_of_ble_eq_true rfl) dX12_must_13 (fun r_4 hr_4 => ?_)
    refine lv_goto (tgt := 21) hx hb dX12_must_16 (by decide) ?_
    exact W.iret (v := r_4) hx hb hr (fun t ht hW => ⟨r_4, rfl, trivial, ht⟩) (fun _ h => by cases h) dX12_must_21
  · skip
    refine lv_if_eq (tgt := 19) hx hb dX12_must_5 (by decide) (fun c_5 => ?_) (fun c_5 => absurd (by decide) c_5)
    refine lv_bipush (v := (-2)) hx hb dX12_must_19 (by decide) ?_
    exact W.iret (v := (-2)) hx hb hr (fun t ht hW => ⟨(-2), rfl, trivial, ht⟩) (fun _ h => by cases h) dX12_must_21
set_option maxHeartbeats 8000000 in
set_option maxRecDepth 100000 in
theorem g_X12_musts (l : Launch) (D : va_G) (cA : Nat → ClassId) (h0 : Nat) (m_thrown : Int32) (m_qworld : Nat) (m_qimages : Nat) (m_qhasImage : Nat) (m_qtape : Nat) (m_taped : Int32) (m_qfive : Nat) (m_size : Int32) (m_at : Int32) (m_from : Int32) (m_token : Int32) (m_value : Int32) (m_faultKind : Int32) (m_faultPlace : Int32) (m_qfresh : Nat) (m_startOne : Int32) (m_startOther : Int32) (m_latest : Int32) (m_leftBeats : Int32) (m_signed : Int32) (m_metMany : Int32) (m_qsums : Nat) (m_qpairs : Nat) (m_qgoesWith : Nat) (m_qsaid : Nat) (m_saidMany : Int32) (m_firstWait : Int32) (m_qfirstOrder : Nat) (m_bundleFirst : Int32) (m_qtiredBy : Nat) (m_tiredMany : Int32) (m_qmany : Nat) (m_qwidth : Nat) (m_qnumbers : Nat) (m_qmoving : Nat) (m_cworld : Nat → Int32) (p0 : Int32) (h_m_taped : 0 ≤ (m_taped : Int32).toInt ∧ (m_taped : Int32).toInt ≤ 800) (h_m_size : 0 ≤ (m_size : Int32).toInt ∧ (m_size : Int32).toInt ≤ 800) (h_m_at : 0 ≤ (m_at : Int32).toInt ∧ (m_at : Int32).toInt ≤ 800) (h_m_from : 0 ≤ (m_from : Int32).toInt ∧ (m_from : Int32).toInt ≤ 800) (h_m_saidMany : 0 ≤ (m_saidMany : Int32).toInt ∧ (m_saidMany : Int32).toInt ≤ 60) (h_m_tiredMany : 0 ≤ (m_tiredMany : Int32).toInt ∧ (m_tiredMany : Int32).toInt ≤ 240) (a_m_cworld_0 : WI m_cworld) : Met l yX12_musts (Cond.code yX12_musts cX12_musts 2 (some .int) :: TB) (rmd 3 0 0) (PP D cA [(h0, .inr (12, [.int m_thrown, .ref m_qworld, .ref m_qimages, .ref m_qhasImage, .ref m_qtape, .int m_taped, .ref m_qfive, .int m_size, .int m_at, .int m_from, .int m_token, .int m_value, .int m_faultKind, .int m_faultPlace, .ref m_qfresh, .int m_startOne, .int m_startOther, .int m_latest, .int m_leftBeats, .int m_signed, .int m_metMany, .ref m_qsums, .ref m_qpairs, .ref m_qgoesWith, .ref m_qsaid, .int m_saidMany, .int m_firstWait, .ref m_qfirstOrder, .int m_bundleFirst, .ref m_qtiredBy, .int m_tiredMany, .ref m_qmany, .ref m_qwidth, .ref m_qnumbers, .ref m_qmoving])), (m_qworld, .inl (cA 1, 122, .inl m_cworld))] [.ref h0, .int p0]) (vp_Si (fun r => -2 ≤ r.toInt ∧ r.toInt ≤ 127)) 0 0 (fun _ => False) := by
  refine Met.ofW (cc := cX12_musts) (maxL := 2) (ret := (some .int)) (by decide) rfl ?_
  intro p e s m args below meth c s₁ B hml hv
  obtain ⟨rfl, hP, hKN⟩ := hv
  have hx := B.exec
  have hb := B.bytes
  have hr := B.returns
  have hts : ∀ w ∈ TB, w.before _ s = true := fun w h => atoms_spec B.pre w (List.mem_cons_of_mem _ h)
  have hown : s.vm.findClass RX12 = some m.cls := findClass_of_methodNamed B.named
  have hlocks := B.notSynchronized
  have hl := lv_entry ([.ref h0, .int p0]) (n := 2) (Nat.le_of_ble_eq_true rfl)
  rw [lg_entry_eq]
  generalize (lg_sl ([.ref h0, .int p0]) ++ List.replicate (2 - (lg_sl ([.ref h0, .int p0])).length) Slot.unset).toArray = ls at hl ⊢
  have hl : lv_has ls 2 [(0, .ref h0), (1, .int p0)] := hl
  refine lv_aload_n hx hb dX12_musts_0 rfl (lv_at hl 0 rfl) ?_
  refine lv_iload_n hx hb dX12_musts_1 rfl (lv_at hl 1 rfl) ?_
  refine cpVi (rest := []) ⟨hx, hb, hml, hown, hts⟩ hKN (hP.sub (ws' := [(h0, .inr (12, [.int m_thrown, .ref m_qworld, .ref m_qimages, .ref m_qhasImage, .ref m_qtape, .int m_taped, .ref m_qfive, .int m_size, .int m_at, .int m_from, .int m_token, .int m_value, .int m_faultKind, .int m_faultPlace, .ref m_qfresh, .int m_startOne, .int m_startOther, .int m_latest, .int m_leftBeats, .int m_signed, .int m_metMany, .ref m_qsums, .ref m_qpairs, .ref m_qgoesWith, .ref m_qsaid, .int m_saidMany, .int m_firstWait, .ref m_qfirstOrder, .int m_bundleFirst, .ref m_qtiredBy, .int m_tiredMany, .ref m_qmany, .ref m_qwidth, .ref m_qnumbers, .ref m_qmoving])), (m_qworld, .inl (cA 1, 122, .inl m_cworld))]) [0, 1] rfl) (g_X12_isSide l D cA h0 m_thrown m_qworld m_qimages m_qhasImage m_qtape m_taped m_qfive m_size m_at m_from m_token m_value m_faultKind m_faultPlace m_qfresh m_startOne m_startOther m_latest m_leftBeats m_signed m_metMany m_qsums m_qpairs m_qgoesWith m_qsaid m_saidMany m_firstWait m_qfirstOrder m_bundleFirst m_qtiredBy m_tiredMany m_qmany m_qwidth m_qnumbers m_qmoving m_cworld p0 (by omega) (by omega) (by omega) (by omega) (by omega) (by omega) a_m_cworld_0) (tb_V tw_1660 tw_1662 tw_53 tw_114 tw_1663) hdX12_isSide ⟨rfl, rfl, Nat.le_of_ble_eq_true rfl, Nat.le_of_ble_eq_true rfl⟩ ⟨Nat.le_of_ble_eq_true rfl, Nat.le_of_ble_eq_true rfl⟩ rfl rfl rfl hl.1 rfl (Nat.le_of_ble_eq_true rfl) dX12_musts_2 (fun r_1 hr_1 => ?_)
  rcases hr_1 with ⟨k_1_0_0, k_1_0_1, k_1_0_2, k_1_0_3, k_1_0_4, k_1_0_5, rfl⟩ | rfl
  · skip
    refine lv_if_eq (tgt := 16) hx hb dX12_musts_5 (by decide) (fun c_2 => absurd c_2 (by decide)) (fun c_2 => ?_)
    refine lv_aload_n hx hb dX12_musts_8 rfl (lv_at hl 0 rfl) ?_
    refine lv_iload_n hx hb dX12_musts_9 rfl (lv_at hl 1 rfl) ?_
    refine cpVi (rest := []) ⟨hx, hb, hml, hown, hts⟩ hKN (hP.sub (ws' := [(h0, .inr (12, [.int m_thrown, .ref m_qworld, .ref m_qimages, .ref m_qhasImage, .ref m_qtape, .int m_taped, .ref m_qfive, .int m_size, .int m_at, .int m_from, .int m_token, .int m_value, .int m_faultKind, .int m_faultPlace, .ref m_qfresh, .int m_startOne, .int m_startOther, .int m_latest, .int m_leftBeats, .int m_signed, .int m_metMany, .ref m_qsums, .ref m_qpairs, .ref m_qgoesWith, .ref m_qsaid, .int m_saidMany, .int m_firstWait, .ref m_qfirstOrder, .int m_bundleFirst, .ref m_qtiredBy, .int m_tiredMany, .ref m_qmany, .ref m_qwidth, .ref m_qnumbers, .ref m_qmoving])), (m_qworld, .inl (cA 1, 122, .inl m_cworld))]) [0, 1] rfl) (g_X12_mustOf l D cA h0 m_thrown m_qworld m_qimages m_qhasImage m_qtape m_taped m_qfive m_size m_at m_from m_token m_value m_faultKind m_faultPlace m_qfresh m_startOne m_startOther m_latest m_leftBeats m_signed m_metMany m_qsums m_qpairs m_qgoesWith m_qsaid m_saidMany m_firstWait m_qfirstOrder m_bundleFirst m_qtiredBy m_tiredMany m_qmany m_qwidth m_qnumbers m_qmoving m_cworld p0 (by omega) (by omega) (by omega) (by omega) (by omega) (by omega) (by omega) a_m_cworld_0) (tb_V tw_1971 tw_1973 tw_89 tw_114 tw_1974) hdX12_mustOf ⟨rfl, rfl, Nat.le_of_ble_eq_true rfl, Nat.le_of_ble_eq_true rfl⟩ ⟨Nat.le_of_ble_eq_true rfl, Nat.le_of_ble_eq_true rfl⟩ rfl rfl rfl hl.1 rfl (Nat.le_of_ble_eq_true rfl) dX12_musts_10 (fun r_3 hr_3 => ?_)
    refine lv_goto (tgt := 18) hx hb dX12_musts_13 (by decide) ?_
    exact W.iret (v := r_3) hx hb hr (fun t ht hW => ⟨r_3, rfl, (show -2 ≤ r_3.toInt ∧ r_3.toInt ≤ 127 from by omega), ht⟩) (fun _ h => by cases h) dX12_musts_18
  · skip
    refine lv_if_eq (tgt := 16) hx hb dX12_musts_5 (by decide) (fun c_4 => ?_) (fun c_4 => absurd (by decide) c_4)
    refine lv_bipush (v := (-2)) hx hb dX12_musts_16 (by decide) ?_
    exact W.iret (v := (-2)) hx hb hr (fun t ht hW => ⟨(-2), rfl, (show -2 ≤ ((-2) : Int32).toInt ∧ ((-2) : Int32).toInt ≤ 127 from by decide), ht⟩) (fun _ h => by cases h) dX12_musts_18
set_option maxHeartbeats 8000000 in
set_option maxRecDepth 100000 in
theorem g_X12_layBundles (l : Launch) (D : va_G) (cA : Nat → ClassId) (sz : Nat) (h0 : Nat) (m_thrown : Int32) (m_qworld : Nat) (m_qimages : Nat) (m_qhasImage : Nat) (m_qtape : Nat) (m_taped : Int32) (m_qfive : Nat) (m_size : Int32) (m_at : Int32) (m_from : Int32) (m_token : Int32) (m_value : Int32) (m_faultKind : Int32) (m_faultPlace : Int32) (m_qfresh : Nat) (m_startOne : Int32) (m_startOther : Int32) (m_latest : Int32) (m_leftBeats : Int32) (m_signed : Int32) (m_metMany : Int32) (m_qsums : Nat) (m_qpairs : Nat) (m_qgoesWith : Nat) (m_qsaid : Nat) (m_saidMany : Int32) (m_firstWait : Int32) (m_qfirstOrder : Nat) (m_bundleFirst : Int32) (m_qtiredBy : Nat) (m_tiredMany : Int32) (m_qmany : Nat) (m_qwidth : Nat) (m_qnumbers : Nat) (m_qmoving : Nat) (m_cworld : Nat → Int32) (h_m_taped : 0 ≤ (m_taped : Int32).toInt ∧ (m_taped : Int32).toInt ≤ 800) (h_m_size : 0 ≤ (m_size : Int32).toInt ∧ (m_size : Int32).toInt ≤ 800) (h_m_at : 0 ≤ (m_at : Int32).toInt ∧ (m_at : Int32).toInt ≤ 800) (h_m_from : 0 ≤ (m_from : Int32).toInt ∧ (m_from : Int32).toInt ≤ 800) (h_m_saidMany : 0 ≤ (m_saidMany : Int32).toInt ∧ (m_saidMany : Int32).toInt ≤ 60) (h_m_tiredMany : 0 ≤ (m_tiredMany : Int32).toInt ∧ (m_tiredMany : Int32).toInt ≤ 240) (a_m_cworld_0 : WI m_cworld) : Met l yX12_layBundles (Cond.code yX12_layBundles cX12_layBundles 4 (some .int) :: TB) (rmd 3 0 0) (PM D cA sz [(h0, .inr (12, [.int m_thrown, .ref m_qworld, .ref m_qimages, .ref m_qhasImage, .ref m_qtape, .int m_taped, .ref m_qfive, .int m_size, .int m_at, .int m_from, .int m_token, .int m_value, .int m_faultKind, .int m_faultPlace, .ref m_qfresh, .int m_startOne, .int m_startOther, .int m_latest, .int m_leftBeats, .int m_signed, .int m_metMany, .ref m_qsums, .ref m_qpairs, .ref m_qgoesWith, .ref m_qsaid, .int m_saidMany, .int m_firstWait, .ref m_qfirstOrder, .int m_bundleFirst, .ref m_qtiredBy, .int m_tiredMany, .ref m_qmany, .ref m_qwidth, .ref m_qnumbers, .ref m_qmoving])), (m_qworld, .inl (cA 1, 122, .inl m_cworld))] [.ref h0]) (va_Qi (fun r (u : SU) => (-1 ≤ (u.2.1 0).toInt ∧ (u.2.1 0).toInt ≤ 56)) (fun u t => va_P D vwCl [(h0, .inr (12, [.int m_thrown, .ref m_qworld, .ref m_qimages, .ref m_qhasImage, .ref m_qtape, .int m_taped, .ref m_qfive, .int m_size, .int m_at, .int m_from, .int m_token, .int m_value, .int m_faultKind, .int m_faultPlace, .ref m_qfresh, .int m_startOne, .int m_startOther, .int m_latest, .int m_leftBeats, .int m_signed, .int m_metMany, .ref m_qsums, .ref m_qpairs, .ref m_qgoesWith, .ref m_qsaid, .int m_saidMany, .int m_firstWait, .ref m_qfirstOrder, .int (u.2.1 0), .ref m_qtiredBy, .int m_tiredMany, .ref m_qmany, .ref m_qwidth, .ref m_qnumbers, .ref m_qmoving])), (m_qworld, .inl (cA 1, 122, .inl m_cworld))] t.heap ∧ va_D (va_A [(h0, .inr (12, [.int m_thrown, .ref m_qworld, .ref m_qimages, .ref m_qhasImage, .ref m_qtape, .int m_taped, .ref m_qfive, .int m_size, .int m_at, .int m_from, .int m_token, .int m_value, .int m_faultKind, .int m_faultPlace, .ref m_qfresh, .int m_startOne, .int m_startOther, .int m_latest, .int m_leftBeats, .int m_signed, .int m_metMany, .ref m_qsums, .ref m_qpairs, .ref m_qgoesWith, .ref m_qsaid, .int m_saidMany, .int m_firstWait, .ref m_qfirstOrder, .int m_bundleFirst, .ref m_qtiredBy, .int m_tiredMany, .ref m_qmany, .ref m_qwidth, .ref m_qnumbers, .ref m_qmoving])), (m_qworld, .inl (cA 1, 122, .inl m_cworld))] sz) [(h0, .inr (12, [.int m_thrown, .ref m_qworld, .ref m_qimages, .ref m_qhasImage, .ref m_qtape, .int m_taped, .ref m_qfive, .int m_size, .int m_at, .int m_from, .int m_token, .int m_value, .int m_faultKind, .int m_faultPlace, .ref m_qfresh, .int m_startOne, .int m_startOther, .int m_latest, .int m_leftBeats, .int m_signed, .int m_metMany, .ref m_qsums, .ref m_qpairs, .ref m_qgoesWith, .ref m_qsaid, .int m_saidMany, .int m_firstWait, .ref m_qfirstOrder, .int (u.2.1 0), .ref m_qtiredBy, .int m_tiredMany, .ref m_qmany, .ref m_qwidth, .ref m_qnumbers, .ref m_qmoving])), (m_qworld, .inl (cA 1, 122, .inl m_cworld))]) (va_A [(h0, .inr (12, [.int m_thrown, .ref m_qworld, .ref m_qimages, .ref m_qhasImage, .ref m_qtape, .int m_taped, .ref m_qfive, .int m_size, .int m_at, .int m_from, .int m_token, .int m_value, .int m_faultKind, .int m_faultPlace, .ref m_qfresh, .int m_startOne, .int m_startOther, .int m_latest, .int m_leftBeats, .int m_signed, .int m_metMany, .ref m_qsums, .ref m_qpairs, .ref m_qgoesWith, .ref m_qsaid, .int m_saidMany, .int m_firstWait, .ref m_qfirstOrder, .int m_bundleFirst, .ref m_qtiredBy, .int m_tiredMany, .ref m_qmany, .ref m_qwidth, .ref m_qnumbers, .ref m_qmoving])), (m_qworld, .inl (cA 1, 122, .inl m_cworld))] sz)) 0 0 (va_A [(h0, .inr (12, [.int m_thrown, .ref m_qworld, .ref m_qimages, .ref m_qhasImage, .ref m_qtape, .int m_taped, .ref m_qfive, .int m_size, .int m_at, .int m_from, .int m_token, .int m_value, .int m_faultKind, .int m_faultPlace, .ref m_qfresh, .int m_startOne, .int m_startOther, .int m_latest, .int m_leftBeats, .int m_signed, .int m_metMany, .ref m_qsums, .ref m_qpairs, .ref m_qgoesWith, .ref m_qsaid, .int m_saidMany, .int m_firstWait, .ref m_qfirstOrder, .int m_bundleFirst, .ref m_qtiredBy, .int m_tiredMany, .ref m_qmany, .ref m_qwidth, .ref m_qnumbers, .ref m_qmoving])), (m_qworld, .inl (cA 1, 122, .inl m_cworld))] sz) := by
  refine Met.ofW (cc := cX12_layBundles) (maxL := 4) (ret := (some .int)) (by decide) rfl ?_
  intro p e s m args below meth c s₁ B hml hv
  obtain ⟨rfl, hsz, hP, hKN, hD0⟩ := hv
  have hx := B.exec
  have hb := B.bytes
  have hr := B.returns
  have hts : ∀ w ∈ TB, w.before _ s = true := fun w h => atoms_spec B.pre w (List.mem_cons_of_mem _ h)
  have hown : s.vm.findClass RX12 = some m.cls := findClass_of_methodNamed B.named
  have hlocks := B.notSynchronized
  subst hsz
  have hD := hD0.self (sz := s.heap.size)
  generalize hAe : va_A [(h0, .inr (12, [.int m_thrown, .ref m_qworld, .ref m_qimages, .ref m_qhasImage, .ref m_qtape, .int m_taped, .ref m_qfive, .int m_size, .int m_at, .int m_from, .int m_token, .int m_value, .int m_faultKind, .int m_faultPlace, .ref m_qfresh, .int m_startOne, .int m_startOther, .int m_latest, .int m_leftBeats, .int m_signed, .int m_metMany, .ref m_qsums, .ref m_qpairs, .ref m_qgoesWith, .ref m_qsaid, .int m_saidMany, .int m_firstWait, .ref m_qfirstOrder, .int m_bundleFirst, .ref m_qtiredBy, .int m_tiredMany, .ref m_qmany, .ref m_qwidth, .ref m_qnumbers, .ref m_qmoving])), (m_qworld, .inl (cA 1, 122, .inl m_cworld))] s.heap.size = A at hD ⊢
  have hA : ∀ q : Nat, s.heap.size ≤ q → A q := fun q h => by rw [← hAe]; exact Or.inr h
  have hS : va_S A s.heap s.heap [] := va_S.rf
  have hl := lv_entry ([.ref h0]) (n := 4) (Nat.le_of_ble_eq_true rfl)
  rw [lg_entry_eq]
  generalize (lg_sl ([.ref h0]) ++ List.replicate (4 - (lg_sl ([.ref h0])).length) Slot.unset).toArray = ls at hl ⊢
  have hl : lv_has ls 4 [(0, .ref h0)] := hl
  refine lv_aload_n hx hb dX12_layBundles_0 rfl (lv_at hl 0 rfl) ?_
  refine lv_iconst (v := (-1)) hx hb dX12_layBundles_1 (by decide) ?_
  refine va_put (D := D) (ci := 12) (v := .int (-1)) (ty := .int) (C := RX12) (T := TX12) (N := 35) hx hb hts inX12 tyX12 tyX12_ok nmX12 hown hKN.1 hP hD hS 0 rfl rfl 28 (by decide) (hts _ tw_1447) (fun _ h9 => h9) rfl (by decide +kernel) rfl rfl (Nat.le_of_ble_eq_true rfl) dX12_layBundles_2 (fun H locs hP hD hS => ?_)
  have hP : va_P D vwCl [(h0, .inr (12, [.int m_thrown, .ref m_qworld, .ref m_qimages, .ref m_qhasImage, .ref m_qtape, .int m_taped, .ref m_qfive, .int m_size, .int m_at, .int m_from, .int m_token, .int m_value, .int m_faultKind, .int m_faultPlace, .ref m_qfresh, .int m_startOne, .int m_startOther, .int m_latest, .int m_leftBeats, .int m_signed, .int m_metMany, .ref m_qsums, .ref m_qpairs, .ref m_qgoesWith, .ref m_qsaid, .int m_saidMany, .int m_firstWait, .ref m_qfirstOrder, .int (-1), .ref m_qtiredBy, .int m_tiredMany, .ref m_qmany, .ref m_qwidth, .ref m_qnumbers, .ref m_qmoving])), (m_qworld, .inl (cA 1, 122, .inl m_cworld))] H := hP
  have hD : va_D A [(h0, .inr (12, [.int m_thrown, .ref m_qworld, .ref m_qimages, .ref m_qhasImage, .ref m_qtape, .int m_taped, .ref m_qfive, .int m_size, .int m_at, .int m_from, .int m_token, .int m_value, .int m_faultKind, .int m_faultPlace, .ref m_qfresh, .int m_startOne, .int m_startOther, .int m_latest, .int m_leftBeats, .int m_signed, .int m_metMany, .ref m_qsums, .ref m_qpairs, .ref m_qgoesWith, .ref m_qsaid, .int m_saidMany, .int m_firstWait, .ref m_qfirstOrder, .int (-1), .ref m_qtiredBy, .int m_tiredMany, .ref m_qmany, .ref m_qwidth, .ref m_qnumbers, .ref m_qmoving])), (m_qworld, .inl (cA 1, 122, .inl m_cworld))] := hD
  refine lv_iconst (v := 0) hx hb dX12_layBundles_5 (by decide) ?_
  refine lv_istore_n (lv' := [(1, .int 0), (0, .ref h0)]) hx hb dX12_layBundles_6 rfl hl (by decide) rfl (fun ls hl => ?_)
  refine lv_aload_n hx hb dX12_layBundles_7 rfl (lv_at hl 1 rfl) ?_
  refine va_get (D := D) (ci := 12) (v := .ref m_qworld) (C := RX12) (T := TX12) (N := 35) hx hb hts inX12 hown hKN.1 hP 0 rfl rfl 1 (by decide) (hts _ tw_1420) (fun _ h9 => h9) rfl dX12_layBundles_8 ?_
  refine lv_iconst (v := 5) hx hb dX12_layBundles_11 (by decide) ?_
  refine va_iald hx hb hKN.1 hP 1 1 rfl rfl (by unfold vp_in; decide) dX12_layBundles_12 ?_
  refine W.eq (g2 := F0 m 13 ls [.int (m_cworld 5)]) rfl ?_
  have k_1 := a_m_cworld_0.1.1.2.2.2.2.1 (5) (by decide) (by decide)
  refine lv_iconst (v := 1) hx hb dX12_layBundles_13 (by decide) ?_
  refine lv_isub hx hb dX12_layBundles_14 ?_
  refine lv_topi (fun x_2 ex_2 => ?_)
  have k_3 := ar_sub rfl zi_1 ex_2 (by omega) (by omega)
  refine lv_istore_n (lv' := [(2, .int x_2), (1, .int 0), (0, .ref h0)]) hx hb dX12_layBundles_15 rfl hl (by decide) rfl (fun ls hl => ?_)
  refine loopW (σ := Int32 × Int32 × Int32) (fun _ => []) (fun ⟨L2_664, L1_664, F2_664⟩ H locs ls => (-1 ≤ L2_664.toInt ∧ L2_664.toInt ≤ 6) ∧ (-1 ≤ F2_664.toInt ∧ F2_664.toInt ≤ 56) ∧ va_P D vwCl [(h0, .inr (12, [.int m_thrown, .ref m_qworld, .ref m_qimages, .ref m_qhasImage, .ref m_qtape, .int m_taped, .ref m_qfive, .int m_size, .int m_at, .int m_from, .int m_token, .int m_value, .int m_faultKind, .int m_faultPlace, .ref m_qfresh, .int m_startOne, .int m_startOther, .int m_latest, .int m_leftBeats, .int m_signed, .int m_metMany, .ref m_qsums, .ref m_qpairs, .ref m_qgoesWith, .ref m_qsaid, .int m_saidMany, .int m_firstWait, .ref m_qfirstOrder, .int F2_664, .ref m_qtiredBy, .int m_tiredMany, .ref m_qmany, .ref m_qwidth, .ref m_qnumbers, .ref m_qmoving])), (m_qworld, .inl (cA 1, 122, .inl m_cworld))] H ∧ va_D A [(h0, .inr (12, [.int m_thrown, .ref m_qworld, .ref m_qimages, .ref m_qhasImage, .ref m_qtape, .int m_taped, .ref m_qfive, .int m_size, .int m_at, .int m_from, .int m_token, .int m_value, .int m_faultKind, .int m_faultPlace, .ref m_qfresh, .int m_startOne, .int m_startOther, .int m_latest, .int m_leftBeats, .int m_signed, .int m_metMany, .ref m_qsums, .ref m_qpairs, .ref m_qgoesWith, .ref m_qsaid, .int m_saidMany, .int m_firstWait, .ref m_qfirstOrder, .int F2_664, .ref m_qtiredBy, .int m_tiredMany, .ref m_qmany, .ref m_qwidth, .ref m_qnumbers, .ref m_qmoving])), (m_qworld, .inl (cA 1, 122, .inl m_cworld))] ∧ va_S A s.heap H locs ∧ lv_has ls 4 [(2, .int L2_664), (1, .int L1_664), (0, .ref h0)]) (fun ⟨L2_664, L1_664, F2_664⟩ => (L2_664.toInt + 2147483648).toNat) ?_ ((x_2, 0, (-1)) : Int32 × Int32 × Int32) ⟨(show -1 ≤ x_2.toInt ∧ x_2.toInt ≤ 6 from by omega), (by decide), hP, hD, hS, hl⟩
  intro x_664 H locs ls hI_664 ih_664
  obtain ⟨L2_664, L1_664, F2_664⟩ := x_664
  obtain ⟨k0_664, k1_664, hP, hD, hS, hl⟩ := hI_664
  have hP : va_P D vwCl [(h0, .inr (12, [.int m_thrown, .ref m_qworld, .ref m_qimages, .ref m_qhasImage, .ref m_qtape, .int m_taped, .ref m_qfive, .int m_size, .int m_at, .int m_from, .int m_token, .int m_value, .int m_faultKind, .int m_faultPlace, .ref m_qfresh, .int m_startOne, .int m_startOther, .int m_latest, .int m_leftBeats, .int m_signed, .int m_metMany, .ref m_qsums, .ref m_qpairs, .ref m_qgoesWith, .ref m_qsaid, .int m_saidMany, .int m_firstWait, .ref m_qfirstOrder, .int F2_664, .ref m_qtiredBy, .int m_tiredMany, .ref m_qmany, .ref m_qwidth, .ref m_qnumbers, .ref m_qmoving])), (m_qworld, .inl (cA 1, 122, .inl m_cworld))] H := hP
  have hD : va_D A [(h0, .inr (12, [.int m_thrown, .ref m_qworld, .ref m_qimages, .ref m_qhasImage, .ref m_qtape, .int m_taped, .ref m_qfive, .int m_size, .int m_at, .int m_from, .int m_token, .int m_value, .int m_faultKind, .int m_faultPlace, .ref m_qfresh, .int m_startOne, .int m_startOther, .int m_latest, .int m_leftBeats, .int m_signed, .int m_metMany, .ref m_qsums, .ref m_qpairs, .ref m_qgoesWith, .ref m_qsaid, .int m_saidMany, .int m_firstWait, .ref m_qfirstOrder, .int F2_664, .ref m_qtiredBy, .int m_tiredMany, .ref m_qmany, .ref m_qwidth, .ref m_qnumbers, .ref m_qmoving])), (m_qworld, .inl (cA 1, 122, .inl m_cworld))] := hD
  have hl : lv_has ls 4 [(2, .int L2_664), (1, .int L1_664), (0, .ref h0)] := hl
  refine lv_iload_n hx hb dX12_layBundles_16 rfl (lv_at hl 0 rfl) ?_
  refine lv_if_lt (tgt := 96) hx hb dX12_layBundles_17 (by decide) (fun c_665 => ?_) (fun c_665 => ?_)
  · skip
    have k_666 := kk_lt rfl zi_0 c_665
    refine lv_iload_n hx hb dX12_layBundles_96 rfl (lv_at hl 1 rfl) ?_
    have hP9 := hP.sub (ws' := [(h0, .inr (12, [.int m_thrown, .ref m_qworld, .ref m_qimages, .ref m_qhasImage, .ref m_qtape, .int m_taped, .ref m_qfive, .int m_size, .int m_at, .int m_from, .int m_token, .int m_value, .int m_faultKind, .int m_faultPlace, .ref m_qfresh, .int m_startOne, .int m_startOther, .int m_latest, .int m_leftBeats, .int m_signed, .int m_metMany, .ref m_qsums, .ref m_qpairs, .ref m_qgoesWith, .ref m_qsaid, .int m_saidMany, .int m_firstWait, .ref m_qfirstOrder, .int F2_664, .ref m_qtiredBy, .int m_tiredMany, .ref m_qmany, .ref m_qwidth, .ref m_qnumbers, .ref m_qmoving])), (m_qworld, .inl (cA 1, 122, .inl m_cworld))]) [0, 1] rfl
    have hD9 := hD.sub (ws' := [(h0, .inr (12, [.int m_thrown, .ref m_qworld, .ref m_qimages, .ref m_qhasImage, .ref m_qtape, .int m_taped, .ref m_qfive, .int m_size, .int m_at, .int m_from, .int m_token, .int m_value, .int m_faultKind, .int m_faultPlace, .ref m_qfresh, .int m_startOne, .int m_startOther, .int m_latest, .int m_leftBeats, .int m_signed, .int m_metMany, .ref m_qsums, .ref m_qpairs, .ref m_qgoesWith, .ref m_qsaid, .int m_saidMany, .int m_firstWait, .ref m_qfirstOrder, .int F2_664, .ref m_qtiredBy, .int m_tiredMany, .ref m_qmany, .ref m_qwidth, .ref m_qnumbers, .ref m_qmoving])), (m_qworld, .inl (cA 1, 122, .inl m_cworld))]) [0, 1] (by decide) rfl
    exact W.iret (v := L1_664) hx hb hr (fun t ht hW => ⟨⟨L1_664, ((fun _ => 0), (selI [F2_664]), (fun _ _ => 0), (fun _ _ => 0)), rfl, (show -1 ≤ F2_664.toInt ∧ F2_664.toInt ≤ 56 from by omega), by rw [ht]; exact hP9, hD9⟩, hS.F ht⟩) hS.2.2 dX12_layBundles_97
  · skip
    have k_667 := kk_nlt rfl zi_0 c_665
    refine lv_aload_n hx hb dX12_layBundles_20 rfl (lv_at hl 2 rfl) ?_
    refine va_get (D := D) (ci := 12) (v := .ref m_qworld) (C := RX12) (T := TX12) (N := 35) hx hb hts inX12 hown hKN.1 hP 0 rfl rfl 1 (by decide) (hts _ tw_1420) (fun _ h9 => h9) rfl dX12_layBundles_21 ?_
    refine lv_iconst (v := 5) hx hb dX12_layBundles_24 (by decide) ?_
    refine va_iald hx hb hKN.1 hP 1 1 rfl rfl (by unfold vp_in; decide) dX12_layBundles_25 ?_
    refine W.eq (g2 := F0 m 26 ls [.int (m_cworld 5)]) rfl ?_
    refine lv_iconst (v := 1) hx hb dX12_layBundles_26 (by decide) ?_
    refine lv_isub hx hb dX12_layBundles_27 ?_
    refine lv_topi (fun x_668 ex_668 => ?_)
    obtain rfl : x_2 = x_668 := ex_2.trans ex_668.symm
    refine lv_istore_n (lv' := [(3, .int x_2), (2, .int L2_664), (1, .int L1_664), (0, .ref h0)]) hx hb dX12_layBundles_28 rfl hl (by decide) rfl (fun ls hl => ?_)
    have b_744 := i32_bd L1_664
    refine loopW (σ := Int32 × Int32 × Int32) (fun _ => []) (fun ⟨L3_743, L1_743, F2_743⟩ H locs ls => (-1 ≤ L3_743.toInt ∧ L3_743.toInt ≤ 6) ∧ (-1 ≤ F2_743.toInt ∧ F2_743.toInt ≤ 56) ∧ va_P D vwCl [(h0, .inr (12, [.int m_thrown, .ref m_qworld, .ref m_qimages, .ref m_qhasImage, .ref m_qtape, .int m_taped, .ref m_qfive, .int m_size, .int m_at, .int m_from, .int m_token, .int m_value, .int m_faultKind, .int m_faultPlace, .ref m_qfresh, .int m_startOne, .int m_startOther, .int m_latest, .int m_leftBeats, .int m_signed, .int m_metMany, .ref m_qsums, .ref m_qpairs, .ref m_qgoesWith, .ref m_qsaid, .int m_saidMany, .int m_firstWait, .ref m_qfirstOrder, .int F2_743, .ref m_qtiredBy, .int m_tiredMany, .ref m_qmany, .ref m_qwidth, .ref m_qnumbers, .ref m_qmoving])), (m_qworld, .inl (cA 1, 122, .inl m_cworld))] H ∧ va_D A [(h0, .inr (12, [.int m_thrown, .ref m_qworld, .ref m_qimages, .ref m_qhasImage, .ref m_qtape, .int m_taped, .ref m_qfive, .int m_size, .int m_at, .int m_from, .int m_token, .int m_value, .int m_faultKind, .int m_faultPlace, .ref m_qfresh, .int m_startOne, .int m_startOther, .int m_latest, .int m_leftBeats, .int m_signed, .int m_metMany, .ref m_qsums, .ref m_qpairs, .ref m_qgoesWith, .ref m_qsaid, .int m_saidMany, .int m_firstWait, .ref m_qfirstOrder, .int F2_743, .ref m_qtiredBy, .int m_tiredMany, .ref m_qmany, .ref m_qwidth, .ref m_qnumbers, .ref m_qmoving])), (m_qworld, .inl (cA 1, 122, .inl m_cworld))] ∧ va_S A s.heap H locs ∧ lv_has ls 4 [(3, .int L3_743), (2, .int L2_664), (1, .int L1_743), (0, .ref h0)]) (fun ⟨L3_743, L1_743, F2_743⟩ => (L3_743.toInt + 2147483648).toNat) ?_ ((x_2, L1_664, F2_664) : Int32 × Int32 × Int32) ⟨(show -1 ≤ x_2.toInt ∧ x_2.toInt ≤ 6 from by omega), (show -1 ≤ F2_664.toInt ∧ F2_664.toInt ≤ 56 from by omega), hP, hD, hS, hl⟩
    intro x_743 H locs ls hI_743 ih_743
    obtain ⟨L3_743, L1_743, F2_743⟩ := x_743
    obtain ⟨k0_743, k1_743, hP, hD, hS, hl⟩ := hI_743
    have hP : va_P D vwCl [(h0, .inr (12, [.int m_thrown, .ref m_qworld, .ref m_qimages, .ref m_qhasImage, .ref m_qtape, .int m_taped, .ref m_qfive, .int m_size, .int m_at, .int m_from, .int m_token, .int m_value, .int m_faultKind, .int m_faultPlace, .ref m_qfresh, .int m_startOne, .int m_startOther, .int m_latest, .int m_leftBeats, .int m_signed, .int m_metMany, .ref m_qsums, .ref m_qpairs, .ref m_qgoesWith, .ref m_qsaid, .int m_saidMany, .int m_firstWait, .ref m_qfirstOrder, .int F2_743, .ref m_qtiredBy, .int m_tiredMany, .ref m_qmany, .ref m_qwidth, .ref m_qnumbers, .ref m_qmoving])), (m_qworld, .inl (cA 1, 122, .inl m_cworld))] H := hP
    have hD : va_D A [(h0, .inr (12, [.int m_thrown, .ref m_qworld, .ref m_qimages, .ref m_qhasImage, .ref m_qtape, .int m_taped, .ref m_qfive, .int m_size, .int m_at, .int m_from, .int m_token, .int m_value, .int m_faultKind, .int m_faultPlace, .ref m_qfresh, .int m_startOne, .int m_startOther, .int m_latest, .int m_leftBeats, .int m_signed, .int m_metMany, .ref m_qsums, .ref m_qpairs, .ref m_qgoesWith, .ref m_qsaid, .int m_saidMany, .int m_firstWait, .ref m_qfirstOrder, .int F2_743, .ref m_qtiredBy, .int m_tiredMany, .ref m_qmany, .ref m_qwidth, .ref m_qnumbers, .ref m_qmoving])), (m_qworld, .inl (cA 1, 122, .inl m_cworld))] := hD
    have hl : lv_has ls 4 [(3, .int L3_743), (2, .int L2_664), (1, .int L1_743), (0, .ref h0)] := hl
    refine lv_iload_n hx hb dX12_layBundles_29 rfl (lv_at hl 0 rfl) ?_
    refine lv_iload_n hx hb dX12_layBundles_30 rfl (lv_at hl 1 rfl) ?_
    refine lv_icmp_le (tgt := 90) hx hb dX12_layBundles_31 (by decide) (fun c_745 => ?_) (fun c_745 => ?_)
    · skip
      have k_746 := kk_le rfl rfl c_745
      obtain ⟨x_747, ex_747⟩ : ∃ y : Int32, L2_664 + Int32.ofInt (-1) = y := ⟨_, rfl⟩
      have k_748 := ar_add (b := (-1)) rfl zi_m1 ex_747.symm (by omega) (by omega)
      refine lv_iinc (v := x_747) (lv' := [(2, .int x_747), (3, .int L3_743), (1, .int L1_743), (0, .ref h0)]) hx hb dX12_layBundles_90 hl (k := 1) rfl ex_747 (by decide) rfl (fun ls hl => ?_)
      refine lv_goto (tgt := 16) hx hb dX12_layBundles_93 (by decide) ?_
      exact ih_664 (x_747, L1_743, F2_743) _ _ _ ⟨(show -1 ≤ x_747.toInt ∧ x_747.toInt ≤ 6 from by omega), (show -1 ≤ F2_743.toInt ∧ F2_743.toInt ≤ 56 from by omega), hP.sub [0, 1] rfl, hD.sub [0, 1] (by decide) rfl, hS, lv_sub hl [0, 2, 3] rfl⟩ (by show (x_747.toInt + 2147483648).toNat < (L2_664.toInt + 2147483648).toNat; omega)
    · skip
      have k_749 := kk_nle rfl rfl c_745
      refine lv_aload_n hx hb dX12_layBundles_34 rfl (lv_at hl 3 rfl) ?_
      refine lv_iconst (v := 1) hx hb dX12_layBundles_35 (by decide) ?_
      refine lv_iload_n hx hb dX12_layBundles_36 rfl (lv_at hl 1 rfl) ?_
      refine lv_ishl hx hb dX12_layBundles_37 ?_
      refine lv_topi (fun x_750 ex_750 => ?_)
      have k_751 := ar_shl1 ex_750 (by omega) (by omega)
      refine cpVi (rest := []) ⟨hx, hb, hml, hown, hts⟩ hKN (hP.sub (ws' := [(h0, .inr (12, [.int m_thrown, .ref m_qworld, .ref m_qimages, .ref m_qhasImage, .ref m_qtape, .int m_taped, .ref m_qfive, .int m_size, .int m_at, .int m_from, .int m_token, .int m_value, .int m_faultKind, .int m_faultPlace, .ref m_qfresh, .int m_startOne, .int m_startOther, .int m_latest, .int m_leftBeats, .int m_signed, .int m_metMany, .ref m_qsums, .ref m_qpairs, .ref m_qgoesWith, .ref m_qsaid, .int m_saidMany, .int m_firstWait, .ref m_qfirstOrder, .int F2_743, .ref m_qtiredBy, .int m_tiredMany, .ref m_qmany, .ref m_qwidth, .ref m_qnumbers, .ref m_qmoving])), (m_qworld, .inl (cA 1, 122, .inl m_cworld))]) [0, 1] rfl) (g_X12_isSigned l D cA h0 m_thrown m_qworld m_qimages m_qhasImage m_qtape m_taped m_qfive m_size m_at m_from m_token m_value m_faultKind m_faultPlace m_qfresh m_startOne m_startOther m_latest m_leftBeats m_signed m_metMany m_qsums m_qpairs m_qgoesWith m_qsaid m_saidMany m_firstWait m_qfirstOrder F2_743 m_qtiredBy m_tiredMany m_qmany m_qwidth m_qnumbers m_qmoving m_cworld x_750 (by omega) (by omega) (by omega) (by omega) (by omega) (by omega) a_m_cworld_0) (tb_V tw_1951 tw_1953 tw_88 tw_114 tw_1954) hdX12_isSigned ⟨rfl, rfl, Nat.le_of_ble_eq_true rfl, Nat.le_of_ble_eq_true rfl⟩ ⟨Nat.le_of_ble_eq_true rfl, Nat.le_of_ble_eq_true rfl⟩ rfl rfl rfl hl.1 rfl (Nat.le_of_ble_eq_true rfl) dX12_layBundles_38 (fun r_752 hr_752 => ?_)
      refine lv_if_ne (tgt := 84) hx hb dX12_layBundles_41 (by decide) (fun c_753 => ?_) (fun c_753 => ?_)
      · skip
        have k_754 := kk_ne rfl zi_0 c_753
        obtain ⟨x_755, ex_755⟩ : ∃ y : Int32, L3_743 + Int32.ofInt (-1) = y := ⟨_, rfl⟩
        have k_756 := ar_add (b := (-1)) rfl zi_m1 ex_755.symm (by omega) (by omega)
        refine lv_iinc (v := x_755) (lv' := [(3, .int x_755), (2, .int L2_664), (1, .int L1_743), (0, .ref h0)]) hx hb dX12_layBundles_84 hl (k := 0) rfl ex_755 (by decide) rfl (fun ls hl => ?_)
        refine lv_goto (tgt := 29) hx hb dX12_layBundles_87 (by decide) ?_
        exact ih_743 (x_755, L1_743, F2_743) _ _ _ ⟨(show -1 ≤ x_755.toInt ∧ x_755.toInt ≤ 6 from by omega), (show -1 ≤ F2_743.toInt ∧ F2_743.toInt ≤ 56 from by omega), hP.sub [0, 1] rfl, hD.sub [0, 1] (by decide) rfl, hS, lv_sub hl [0, 1, 2, 3] rfl⟩ (by show (x_755.toInt + 2147483648).toNat < (L3_743.toInt + 2147483648).toNat; omega)
      · skip
        have k_757 := kk_eq rfl zi_0 c_753
        refine lv_aload_n hx hb dX12_layBundles_44 rfl (lv_at hl 3 rfl) ?_
        refine lv_iconst (v := 1) hx hb dX12_layBundles_45 (by decide) ?_
        refine lv_iload_n hx hb dX12_layBundles_46 rfl (lv_at hl 0 rfl) ?_
        refine lv_ishl hx hb dX12_layBundles_47 ?_
        refine lv_topi (fun x_758 ex_758 => ?_)
        have k_759 := ar_shl1 ex_758 (by omega) (by omega)
        refine cpVi (rest := []) ⟨hx, hb, hml, hown, hts⟩ hKN (hP.sub (ws' := [(h0, .inr (12, [.int m_thrown, .ref m_qworld, .ref m_qimages, .ref m_qhasImage, .ref m_qtape, .int m_taped, .ref m_qfive, .int m_size, .int m_at, .int m_from, .int m_token, .int m_value, .int m_faultKind, .int m_faultPlace, .ref m_qfresh, .int m_startOne, .int m_startOther, .int m_latest, .int m_leftBeats, .int m_signed, .int m_metMany, .ref m_qsums, .ref m_qpairs, .ref m_qgoesWith, .ref m_qsaid, .int m_saidMany, .int m_firstWait, .ref m_qfirstOrder, .int F2_743, .ref m_qtiredBy, .int m_tiredMany, .ref m_qmany, .ref m_qwidth, .ref m_qnumbers, .ref m_qmoving])), (m_qworld, .inl (cA 1, 122, .inl m_cworld))]) [0, 1] rfl) (g_X12_isSigned l D cA h0 m_thrown m_qworld m_qimages m_qhasImage m_qtape m_taped m_qfive m_size m_at m_from m_token m_value m_faultKind m_faultPlace m_qfresh m_startOne m_startOther m_latest m_leftBeats m_signed m_metMany m_qsums m_qpairs m_qgoesWith m_qsaid m_saidMany m_firstWait m_qfirstOrder F2_743 m_qtiredBy m_tiredMany m_qmany m_qwidth m_qnumbers m_qmoving m_cworld x_758 (by omega) (by omega) (by omega) (by omega) (by omega) (by omega) a_m_cworld_0) (tb_V tw_1951 tw_1953 tw_88 tw_114 tw_1954) hdX12_isSigned ⟨rfl, rfl, Nat.le_of_ble_eq_true rfl, Nat.le_of_ble_eq_true rfl⟩ ⟨Nat.le_of_ble_eq_true rfl, Nat.le_of_ble_eq_true rfl⟩ rfl rfl rfl hl.1 rfl (Nat.le_of_ble_eq_true rfl) dX12_layBundles_48 (fun r_760 hr_760 => ?_)
        refine lv_if_ne (tgt := 84) hx hb dX12_layBundles_51 (by decide) (fun c_761 => ?_) (fun c_761 => ?_)
        · skip
          have k_762 := kk_ne rfl zi_0 c_761
          obtain ⟨x_763, ex_763⟩ : ∃ y : Int32, L3_743 + Int32.ofInt (-1) = y := ⟨_, rfl⟩
          have k_764 := ar_add (b := (-1)) rfl zi_m1 ex_763.symm (by omega) (by omega)
          refine lv_iinc (v := x_763) (lv' := [(3, .int x_763), (2, .int L2_664), (1, .int L1_743), (0, .ref h0)]) hx hb dX12_layBundles_84 hl (k := 0) rfl ex_763 (by decide) rfl (fun ls hl => ?_)
          refine lv_goto (tgt := 29) hx hb dX12_layBundles_87 (by decide) ?_
          exact ih_743 (x_763, L1_743, F2_743) _ _ _ ⟨(show -1 ≤ x_763.toInt ∧ x_763.toInt ≤ 6 from by omega), (show -1 ≤ F2_743.toInt ∧ F2_743.toInt ≤ 56 from by omega), hP.sub [0, 1] rfl, hD.sub [0, 1] (by decide) rfl, hS, lv_sub hl [0, 1, 2, 3] rfl⟩ (by show (x_763.toInt + 2147483648).toNat < (L3_743.toInt + 2147483648).toNat; omega)
        · skip
          have k_765 := kk_eq rfl zi_0 c_761
          refine lv_aload_n hx hb dX12_layBundles_54 rfl (lv_at hl 3 rfl) ?_
          refine lv_iconst (v := 1) hx hb dX12_layBundles_55 (by decide) ?_
          refine lv_iload_n hx hb dX12_layBundles_56 rfl (lv_at hl 1 rfl) ?_
          refine lv_ishl hx hb dX12_layBundles_57 ?_
          refine lv_topi (fun x_766 ex_766 => ?_)
          obtain rfl : x_750 = x_766 := ex_750.trans ex_766.symm
          refine lv_iconst (v := 1) hx hb dX12_layBundles_58 (by decide) ?_
          refine lv_iload_n hx hb dX12_layBundles_59 rfl (lv_at hl 0 rfl) ?_
          refine lv_ishl hx hb dX12_layBundles_60 ?_
          refine lv_topi (fun x_767 ex_767 => ?_)
          obtain rfl : x_758 = x_767 := ex_758.trans ex_767.symm
          refine lv_ior hx hb dX12_layBundles_61 ?_
          refine lv_topi (fun x_768 ex_768 => ?_)
          have k_769 := ar_or (n := 7) (M := 128) rfl rfl ex_768 (by decide) (by decide) (by omega) (by omega)
          refine cpVi (rest := []) ⟨hx, hb, hml, hown, hts⟩ hKN (hP.sub (ws' := [(h0, .inr (12, [.int m_thrown, .ref m_qworld, .ref m_qimages, .ref m_qhasImage, .ref m_qtape, .int m_taped, .ref m_qfive, .int m_size, .int m_at, .int m_from, .int m_token, .int m_value, .int m_faultKind, .int m_faultPlace, .ref m_qfresh, .int m_startOne, .int m_startOther, .int m_latest, .int m_leftBeats, .int m_signed, .int m_metMany, .ref m_qsums, .ref m_qpairs, .ref m_qgoesWith, .ref m_qsaid, .int m_saidMany, .int m_firstWait, .ref m_qfirstOrder, .int F2_743, .ref m_qtiredBy, .int m_tiredMany, .ref m_qmany, .ref m_qwidth, .ref m_qnumbers, .ref m_qmoving])), (m_qworld, .inl (cA 1, 122, .inl m_cworld))]) [0, 1] rfl) (g_X12_isSigned l D cA h0 m_thrown m_qworld m_qimages m_qhasImage m_qtape m_taped m_qfive m_size m_at m_from m_token m_value m_faultKind m_faultPlace m_qfresh m_startOne m_startOther m_latest m_leftBeats m_signed m_metMany m_qsums m_qpairs m_qgoesWith m_qsaid m_saidMany m_firstWait m_qfirstOrder F2_743 m_qtiredBy m_tiredMany m_qmany m_qwidth m_qnumbers m_qmoving m_cworld x_768 (by omega) (by omega) (by omega) (by omega) (by omega) (by omega) a_m_cworld_0) (tb_V tw_1951 tw_1953 tw_88 tw_114 tw_1954) hdX12_isSigned ⟨rfl, rfl, Nat.le_of_ble_eq_true rfl, Nat.le_of_ble_eq_true rfl⟩ ⟨Nat.le_of_ble_eq_true rfl, Nat.le_of_ble_eq_true rfl⟩ rfl rfl rfl hl.1 rfl (Nat.le_of_ble_eq_true rfl) dX12_layBundles_62 (fun r_770 hr_770 => ?_)
          refine lv_if_ne (tgt := 71) hx hb dX12_layBundles_65 (by decide) (fun c_771 => ?_) (fun c_771 => ?_)
          · skip
            have k_772 := kk_ne rfl zi_0 c_771
            refine lv_aload_n hx hb dX12_layBundles_71 rfl (lv_at hl 3 rfl) ?_
            refine lv_bipush (v := 10) hx hb dX12_layBundles_72 (by decide) ?_
            refine lv_iload_n hx hb dX12_layBundles_74 rfl (lv_at hl 1 rfl) ?_
            refine lv_imul hx hb dX12_layBundles_75 ?_
            refine lv_topi (fun x_773 ex_773 => ?_)
            have k_774 := ar_mul zi_10 rfl ex_773 (by omega) (by omega)
            refine lv_iload_n hx hb dX12_layBundles_76 rfl (lv_at hl 0 rfl) ?_
            refine lv_iadd hx hb dX12_layBundles_77 ?_
            refine lv_topi (fun x_775 ex_775 => ?_)
            have k_776 := ar_add rfl rfl ex_775 (by omega) (by omega)
            refine va_put (D := D) (ci := 12) (v := .int x_775) (ty := .int) (C := RX12) (T := TX12) (N := 35) hx hb hts inX12 tyX12 tyX12_ok nmX12 hown hKN.1 hP hD hS 0 rfl rfl 28 (by decide) (hts _ tw_1447) (fun _ h9 => h9) rfl (by decide +kernel) rfl rfl (Nat.le_of_ble_eq_true rfl) dX12_layBundles_78 (fun H locs hP hD hS => ?_)
            have hP : va_P D vwCl [(h0, .inr (12, [.int m_thrown, .ref m_qworld, .ref m_qimages, .ref m_qhasImage, .ref m_qtape, .int m_taped, .ref m_qfive, .int m_size, .int m_at, .int m_from, .int m_token, .int m_value, .int m_faultKind, .int m_faultPlace, .ref m_qfresh, .int m_startOne, .int m_startOther, .int m_latest, .int m_leftBeats, .int m_signed, .int m_metMany, .ref m_qsums, .ref m_qpairs, .ref m_qgoesWith, .ref m_qsaid, .int m_saidMany, .int m_firstWait, .ref m_qfirstOrder, .int x_775, .ref m_qtiredBy, .int m_tiredMany, .ref m_qmany, .ref m_qwidth, .ref m_qnumbers, .ref m_qmoving])), (m_qworld, .inl (cA 1, 122, .inl m_cworld))] H := hP
            have hD : va_D A [(h0, .inr (12, [.int m_thrown, .ref m_qworld, .ref m_qimages, .ref m_qhasImage, .ref m_qtape, .int m_taped, .ref m_qfive, .int m_size, .int m_at, .int m_from, .int m_token, .int m_value, .int m_faultKind, .int m_faultPlace, .ref m_qfresh, .int m_startOne, .int m_startOther, .int m_latest, .int m_leftBeats, .int m_signed, .int m_metMany, .ref m_qsums, .ref m_qpairs, .ref m_qgoesWith, .ref m_qsaid, .int m_saidMany, .int m_firstWait, .ref m_qfirstOrder, .int x_775, .ref m_qtiredBy, .int m_tiredMany, .ref m_qmany, .ref m_qwidth, .ref m_qnumbers, .ref m_qmoving])), (m_qworld, .inl (cA 1, 122, .inl m_cworld))] := hD
            obtain ⟨x_777, ex_777⟩ : ∃ y : Int32, L1_743 + Int32.ofInt 1 = y := ⟨_, rfl⟩
            refine lv_iinc (v := x_777) (lv' := [(1, .int x_777), (3, .int L3_743), (2, .int L2_664), (0, .ref h0)]) hx hb dX12_layBundles_81 hl (k := 2) rfl ex_777 (by decide) rfl (fun ls hl => ?_)
            obtain ⟨x_778, ex_778⟩ : ∃ y : Int32, L3_743 + Int32.ofInt (-1) = y := ⟨_, rfl⟩
            have k_779 := ar_add (b := (-1)) rfl zi_m1 ex_778.symm (by omega) (by omega)
            refine lv_iinc (v := x_778) (lv' := [(3, .int x_778), (1, .int x_777), (2, .int L2_664), (0, .ref h0)]) hx hb dX12_layBundles_84 hl (k := 1) rfl ex_778 (by decide) rfl (fun ls hl => ?_)
            refine lv_goto (tgt := 29) hx hb dX12_layBundles_87 (by decide) ?_
            exact ih_743 (x_778, x_777, x_775) _ _ _ ⟨(show -1 ≤ x_778.toInt ∧ x_778.toInt ≤ 6 from by omega), (show -1 ≤ x_775.toInt ∧ x_775.toInt ≤ 56 from by omega), hP.sub [0, 1] rfl, hD.sub [0, 1] (by decide) rfl, hS, lv_sub hl [0, 2, 1, 3] rfl⟩ (by show (x_778.toInt + 2147483648).toNat < (L3_743.toInt + 2147483648).toNat; omega)
          · skip
            have k_780 := kk_eq rfl zi_0 c_771
            refine lv_goto (tgt := 84) hx hb dX12_layBundles_68 (by decide) ?_
            obtain ⟨x_781, ex_781⟩ : ∃ y : Int32, L3_743 + Int32.ofInt (-1) = y := ⟨_, rfl⟩
            have k_782 := ar_add (b := (-1)) rfl zi_m1 ex_781.symm (by omega) (by omega)
            refine lv_iinc (v := x_781) (lv' := [(3, .int x_781), (2, .int L2_664), (1, .int L1_743), (0, .ref h0)]) hx hb dX12_layBundles_84 hl (k := 0) rfl ex_781 (by decide) rfl (fun ls hl => ?_)
            refine lv_goto (tgt := 29) hx hb dX12_layBundles_87 (by decide) ?_
            exact ih_743 (x_781, L1_743, F2_743) _ _ _ ⟨(show -1 ≤ x_781.toInt ∧ x_781.toInt ≤ 6 from by omega), (show -1 ≤ F2_743.toInt ∧ F2_743.toInt ≤ 56 from by omega), hP.sub [0, 1] rfl, hD.sub [0, 1] (by decide) rfl, hS, lv_sub hl [0, 1, 2, 3] rfl⟩ (by show (x_781.toInt + 2147483648).toNat < (L3_743.toInt + 2147483648).toNat; omega)
set_option maxHeartbeats 8000000 in
set_option maxRecDepth 100000 in
theorem g_X12_bundles (l : Launch) (D : va_G) (cA : Nat → ClassId) (sz : Nat) (h0 : Nat) (m_thrown : Int32) (m_qworld : Nat) (m_qimages : Nat) (m_qhasImage : Nat) (m_qtape : Nat) (m_taped : Int32) (m_qfive : Nat) (m_size : Int32) (m_at : Int32) (m_from : Int32) (m_token : Int32) (m_value : Int32) (m_faultKind : Int32) (m_faultPlace : Int32) (m_qfresh : Nat) (m_startOne : Int32) (m_startOther : Int32) (m_latest : Int32) (m_leftBeats : Int32) (m_signed : Int32) (m_metMany : Int32) (m_qsums : Nat) (m_qpairs : Nat) (m_qgoesWith : Nat) (m_qsaid : Nat) (m_saidMany : Int32) (m_firstWait : Int32) (m_qfirstOrder : Nat) (m_bundleFirst : Int32) (m_qtiredBy : Nat) (m_tiredMany : Int32) (m_qmany : Nat) (m_qwidth : Nat) (m_qnumbers : Nat) (m_qmoving : Nat) (m_cworld : Nat → Int32) (h_m_taped : 0 ≤ (m_taped : Int32).toInt ∧ (m_taped : Int32).toInt ≤ 800) (h_m_size : 0 ≤ (m_size : Int32).toInt ∧ (m_size : Int32).toInt ≤ 800) (h_m_at : 0 ≤ (m_at : Int32).toInt ∧ (m_at : Int32).toInt ≤ 800) (h_m_from : 0 ≤ (m_from : Int32).toInt ∧ (m_from : Int32).toInt ≤ 800) (h_m_saidMany : 0 ≤ (m_saidMany : Int32).toInt ∧ (m_saidMany : Int32).toInt ≤ 60) (h_m_tiredMany : 0 ≤ (m_tiredMany : Int32).toInt ∧ (m_tiredMany : Int32).toInt ≤ 240) (a_m_cworld_0 : WI m_cworld) : Met l yX12_bundles (Cond.code yX12_bundles cX12_bundles 1 (some .int) :: TB) (rmd 4 0 0) (PM D cA sz [(h0, .inr (12, [.int m_thrown, .ref m_qworld, .ref m_qimages, .ref m_qhasImage, .ref m_qtape, .int m_taped, .ref m_qfive, .int m_size, .int m_at, .int m_from, .int m_token, .int m_value, .int m_faultKind, .int m_faultPlace, .ref m_qfresh, .int m_startOne, .int m_startOther, .int m_latest, .int m_leftBeats, .int m_signed, .int m_metMany, .ref m_qsums, .ref m_qpairs, .ref m_qgoesWith, .ref m_qsaid, .int m_saidMany, .int m_firstWait, .ref m_qfirstOrder, .int m_bundleFirst, .ref m_qtiredBy, .int m_tiredMany, .ref m_qmany, .ref m_qwidth, .ref m_qnumbers, .ref m_qmoving])), (m_qworld, .inl (cA 1, 122, .inl m_cworld))] [.ref h0]) (va_Qi (fun r (u : SU) => True) (fun u t => va_P D vwCl [(h0, .inr (12, [.int m_thrown, .ref m_qworld, .ref m_qimages, .ref m_qhasImage, .ref m_qtape, .int m_taped, .ref m_qfive, .int m_size, .int m_at, .int m_from, .int m_token, .int m_value, .int m_faultKind, .int m_faultPlace, .ref m_qfresh, .int m_startOne, .int m_startOther, .int m_latest, .int m_leftBeats, .int m_signed, .int m_metMany, .ref m_qsums, .ref m_qpairs, .ref m_qgoesWith, .ref m_qsaid, .int m_saidMany, .int m_firstWait, .ref m_qfirstOrder, .int (u.2.1 0), .ref m_qtiredBy, .int m_tiredMany, .ref m_qmany, .ref m_qwidth, .ref m_qnumbers, .ref m_qmoving])), (m_qworld, .inl (cA 1, 122, .inl m_cworld))] t.heap ∧ va_D (va_A [(h0, .inr (12, [.int m_thrown, .ref m_qworld, .ref m_qimages, .ref m_qhasImage, .ref m_qtape, .int m_taped, .ref m_qfive, .int m_size, .int m_at, .int m_from, .int m_token, .int m_value, .int m_faultKind, .int m_faultPlace, .ref m_qfresh, .int m_startOne, .int m_startOther, .int m_latest, .int m_leftBeats, .int m_signed, .int m_metMany, .ref m_qsums, .ref m_qpairs, .ref m_qgoesWith, .ref m_qsaid, .int m_saidMany, .int m_firstWait, .ref m_qfirstOrder, .int m_bundleFirst, .ref m_qtiredBy, .int m_tiredMany, .ref m_qmany, .ref m_qwidth, .ref m_qnumbers, .ref m_qmoving])), (m_qworld, .inl (cA 1, 122, .inl m_cworld))] sz) [(h0, .inr (12, [.int m_thrown, .ref m_qworld, .ref m_qimages, .ref m_qhasImage, .ref m_qtape, .int m_taped, .ref m_qfive, .int m_size, .int m_at, .int m_from, .int m_token, .int m_value, .int m_faultKind, .int m_faultPlace, .ref m_qfresh, .int m_startOne, .int m_startOther, .int m_latest, .int m_leftBeats, .int m_signed, .int m_metMany, .ref m_qsums, .ref m_qpairs, .ref m_qgoesWith, .ref m_qsaid, .int m_saidMany, .int m_firstWait, .ref m_qfirstOrder, .int (u.2.1 0), .ref m_qtiredBy, .int m_tiredMany, .ref m_qmany, .ref m_qwidth, .ref m_qnumbers, .ref m_qmoving])), (m_qworld, .inl (cA 1, 122, .inl m_cworld))]) (va_A [(h0, .inr (12, [.int m_thrown, .ref m_qworld, .ref m_qimages, .ref m_qhasImage, .ref m_qtape, .int m_taped, .ref m_qfive, .int m_size, .int m_at, .int m_from, .int m_token, .int m_value, .int m_faultKind, .int m_faultPlace, .ref m_qfresh, .int m_startOne, .int m_startOther, .int m_latest, .int m_leftBeats, .int m_signed, .int m_metMany, .ref m_qsums, .ref m_qpairs, .ref m_qgoesWith, .ref m_qsaid, .int m_saidMany, .int m_firstWait, .ref m_qfirstOrder, .int m_bundleFirst, .ref m_qtiredBy, .int m_tiredMany, .ref m_qmany, .ref m_qwidth, .ref m_qnumbers, .ref m_qmoving])), (m_qworld, .inl (cA 1, 122, .inl m_cworld))] sz)) 0 0 (va_A [(h0, .inr (12, [.int m_thrown, .ref m_qworld, .ref m_qimages, .ref m_qhasImage, .ref m_qtape, .int m_taped, .ref m_qfive, .int m_size, .int m_at, .int m_from, .int m_token, .int m_value, .int m_faultKind, .int m_faultPlace, .ref m_qfresh, .int m_startOne, .int m_startOther, .int m_latest, .int m_leftBeats, .int m_signed, .int m_metMany, .ref m_qsums, .ref m_qpairs, .ref m_qgoesWith, .ref m_qsaid, .int m_saidMany, .int m_firstWait, .ref m_qfirstOrder, .int m_bundleFirst, .ref m_qtiredBy, .int m_tiredMany, .ref m_qmany, .ref m_qwidth, .ref m_qnumbers, .ref m_qmoving])), (m_qworld, .inl (cA 1, 122, .inl m_cworld))] sz) := by
  refine Met.ofW (cc := cX12_bundles) (maxL := 1) (ret := (some .int)) (by decide) rfl ?_
  intro p e s m args below meth c s₁ B hml hv
  obtain ⟨rfl, hsz, hP, hKN, hD0⟩ := hv
  have hx := B.exec
  have hb := B.bytes
  have hr := B.returns
  have hts : ∀ w ∈ TB, w.before _ s = true := fun w h => atoms_spec B.pre w (List.mem_cons_of_mem _ h)
  have hown : s.vm.findClass RX12 = some m.cls := findClass_of_methodNamed B.named
  have hlocks := B.notSynchronized
  subst hsz
  have hD := hD0.self (sz := s.heap.size)
  generalize hAe : va_A [(h0, .inr (12, [.int m_thrown, .ref m_qworld, .ref m_qimages, .ref m_qhasImage, .ref m_qtape, .int m_taped, .ref m_qfive, .int m_size, .int m_at, .int m_from, .int m_token, .int m_value, .int m_faultKind, .int m_faultPlace, .ref m_qfresh, .int m_startOne, .int m_startOther, .int m_latest, .int m_leftBeats, .int m_signed, .int m_metMany, .ref m_qsums, .ref m_qpairs, .ref m_qgoesWith, .ref m_qsaid, .int m_saidMany, .int m_firstWait, .ref m_qfirstOrder, .int m_bundleFirst, .ref m_qtiredBy, .int m_tiredMany, .ref m_qmany, .ref m_qwidth, .ref m_qnumbers, .ref m_qmoving])), (m_qworld, .inl (cA 1, 122, .inl m_cworld))] s.heap.size = A at hD ⊢
  have hA : ∀ q : Nat, s.heap.size ≤ q → A q := fun q h => by rw [← hAe]; exact Or.inr h
  have hS : va_S A s.heap s.heap [] := va_S.rf
  have hl := lv_entry ([.ref h0]) (n := 1) (Nat.le_of_ble_eq_true rfl)
  rw [lg_entry_eq]
  generalize (lg_sl ([.ref h0]) ++ List.replicate (1 - (lg_sl ([.ref h0])).length) Slot.unset).toArray = ls at hl ⊢
  have hl : lv_has ls 1 [(0, .ref h0)] := hl
  refine lv_aload_n hx hb dX12_bundles_0 rfl (lv_at hl 0 rfl) ?_
  refine cpVi (rest := []) ⟨hx, hb, hml, hown, hts⟩ hKN (hP.sub (ws' := [(h0, .inr (12, [.int m_thrown, .ref m_qworld, .ref m_qimages, .ref m_qhasImage, .ref m_qtape, .int m_taped, .ref m_qfive, .int m_size, .int m_at, .int m_from, .int m_token, .int m_value, .int m_faultKind, .int m_faultPlace, .ref m_qfresh, .int m_startOne, .int m_startOther, .int m_latest, .int m_leftBeats, .int m_signed, .int m_metMany, .ref m_qsums, .ref m_qpairs, .ref m_qgoesWith, .ref m_qsaid, .int m_saidMany, .int m_firstWait, .ref m_qfirstOrder, .int m_bundleFirst, .ref m_qtiredBy, .int m_tiredMany, .ref m_qmany, .ref m_qwidth, .ref m_qnumbers, .ref m_qmoving])), (m_qworld, .inl (cA 1, 122, .inl m_cworld))]) [0, 1] rfl) (g_X12_isGorge l D cA h0 m_thrown m_qworld m_qimages m_qhasImage m_qtape m_taped m_qfive m_size m_at m_from m_token m_value m_faultKind m_faultPlace m_qfresh m_startOne m_startOther m_latest m_leftBeats m_signed m_metMany m_qsums m_qpairs m_qgoesWith m_qsaid m_saidMany m_firstWait m_qfirstOrder m_bundleFirst m_qtiredBy m_tiredMany m_qmany m_qwidth m_qnumbers m_qmoving m_cworld (by omega) (by omega) (by omega) (by omega) (by omega) (by omega) a_m_cworld_0) (tb_V tw_1664 tw_1666 tw_54 tw_114 tw_1667) hdX12_isGorge ⟨rfl, rfl, Nat.le_of_ble_eq_true rfl, Nat.le_of_ble_eq_true rfl⟩ ⟨Nat.le_of_ble_eq_true rfl, Nat.le_of_ble_eq_true rfl⟩ rfl rfl rfl hl.1 rfl (Nat.le_of_ble_eq_true rfl) dX12_bundles_1 (fun r_1 hr_1 => ?_)
  rcases hr_1 with ⟨k_1_0_0, k_1_0_1, k_1_0_2, k_1_0_3, rfl⟩ | rfl
  · skip
    refine lv_if_eq (tgt := 14) hx hb dX12_bundles_4 (by decide) (fun c_2 => absurd c_2 (by decide)) (fun c_2 => ?_)
    refine lv_aload_n hx hb dX12_bundles_7 rfl (lv_at hl 0 rfl) ?_
    refine cmVi (rest := []) (wsC := [(h0, .inr (12, [.int m_thrown, .ref m_qworld, .ref m_qimages, .ref m_qhasImage, .ref m_qtape, .int m_taped, .ref m_qfive, .int m_size, .int m_at, .int m_from, .int m_token, .int m_value, .int m_faultKind, .int m_faultPlace, .ref m_qfresh, .int m_startOne, .int m_startOther, .int m_latest, .int m_leftBeats, .int m_signed, .int m_metMany, .ref m_qsums, .ref m_qpairs, .ref m_qgoesWith, .ref m_qsaid, .int m_saidMany, .int m_firstWait, .ref m_qfirstOrder, .int m_bundleFirst, .ref m_qtiredBy, .int m_tiredMany, .ref m_qmany, .ref m_qwidth, .ref m_qnumbers, .ref m_qmoving])), (m_qworld, .inl (cA 1, 122, .inl m_cworld))]) (wr := []) ⟨hx, hb, hml, hown, hts⟩ hKN hP hD hS hA [0, 1] [] rfl rfl (by decide) (by decide) (by decide) (g_X12_layBundles l D cA _ h0 m_thrown m_qworld m_qimages m_qhasImage m_qtape m_taped m_qfive m_size m_at m_from m_token m_value m_faultKind m_faultPlace m_qfresh m_startOne m_startOther m_latest m_leftBeats m_signed m_metMany m_qsums m_qpairs m_qgoesWith m_qsaid m_saidMany m_firstWait m_qfirstOrder m_bundleFirst m_qtiredBy m_tiredMany m_qmany m_qwidth m_qnumbers m_qmoving m_cworld (by omega) (by omega) (by omega) (by omega) (by omega) (by omega) a_m_cworld_0) (tb_V tw_1983 tw_1985 tw_90 tw_114 tw_1986) hdX12_layBundles ⟨rfl, rfl, Nat.le_of_ble_eq_true rfl, Nat.le_of_ble_eq_true rfl⟩ ⟨Nat.le_of_ble_eq_true rfl, Nat.le_of_ble_eq_true rfl⟩ rfl rfl rfl hl.1 rfl (Nat.le_of_ble_eq_true rfl) dX12_bundles_8 (fun r_3 u_3 H locs hr_3 hP hD hS => ?_)
    have hP : va_P D vwCl [(h0, .inr (12, [.int m_thrown, .ref m_qworld, .ref m_qimages, .ref m_qhasImage, .ref m_qtape, .int m_taped, .ref m_qfive, .int m_size, .int m_at, .int m_from, .int m_token, .int m_value, .int m_faultKind, .int m_faultPlace, .ref m_qfresh, .int m_startOne, .int m_startOther, .int m_latest, .int m_leftBeats, .int m_signed, .int m_metMany, .ref m_qsums, .ref m_qpairs, .ref m_qgoesWith, .ref m_qsaid, .int m_saidMany, .int m_firstWait, .ref m_qfirstOrder, .int (u_3.2.1 0), .ref m_qtiredBy, .int m_tiredMany, .ref m_qmany, .ref m_qwidth, .ref m_qnumbers, .ref m_qmoving])), (m_qworld, .inl (cA 1, 122, .inl m_cworld))] H := hP
    have hD : va_D A [(h0, .inr (12, [.int m_thrown, .ref m_qworld, .ref m_qimages, .ref m_qhasImage, .ref m_qtape, .int m_taped, .ref m_qfive, .int m_size, .int m_at, .int m_from, .int m_token, .int m_value, .int m_faultKind, .int m_faultPlace, .ref m_qfresh, .int m_startOne, .int m_startOther, .int m_latest, .int m_leftBeats, .int m_signed, .int m_metMany, .ref m_qsums, .ref m_qpairs, .ref m_qgoesWith, .ref m_qsaid, .int m_saidMany, .int m_firstWait, .ref m_qfirstOrder, .int (u_3.2.1 0), .ref m_qtiredBy, .int m_tiredMany, .ref m_qmany, .ref m_qwidth, .ref m_qnumbers, .ref m_qmoving])), (m_qworld, .inl (cA 1, 122, .inl m_cworld))] := hD
    have hr_3_0 := hr_3
    refine lv_goto (tgt := 16) hx hb dX12_bundles_11 (by decide) ?_
    have hP9 := hP.sub (ws' := [(h0, .inr (12, [.int m_thrown, .ref m_qworld, .ref m_qimages, .ref m_qhasImage, .ref m_qtape, .int m_taped, .ref m_qfive, .int m_size, .int m_at, .int m_from, .int m_token, .int m_value, .int m_faultKind, .int m_faultPlace, .ref m_qfresh, .int m_startOne, .int m_startOther, .int m_latest, .int m_leftBeats, .int m_signed, .int m_metMany, .ref m_qsums, .ref m_qpairs, .ref m_qgoesWith, .ref m_qsaid, .int m_saidMany, .int m_firstWait, .ref m_qfirstOrder, .int (u_3.2.1 0), .ref m_qtiredBy, .int m_tiredMany, .ref m_qmany, .ref m_qwidth, .ref m_qnumbers, .ref m_qmoving])), (m_qworld, .inl (cA 1, 122, .inl m_cworld))]) [0, 1] rfl
    have hD9 := hD.sub (ws' := [(h0, .inr (12, [.int m_thrown, .ref m_qworld, .ref m_qimages, .ref m_qhasImage, .ref m_qtape, .int m_taped, .ref m_qfive, .int m_size, .int m_at, .int m_from, .int m_token, .int m_value, .int m_faultKind, .int m_faultPlace, .ref m_qfresh, .int m_startOne, .int m_startOther, .int m_latest, .int m_leftBeats, .int m_signed, .int m_metMany, .ref m_qsums, .ref m_qpairs, .ref m_qgoesWith, .ref m_qsaid, .int m_saidMany, .int m_firstWait, .ref m_qfirstOrder, .int (u_3.2.1 0), .ref m_qtiredBy, .int m_tiredMany, .ref m_qmany, .ref m_qwidth, .ref m_qnumbers, .ref m_qmoving])), (m_qworld, .inl (cA 1, 122, .inl m_cworld))]) [0, 1] (by decide) rfl
    exact W.iret (v := r_3) hx hb hr (fun t ht hW => ⟨⟨r_3, ((fun _ => 0), (selI [(u_3.2.1 0)]), (fun _ _ => 0), (fun _ _ => 0)), rfl, trivial, by rw [ht]; exact hP9, hD9⟩, hS.F ht⟩) hS.2.2 dX12_bundles_16
  · skip
    refine lv_if_eq (tgt := 14) hx hb dX12_bundles_4 (by decide) (fun c_4 => ?_) (fun c_4 => absurd (by decide) c_4)
    refine lv_bipush (v := (-2)) hx hb dX12_bundles_14 (by decide) ?_
    have hP9 := hP.sub (ws' := [(h0, .inr (12, [.int m_thrown, .ref m_qworld, .ref m_qimages, .ref m_qhasImage, .ref m_qtape, .int m_taped, .ref m_qfive, .int m_size, .int m_at, .int m_from, .int m_token, .int m_value, .int m_faultKind, .int m_faultPlace, .ref m_qfresh, .int m_startOne, .int m_startOther, .int m_latest, .int m_leftBeats, .int m_signed, .int m_metMany, .ref m_qsums, .ref m_qpairs, .ref m_qgoesWith, .ref m_qsaid, .int m_saidMany, .int m_firstWait, .ref m_qfirstOrder, .int m_bundleFirst, .ref m_qtiredBy, .int m_tiredMany, .ref m_qmany, .ref m_qwidth, .ref m_qnumbers, .ref m_qmoving])), (m_qworld, .inl (cA 1, 122, .inl m_cworld))]) [0, 1] rfl
    have hD9 := hD.sub (ws' := [(h0, .inr (12, [.int m_thrown, .ref m_qworld, .ref m_qimages, .ref m_qhasImage, .ref m_qtape, .int m_taped, .ref m_qfive, .int m_size, .int m_at, .int m_from, .int m_token, .int m_value, .int m_faultKind, .int m_faultPlace, .ref m_qfresh, .int m_startOne, .int m_startOther, .int m_latest, .int m_leftBeats, .int m_signed, .int m_metMany, .ref m_qsums, .ref m_qpairs, .ref m_qgoesWith, .ref m_qsaid, .int m_saidMany, .int m_firstWait, .ref m_qfirstOrder, .int m_bundleFirst, .ref m_qtiredBy, .int m_tiredMany, .ref m_qmany, .ref m_qwidth, .ref m_qnumbers, .ref m_qmoving])), (m_qworld, .inl (cA 1, 122, .inl m_cworld))]) [0, 1] (by decide) rfl
    exact W.iret (v := (-2)) hx hb hr (fun t ht hW => ⟨⟨(-2), ((fun _ => 0), (selI [m_bundleFirst]), (fun _ _ => 0), (fun _ _ => 0)), rfl, trivial, by rw [ht]; exact hP9, hD9⟩, hS.F ht⟩) hS.2.2 dX12_bundles_16
set_option maxHeartbeats 8000000 in
set_option maxRecDepth 100000 in
theorem g_X12_bundle (l : Launch) (D : va_G) (cA : Nat → ClassId) (sz : Nat) (h0 : Nat) (m_thrown : Int32) (m_qworld : Nat) (m_qimages : Nat) (m_qhasImage : Nat) (m_qtape : Nat) (m_taped : Int32) (m_qfive : Nat) (m_size : Int32) (m_at : Int32) (m_from : Int32) (m_token : Int32) (m_value : Int32) (m_faultKind : Int32) (m_faultPlace : Int32) (m_qfresh : Nat) (m_startOne : Int32) (m_startOther : Int32) (m_latest : Int32) (m_leftBeats : Int32) (m_signed : Int32) (m_metMany : Int32) (m_qsums : Nat) (m_qpairs : Nat) (m_qgoesWith : Nat) (m_qsaid : Nat) (m_saidMany : Int32) (m_firstWait : Int32) (m_qfirstOrder : Nat) (m_bundleFirst : Int32) (m_qtiredBy : Nat) (m_tiredMany : Int32) (m_qmany : Nat) (m_qwidth : Nat) (m_qnumbers : Nat) (m_qmoving : Nat) (m_cworld : Nat → Int32) (h_m_taped : 0 ≤ (m_taped : Int32).toInt ∧ (m_taped : Int32).toInt ≤ 800) (h_m_size : 0 ≤ (m_size : Int32).toInt ∧ (m_size : Int32).toInt ≤ 800) (h_m_at : 0 ≤ (m_at : Int32).toInt ∧ (m_at : Int32).toInt ≤ 800) (h_m_from : 0 ≤ (m_from : Int32).toInt ∧ (m_from : Int32).toInt ≤ 800) (h_m_saidMany : 0 ≤ (m_saidMany : Int32).toInt ∧ (m_saidMany : Int32).toInt ≤ 60) (h_m_tiredMany : 0 ≤ (m_tiredMany : Int32).toInt ∧ (m_tiredMany : Int32).toInt ≤ 240) (a_m_cworld_0 : WI m_cworld) : Met l yX12_bundle (Cond.code yX12_bundle cX12_bundle 1 (some .int) :: TB) (rmd 4 0 0) (PM D cA sz [(h0, .inr (12, [.int m_thrown, .ref m_qworld, .ref m_qimages, .ref m_qhasImage, .ref m_qtape, .int m_taped, .ref m_qfive, .int m_size, .int m_at, .int m_from, .int m_token, .int m_value, .int m_faultKind, .int m_faultPlace, .ref m_qfresh, .int m_startOne, .int m_startOther, .int m_latest, .int m_leftBeats, .int m_signed, .int m_metMany, .ref m_qsums, .ref m_qpairs, .ref m_qgoesWith, .ref m_qsaid, .int m_saidMany, .int m_firstWait, .ref m_qfirstOrder, .int m_bundleFirst, .ref m_qtiredBy, .int m_tiredMany, .ref m_qmany, .ref m_qwidth, .ref m_qnumbers, .ref m_qmoving])), (m_qworld, .inl (cA 1, 122, .inl m_cworld))] [.ref h0]) (va_Qi (fun r (u : SU) => (-2 ≤ r.toInt ∧ r.toInt ≤ 56)) (fun u t => va_P D vwCl [(h0, .inr (12, [.int m_thrown, .ref m_qworld, .ref m_qimages, .ref m_qhasImage, .ref m_qtape, .int m_taped, .ref m_qfive, .int m_size, .int m_at, .int m_from, .int m_token, .int m_value, .int m_faultKind, .int m_faultPlace, .ref m_qfresh, .int m_startOne, .int m_startOther, .int m_latest, .int m_leftBeats, .int m_signed, .int m_metMany, .ref m_qsums, .ref m_qpairs, .ref m_qgoesWith, .ref m_qsaid, .int m_saidMany, .int m_firstWait, .ref m_qfirstOrder, .int (u.2.1 0), .ref m_qtiredBy, .int m_tiredMany, .ref m_qmany, .ref m_qwidth, .ref m_qnumbers, .ref m_qmoving])), (m_qworld, .inl (cA 1, 122, .inl m_cworld))] t.heap ∧ va_D (va_A [(h0, .inr (12, [.int m_thrown, .ref m_qworld, .ref m_qimages, .ref m_qhasImage, .ref m_qtape, .int m_taped, .ref m_qfive, .int m_size, .int m_at, .int m_from, .int m_token, .int m_value, .int m_faultKind, .int m_faultPlace, .ref m_qfresh, .int m_startOne, .int m_startOther, .int m_latest, .int m_leftBeats, .int m_signed, .int m_metMany, .ref m_qsums, .ref m_qpairs, .ref m_qgoesWith, .ref m_qsaid, .int m_saidMany, .int m_firstWait, .ref m_qfirstOrder, .int m_bundleFirst, .ref m_qtiredBy, .int m_tiredMany, .ref m_qmany, .ref m_qwidth, .ref m_qnumbers, .ref m_qmoving])), (m_qworld, .inl (cA 1, 122, .inl m_cworld))] sz) [(h0, .inr (12, [.int m_thrown, .ref m_qworld, .ref m_qimages, .ref m_qhasImage, .ref m_qtape, .int m_taped, .ref m_qfive, .int m_size, .int m_at, .int m_from, .int m_token, .int m_value, .int m_faultKind, .int m_faultPlace, .ref m_qfresh, .int m_startOne, .int m_startOther, .int m_latest, .int m_leftBeats, .int m_signed, .int m_metMany, .ref m_qsums, .ref m_qpairs, .ref m_qgoesWith, .ref m_qsaid, .int m_saidMany, .int m_firstWait, .ref m_qfirstOrder, .int (u.2.1 0), .ref m_qtiredBy, .int m_tiredMany, .ref m_qmany, .ref m_qwidth, .ref m_qnumbers, .ref m_qmoving])), (m_qworld, .inl (cA 1, 122, .inl m_cworld))]) (va_A [(h0, .inr (12, [.int m_thrown, .ref m_qworld, .ref m_qimages, .ref m_qhasImage, .ref m_qtape, .int m_taped, .ref m_qfive, .int m_size, .int m_at, .int m_from, .int m_token, .int m_value, .int m_faultKind, .int m_faultPlace, .ref m_qfresh, .int m_startOne, .int m_startOther, .int m_latest, .int m_leftBeats, .int m_signed, .int m_metMany, .ref m_qsums, .ref m_qpairs, .ref m_qgoesWith, .ref m_qsaid, .int m_saidMany, .int m_firstWait, .ref m_qfirstOrder, .int m_bundleFirst, .ref m_qtiredBy, .int m_tiredMany, .ref m_qmany, .ref m_qwidth, .ref m_qnumbers, .ref m_qmoving])), (m_qworld, .inl (cA 1, 122, .inl m_cworld))] sz)) 0 0 (va_A [(h0, .inr (12, [.int m_thrown, .ref m_qworld, .ref m_qimages, .ref m_qhasImage, .ref m_qtape, .int m_taped, .ref m_qfive, .int m_size, .int m_at, .int m_from, .int m_token, .int m_value, .int m_faultKind, .int m_faultPlace, .ref m_qfresh, .int m_startOne, .int m_startOther, .int m_latest, .int m_leftBeats, .int m_signed, .int m_metMany, .ref m_qsums, .ref m_qpairs, .ref m_qgoesWith, .ref m_qsaid, .int m_saidMany, .int m_firstWait, .ref m_qfirstOrder, .int m_bundleFirst, .ref m_qtiredBy, .int m_tiredMany, .ref m_qmany, .ref m_qwidth, .ref m_qnumbers, .ref m_qmoving])), (m_qworld, .inl (cA 1, 122, .inl m_cworld))] sz) := by
  refine Met.ofW (cc := cX12_bundle) (maxL := 1) (ret := (some .int)) (by decide) rfl ?_
  intro p e s m args below meth c s₁ B hml hv
  obtain ⟨rfl, hsz, hP, hKN, hD0⟩ := hv
  have hx := B.exec
  have hb := B.bytes
  have hr := B.returns
  have hts : ∀ w ∈ TB, w.before _ s = true := fun w h => atoms_spec B.pre w (List.mem_cons_of_mem _ h)
  have hown : s.vm.findClass RX12 = some m.cls := findClass_of_methodNamed B.named
  have hlocks := B.notSynchronized
  subst hsz
  have hD := hD0.self (sz := s.heap.size)
  generalize hAe : va_A [(h0, .inr (12, [.int m_thrown, .ref m_qworld, .ref m_qimages, .ref m_qhasImage, .ref m_qtape, .int m_taped, .ref m_qfive, .int m_size, .int m_at, .int m_from, .int m_token, .int m_value, .int m_faultKind, .int m_faultPlace, .ref m_qfresh, .int m_startOne, .int m_startOther, .int m_latest, .int m_leftBeats, .int m_signed, .int m_metMany, .ref m_qsums, .ref m_qpairs, .ref m_qgoesWith, .ref m_qsaid, .int m_saidMany, .int m_firstWait, .ref m_qfirstOrder, .int m_bundleFirst, .ref m_qtiredBy, .int m_tiredMany, .ref m_qmany, .ref m_qwidth, .ref m_qnumbers, .ref m_qmoving])), (m_qworld, .inl (cA 1, 122, .inl m_cworld))] s.heap.size = A at hD ⊢
  have hA : ∀ q : Nat, s.heap.size ≤ q → A q := fun q h => by rw [← hAe]; exact Or.inr h
  have hS : va_S A s.heap s.heap [] := va_S.rf
  have hl := lv_entry ([.ref h0]) (n := 1) (Nat.le_of_ble_eq_true rfl)
  rw [lg_entry_eq]
  generalize (lg_sl ([.ref h0]) ++ List.replicate (1 - (lg_sl ([.ref h0])).length) Slot.unset).toArray = ls at hl ⊢
  have hl : lv_has ls 1 [(0, .ref h0)] := hl
  refine lv_aload_n hx hb dX12_bundle_0 rfl (lv_at hl 0 rfl) ?_
  refine cpVi (rest := []) ⟨hx, hb, hml, hown, hts⟩ hKN (hP.sub (ws' := [(h0, .inr (12, [.int m_thrown, .ref m_qworld, .ref m_qimages, .ref m_qhasImage, .ref m_qtape, .int m_taped, .ref m_qfive, .int m_size, .int m_at, .int m_from, .int m_token, .int m_value, .int m_faultKind, .int m_faultPlace, .ref m_qfresh, .int m_startOne, .int m_startOther, .int m_latest, .int m_leftBeats, .int m_signed, .int m_metMany, .ref m_qsums, .ref m_qpairs, .ref m_qgoesWith, .ref m_qsaid, .int m_saidMany, .int m_firstWait, .ref m_qfirstOrder, .int m_bundleFirst, .ref m_qtiredBy, .int m_tiredMany, .ref m_qmany, .ref m_qwidth, .ref m_qnumbers, .ref m_qmoving])), (m_qworld, .inl (cA 1, 122, .inl m_cworld))]) [0, 1] rfl) (g_X12_isGorge l D cA h0 m_thrown m_qworld m_qimages m_qhasImage m_qtape m_taped m_qfive m_size m_at m_from m_token m_value m_faultKind m_faultPlace m_qfresh m_startOne m_startOther m_latest m_leftBeats m_signed m_metMany m_qsums m_qpairs m_qgoesWith m_qsaid m_saidMany m_firstWait m_qfirstOrder m_bundleFirst m_qtiredBy m_tiredMany m_qmany m_qwidth m_qnumbers m_qmoving m_cworld (by omega) (by omega) (by omega) (by omega) (by omega) (by omega) a_m_cworld_0) (tb_V tw_1664 tw_1666 tw_54 tw_114 tw_1667) hdX12_isGorge ⟨rfl, rfl, Nat.le_of_ble_eq_true rfl, Nat.le_of_ble_eq_true rfl⟩ ⟨Nat.le_of_ble_eq_true rfl, Nat.le_of_ble_eq_true rfl⟩ rfl rfl rfl hl.1 rfl (Nat.le_of_ble_eq_true rfl) dX12_bundle_1 (fun r_1 hr_1 => ?_)
  rcases hr_1 with ⟨k_1_0_0, k_1_0_1, k_1_0_2, k_1_0_3, rfl⟩ | rfl
  · skip
    refine lv_if_ne (tgt := 10) hx hb dX12_bundle_4 (by decide) (fun c_2 => ?_) (fun c_2 => absurd c_2 (by decide))
    refine lv_aload_n hx hb dX12_bundle_10 rfl (lv_at hl 0 rfl) ?_
    refine cmVi (rest := []) (wsC := [(h0, .inr (12, [.int m_thrown, .ref m_qworld, .ref m_qimages, .ref m_qhasImage, .ref m_qtape, .int m_taped, .ref m_qfive, .int m_size, .int m_at, .int m_from, .int m_token, .int m_value, .int m_faultKind, .int m_faultPlace, .ref m_qfresh, .int m_startOne, .int m_startOther, .int m_latest, .int m_leftBeats, .int m_signed, .int m_metMany, .ref m_qsums, .ref m_qpairs, .ref m_qgoesWith, .ref m_qsaid, .int m_saidMany, .int m_firstWait, .ref m_qfirstOrder, .int m_bundleFirst, .ref m_qtiredBy, .int m_tiredMany, .ref m_qmany, .ref m_qwidth, .ref m_qnumbers, .ref m_qmoving])), (m_qworld, .inl (cA 1, 122, .inl m_cworld))]) (wr := []) ⟨hx, hb, hml, hown, hts⟩ hKN hP hD hS hA [0, 1] [] rfl rfl (by decide) (by decide) (by decide) (g_X12_layBundles l D cA _ h0 m_thrown m_qworld m_qimages m_qhasImage m_qtape m_taped m_qfive m_size m_at m_from m_token m_value m_faultKind m_faultPlace m_qfresh m_startOne m_startOther m_latest m_leftBeats m_signed m_metMany m_qsums m_qpairs m_qgoesWith m_qsaid m_saidMany m_firstWait m_qfirstOrder m_bundleFirst m_qtiredBy m_tiredMany m_qmany m_qwidth m_qnumbers m_qmoving m_cworld (by omega) (by omega) (by omega) (by omega) (by omega) (by omega) a_m_cworld_0) (tb_V tw_1983 tw_1985 tw_90 tw_114 tw_1986) hdX12_layBundles ⟨rfl, rfl, Nat.le_of_ble_eq_true rfl, Nat.le_of_ble_eq_true rfl⟩ ⟨Nat.le_of_ble_eq_true rfl, Nat.le_of_ble_eq_true rfl⟩ rfl rfl rfl hl.1 rfl (Nat.le_of_ble_eq_true rfl) dX12_bundle_11 (fun r_3 u_3 H locs hr_3 hP hD hS => ?_)
    have hP : va_P D vwCl [(h0, .inr (12, [.int m_thrown, .ref m_qworld, .ref m_qimages, .ref m_qhasImage, .ref m_qtape, .int m_taped, .ref m_qfive, .int m_size, .int m_at, .int m_from, .int m_token, .int m_value, .int m_faultKind, .int m_faultPlace, .ref m_qfresh, .int m_startOne, .int m_startOther, .int m_latest, .int m_leftBeats, .int m_signed, .int m_metMany, .ref m_qsums, .ref m_qpairs, .ref m_qgoesWith, .ref m_qsaid, .int m_saidMany, .int m_firstWait, .ref m_qfirstOrder, .int (u_3.2.1 0), .ref m_qtiredBy, .int m_tiredMany, .ref m_qmany, .ref m_qwidth, .ref m_qnumbers, .ref m_qmoving])), (m_qworld, .inl (cA 1, 122, .inl m_cworld))] H := hP
    have hD : va_D A [(h0, .inr (12, [.int m_thrown, .ref m_qworld, .ref m_qimages, .ref m_qhasImage, .ref m_qtape, .int m_taped, .ref m_qfive, .int m_size, .int m_at, .int m_from, .int m_token, .int m_value, .int m_faultKind, .int m_faultPlace, .ref m_qfresh, .int m_startOne, .int m_startOther, .int m_latest, .int m_leftBeats, .int m_signed, .int m_metMany, .ref m_qsums, .ref m_qpairs, .ref m_qgoesWith, .ref m_qsaid, .int m_saidMany, .int m_firstWait, .ref m_qfirstOrder, .int (u_3.2.1 0), .ref m_qtiredBy, .int m_tiredMany, .ref m_qmany, .ref m_qwidth, .ref m_qnumbers, .ref m_qmoving])), (m_qworld, .inl (cA 1, 122, .inl m_cworld))] := hD
    have hr_3_0 := hr_3
    refine lv_pop hx hb dX12_bundle_14 rfl ?_
    refine lv_aload_n hx hb dX12_bundle_15 rfl (lv_at hl 0 rfl) ?_
    refine va_get (D := D) (ci := 12) (v := .int (u_3.2.1 0)) (C := RX12) (T := TX12) (N := 35) hx hb hts inX12 hown hKN.1 hP 0 rfl rfl 28 (by decide) (hts _ tw_1447) (fun _ h9 => h9) rfl dX12_bundle_16 ?_
    have hP9 := hP.sub (ws' := [(h0, .inr (12, [.int m_thrown, .ref m_qworld, .ref m_qimages, .ref m_qhasImage, .ref m_qtape, .int m_taped, .ref m_qfive, .int m_size, .int m_at, .int m_from, .int m_token, .int m_value, .int m_faultKind, .int m_faultPlace, .ref m_qfresh, .int m_startOne, .int m_startOther, .int m_latest, .int m_leftBeats, .int m_signed, .int m_metMany, .ref m_qsums, .ref m_qpairs, .ref m_qgoesWith, .ref m_qsaid, .int m_saidMany, .int m_firstWait, .ref m_qfirstOrder, .int (u_3.2.1 0), .ref m_qtiredBy, .int m_tiredMany, .ref m_qmany, .ref m_qwidth, .ref m_qnumbers, .ref m_qmoving])), (m_qworld, .inl (cA 1, 122, .inl m_cworld))]) [0, 1] rfl
    have hD9 := hD.sub (ws' := [(h0, .inr (12, [.int m_thrown, .ref m_qworld, .ref m_qimages, .ref m_qhasImage, .ref m_qtape, .int m_taped, .ref m_qfive, .int m_size, .int m_at, .int m_from, .int m_token, .int m_value, .int m_faultKind, .int m_faultPlace, .ref m_qfresh, .int m_startOne, .int m_startOther, .int m_latest, .int m_leftBeats, .int m_signed, .int m_metMany, .ref m_qsums, .ref m_qpairs, .ref m_qgoesWith, .ref m_qsaid, .int m_saidMany, .int m_firstWait, .ref m_qfirstOrder, .int (u_3.2.1 0), .ref m_qtiredBy, .int m_tiredMany, .ref m_qmany, .ref m_qwidth, .ref m_qnumbers, .ref m_qmoving])), (m_qworld, .inl (cA 1, 122, .inl m_cworld))]) [0, 1] (by decide) rfl
    exact W.iret (v := (u_3.2.1 0)) hx hb hr (fun t ht hW => ⟨⟨(u_3.2.1 0), ((fun _ => 0), (selI [(u_3.2.1 0)]), (fun _ _ => 0), (fun _ _ => 0)), rfl, (show -2 ≤ (u_3.2.1 0).toInt ∧ (u_3.2.1 0).toInt ≤ 56 from by omega), by rw [ht]; exact hP9, hD9⟩, hS.F ht⟩) hS.2.2 dX12_bundle_19
  · skip
    refine lv_if_ne (tgt := 10) hx hb dX12_bundle_4 (by decide) (fun c_4 => absurd (by decide) c_4) (fun c_4 => ?_)
    refine lv_bipush (v := (-2)) hx hb dX12_bundle_7 (by decide) ?_
    have hP9 := hP.sub (ws' := [(h0, .inr (12, [.int m_thrown, .ref m_qworld, .ref m_qimages, .ref m_qhasImage, .ref m_qtape, .int m_taped, .ref m_qfive, .int m_size, .int m_at, .int m_from, .int m_token, .int m_value, .int m_faultKind, .int m_faultPlace, .ref m_qfresh, .int m_startOne, .int m_startOther, .int m_latest, .int m_leftBeats, .int m_signed, .int m_metMany, .ref m_qsums, .ref m_qpairs, .ref m_qgoesWith, .ref m_qsaid, .int m_saidMany, .int m_firstWait, .ref m_qfirstOrder, .int m_bundleFirst, .ref m_qtiredBy, .int m_tiredMany, .ref m_qmany, .ref m_qwidth, .ref m_qnumbers, .ref m_qmoving])), (m_qworld, .inl (cA 1, 122, .inl m_cworld))]) [0, 1] rfl
    have hD9 := hD.sub (ws' := [(h0, .inr (12, [.int m_thrown, .ref m_qworld, .ref m_qimages, .ref m_qhasImage, .ref m_qtape, .int m_taped, .ref m_qfive, .int m_size, .int m_at, .int m_from, .int m_token, .int m_value, .int m_faultKind, .int m_faultPlace, .ref m_qfresh, .int m_startOne, .int m_startOther, .int m_latest, .int m_leftBeats, .int m_signed, .int m_metMany, .ref m_qsums, .ref m_qpairs, .ref m_qgoesWith, .ref m_qsaid, .int m_saidMany, .int m_firstWait, .ref m_qfirstOrder, .int m_bundleFirst, .ref m_qtiredBy, .int m_tiredMany, .ref m_qmany, .ref m_qwidth, .ref m_qnumbers, .ref m_qmoving])), (m_qworld, .inl (cA 1, 122, .inl m_cworld))]) [0, 1] (by decide) rfl
    exact W.iret (v := (-2)) hx hb hr (fun t ht hW => ⟨⟨(-2), ((fun _ => 0), (selI [m_bundleFirst]), (fun _ _ => 0), (fun _ _ => 0)), rfl, (show -2 ≤ ((-2) : Int32).toInt ∧ ((-2) : Int32).toInt ≤ 56 from by decide), by rw [ht]; exact hP9, hD9⟩, hS.F ht⟩) hS.2.2 dX12_bundle_9
set_option maxHeartbeats 8000000 in
set_option maxRecDepth 100000 in
theorem g_X12_isFirm (l : Launch) (D : va_G) (cA : Nat → ClassId) (h0 : Nat) (m_thrown : Int32) (m_qworld : Nat) (m_qimages : Nat) (m_qhasImage : Nat) (m_qtape : Nat) (m_taped : Int32) (m_qfive : Nat) (m_size : Int32) (m_at : Int32) (m_from : Int32) (m_token : Int32) (m_value : Int32) (m_faultKind : Int32) (m_faultPlace : Int32) (m_qfresh : Nat) (m_startOne : Int32) (m_startOther : Int32) (m_latest : Int32) (m_leftBeats : Int32) (m_signed : Int32) (m_metMany : Int32) (m_qsums : Nat) (m_qpairs : Nat) (m_qgoesWith : Nat) (m_qsaid : Nat) (m_saidMany : Int32) (m_firstWait : Int32) (m_qfirstOrder : Nat) (m_bundleFirst : Int32) (m_qtiredBy : Nat) (m_tiredMany : Int32) (m_qmany : Nat) (m_qwidth : Nat) (m_qnumbers : Nat) (m_qmoving : Nat) (m_cworld : Nat → Int32) (p0 : Int32) (h_m_taped : 0 ≤ (m_taped : Int32).toInt ∧ (m_taped : Int32).toInt ≤ 800) (h_m_size : 0 ≤ (m_size : Int32).toInt ∧ (m_size : Int32).toInt ≤ 800) (h_m_at : 0 ≤ (m_at : Int32).toInt ∧ (m_at : Int32).toInt ≤ 800) (h_m_from : 0 ≤ (m_from : Int32).toInt ∧ (m_from : Int32).toInt ≤ 800) (h_m_saidMany : 0 ≤ (m_saidMany : Int32).toInt ∧ (m_saidMany : Int32).toInt ≤ 60) (h_m_tiredMany : 0 ≤ (m_tiredMany : Int32).toInt ∧ (m_tiredMany : Int32).toInt ≤ 240) (a_m_cworld_0 : WI m_cworld) : Met l yX12_isFirm (Cond.code yX12_isFirm cX12_isFirm 7 (some .boolean) :: TB) (rmd 2 0 0) (PP D cA [(h0, .inr (12, [.int m_thrown, .ref m_qworld, .ref m_qimages, .ref m_qhasImage, .ref m_qtape, .int m_taped, .ref m_qfive, .int m_size, .int m_at, .int m_from, .int m_token, .int m_value, .int m_faultKind, .int m_faultPlace, .ref m_qfresh, .int m_startOne, .int m_startOther, .int m_latest, .int m_leftBeats, .int m_signed, .int m_metMany, .ref m_qsums, .ref m_qpairs, .ref m_qgoesWith, .ref m_qsaid, .int m_saidMany, .int m_firstWait, .ref m_qfirstOrder, .int m_bundleFirst, .ref m_qtiredBy, .int m_tiredMany, .ref m_qmany, .ref m_qwidth, .ref m_qnumbers, .ref m_qmoving])), (m_qworld, .inl (cA 1, 122, .inl m_cworld))] [.ref h0, .int p0]) (vp_Si (fun r => 0 ≤ r.toInt ∧ r.toInt ≤ 1)) 0 0 (fun _ => False) := by
  refine Met.ofW (cc := cX12_isFirm) (maxL := 7) (ret := (some .boolean)) (by decide) rfl ?_
  intro p e s m args below meth c s₁ B hml hv
  obtain ⟨rfl, hP, hKN⟩ := hv
  have hx := B.exec
  have hb := B.bytes
  have hr := B.returns
  have hts : ∀ w ∈ TB, w.before _ s = true := fun w h => atoms_spec B.pre w (List.mem_cons_of_mem _ h)
  have hown : s.vm.findClass RX12 = some m.cls := findClass_of_methodNamed B.named
  have hlocks := B.notSynchronized
  have hl := lv_entry ([.ref h0, .int p0]) (n := 7) (Nat.le_of_ble_eq_true rfl)
  rw [lg_entry_eq]
  generalize (lg_sl ([.ref h0, .int p0]) ++ List.replicate (7 - (lg_sl ([.ref h0, .int p0])).length) Slot.unset).toArray = ls at hl ⊢
  have hl : lv_has ls 7 [(0, .ref h0), (1, .int p0)] := hl
  refine lv_aload_n hx hb dX12_isFirm_0 rfl (lv_at hl 0 rfl) ?_
  refine lv_iload_n hx hb dX12_isFirm_1 rfl (lv_at hl 1 rfl) ?_
  refine lv_iconst (v := 0) hx hb dX12_isFirm_2 (by decide) ?_
  have z_1 := zi_0
  refine cpVi (rest := []) ⟨hx, hb, hml, hown, hts⟩ hKN (hP.sub (ws' := [(h0, .inr (12, [.int m_thrown, .ref m_qworld, .ref m_qimages, .ref m_qhasImage, .ref m_qtape, .int m_taped, .ref m_qfive, .int m_size, .int m_at, .int m_from, .int m_token, .int m_value, .int m_faultKind, .int m_faultPlace, .ref m_qfresh, .int m_startOne, .int m_startOther, .int m_latest, .int m_leftBeats, .int m_signed, .int m_metMany, .ref m_qsums, .ref m_qpairs, .ref m_qgoesWith, .ref m_qsaid, .int m_saidMany, .int m_firstWait, .ref m_qfirstOrder, .int m_bundleFirst, .ref m_qtiredBy, .int m_tiredMany, .ref m_qmany, .ref m_qwidth, .ref m_qnumbers, .ref m_qmoving])), (m_qworld, .inl (cA 1, 122, .inl m_cworld))]) [0, 1] rfl) (g_X12_worthOf l D cA h0 m_thrown m_qworld m_qimages m_qhasImage m_qtape m_taped m_qfive m_size m_at m_from m_token m_value m_faultKind m_faultPlace m_qfresh m_startOne m_startOther m_latest m_leftBeats m_signed m_metMany m_qsums m_qpairs m_qgoesWith m_qsaid m_saidMany m_firstWait m_qfirstOrder m_bundleFirst m_qtiredBy m_tiredMany m_qmany m_qwidth m_qnumbers m_qmoving m_cworld p0 0 (by omega) (by omega) (by omega) (by omega) (by omega) (by omega) (by decide) a_m_cworld_0) (tb_V tw_1935 tw_1937 tw_87 tw_114 tw_1938) hdX12_worthOf ⟨rfl, rfl, Nat.le_of_ble_eq_true rfl, Nat.le_of_ble_eq_true rfl⟩ ⟨Nat.le_of_ble_eq_true rfl, Nat.le_of_ble_eq_true rfl⟩ rfl rfl rfl hl.1 rfl (Nat.le_of_ble_eq_true rfl) dX12_isFirm_3 (fun r_2 hr_2 => ?_)
  refine lv_istore_n (lv' := [(2, .int r_2), (0, .ref h0), (1, .int p0)]) hx hb dX12_isFirm_6 rfl hl (by decide) rfl (fun ls hl => ?_)
  refine lv_aload_n hx hb dX12_isFirm_7 rfl (lv_at hl 1 rfl) ?_
  refine lv_iload_n hx hb dX12_isFirm_8 rfl (lv_at hl 2 rfl) ?_
  refine lv_iconst (v := 1) hx hb dX12_isFirm_9 (by decide) ?_
  have z_3 := zi_1
  refine cpVi (rest := []) ⟨hx, hb, hml, hown, hts⟩ hKN (hP.sub (ws' := [(h0, .inr (12, [.int m_thrown, .ref m_qworld, .ref m_qimages, .ref m_qhasImage, .ref m_qtape, .int m_taped, .ref m_qfive, .int m_size, .int m_at, .int m_from, .int m_token, .int m_value, .int m_faultKind, .int m_faultPlace, .ref m_qfresh, .int m_startOne, .int m_startOther, .int m_latest, .int m_leftBeats, .int m_signed, .int m_metMany, .ref m_qsums, .ref m_qpairs, .ref m_qgoesWith, .ref m_qsaid, .int m_saidMany, .int m_firstWait, .ref m_qfirstOrder, .int m_bundleFirst, .ref m_qtiredBy, .int m_tiredMany, .ref m_qmany, .ref m_qwidth, .ref m_qnumbers, .ref m_qmoving])), (m_qworld, .inl (cA 1, 122, .inl m_cworld))]) [0, 1] rfl) (g_X12_worthOf l D cA h0 m_thrown m_qworld m_qimages m_qhasImage m_qtape m_taped m_qfive m_size m_at m_from m_token m_value m_faultKind m_faultPlace m_qfresh m_startOne m_startOther m_latest m_leftBeats m_signed m_metMany m_qsums m_qpairs m_qgoesWith m_qsaid m_saidMany m_firstWait m_qfirstOrder m_bundleFirst m_qtiredBy m_tiredMany m_qmany m_qwidth m_qnumbers m_qmoving m_cworld p0 1 (by omega) (by omega) (by omega) (by omega) (by omega) (by omega) (by decide) a_m_cworld_0) (tb_V tw_1935 tw_1937 tw_87 tw_114 tw_1938) hdX12_worthOf ⟨rfl, rfl, Nat.le_of_ble_eq_true rfl, Nat.le_of_ble_eq_true rfl⟩ ⟨Nat.le_of_ble_eq_true rfl, Nat.le_of_ble_eq_true rfl⟩ rfl rfl rfl hl.1 rfl (Nat.le_of_ble_eq_true rfl) dX12_isFirm_10 (fun r_4 hr_4 => ?_)
  refine lv_istore_n (lv' := [(3, .int r_4), (2, .int r_2), (0, .ref h0), (1, .int p0)]) hx hb dX12_isFirm_13 rfl hl (by decide) rfl (fun ls hl => ?_)
  refine lv_iconst (v := 0) hx hb dX12_isFirm_14 (by decide) ?_
  refine lv_istore (lv' := [(4, .int 0), (3, .int r_4), (2, .int r_2), (0, .ref h0), (1, .int p0)]) hx hb dX12_isFirm_15 hl (by decide) rfl (fun ls hl => ?_)
  refine loopW (σ := Int32) (fun _ => []) (fun L4_170 H locs ls => (0 ≤ L4_170.toInt ∧ L4_170.toInt ≤ 128) ∧ H = s.heap ∧ locs = [] ∧ lv_has ls 7 [(4, .int L4_170), (3, .int r_4), (2, .int r_2), (0, .ref h0), (1, .int p0)]) (fun L4_170 => (2147483647 - L4_170.toInt).toNat) ?_ (0 : Int32) ⟨(by decide), rfl, rfl, hl⟩
  intro x_170 H locs ls hI_170 ih_170
  obtain ⟨L4_170, rfl⟩ : ∃ z, z = x_170 := ⟨_, rfl⟩
  obtain ⟨k0_170, rfl, rfl, hl⟩ := hI_170
  have hl : lv_has ls 7 [(4, .int L4_170), (3, .int r_4), (2, .int r_2), (0, .ref h0), (1, .int p0)] := hl
  refine lv_iload hx hb dX12_isFirm_17 (lv_at hl 0 rfl) ?_
  refine lv_aload_n hx hb dX12_isFirm_19 rfl (lv_at hl 3 rfl) ?_
  refine cpVi (rest := [.int L4_170]) ⟨hx, hb, hml, hown, hts⟩ hKN (hP.sub (ws' := [(h0, .inr (12, [.int m_thrown, .ref m_qworld, .ref m_qimages, .ref m_qhasImage, .ref m_qtape, .int m_taped, .ref m_qfive, .int m_size, .int m_at, .int m_from, .int m_token, .int m_value, .int m_faultKind, .int m_faultPlace, .ref m_qfresh, .int m_startOne, .int m_startOther, .int m_latest, .int m_leftBeats, .int m_signed, .int m_metMany, .ref m_qsums, .ref m_qpairs, .ref m_qgoesWith, .ref m_qsaid, .int m_saidMany, .int m_firstWait, .ref m_qfirstOrder, .int m_bundleFirst, .ref m_qtiredBy, .int m_tiredMany, .ref m_qmany, .ref m_qwidth, .ref m_qnumbers, .ref m_qmoving])), (m_qworld, .inl (cA 1, 122, .inl m_cworld))]) [0, 1] rfl) (g_X12_allClauses l D cA h0 m_thrown m_qworld m_qimages m_qhasImage m_qtape m_taped m_qfive m_size m_at m_from m_token m_value m_faultKind m_faultPlace m_qfresh m_startOne m_startOther m_latest m_leftBeats m_signed m_metMany m_qsums m_qpairs m_qgoesWith m_qsaid m_saidMany m_firstWait m_qfirstOrder m_bundleFirst m_qtiredBy m_tiredMany m_qmany m_qwidth m_qnumbers m_qmoving m_cworld (by omega) (by omega) (by omega) (by omega) (by omega) (by omega) a_m_cworld_0) (tb_V tw_1908 tw_1910 tw_83 tw_114 tw_1911) hdX12_allClauses ⟨rfl, rfl, Nat.le_of_ble_eq_true rfl, Nat.le_of_ble_eq_true rfl⟩ ⟨Nat.le_of_ble_eq_true rfl, Nat.le_of_ble_eq_true rfl⟩ rfl rfl rfl hl.1 rfl (Nat.le_of_ble_eq_true rfl) dX12_isFirm_20 (fun r_171 hr_171 => ?_)
  refine lv_icmp_gt (tgt := 76) hx hb dX12_isFirm_23 (by decide) (fun c_172 => ?_) (fun c_172 => ?_)
  · skip
    have k_173 := kk_lt rfl rfl c_172
    refine lv_iconst (v := 1) hx hb dX12_isFirm_76 (by decide) ?_
    exact W.zret (v := 1) hx hb hr (by decide) (fun t ht hW => ⟨1, rfl, (show 0 ≤ (1 : Int32).toInt ∧ (1 : Int32).toInt ≤ 1 from by decide), ht⟩) (fun _ h => by cases h) dX12_isFirm_77
  · skip
    have k_174 := kk_nlt rfl rfl c_172
    refine lv_aload_n hx hb dX12_isFirm_26 rfl (lv_at hl 3 rfl) ?_
    refine lv_iload hx hb dX12_isFirm_27 (lv_at hl 0 rfl) ?_
    refine lv_iconst (v := 0) hx hb dX12_isFirm_29 (by decide) ?_
    refine cpVi (rest := []) ⟨hx, hb, hml, hown, hts⟩ hKN (hP.sub (ws' := [(h0, .inr (12, [.int m_thrown, .ref m_qworld, .ref m_qimages, .ref m_qhasImage, .ref m_qtape, .int m_taped, .ref m_qfive, .int m_size, .int m_at, .int m_from, .int m_token, .int m_value, .int m_faultKind, .int m_faultPlace, .ref m_qfresh, .int m_startOne, .int m_startOther, .int m_latest, .int m_leftBeats, .int m_signed, .int m_metMany, .ref m_qsums, .ref m_qpairs, .ref m_qgoesWith, .ref m_qsaid, .int m_saidMany, .int m_firstWait, .ref m_qfirstOrder, .int m_bundleFirst, .ref m_qtiredBy, .int m_tiredMany, .ref m_qmany, .ref m_qwidth, .ref m_qnumbers, .ref m_qmoving])), (m_qworld, .inl (cA 1, 122, .inl m_cworld))]) [0, 1] rfl) (g_X12_worthOf l D cA h0 m_thrown m_qworld m_qimages m_qhasImage m_qtape m_taped m_qfive m_size m_at m_from m_token m_value m_faultKind m_faultPlace m_qfresh m_startOne m_startOther m_latest m_leftBeats m_signed m_metMany m_qsums m_qpairs m_qgoesWith m_qsaid m_saidMany m_firstWait m_qfirstOrder m_bundleFirst m_qtiredBy m_tiredMany m_qmany m_qwidth m_qnumbers m_qmoving m_cworld L4_170 0 (by omega) (by omega) (by omega) (by omega) (by omega) (by omega) (by decide) a_m_cworld_0) (tb_V tw_1935 tw_1937 tw_87 tw_114 tw_1938) hdX12_worthOf ⟨rfl, rfl, Nat.le_of_ble_eq_true rfl, Nat.le_of_ble_eq_true rfl⟩ ⟨Nat.le_of_ble_eq_true rfl, Nat.le_of_ble_eq_true rfl⟩ rfl rfl rfl hl.1 rfl (Nat.le_of_ble_eq_true rfl) dX12_isFirm_30 (fun r_175 hr_175 => ?_)
    refine lv_istore (lv' := [(5, .int r_175), (4, .int L4_170), (3, .int r_4), (2, .int r_2), (0, .ref h0), (1, .int p0)]) hx hb dX12_isFirm_33 hl (by decide) rfl (fun ls hl => ?_)
    refine lv_aload_n hx hb dX12_isFirm_35 rfl (lv_at hl 4 rfl) ?_
    refine lv_iload hx hb dX12_isFirm_36 (lv_at hl 1 rfl) ?_
    refine lv_iconst (v := 1) hx hb dX12_isFirm_38 (by decide) ?_
    refine cpVi (rest := []) ⟨hx, hb, hml, hown, hts⟩ hKN (hP.sub (ws' := [(h0, .inr (12, [.int m_thrown, .ref m_qworld, .ref m_qimages, .ref m_qhasImage, .ref m_qtape, .int m_taped, .ref m_qfive, .int m_size, .int m_at, .int m_from, .int m_token, .int m_value, .int m_faultKind, .int m_faultPlace, .ref m_qfresh, .int m_startOne, .int m_startOther, .int m_latest, .int m_leftBeats, .int m_signed, .int m_metMany, .ref m_qsums, .ref m_qpairs, .ref m_qgoesWith, .ref m_qsaid, .int m_saidMany, .int m_firstWait, .ref m_qfirstOrder, .int m_bundleFirst, .ref m_qtiredBy, .int m_tiredMany, .ref m_qmany, .ref m_qwidth, .ref m_qnumbers, .ref m_qmoving])), (m_qworld, .inl (cA 1, 122, .inl m_cworld))]) [0, 1] rfl) (g_X12_worthOf l D cA h0 m_thrown m_qworld m_qimages m_qhasImage m_qtape m_taped m_qfive m_size m_at m_from m_token m_value m_faultKind m_faultPlace m_qfresh m_startOne m_startOther m_latest m_leftBeats m_signed m_metMany m_qsums m_qpairs m_qgoesWith m_qsaid m_saidMany m_firstWait m_qfirstOrder m_bundleFirst m_qtiredBy m_tiredMany m_qmany m_qwidth m_qnumbers m_qmoving m_cworld L4_170 1 (by omega) (by omega) (by omega) (by omega) (by omega) (by omega) (by decide) a_m_cworld_0) (tb_V tw_1935 tw_1937 tw_87 tw_114 tw_1938) hdX12_worthOf ⟨rfl, rfl, Nat.le_of_ble_eq_true rfl, Nat.le_of_ble_eq_true rfl⟩ ⟨Nat.le_of_ble_eq_true rfl, Nat.le_of_ble_eq_true rfl⟩ rfl rfl rfl hl.1 rfl (Nat.le_of_ble_eq_true rfl) dX12_isFirm_39 (fun r_176 hr_176 => ?_)
    refine lv_istore (lv' := [(6, .int r_176), (5, .int r_175), (4, .int L4_170), (3, .int r_4), (2, .int r_2), (0, .ref h0), (1, .int p0)]) hx hb dX12_isFirm_42 hl (by decide) rfl (fun ls hl => ?_)
    refine lv_iload hx hb dX12_isFirm_44 (lv_at hl 1 rfl) ?_
    refine lv_iload_n hx hb dX12_isFirm_46 rfl (lv_at hl 4 rfl) ?_
    refine lv_icmp_lt (tgt := 70) hx hb dX12_isFirm_47 (by decide) (fun c_177 => ?_) (fun c_177 => ?_)
    · skip
      have b_179 := i32_bd r_175
      have b_180 := i32_bd r_2
      have k_178 := kk_lt rfl rfl c_177
      obtain ⟨x_181, ex_181⟩ : ∃ y : Int32, L4_170 + Int32.ofInt 1 = y := ⟨_, rfl⟩
      have k_182 := ar_add (b := 1) rfl zi_1 ex_181.symm (by omega) (by omega)
      refine lv_iinc (v := x_181) (lv' := [(4, .int x_181), (6, .int r_176), (5, .int r_175), (3, .int r_4), (2, .int r_2), (0, .ref h0), (1, .int p0)]) hx hb dX12_isFirm_70 hl (k := 2) rfl ex_181 (by decide) rfl (fun ls hl => ?_)
      refine lv_goto (tgt := 17) hx hb dX12_isFirm_73 (by decide) ?_
      exact ih_170 (x_181) _ _ _ ⟨(show 0 ≤ x_181.toInt ∧ x_181.toInt ≤ 128 from by omega), rfl, rfl, lv_sub hl [0, 3, 4, 5, 6] rfl⟩ (by show (2147483647 - x_181.toInt).toNat < (2147483647 - L4_170.toInt).toNat; omega)
    · skip
      have b_184 := i32_bd r_175
      have b_185 := i32_bd r_2
      have k_183 := kk_nlt rfl rfl c_177
      refine lv_iload hx hb dX12_isFirm_50 (lv_at hl 0 rfl) ?_
      refine lv_iload_n hx hb dX12_isFirm_52 rfl (lv_at hl 3 rfl) ?_
      refine lv_icmp_lt (tgt := 70) hx hb dX12_isFirm_53 (by decide) (fun c_186 => ?_) (fun c_186 => ?_)
      · skip
        have b_188 := i32_bd r_176
        have b_189 := i32_bd r_4
        have k_187 := kk_lt rfl rfl c_186
        obtain ⟨x_190, ex_190⟩ : ∃ y : Int32, L4_170 + Int32.ofInt 1 = y := ⟨_, rfl⟩
        have k_191 := ar_add (b := 1) rfl zi_1 ex_190.symm (by omega) (by omega)
        refine lv_iinc (v := x_190) (lv' := [(4, .int x_190), (6, .int r_176), (5, .int r_175), (3, .int r_4), (2, .int r_2), (0, .ref h0), (1, .int p0)]) hx hb dX12_isFirm_70 hl (k := 2) rfl ex_190 (by decide) rfl (fun ls hl => ?_)
        refine lv_goto (tgt := 17) hx hb dX12_isFirm_73 (by decide) ?_
        exact ih_170 (x_190) _ _ _ ⟨(show 0 ≤ x_190.toInt ∧ x_190.toInt ≤ 128 from by omega), rfl, rfl, lv_sub hl [0, 3, 4, 5, 6] rfl⟩ (by show (2147483647 - x_190.toInt).toNat < (2147483647 - L4_170.toInt).toNat; omega)
      · skip
        have b_193 := i32_bd r_176
        have b_194 := i32_bd r_4
        have k_192 := kk_nlt rfl rfl c_186
        refine lv_iload hx hb dX12_isFirm_56 (lv_at hl 1 rfl) ?_
        refine lv_iload_n hx hb dX12_isFirm_58 rfl (lv_at hl 4 rfl) ?_
        refine lv_icmp_gt (tgt := 68) hx hb dX12_isFirm_59 (by decide) (fun c_195 => ?_) (fun c_195 => ?_)
        · skip
          have k_196 := kk_lt rfl rfl c_195
          refine lv_iconst (v := 0) hx hb dX12_isFirm_68 (by decide) ?_
          exact W.zret (v := 0) hx hb hr (by decide) (fun t ht hW => ⟨0, rfl, (show 0 ≤ (0 : Int32).toInt ∧ (0 : Int32).toInt ≤ 1 from by decide), ht⟩) (fun _ h => by cases h) dX12_isFirm_69
        · skip
          have k_197 := kk_nlt rfl rfl c_195
          refine lv_iload hx hb dX12_isFirm_62 (lv_at hl 0 rfl) ?_
          refine lv_iload_n hx hb dX12_isFirm_64 rfl (lv_at hl 3 rfl) ?_
          refine lv_icmp_le (tgt := 70) hx hb dX12_isFirm_65 (by decide) (fun c_198 => ?_) (fun c_198 => ?_)
          · skip
            have k_199 := kk_le rfl rfl c_198
            obtain ⟨x_200, ex_200⟩ : ∃ y : Int32, L4_170 + Int32.ofInt 1 = y := ⟨_, rfl⟩
            have k_201 := ar_add (b := 1) rfl zi_1 ex_200.symm (by omega) (by omega)
            refine lv_iinc (v := x_200) (lv' := [(4, .int x_200), (6, .int r_176), (5, .int r_175), (3, .int r_4), (2, .int r_2), (0, .ref h0), (1, .int p0)]) hx hb dX12_isFirm_70 hl (k := 2) rfl ex_200 (by decide) rfl (fun ls hl => ?_)
            refine lv_goto (tgt := 17) hx hb dX12_isFirm_73 (by decide) ?_
            exact ih_170 (x_200) _ _ _ ⟨(show 0 ≤ x_200.toInt ∧ x_200.toInt ≤ 128 from by omega), rfl, rfl, lv_sub hl [0, 3, 4, 5, 6] rfl⟩ (by show (2147483647 - x_200.toInt).toNat < (2147483647 - L4_170.toInt).toNat; omega)
          · skip
            have k_202 := kk_nle rfl rfl c_198
            refine lv_iconst (v := 0) hx hb dX12_isFirm_68 (by decide) ?_
            exact W.zret (v := 0) hx hb hr (by decide) (fun t ht hW => ⟨0, rfl, (show 0 ≤ (0 : Int32).toInt ∧ (0 : Int32).toInt ≤ 1 from by decide), ht⟩) (fun _ h => by cases h) dX12_isFirm_69
set_option maxHeartbeats 8000000 in
set_option maxRecDepth 100000 in
theorem g_X12_firm (l : Launch) (D : va_G) (cA : Nat → ClassId) (h0 : Nat) (m_thrown : Int32) (m_qworld : Nat) (m_qimages : Nat) (m_qhasImage : Nat) (m_qtape : Nat) (m_taped : Int32) (m_qfive : Nat) (m_size : Int32) (m_at : Int32) (m_from : Int32) (m_token : Int32) (m_value : Int32) (m_faultKind : Int32) (m_faultPlace : Int32) (m_qfresh : Nat) (m_startOne : Int32) (m_startOther : Int32) (m_latest : Int32) (m_leftBeats : Int32) (m_signed : Int32) (m_metMany : Int32) (m_qsums : Nat) (m_qpairs : Nat) (m_qgoesWith : Nat) (m_qsaid : Nat) (m_saidMany : Int32) (m_firstWait : Int32) (m_qfirstOrder : Nat) (m_bundleFirst : Int32) (m_qtiredBy : Nat) (m_tiredMany : Int32) (m_qmany : Nat) (m_qwidth : Nat) (m_qnumbers : Nat) (m_qmoving : Nat) (m_cworld : Nat → Int32) (h_m_taped : 0 ≤ (m_taped : Int32).toInt ∧ (m_taped : Int32).toInt ≤ 800) (h_m_size : 0 ≤ (m_size : Int32).toInt ∧ (m_size : Int32).toInt ≤ 800) (h_m_at : 0 ≤ (m_at : Int32).toInt ∧ (m_at : Int32).toInt ≤ 800) (h_m_from : 0 ≤ (m_from : Int32).toInt ∧ (m_from : Int32).toInt ≤ 800) (h_m_saidMany : 0 ≤ (m_saidMany : Int32).toInt ∧ (m_saidMany : Int32).toInt ≤ 60) (h_m_tiredMany : 0 ≤ (m_tiredMany : Int32).toInt ∧ (m_tiredMany : Int32).toInt ≤ 240) (a_m_cworld_0 : WI m_cworld) : Met l yX12_firm (Cond.code yX12_firm cX12_firm 3 (some .int) :: TB) (rmd 3 0 0) (PP D cA [(h0, .inr (12, [.int m_thrown, .ref m_qworld, .ref m_qimages, .ref m_qhasImage, .ref m_qtape, .int m_taped, .ref m_qfive, .int m_size, .int m_at, .int m_from, .int m_token, .int m_value, .int m_faultKind, .int m_faultPlace, .ref m_qfresh, .int m_startOne, .int m_startOther, .int m_latest, .int m_leftBeats, .int m_signed, .int m_metMany, .ref m_qsums, .ref m_qpairs, .ref m_qgoesWith, .ref m_qsaid, .int m_saidMany, .int m_firstWait, .ref m_qfirstOrder, .int m_bundleFirst, .ref m_qtiredBy, .int m_tiredMany, .ref m_qmany, .ref m_qwidth, .ref m_qnumbers, .ref m_qmoving])), (m_qworld, .inl (cA 1, 122, .inl m_cworld))] [.ref h0]) (vp_Si (fun r => True)) 0 0 (fun _ => False) := by
  refine Met.ofW (cc := cX12_firm) (maxL := 3) (ret := (some .int)) (by decide) rfl ?_
  intro p e s m args below meth c s₁ B hml hv
  obtain ⟨rfl, hP, hKN⟩ := hv
  have hx := B.exec
  have hb := B.bytes
  have hr := B.returns
  have hts : ∀ w ∈ TB, w.before _ s = true := fun w h => atoms_spec B.pre w (List.mem_cons_of_mem _ h)
  have hown : s.vm.findClass RX12 = some m.cls := findClass_of_methodNamed B.named
  have hlocks := B.notSynchronized
  have hl := lv_entry ([.ref h0]) (n := 3) (Nat.le_of_ble_eq_true rfl)
  rw [lg_entry_eq]
  generalize (lg_sl ([.ref h0]) ++ List.replicate (3 - (lg_sl ([.ref h0])).length) Slot.unset).toArray = ls at hl ⊢
  have hl : lv_has ls 3 [(0, .ref h0)] := hl
  refine lv_aload_n hx hb dX12_firm_0 rfl (lv_at hl 0 rfl) ?_
  refine cpVi (rest := []) ⟨hx, hb, hml, hown, hts⟩ hKN (hP.sub (ws' := [(h0, .inr (12, [.int m_thrown, .ref m_qworld, .ref m_qimages, .ref m_qhasImage, .ref m_qtape, .int m_taped, .ref m_qfive, .int m_size, .int m_at, .int m_from, .int m_token, .int m_value, .int m_faultKind, .int m_faultPlace, .ref m_qfresh, .int m_startOne, .int m_startOther, .int m_latest, .int m_leftBeats, .int m_signed, .int m_metMany, .ref m_qsums, .ref m_qpairs, .ref m_qgoesWith, .ref m_qsaid, .int m_saidMany, .int m_firstWait, .ref m_qfirstOrder, .int m_bundleFirst, .ref m_qtiredBy, .int m_tiredMany, .ref m_qmany, .ref m_qwidth, .ref m_qnumbers, .ref m_qmoving])), (m_qworld, .inl (cA 1, 122, .inl m_cworld))]) [0, 1] rfl) (g_X12_isGorge l D cA h0 m_thrown m_qworld m_qimages m_qhasImage m_qtape m_taped m_qfive m_size m_at m_from m_token m_value m_faultKind m_faultPlace m_qfresh m_startOne m_startOther m_latest m_leftBeats m_signed m_metMany m_qsums m_qpairs m_qgoesWith m_qsaid m_saidMany m_firstWait m_qfirstOrder m_bundleFirst m_qtiredBy m_tiredMany m_qmany m_qwidth m_qnumbers m_qmoving m_cworld (by omega) (by omega) (by omega) (by omega) (by omega) (by omega) a_m_cworld_0) (tb_V tw_1664 tw_1666 tw_54 tw_114 tw_1667) hdX12_isGorge ⟨rfl, rfl, Nat.le_of_ble_eq_true rfl, Nat.le_of_ble_eq_true rfl⟩ ⟨Nat.le_of_ble_eq_true rfl, Nat.le_of_ble_eq_true rfl⟩ rfl rfl rfl hl.1 rfl (Nat.le_of_ble_eq_true rfl) dX12_firm_1 (fun r_1 hr_1 => ?_)
  rcases hr_1 with ⟨k_1_0_0, k_1_0_1, k_1_0_2, k_1_0_3, rfl⟩ | rfl
  · skip
    refine lv_if_ne (tgt := 10) hx hb dX12_firm_4 (by decide) (fun c_2 => ?_) (fun c_2 => absurd c_2 (by decide))
    refine lv_iconst (v := 0) hx hb dX12_firm_10 (by decide) ?_
    refine lv_istore_n (lv' := [(1, .int 0), (0, .ref h0)]) hx hb dX12_firm_11 rfl hl (by decide) rfl (fun ls hl => ?_)
    refine lv_iconst (v := 0) hx hb dX12_firm_12 (by decide) ?_
    refine lv_istore_n (lv' := [(2, .int 0), (1, .int 0), (0, .ref h0)]) hx hb dX12_firm_13 rfl hl (by decide) rfl (fun ls hl => ?_)
    refine loopW (σ := Int32 × Int32) (fun _ => []) (fun ⟨L2_108, L1_108⟩ H locs ls => (0 ≤ L2_108.toInt ∧ L2_108.toInt ≤ 128) ∧ H = s.heap ∧ locs = [] ∧ lv_has ls 3 [(2, .int L2_108), (1, .int L1_108), (0, .ref h0)]) (fun ⟨L2_108, L1_108⟩ => (2147483647 - L2_108.toInt).toNat) ?_ ((0, 0) : Int32 × Int32) ⟨(by decide), rfl, rfl, hl⟩
    intro x_108 H locs ls hI_108 ih_108
    obtain ⟨L2_108, L1_108⟩ := x_108
    obtain ⟨k0_108, rfl, rfl, hl⟩ := hI_108
    have hl : lv_has ls 3 [(2, .int L2_108), (1, .int L1_108), (0, .ref h0)] := hl
    refine lv_iload_n hx hb dX12_firm_14 rfl (lv_at hl 0 rfl) ?_
    refine lv_aload_n hx hb dX12_firm_15 rfl (lv_at hl 2 rfl) ?_
    refine cpVi (rest := [.int L2_108]) ⟨hx, hb, hml, hown, hts⟩ hKN (hP.sub (ws' := [(h0, .inr (12, [.int m_thrown, .ref m_qworld, .ref m_qimages, .ref m_qhasImage, .ref m_qtape, .int m_taped, .ref m_qfive, .int m_size, .int m_at, .int m_from, .int m_token, .int m_value, .int m_faultKind, .int m_faultPlace, .ref m_qfresh, .int m_startOne, .int m_startOther, .int m_latest, .int m_leftBeats, .int m_signed, .int m_metMany, .ref m_qsums, .ref m_qpairs, .ref m_qgoesWith, .ref m_qsaid, .int m_saidMany, .int m_firstWait, .ref m_qfirstOrder, .int m_bundleFirst, .ref m_qtiredBy, .int m_tiredMany, .ref m_qmany, .ref m_qwidth, .ref m_qnumbers, .ref m_qmoving])), (m_qworld, .inl (cA 1, 122, .inl m_cworld))]) [0, 1] rfl) (g_X12_allClauses l D cA h0 m_thrown m_qworld m_qimages m_qhasImage m_qtape m_taped m_qfive m_size m_at m_from m_token m_value m_faultKind m_faultPlace m_qfresh m_startOne m_startOther m_latest m_leftBeats m_signed m_metMany m_qsums m_qpairs m_qgoesWith m_qsaid m_saidMany m_firstWait m_qfirstOrder m_bundleFirst m_qtiredBy m_tiredMany m_qmany m_qwidth m_qnumbers m_qmoving m_cworld (by omega) (by omega) (by omega) (by omega) (by omega) (by omega) a_m_cworld_0) (tb_V tw_1908 tw_1910 tw_83 tw_114 tw_1911) hdX12_allClauses ⟨rfl, rfl, Nat.le_of_ble_eq_true rfl, Nat.le_of_ble_eq_true rfl⟩ ⟨Nat.le_of_ble_eq_true rfl, Nat.le_of_ble_eq_true rfl⟩ rfl rfl rfl hl.1 rfl (Nat.le_of_ble_eq_true rfl) dX12_firm_16 (fun r_109 hr_109 => ?_)
    refine lv_icmp_gt (tgt := 44) hx hb dX12_firm_19 (by decide) (fun c_110 => ?_) (fun c_110 => ?_)
    · skip
      have k_111 := kk_lt rfl rfl c_110
      refine lv_iload_n hx hb dX12_firm_44 rfl (lv_at hl 1 rfl) ?_
      exact W.iret (v := L1_108) hx hb hr (fun t ht hW => ⟨L1_108, rfl, trivial, ht⟩) (fun _ h => by cases h) dX12_firm_45
    · skip
      have k_112 := kk_nlt rfl rfl c_110
      refine lv_iload_n hx hb dX12_firm_22 rfl (lv_at hl 1 rfl) ?_
      refine lv_aload_n hx hb dX12_firm_23 rfl (lv_at hl 2 rfl) ?_
      refine lv_iload_n hx hb dX12_firm_24 rfl (lv_at hl 0 rfl) ?_
      refine cpVi (rest := [.int L1_108]) ⟨hx, hb, hml, hown, hts⟩ hKN (hP.sub (ws' := [(h0, .inr (12, [.int m_thrown, .ref m_qworld, .ref m_qimages, .ref m_qhasImage, .ref m_qtape, .int m_taped, .ref m_qfive, .int m_size, .int m_at, .int m_from, .int m_token, .int m_value, .int m_faultKind, .int m_faultPlace, .ref m_qfresh, .int m_startOne, .int m_startOther, .int m_latest, .int m_leftBeats, .int m_signed, .int m_metMany, .ref m_qsums, .ref m_qpairs, .ref m_qgoesWith, .ref m_qsaid, .int m_saidMany, .int m_firstWait, .ref m_qfirstOrder, .int m_bundleFirst, .ref m_qtiredBy, .int m_tiredMany, .ref m_qmany, .ref m_qwidth, .ref m_qnumbers, .ref m_qmoving])), (m_qworld, .inl (cA 1, 122, .inl m_cworld))]) [0, 1] rfl) (g_X12_isFirm l D cA h0 m_thrown m_qworld m_qimages m_qhasImage m_qtape m_taped m_qfive m_size m_at m_from m_token m_value m_faultKind m_faultPlace m_qfresh m_startOne m_startOther m_latest m_leftBeats m_signed m_metMany m_qsums m_qpairs m_qgoesWith m_qsaid m_saidMany m_firstWait m_qfirstOrder m_bundleFirst m_qtiredBy m_tiredMany m_qmany m_qwidth m_qnumbers m_qmoving m_cworld L2_108 (by omega) (by omega) (by omega) (by omega) (by omega) (by omega) a_m_cworld_0) (tb_V tw_1995 tw_1997 tw_91 tw_114 tw_1998) hdX12_isFirm ⟨rfl, rfl, Nat.le_of_ble_eq_true rfl, Nat.le_of_ble_eq_true rfl⟩ ⟨Nat.le_of_ble_eq_true rfl, Nat.le_of_ble_eq_true rfl⟩ rfl rfl rfl hl.1 rfl (Nat.le_of_ble_eq_true rfl) dX12_firm_25 (fun r_113 hr_113 => ?_)
      refine lv_if_eq (tgt := 35) hx hb dX12_firm_28 (by decide) (fun c_114 => ?_) (fun c_114 => ?_)
      · skip
        have k_115 := kk_eq rfl zi_0 c_114
        refine lv_iconst (v := 0) hx hb dX12_firm_35 (by decide) ?_
        refine lv_iadd hx hb dX12_firm_36 ?_
        refine lv_topi (fun x_116 ex_116 => ?_)
        have b_118 := i32_bd L1_108
        have k_117 := ar_add rfl zi_0 ex_116 (by omega) (by omega)
        refine lv_istore_n (lv' := [(1, .int x_116), (2, .int L2_108), (0, .ref h0)]) hx hb dX12_firm_37 rfl hl (by decide) rfl (fun ls hl => ?_)
        obtain ⟨x_119, ex_119⟩ : ∃ y : Int32, L2_108 + Int32.ofInt 1 = y := ⟨_, rfl⟩
        have k_120 := ar_add (b := 1) rfl zi_1 ex_119.symm (by omega) (by omega)
        refine lv_iinc (v := x_119) (lv' := [(2, .int x_119), (1, .int x_116), (0, .ref h0)]) hx hb dX12_firm_38 hl (k := 1) rfl ex_119 (by decide) rfl (fun ls hl => ?_)
        refine lv_goto (tgt := 14) hx hb dX12_firm_41 (by decide) ?_
        exact ih_108 (x_119, x_116) _ _ _ ⟨(show 0 ≤ x_119.toInt ∧ x_119.toInt ≤ 128 from by omega), rfl, rfl, lv_sub hl [0, 1, 2] rfl⟩ (by show (2147483647 - x_119.toInt).toNat < (2147483647 - L2_108.toInt).toNat; omega)
      · skip
        have k_121 := kk_ne rfl zi_0 c_114
        refine lv_iconst (v := 1) hx hb dX12_firm_31 (by decide) ?_
        refine lv_goto (tgt := 36) hx hb dX12_firm_32 (by decide) ?_
        refine lv_iadd hx hb dX12_firm_36 ?_
        refine lv_topi (fun x_122 ex_122 => ?_)
        refine lv_istore_n (lv' := [(1, .int x_122), (2, .int L2_108), (0, .ref h0)]) hx hb dX12_firm_37 rfl hl (by decide) rfl (fun ls hl => ?_)
        obtain ⟨x_124, ex_124⟩ : ∃ y : Int32, L2_108 + Int32.ofInt 1 = y := ⟨_, rfl⟩
        have k_125 := ar_add (b := 1) rfl zi_1 ex_124.symm (by omega) (by omega)
        refine lv_iinc (v := x_124) (lv' := [(2, .int x_124), (1, .int x_122), (0, .ref h0)]) hx hb dX12_firm_38 hl (k := 1) rfl ex_124 (by decide) rfl (fun ls hl => ?_)
        refine lv_goto (tgt := 14) hx hb dX12_firm_41 (by decide) ?_
        exact ih_108 (x_124, x_122) _ _ _ ⟨(show 0 ≤ x_124.toInt ∧ x_124.toInt ≤ 128 from by omega), rfl, rfl, lv_sub hl [0, 1, 2] rfl⟩ (by show (2147483647 - x_124.toInt).toNat < (2147483647 - L2_108.toInt).toNat; omega)
  · skip
    refine lv_if_ne (tgt := 10) hx hb dX12_firm_4 (by decide) (fun c_126 => absurd (by decide) c_126) (fun c_126 => ?_)
    refine lv_bipush (v := (-2)) hx hb dX12_firm_7 (by decide) ?_
    exact W.iret (v := (-2)) hx hb hr (fun t ht hW => ⟨(-2), rfl, trivial, ht⟩) (fun _ h => by cases h) dX12_firm_9
set_option maxHeartbeats 8000000 in
set_option maxRecDepth 100000 in
theorem g_X12_hasBy (l : Launch) (D : va_G) (cA : Nat → ClassId) (h0 : Nat) (m_thrown : Int32) (m_qworld : Nat) (m_qimages : Nat) (m_qhasImage : Nat) (m_qtape : Nat) (m_taped : Int32) (m_qfive : Nat) (m_size : Int32) (m_at : Int32) (m_from : Int32) (m_token : Int32) (m_value : Int32) (m_faultKind : Int32) (m_faultPlace : Int32) (m_qfresh : Nat) (m_startOne : Int32) (m_startOther : Int32) (m_latest : Int32) (m_leftBeats : Int32) (m_signed : Int32) (m_metMany : Int32) (m_qsums : Nat) (m_qpairs : Nat) (m_qgoesWith : Nat) (m_qsaid : Nat) (m_saidMany : Int32) (m_firstWait : Int32) (m_qfirstOrder : Nat) (m_bundleFirst : Int32) (m_qtiredBy : Nat) (m_tiredMany : Int32) (m_qmany : Nat) (m_qwidth : Nat) (m_qnumbers : Nat) (m_qmoving : Nat) (m_cworld : Nat → Int32) (p0 : Int32) (p1 : Int32) (p2 : Int32) (p3 : Int32) (p4 : Int32) (h_m_taped : 0 ≤ (m_taped : Int32).toInt ∧ (m_taped : Int32).toInt ≤ 800) (h_m_size : 0 ≤ (m_size : Int32).toInt ∧ (m_size : Int32).toInt ≤ 800) (h_m_at : 0 ≤ (m_at : Int32).toInt ∧ (m_at : Int32).toInt ≤ 800) (h_m_from : 0 ≤ (m_from : Int32).toInt ∧ (m_from : Int32).toInt ≤ 800) (h_m_saidMany : 0 ≤ (m_saidMany : Int32).toInt ∧ (m_saidMany : Int32).toInt ≤ 60) (h_m_tiredMany : 0 ≤ (m_tiredMany : Int32).toInt ∧ (m_tiredMany : Int32).toInt ≤ 240) (h_p0 : 0 ≤ (p0 : Int32).toInt ∧ (p0 : Int32).toInt ≤ 6) (h_p1 : 0 ≤ (p1 : Int32).toInt ∧ (p1 : Int32).toInt ≤ 1) (a_m_cworld_0 : WI m_cworld) : Met l yX12_hasBy (Cond.code yX12_hasBy cX12_hasBy 6 (some .int) :: TB) (rmd 1 0 0) (PP D cA [(h0, .inr (12, [.int m_thrown, .ref m_qworld, .ref m_qimages, .ref m_qhasImage, .ref m_qtape, .int m_taped, .ref m_qfive, .int m_size, .int m_at, .int m_from, .int m_token, .int m_value, .int m_faultKind, .int m_faultPlace, .ref m_qfresh, .int m_startOne, .int m_startOther, .int m_latest, .int m_leftBeats, .int m_signed, .int m_metMany, .ref m_qsums, .ref m_qpairs, .ref m_qgoesWith, .ref m_qsaid, .int m_saidMany, .int m_firstWait, .ref m_qfirstOrder, .int m_bundleFirst, .ref m_qtiredBy, .int m_tiredMany, .ref m_qmany, .ref m_qwidth, .ref m_qnumbers, .ref m_qmoving])), (m_qworld, .inl (cA 1, 122, .inl m_cworld))] [.ref h0, .int p0, .int p1, .int p2, .int p3, .int p4]) (vp_Si (fun r => True)) 0 0 (fun _ => False) := by
  refine Met.ofW (cc := cX12_hasBy) (maxL := 6) (ret := (some .int)) (by decide) rfl ?_
  intro p e s m args below meth c s₁ B hml hv
  obtain ⟨rfl, hP, hKN⟩ := hv
  have hx := B.exec
  have hb := B.bytes
  have hr := B.returns
  have hts : ∀ w ∈ TB, w.before _ s = true := fun w h => atoms_spec B.pre w (List.mem_cons_of_mem _ h)
  have hown : s.vm.findClass RX12 = some m.cls := findClass_of_methodNamed B.named
  have hlocks := B.notSynchronized
  have hl := lv_entry ([.ref h0, .int p0, .int p1, .int p2, .int p3, .int p4]) (n := 6) (Nat.le_of_ble_eq_true rfl)
  rw [lg_entry_eq]
  generalize (lg_sl ([.ref h0, .int p0, .int p1, .int p2, .int p3, .int p4]) ++ List.replicate (6 - (lg_sl ([.ref h0, .int p0, .int p1, .int p2, .int p3, .int p4])).length) Slot.unset).toArray = ls at hl ⊢
  have hl : lv_has ls 6 [(0, .ref h0), (1, .int p0), (2, .int p1), (3, .int p2), (4, .int p3), (5, .int p4)] := hl
  refine lv_iload_n hx hb dX12_hasBy_0 rfl (lv_at hl 3 rfl) ?_
  refine lv_if_ne (tgt := 6) hx hb dX12_hasBy_1 (by decide) (fun c_1 => ?_) (fun c_1 => ?_)
  · skip
    have b_3 := i32_bd p2
    have k_2 := kk_ne rfl zi_0 c_1
    refine lv_iload hx hb dX12_hasBy_6 (lv_at hl 4 rfl) ?_
    refine lv_if_eq (tgt := 22) hx hb dX12_hasBy_8 (by decide) (fun c_4 => ?_) (fun c_4 => ?_)
    · skip
      have b_6 := i32_bd p3
      have k_5 := kk_eq rfl zi_0 c_4
      refine lv_iload hx hb dX12_hasBy_22 (lv_at hl 5 rfl) ?_
      refine lv_ineg hx hb dX12_hasBy_24 ?_
      refine lv_topi (fun x_7 ex_7 => ?_)
      exact W.iret (v := x_7) hx hb hr (fun t ht hW => ⟨x_7, rfl, trivial, ht⟩) (fun _ h => by cases h) dX12_hasBy_25
    · skip
      have b_9 := i32_bd p3
      have k_8 := kk_ne rfl zi_0 c_4
      refine lv_aload_n hx hb dX12_hasBy_11 rfl (lv_at hl 0 rfl) ?_
      refine lv_iload_n hx hb dX12_hasBy_12 rfl (lv_at hl 1 rfl) ?_
      refine lv_iconst (v := 1) hx hb dX12_hasBy_13 (by decide) ?_
      refine lv_iload_n hx hb dX12_hasBy_14 rfl (lv_at hl 2 rfl) ?_
      refine lv_iadd hx hb dX12_hasBy_15 ?_
      refine lv_topi (fun x_10 ex_10 => ?_)
      have k_11 := ar_add zi_1 rfl ex_10 (by omega) (by omega)
      refine cpVi (rest := []) ⟨hx, hb, hml, hown, hts⟩ hKN (hP.sub (ws' := [(h0, .inr (12, [.int m_thrown, .ref m_qworld, .ref m_qimages, .ref m_qhasImage, .ref m_qtape, .int m_taped, .ref m_qfive, .int m_size, .int m_at, .int m_from, .int m_token, .int m_value, .int m_faultKind, .int m_faultPlace, .ref m_qfresh, .int m_startOne, .int m_startOther, .int m_latest, .int m_leftBeats, .int m_signed, .int m_metMany, .ref m_qsums, .ref m_qpairs, .ref m_qgoesWith, .ref m_qsaid, .int m_saidMany, .int m_firstWait, .ref m_qfirstOrder, .int m_bundleFirst, .ref m_qtiredBy, .int m_tiredMany, .ref m_qmany, .ref m_qwidth, .ref m_qnumbers, .ref m_qmoving])), (m_qworld, .inl (cA 1, 122, .inl m_cworld))]) [0, 1] rfl) (g_X12_ofClause l D cA h0 m_thrown m_qworld m_qimages m_qhasImage m_qtape m_taped m_qfive m_size m_at m_from m_token m_value m_faultKind m_faultPlace m_qfresh m_startOne m_startOther m_latest m_leftBeats m_signed m_metMany m_qsums m_qpairs m_qgoesWith m_qsaid m_saidMany m_firstWait m_qfirstOrder m_bundleFirst m_qtiredBy m_tiredMany m_qmany m_qwidth m_qnumbers m_qmoving m_cworld p0 x_10 (by omega) (by omega) (by omega) (by omega) (by omega) (by omega) (by omega) (by omega) a_m_cworld_0) (tb_V tw_1652 tw_1654 tw_52 tw_114 tw_1655) hdX12_ofClause ⟨rfl, rfl, Nat.le_of_ble_eq_true rfl, Nat.le_of_ble_eq_true rfl⟩ ⟨Nat.le_of_ble_eq_true rfl, Nat.le_of_ble_eq_true rfl⟩ rfl rfl rfl hl.1 rfl (Nat.le_of_ble_eq_true rfl) dX12_hasBy_16 (fun r_12 hr_12 => ?_)
      refine lv_goto (tgt := 25) hx hb dX12_hasBy_19 (by decide) ?_
      exact W.iret (v := r_12) hx hb hr (fun t ht hW => ⟨r_12, rfl, trivial, ht⟩) (fun _ h => by cases h) dX12_hasBy_25
  · skip
    have b_14 := i32_bd p2
    have k_13 := kk_eq rfl zi_0 c_1
    refine lv_iconst (v := 0) hx hb dX12_hasBy_4 (by decide) ?_
    exact W.iret (v := 0) hx hb hr (fun t ht hW => ⟨0, rfl, trivial, ht⟩) (fun _ h => by cases h) dX12_hasBy_5
set_option maxHeartbeats 8000000 in
set_option maxRecDepth 100000 in
theorem g_X12_rests (l : Launch) (D : va_G) (cA : Nat → ClassId) (h0 : Nat) (m_thrown : Int32) (m_qworld : Nat) (m_qimages : Nat) (m_qhasImage : Nat) (m_qtape : Nat) (m_taped : Int32) (m_qfive : Nat) (m_size : Int32) (m_at : Int32) (m_from : Int32) (m_token : Int32) (m_value : Int32) (m_faultKind : Int32) (m_faultPlace : Int32) (m_qfresh : Nat) (m_startOne : Int32) (m_startOther : Int32) (m_latest : Int32) (m_leftBeats : Int32) (m_signed : Int32) (m_metMany : Int32) (m_qsums : Nat) (m_qpairs : Nat) (m_qgoesWith : Nat) (m_qsaid : Nat) (m_saidMany : Int32) (m_firstWait : Int32) (m_qfirstOrder : Nat) (m_bundleFirst : Int32) (m_qtiredBy : Nat) (m_tiredMany : Int32) (m_qmany : Nat) (m_qwidth : Nat) (m_qnumbers : Nat) (m_qmoving : Nat) (m_cworld : Nat → Int32) (p0 : Int32) (p1 : Int32) (h_m_taped : 0 ≤ (m_taped : Int32).toInt ∧ (m_taped : Int32).toInt ≤ 800) (h_m_size : 0 ≤ (m_size : Int32).toInt ∧ (m_size : Int32).toInt ≤ 800) (h_m_at : 0 ≤ (m_at : Int32).toInt ∧ (m_at : Int32).toInt ≤ 800) (h_m_from : 0 ≤ (m_from : Int32).toInt ∧ (m_from : Int32).toInt ≤ 800) (h_m_saidMany : 0 ≤ (m_saidMany : Int32).toInt ∧ (m_saidMany : Int32).toInt ≤ 60) (h_m_tiredMany : 0 ≤ (m_tiredMany : Int32).toInt ∧ (m_tiredMany : Int32).toInt ≤ 240) (a_m_cworld_0 : WI m_cworld) : Met l yX12_rests (Cond.code yX12_rests cX12_rests 8 (some .int) :: TB) (rmd 2 0 0) (PP D cA [(h0, .inr (12, [.int m_thrown, .ref m_qworld, .ref m_qimages, .ref m_qhasImage, .ref m_qtape, .int m_taped, .ref m_qfive, .int m_size, .int m_at, .int m_from, .int m_token, .int m_value, .int m_faultKind, .int m_faultPlace, .ref m_qfresh, .int m_startOne, .int m_startOther, .int m_latest, .int m_leftBeats, .int m_signed, .int m_metMany, .ref m_qsums, .ref m_qpairs, .ref m_qgoesWith, .ref m_qsaid, .int m_saidMany, .int m_firstWait, .ref m_qfirstOrder, .int m_bundleFirst, .ref m_qtiredBy, .int m_tiredMany, .ref m_qmany, .ref m_qwidth, .ref m_qnumbers, .ref m_qmoving])), (m_qworld, .inl (cA 1, 122, .inl m_cworld))] [.ref h0, .int p0, .int p1]) (vp_Si (fun r => True)) 0 0 (fun _ => False) := by
  refine Met.ofW (cc := cX12_rests) (maxL := 8) (ret := (some .int)) (by decide) rfl ?_
  intro p e s m args below meth c s₁ B hml hv
  obtain ⟨rfl, hP, hKN⟩ := hv
  have hx := B.exec
  have hb := B.bytes
  have hr := B.returns
  have hts : ∀ w ∈ TB, w.before _ s = true := fun w h => atoms_spec B.pre w (List.mem_cons_of_mem _ h)
  have hown : s.vm.findClass RX12 = some m.cls := findClass_of_methodNamed B.named
  have hlocks := B.notSynchronized
  have hl := lv_entry ([.ref h0, .int p0, .int p1]) (n := 8) (Nat.le_of_ble_eq_true rfl)
  rw [lg_entry_eq]
  generalize (lg_sl ([.ref h0, .int p0, .int p1]) ++ List.replicate (8 - (lg_sl ([.ref h0, .int p0, .int p1])).length) Slot.unset).toArray = ls at hl ⊢
  have hl : lv_has ls 8 [(0, .ref h0), (1, .int p0), (2, .int p1)] := hl
  refine lv_aload_n hx hb dX12_rests_0 rfl (lv_at hl 0 rfl) ?_
  refine lv_iload_n hx hb dX12_rests_1 rfl (lv_at hl 1 rfl) ?_
  obtain ⟨x_1, ex_1⟩ : ∃ y, p0.toInt64 = y := ⟨_, rfl⟩
  refine lv_i2l (v := x_1) hx hb dX12_rests_2 ex_1 ?_
  have k_2 := tt_i2l ex_1
  refine cpVi (rest := []) ⟨hx, hb, hml, hown, hts⟩ hKN (hP.sub (ws' := [(h0, .inr (12, [.int m_thrown, .ref m_qworld, .ref m_qimages, .ref m_qhasImage, .ref m_qtape, .int m_taped, .ref m_qfive, .int m_size, .int m_at, .int m_from, .int m_token, .int m_value, .int m_faultKind, .int m_faultPlace, .ref m_qfresh, .int m_startOne, .int m_startOther, .int m_latest, .int m_leftBeats, .int m_signed, .int m_metMany, .ref m_qsums, .ref m_qpairs, .ref m_qgoesWith, .ref m_qsaid, .int m_saidMany, .int m_firstWait, .ref m_qfirstOrder, .int m_bundleFirst, .ref m_qtiredBy, .int m_tiredMany, .ref m_qmany, .ref m_qwidth, .ref m_qnumbers, .ref m_qmoving])), (m_qworld, .inl (cA 1, 122, .inl m_cworld))]) [0, 1] rfl) (g_X12_isClause l D cA h0 m_thrown m_qworld m_qimages m_qhasImage m_qtape m_taped m_qfive m_size m_at m_from m_token m_value m_faultKind m_faultPlace m_qfresh m_startOne m_startOther m_latest m_leftBeats m_signed m_metMany m_qsums m_qpairs m_qgoesWith m_qsaid m_saidMany m_firstWait m_qfirstOrder m_bundleFirst m_qtiredBy m_tiredMany m_qmany m_qwidth m_qnumbers m_qmoving m_cworld x_1 (by omega) (by omega) (by omega) (by omega) (by omega) (by omega) a_m_cworld_0) (tb_V tw_1648 tw_1650 tw_51 tw_114 tw_1651) hdX12_isClause ⟨rfl, rfl, Nat.le_of_ble_eq_true rfl, Nat.le_of_ble_eq_true rfl⟩ ⟨Nat.le_of_ble_eq_true rfl, Nat.le_of_ble_eq_true rfl⟩ rfl rfl rfl hl.1 rfl (Nat.le_of_ble_eq_true rfl) dX12_rests_3 (fun r_3 hr_3 => ?_)
  rcases hr_3 with ⟨k_3_0_0, k_3_0_1, k_3_0_2, k_3_0_3, k_3_0_4, k_3_0_5, rfl⟩ | rfl
  · skip
    refine lv_if_eq (tgt := 21) hx hb dX12_rests_6 (by decide) (fun c_4 => absurd c_4 (by decide)) (fun c_4 => ?_)
    refine lv_iload_n hx hb dX12_rests_9 rfl (lv_at hl 2 rfl) ?_
    obtain ⟨x_5, ex_5⟩ : ∃ y, p1.toInt64 = y := ⟨_, rfl⟩
    refine lv_i2l (v := x_5) hx hb dX12_rests_10 ex_5 ?_
    have k_6 := tt_i2l ex_5
    refine lv_lconst (v := 0) hx hb dX12_rests_11 (by decide) ?_
    refine lv_ldc2 (v := 99) hx hb hown (hts _ tw_1850) dX12_rests_12 ?_
    have z_7 := zj_0
    have z_8 := zj_99
    refine cpSi (rest := []) ⟨hx, hb, hml, hown, hts⟩ hKN (hP.sub (ws' := []) [] rfl) (g_X12_in l D cA x_5 0 99) (tb_S tw_1530 tw_1531 tw_114 tw_1532) hdX12_in ⟨rfl, rfl, Nat.le_of_ble_eq_true rfl, Nat.le_of_ble_eq_true rfl⟩ ⟨Nat.le_of_ble_eq_true rfl, Nat.le_of_ble_eq_true rfl⟩ rfl hl.1 rfl (Nat.le_of_ble_eq_true rfl) dX12_rests_15 (fun r_9 hr_9 => ?_)
    rcases hr_9 with ⟨k_9_0_0, k_9_0_1, rfl⟩ | ⟨k_9_1_0, rfl⟩
    · skip
      refine lv_if_ne (tgt := 24) hx hb dX12_rests_18 (by decide) (fun c_10 => ?_) (fun c_10 => absurd c_10 (by decide))
      refine lv_iconst (v := 0) hx hb dX12_rests_24 (by decide) ?_
      refine lv_istore_n (lv' := [(3, .int 0), (0, .ref h0), (1, .int p0), (2, .int p1)]) hx hb dX12_rests_25 rfl hl (by decide) rfl (fun ls hl => ?_)
      refine lv_iconst (v := 0) hx hb dX12_rests_26 (by decide) ?_
      refine lv_istore (lv' := [(4, .int 0), (3, .int 0), (0, .ref h0), (1, .int p0), (2, .int p1)]) hx hb dX12_rests_27 hl (by decide) rfl (fun ls hl => ?_)
      refine loopW (σ := Int32 × Int32) (fun _ => []) (fun ⟨L4_828, L3_828⟩ H locs ls => (0 ≤ L4_828.toInt ∧ L4_828.toInt ≤ 4) ∧ H = s.heap ∧ locs = [] ∧ lv_has ls 8 [(4, .int L4_828), (3, .int L3_828), (0, .ref h0), (1, .int p0), (2, .int p1)]) (fun ⟨L4_828, L3_828⟩ => (2147483647 - L4_828.toInt).toNat) ?_ ((0, 0) : Int32 × Int32) ⟨(by decide), rfl, rfl, hl⟩
      intro x_828 H locs ls hI_828 ih_828
      obtain ⟨L4_828, L3_828⟩ := x_828
      obtain ⟨k0_828, rfl, rfl, hl⟩ := hI_828
      have hl : lv_has ls 8 [(4, .int L4_828), (3, .int L3_828), (0, .ref h0), (1, .int p0), (2, .int p1)] := hl
      refine lv_iload hx hb dX12_rests_29 (lv_at hl 0 rfl) ?_
      refine lv_iconst (v := 4) hx hb dX12_rests_31 (by decide) ?_
      refine lv_icmp_ge (tgt := 157) hx hb dX12_rests_32 (by decide) (fun c_829 => ?_) (fun c_829 => ?_)
      · skip
        have k_830 := kk_le zi_4 rfl c_829
        refine lv_iload_n hx hb dX12_rests_157 rfl (lv_at hl 1 rfl) ?_
        exact W.iret (v := L3_828) hx hb hr (fun t ht hW => ⟨L3_828, rfl, trivial, ht⟩) (fun _ h => by cases h) dX12_rests_158
      · skip
        have k_831 := kk_nle zi_4 rfl c_829
        refine lv_iload hx hb dX12_rests_35 (lv_at hl 0 rfl) ?_
        refine lv_iconst (v := 2) hx hb dX12_rests_37 (by decide) ?_
        refine lv_irem hx hb dX12_rests_38 (by decide) ?_
        refine lv_topi (fun x_832 ex_832 => ?_)
        have k_833 := ar_rem rfl zi_2 ex_832 (by omega) (by omega)
        refine lv_iconst (v := 1) hx hb dX12_rests_39 (by decide) ?_
        refine lv_icmp_ne (tgt := 47) hx hb dX12_rests_40 (by decide) (fun c_834 => ?_) (fun c_834 => ?_)
        · skip
          have k_835 := kk_ne rfl zi_1 c_834
          refine lv_iconst (v := 0) hx hb dX12_rests_47 (by decide) ?_
          refine lv_istore (lv' := [(5, .int 0), (4, .int L4_828), (3, .int L3_828), (0, .ref h0), (1, .int p0), (2, .int p1)]) hx hb dX12_rests_48 hl (by decide) rfl (fun ls hl => ?_)
          refine lv_iload hx hb dX12_rests_50 (lv_at hl 1 rfl) ?_
          refine lv_iconst (v := 2) hx hb dX12_rests_52 (by decide) ?_
          refine lv_idiv hx hb dX12_rests_53 (by decide) ?_
          refine lv_topi (fun x_836 ex_836 => ?_)
          have k_837 := ar_div rfl zi_2 ex_836 (by omega) (by omega)
          refine lv_iconst (v := 1) hx hb dX12_rests_54 (by decide) ?_
          refine lv_icmp_ne (tgt := 62) hx hb dX12_rests_55 (by decide) (fun c_838 => ?_) (fun c_838 => ?_)
          · skip
            have k_839 := kk_ne rfl zi_1 c_838
            refine lv_iconst (v := 0) hx hb dX12_rests_62 (by decide) ?_
            refine lv_istore (lv' := [(6, .int 0), (5, .int 0), (4, .int L4_828), (3, .int L3_828), (0, .ref h0), (1, .int p0), (2, .int p1)]) hx hb dX12_rests_63 hl (by decide) rfl (fun ls hl => ?_)
            refine lv_aload_n hx hb dX12_rests_65 rfl (lv_at hl 4 rfl) ?_
            refine lv_iload_n hx hb dX12_rests_66 rfl (lv_at hl 5 rfl) ?_
            refine lv_iconst (v := 0) hx hb dX12_rests_67 (by decide) ?_
            refine lv_iload hx hb dX12_rests_68 (lv_at hl 1 rfl) ?_
            refine lv_iload hx hb dX12_rests_70 (lv_at hl 0 rfl) ?_
            refine lv_iload_n hx hb dX12_rests_72 rfl (lv_at hl 6 rfl) ?_
            have z_840 := zi_0
            refine cpVi (rest := []) ⟨hx, hb, hml, hown, hts⟩ hKN (hP.sub (ws' := [(h0, .inr (12, [.int m_thrown, .ref m_qworld, .ref m_qimages, .ref m_qhasImage, .ref m_qtape, .int m_taped, .ref m_qfive, .int m_size, .int m_at, .int m_from, .int m_token, .int m_value, .int m_faultKind, .int m_faultPlace, .ref m_qfresh, .int m_startOne, .int m_startOther, .int m_latest, .int m_leftBeats, .int m_signed, .int m_metMany, .ref m_qsums, .ref m_qpairs, .ref m_qgoesWith, .ref m_qsaid, .int m_saidMany, .int m_firstWait, .ref m_qfirstOrder, .int m_bundleFirst, .ref m_qtiredBy, .int m_tiredMany, .ref m_qmany, .ref m_qwidth, .ref m_qnumbers, .ref m_qmoving])), (m_qworld, .inl (cA 1, 122, .inl m_cworld))]) [0, 1] rfl) (g_X12_hasBy l D cA h0 m_thrown m_qworld m_qimages m_qhasImage m_qtape m_taped m_qfive m_size m_at m_from m_token m_value m_faultKind m_faultPlace m_qfresh m_startOne m_startOther m_latest m_leftBeats m_signed m_metMany m_qsums m_qpairs m_qgoesWith m_qsaid m_saidMany m_firstWait m_qfirstOrder m_bundleFirst m_qtiredBy m_tiredMany m_qmany m_qwidth m_qnumbers m_qmoving m_cworld p0 0 0 0 p1 (by omega) (by omega) (by omega) (by omega) (by omega) (by omega) (by omega) (by decide) a_m_cworld_0) (tb_V tw_2003 tw_2005 tw_92 tw_114 tw_2006) hdX12_hasBy ⟨rfl, rfl, Nat.le_of_ble_eq_true rfl, Nat.le_of_ble_eq_true rfl⟩ ⟨Nat.le_of_ble_eq_true rfl, Nat.le_of_ble_eq_true rfl⟩ rfl rfl rfl hl.1 rfl (Nat.le_of_ble_eq_true rfl) dX12_rests_73 (fun r_841 hr_841 => ?_)
            refine lv_aload_n hx hb dX12_rests_76 rfl (lv_at hl 4 rfl) ?_
            refine lv_iload_n hx hb dX12_rests_77 rfl (lv_at hl 5 rfl) ?_
            refine lv_iconst (v := 0) hx hb dX12_rests_78 (by decide) ?_
            refine lv_iload hx hb dX12_rests_79 (lv_at hl 1 rfl) ?_
            refine lv_if_ne (tgt := 88) hx hb dX12_rests_81 (by decide) (fun c_842 => absurd (by decide) c_842) (fun c_842 => ?_)
            refine lv_iconst (v := 1) hx hb dX12_rests_84 (by decide) ?_
            refine lv_goto (tgt := 89) hx hb dX12_rests_85 (by decide) ?_
            refine lv_iload hx hb dX12_rests_89 (lv_at hl 0 rfl) ?_
            refine lv_iload_n hx hb dX12_rests_91 rfl (lv_at hl 6 rfl) ?_
            have z_843 := zi_1
            refine cpVi (rest := [.int r_841]) ⟨hx, hb, hml, hown, hts⟩ hKN (hP.sub (ws' := [(h0, .inr (12, [.int m_thrown, .ref m_qworld, .ref m_qimages, .ref m_qhasImage, .ref m_qtape, .int m_taped, .ref m_qfive, .int m_size, .int m_at, .int m_from, .int m_token, .int m_value, .int m_faultKind, .int m_faultPlace, .ref m_qfresh, .int m_startOne, .int m_startOther, .int m_latest, .int m_leftBeats, .int m_signed, .int m_metMany, .ref m_qsums, .ref m_qpairs, .ref m_qgoesWith, .ref m_qsaid, .int m_saidMany, .int m_firstWait, .ref m_qfirstOrder, .int m_bundleFirst, .ref m_qtiredBy, .int m_tiredMany, .ref m_qmany, .ref m_qwidth, .ref m_qnumbers, .ref m_qmoving])), (m_qworld, .inl (cA 1, 122, .inl m_cworld))]) [0, 1] rfl) (g_X12_hasBy l D cA h0 m_thrown m_qworld m_qimages m_qhasImage m_qtape m_taped m_qfive m_size m_at m_from m_token m_value m_faultKind m_faultPlace m_qfresh m_startOne m_startOther m_latest m_leftBeats m_signed m_metMany m_qsums m_qpairs m_qgoesWith m_qsaid m_saidMany m_firstWait m_qfirstOrder m_bundleFirst m_qtiredBy m_tiredMany m_qmany m_qwidth m_qnumbers m_qmoving m_cworld p0 0 1 0 p1 (by omega) (by omega) (by omega) (by omega) (by omega) (by omega) (by omega) (by decide) a_m_cworld_0) (tb_V tw_2003 tw_2005 tw_92 tw_114 tw_2006) hdX12_hasBy ⟨rfl, rfl, Nat.le_of_ble_eq_true rfl, Nat.le_of_ble_eq_true rfl⟩ ⟨Nat.le_of_ble_eq_true rfl, Nat.le_of_ble_eq_true rfl⟩ rfl rfl rfl hl.1 rfl (Nat.le_of_ble_eq_true rfl) dX12_rests_92 (fun r_844 hr_844 => ?_)
            refine lv_icmp_lt (tgt := 102) hx hb dX12_rests_95 (by decide) (fun c_845 => ?_) (fun c_845 => ?_)
            · skip
              have b_847 := i32_bd r_841
              have b_848 := i32_bd r_844
              have k_846 := kk_lt rfl rfl c_845
              refine lv_iconst (v := 0) hx hb dX12_rests_102 (by decide) ?_
              refine lv_istore (lv' := [(7, .int 0), (6, .int 0), (5, .int 0), (4, .int L4_828), (3, .int L3_828), (0, .ref h0), (1, .int p0), (2, .int p1)]) hx hb dX12_rests_103 hl (by decide) rfl (fun ls hl => ?_)
              refine lv_iload_n hx hb dX12_rests_105 rfl (lv_at hl 4 rfl) ?_
              refine lv_iload hx hb dX12_rests_106 (lv_at hl 0 rfl) ?_
              refine lv_if_eq (tgt := 148) hx hb dX12_rests_108 (by decide) (fun c_849 => ?_) (fun c_849 => absurd (by decide) c_849)
              refine lv_iconst (v := 0) hx hb dX12_rests_148 (by decide) ?_
              refine lv_iadd hx hb dX12_rests_149 ?_
              refine lv_topi (fun x_850 ex_850 => ?_)
              have b_852 := i32_bd L3_828
              have k_851 := ar_add rfl zi_0 ex_850 (by omega) (by omega)
              refine lv_istore_n (lv' := [(3, .int x_850), (7, .int 0), (6, .int 0), (5, .int 0), (4, .int L4_828), (0, .ref h0), (1, .int p0), (2, .int p1)]) hx hb dX12_rests_150 rfl hl (by decide) rfl (fun ls hl => ?_)
              obtain ⟨x_853, ex_853⟩ : ∃ y : Int32, L4_828 + Int32.ofInt 1 = y := ⟨_, rfl⟩
              have k_854 := ar_add (b := 1) rfl zi_1 ex_853.symm (by omega) (by omega)
              refine lv_iinc (v := x_853) (lv' := [(4, .int x_853), (3, .int x_850), (7, .int 0), (6, .int 0), (5, .int 0), (0, .ref h0), (1, .int p0), (2, .int p1)]) hx hb dX12_rests_151 hl (k := 4) rfl ex_853 (by decide) rfl (fun ls hl => ?_)
              refine lv_goto (tgt := 29) hx hb dX12_rests_154 (by decide) ?_
              exact ih_828 (x_853, x_850) _ _ _ ⟨(show 0 ≤ x_853.toInt ∧ x_853.toInt ≤ 4 from by omega), rfl, rfl, lv_sub hl [0, 1, 5, 6, 7] rfl⟩ (by show (2147483647 - x_853.toInt).toNat < (2147483647 - L4_828.toInt).toNat; omega)
            · skip
              have b_856 := i32_bd r_841
              have b_857 := i32_bd r_844
              have k_855 := kk_nlt rfl rfl c_845
              refine lv_iconst (v := 1) hx hb dX12_rests_98 (by decide) ?_
              refine lv_goto (tgt := 103) hx hb dX12_rests_99 (by decide) ?_
              refine lv_istore (lv' := [(7, .int 1), (6, .int 0), (5, .int 0), (4, .int L4_828), (3, .int L3_828), (0, .ref h0), (1, .int p0), (2, .int p1)]) hx hb dX12_rests_103 hl (by decide) rfl (fun ls hl => ?_)
              refine lv_iload_n hx hb dX12_rests_105 rfl (lv_at hl 4 rfl) ?_
              refine lv_iload hx hb dX12_rests_106 (lv_at hl 0 rfl) ?_
              refine lv_if_eq (tgt := 148) hx hb dX12_rests_108 (by decide) (fun c_858 => absurd c_858 (by decide)) (fun c_858 => ?_)
              refine lv_aload_n hx hb dX12_rests_111 rfl (lv_at hl 5 rfl) ?_
              refine lv_iload_n hx hb dX12_rests_112 rfl (lv_at hl 6 rfl) ?_
              refine lv_iconst (v := 1) hx hb dX12_rests_113 (by decide) ?_
              refine lv_iload hx hb dX12_rests_114 (lv_at hl 1 rfl) ?_
              refine lv_iload hx hb dX12_rests_116 (lv_at hl 2 rfl) ?_
              refine lv_iload_n hx hb dX12_rests_118 rfl (lv_at hl 7 rfl) ?_
              refine cpVi (rest := [.int L3_828]) ⟨hx, hb, hml, hown, hts⟩ hKN (hP.sub (ws' := [(h0, .inr (12, [.int m_thrown, .ref m_qworld, .ref m_qimages, .ref m_qhasImage, .ref m_qtape, .int m_taped, .ref m_qfive, .int m_size, .int m_at, .int m_from, .int m_token, .int m_value, .int m_faultKind, .int m_faultPlace, .ref m_qfresh, .int m_startOne, .int m_startOther, .int m_latest, .int m_leftBeats, .int m_signed, .int m_metMany, .ref m_qsums, .ref m_qpairs, .ref m_qgoesWith, .ref m_qsaid, .int m_saidMany, .int m_firstWait, .ref m_qfirstOrder, .int m_bundleFirst, .ref m_qtiredBy, .int m_tiredMany, .ref m_qmany, .ref m_qwidth, .ref m_qnumbers, .ref m_qmoving])), (m_qworld, .inl (cA 1, 122, .inl m_cworld))]) [0, 1] rfl) (g_X12_hasBy l D cA h0 m_thrown m_qworld m_qimages m_qhasImage m_qtape m_taped m_qfive m_size m_at m_from m_token m_value m_faultKind m_faultPlace m_qfresh m_startOne m_startOther m_latest m_leftBeats m_signed m_metMany m_qsums m_qpairs m_qgoesWith m_qsaid m_saidMany m_firstWait m_qfirstOrder m_bundleFirst m_qtiredBy m_tiredMany m_qmany m_qwidth m_qnumbers m_qmoving m_cworld p0 1 0 0 p1 (by omega) (by omega) (by omega) (by omega) (by omega) (by omega) (by omega) (by decide) a_m_cworld_0) (tb_V tw_2003 tw_2005 tw_92 tw_114 tw_2006) hdX12_hasBy ⟨rfl, rfl, Nat.le_of_ble_eq_true rfl, Nat.le_of_ble_eq_true rfl⟩ ⟨Nat.le_of_ble_eq_true rfl, Nat.le_of_ble_eq_true rfl⟩ rfl rfl rfl hl.1 rfl (Nat.le_of_ble_eq_true rfl) dX12_rests_119 (fun r_859 hr_859 => ?_)
              refine lv_aload_n hx hb dX12_rests_122 rfl (lv_at hl 5 rfl) ?_
              refine lv_iload_n hx hb dX12_rests_123 rfl (lv_at hl 6 rfl) ?_
              refine lv_iconst (v := 1) hx hb dX12_rests_124 (by decide) ?_
              refine lv_iload hx hb dX12_rests_125 (lv_at hl 1 rfl) ?_
              refine lv_if_ne (tgt := 134) hx hb dX12_rests_127 (by decide) (fun c_860 => absurd (by decide) c_860) (fun c_860 => ?_)
              refine lv_iconst (v := 1) hx hb dX12_rests_130 (by decide) ?_
              refine lv_goto (tgt := 135) hx hb dX12_rests_131 (by decide) ?_
              refine lv_iload hx hb dX12_rests_135 (lv_at hl 2 rfl) ?_
              refine lv_iload_n hx hb dX12_rests_137 rfl (lv_at hl 7 rfl) ?_
              refine cpVi (rest := [.int r_859, .int L3_828]) ⟨hx, hb, hml, hown, hts⟩ hKN (hP.sub (ws' := [(h0, .inr (12, [.int m_thrown, .ref m_qworld, .ref m_qimages, .ref m_qhasImage, .ref m_qtape, .int m_taped, .ref m_qfive, .int m_size, .int m_at, .int m_from, .int m_token, .int m_value, .int m_faultKind, .int m_faultPlace, .ref m_qfresh, .int m_startOne, .int m_startOther, .int m_latest, .int m_leftBeats, .int m_signed, .int m_metMany, .ref m_qsums, .ref m_qpairs, .ref m_qgoesWith, .ref m_qsaid, .int m_saidMany, .int m_firstWait, .ref m_qfirstOrder, .int m_bundleFirst, .ref m_qtiredBy, .int m_tiredMany, .ref m_qmany, .ref m_qwidth, .ref m_qnumbers, .ref m_qmoving])), (m_qworld, .inl (cA 1, 122, .inl m_cworld))]) [0, 1] rfl) (g_X12_hasBy l D cA h0 m_thrown m_qworld m_qimages m_qhasImage m_qtape m_taped m_qfive m_size m_at m_from m_token m_value m_faultKind m_faultPlace m_qfresh m_startOne m_startOther m_latest m_leftBeats m_signed m_metMany m_qsums m_qpairs m_qgoesWith m_qsaid m_saidMany m_firstWait m_qfirstOrder m_bundleFirst m_qtiredBy m_tiredMany m_qmany m_qwidth m_qnumbers m_qmoving m_cworld p0 1 1 0 p1 (by omega) (by omega) (by omega) (by omega) (by omega) (by omega) (by omega) (by decide) a_m_cworld_0) (tb_V tw_2003 tw_2005 tw_92 tw_114 tw_2006) hdX12_hasBy ⟨rfl, rfl, Nat.le_of_ble_eq_true rfl, Nat.le_of_ble_eq_true rfl⟩ ⟨Nat.le_of_ble_eq_true rfl, Nat.le_of_ble_eq_true rfl⟩ rfl rfl rfl hl.1 rfl (Nat.le_of_ble_eq_true rfl) dX12_rests_138 (fun r_861 hr_861 => ?_)
              refine lv_icmp_lt (tgt := 148) hx hb dX12_rests_141 (by decide) (fun c_862 => ?_) (fun c_862 => ?_)
              · skip
                have b_864 := i32_bd r_859
                have b_865 := i32_bd r_861
                have k_863 := kk_lt rfl rfl c_862
                refine lv_iconst (v := 0) hx hb dX12_rests_148 (by decide) ?_
                refine lv_iadd hx hb dX12_rests_149 ?_
                refine lv_topi (fun x_866 ex_866 => ?_)
                have b_868 := i32_bd L3_828
                have k_867 := ar_add rfl zi_0 ex_866 (by omega) (by omega)
                refine lv_istore_n (lv' := [(3, .int x_866), (7, .int 1), (6, .int 0), (5, .int 0), (4, .int L4_828), (0, .ref h0), (1, .int p0), (2, .int p1)]) hx hb dX12_rests_150 rfl hl (by decide) rfl (fun ls hl => ?_)
                obtain ⟨x_869, ex_869⟩ : ∃ y : Int32, L4_828 + Int32.ofInt 1 = y := ⟨_, rfl⟩
                have k_870 := ar_add (b := 1) rfl zi_1 ex_869.symm (by omega) (by omega)
                refine lv_iinc (v := x_869) (lv' := [(4, .int x_869), (3, .int x_866), (7, .int 1), (6, .int 0), (5, .int 0), (0, .ref h0), (1, .int p0), (2, .int p1)]) hx hb dX12_rests_151 hl (k := 4) rfl ex_869 (by decide) rfl (fun ls hl => ?_)
                refine lv_goto (tgt := 29) hx hb dX12_rests_154 (by decide) ?_
                exact ih_828 (x_869, x_866) _ _ _ ⟨(show 0 ≤ x_869.toInt ∧ x_869.toInt ≤ 4 from by omega), rfl, rfl, lv_sub hl [0, 1, 5, 6, 7] rfl⟩ (by show (2147483647 - x_869.toInt).toNat < (2147483647 - L4_828.toInt).toNat; omega)
              · skip
                have b_872 := i32_bd r_859
                have b_873 := i32_bd r_861
                have k_871 := kk_nlt rfl rfl c_862
                refine lv_iconst (v := 1) hx hb dX12_rests_144 (by decide) ?_
                refine lv_goto (tgt := 149) hx hb dX12_rests_145 (by decide) ?_
                refine lv_iadd hx hb dX12_rests_149 ?_
                refine lv_topi (fun x_874 ex_874 => ?_)
                refine lv_istore_n (lv' := [(3, .int x_874), (7, .int 1), (6, .int 0), (5, .int 0), (4, .int L4_828), (0, .ref h0), (1, .int p0), (2, .int p1)]) hx hb dX12_rests_150 rfl hl (by decide) rfl (fun ls hl => ?_)
                obtain ⟨x_876, ex_876⟩ : ∃ y : Int32, L4_828 + Int32.ofInt 1 = y := ⟨_, rfl⟩
                have k_877 := ar_add (b := 1) rfl zi_1 ex_876.symm (by omega) (by omega)
                refine lv_iinc (v := x_876) (lv' := [(4, .int x_876), (3, .int x_874), (7, .int 1), (6, .int 0), (5, .int 0), (0, .ref h0), (1, .int p0), (2, .int p1)]) hx hb dX12_rests_151 hl (k := 4) rfl ex_876 (by decide) rfl (fun ls hl => ?_)
                refine lv_goto (tgt := 29) hx hb dX12_rests_154 (by decide) ?_
                exact ih_828 (x_876, x_874) _ _ _ ⟨(show 0 ≤ x_876.toInt ∧ x_876.toInt ≤ 4 from by omega), rfl, rfl, lv_sub hl [0, 1, 5, 6, 7] rfl⟩ (by show (2147483647 - x_876.toInt).toNat < (2147483647 - L4_828.toInt).toNat; omega)
          · skip
            have k_878 := kk_eq rfl zi_1 c_838
            refine lv_iconst (v := 1) hx hb dX12_rests_58 (by decide) ?_
            refine lv_goto (tgt := 63) hx hb dX12_rests_59 (by decide) ?_
            refine lv_istore (lv' := [(6, .int 1), (5, .int 0), (4, .int L4_828), (3, .int L3_828), (0, .ref h0), (1, .int p0), (2, .int p1)]) hx hb dX12_rests_63 hl (by decide) rfl (fun ls hl => ?_)
            refine lv_aload_n hx hb dX12_rests_65 rfl (lv_at hl 4 rfl) ?_
            refine lv_iload_n hx hb dX12_rests_66 rfl (lv_at hl 5 rfl) ?_
            refine lv_iconst (v := 0) hx hb dX12_rests_67 (by decide) ?_
            refine lv_iload hx hb dX12_rests_68 (lv_at hl 1 rfl) ?_
            refine lv_iload hx hb dX12_rests_70 (lv_at hl 0 rfl) ?_
            refine lv_iload_n hx hb dX12_rests_72 rfl (lv_at hl 6 rfl) ?_
            have z_879 := zi_0
            have z_880 := zi_1
            refine cpVi (rest := []) ⟨hx, hb, hml, hown, hts⟩ hKN (hP.sub (ws' := [(h0, .inr (12, [.int m_thrown, .ref m_qworld, .ref m_qimages, .ref m_qhasImage, .ref m_qtape, .int m_taped, .ref m_qfive, .int m_size, .int m_at, .int m_from, .int m_token, .int m_value, .int m_faultKind, .int m_faultPlace, .ref m_qfresh, .int m_startOne, .int m_startOther, .int m_latest, .int m_leftBeats, .int m_signed, .int m_metMany, .ref m_qsums, .ref m_qpairs, .ref m_qgoesWith, .ref m_qsaid, .int m_saidMany, .int m_firstWait, .ref m_qfirstOrder, .int m_bundleFirst, .ref m_qtiredBy, .int m_tiredMany, .ref m_qmany, .ref m_qwidth, .ref m_qnumbers, .ref m_qmoving])), (m_qworld, .inl (cA 1, 122, .inl m_cworld))]) [0, 1] rfl) (g_X12_hasBy l D cA h0 m_thrown m_qworld m_qimages m_qhasImage m_qtape m_taped m_qfive m_size m_at m_from m_token m_value m_faultKind m_faultPlace m_qfresh m_startOne m_startOther m_latest m_leftBeats m_signed m_metMany m_qsums m_qpairs m_qgoesWith m_qsaid m_saidMany m_firstWait m_qfirstOrder m_bundleFirst m_qtiredBy m_tiredMany m_qmany m_qwidth m_qnumbers m_qmoving m_cworld p0 0 0 1 p1 (by omega) (by omega) (by omega) (by omega) (by omega) (by omega) (by omega) (by decide) a_m_cworld_0) (tb_V tw_2003 tw_2005 tw_92 tw_114 tw_2006) hdX12_hasBy ⟨rfl, rfl, Nat.le_of_ble_eq_true rfl, Nat.le_of_ble_eq_true rfl⟩ ⟨Nat.le_of_ble_eq_true rfl, Nat.le_of_ble_eq_true rfl⟩ rfl rfl rfl hl.1 rfl (Nat.le_of_ble_eq_true rfl) dX12_rests_73 (fun r_881 hr_881 => ?_)
            refine lv_aload_n hx hb dX12_rests_76 rfl (lv_at hl 4 rfl) ?_
            refine lv_iload_n hx hb dX12_rests_77 rfl (lv_at hl 5 rfl) ?_
            refine lv_iconst (v := 0) hx hb dX12_rests_78 (by decide) ?_
            refine lv_iload hx hb dX12_rests_79 (lv_at hl 1 rfl) ?_
            refine lv_if_ne (tgt := 88) hx hb dX12_rests_81 (by decide) (fun c_882 => absurd (by decide) c_882) (fun c_882 => ?_)
            refine lv_iconst (v := 1) hx hb dX12_rests_84 (by decide) ?_
            refine lv_goto (tgt := 89) hx hb dX12_rests_85 (by decide) ?_
            refine lv_iload hx hb dX12_rests_89 (lv_at hl 0 rfl) ?_
            refine lv_iload_n hx hb dX12_rests_91 rfl (lv_at hl 6 rfl) ?_
            refine cpVi (rest := [.int r_881]) ⟨hx, hb, hml, hown, hts⟩ hKN (hP.sub (ws' := [(h0, .inr (12, [.int m_thrown, .ref m_qworld, .ref m_qimages, .ref m_qhasImage, .ref m_qtape, .int m_taped, .ref m_qfive, .int m_size, .int m_at, .int m_from, .int m_token, .int m_value, .int m_faultKind, .int m_faultPlace, .ref m_qfresh, .int m_startOne, .int m_startOther, .int m_latest, .int m_leftBeats, .int m_signed, .int m_metMany, .ref m_qsums, .ref m_qpairs, .ref m_qgoesWith, .ref m_qsaid, .int m_saidMany, .int m_firstWait, .ref m_qfirstOrder, .int m_bundleFirst, .ref m_qtiredBy, .int m_tiredMany, .ref m_qmany, .ref m_qwidth, .ref m_qnumbers, .ref m_qmoving])), (m_qworld, .inl (cA 1, 122, .inl m_cworld))]) [0, 1] rfl) (g_X12_hasBy l D cA h0 m_thrown m_qworld m_qimages m_qhasImage m_qtape m_taped m_qfive m_size m_at m_from m_token m_value m_faultKind m_faultPlace m_qfresh m_startOne m_startOther m_latest m_leftBeats m_signed m_metMany m_qsums m_qpairs m_qgoesWith m_qsaid m_saidMany m_firstWait m_qfirstOrder m_bundleFirst m_qtiredBy m_tiredMany m_qmany m_qwidth m_qnumbers m_qmoving m_cworld p0 0 1 1 p1 (by omega) (by omega) (by omega) (by omega) (by omega) (by omega) (by omega) (by decide) a_m_cworld_0) (tb_V tw_2003 tw_2005 tw_92 tw_114 tw_2006) hdX12_hasBy ⟨rfl, rfl, Nat.le_of_ble_eq_true rfl, Nat.le_of_ble_eq_true rfl⟩ ⟨Nat.le_of_ble_eq_true rfl, Nat.le_of_ble_eq_true rfl⟩ rfl rfl rfl hl.1 rfl (Nat.le_of_ble_eq_true rfl) dX12_rests_92 (fun r_883 hr_883 => ?_)
            refine lv_icmp_lt (tgt := 102) hx hb dX12_rests_95 (by decide) (fun c_884 => ?_) (fun c_884 => ?_)
            · skip
              have b_886 := i32_bd r_881
              have b_887 := i32_bd r_883
              have k_885 := kk_lt rfl rfl c_884
              refine lv_iconst (v := 0) hx hb dX12_rests_102 (by decide) ?_
              refine lv_istore (lv' := [(7, .int 0), (6, .int 1), (5, .int 0), (4, .int L4_828), (3, .int L3_828), (0, .ref h0), (1, .int p0), (2, .int p1)]) hx hb dX12_rests_103 hl (by decide) rfl (fun ls hl => ?_)
              refine lv_iload_n hx hb dX12_rests_105 rfl (lv_at hl 4 rfl) ?_
              refine lv_iload hx hb dX12_rests_106 (lv_at hl 0 rfl) ?_
              refine lv_if_eq (tgt := 148) hx hb dX12_rests_108 (by decide) (fun c_888 => ?_) (fun c_888 => absurd (by decide) c_888)
              refine lv_iconst (v := 0) hx hb dX12_rests_148 (by decide) ?_
              refine lv_iadd hx hb dX12_rests_149 ?_
              refine lv_topi (fun x_889 ex_889 => ?_)
              have b_891 := i32_bd L3_828
              have k_890 := ar_add rfl zi_0 ex_889 (by omega) (by omega)
              refine lv_istore_n (lv' := [(3, .int x_889), (7, .int 0), (6, .int 1), (5, .int 0), (4, .int L4_828), (0, .ref h0), (1, .int p0), (2, .int p1)]) hx hb dX12_rests_150 rfl hl (by decide) rfl (fun ls hl => ?_)
              obtain ⟨x_892, ex_892⟩ : ∃ y : Int32, L4_828 + Int32.ofInt 1 = y := ⟨_, rfl⟩
              have k_893 := ar_add (b := 1) rfl zi_1 ex_892.symm (by omega) (by omega)
              refine lv_iinc (v := x_892) (lv' := [(4, .int x_892), (3, .int x_889), (7, .int 0), (6, .int 1), (5, .int 0), (0, .ref h0), (1, .int p0), (2, .int p1)]) hx hb dX12_rests_151 hl (k := 4) rfl ex_892 (by decide) rfl (fun ls hl => ?_)
              refine lv_goto (tgt := 29) hx hb dX12_rests_154 (by decide) ?_
              exact ih_828 (x_892, x_889) _ _ _ ⟨(show 0 ≤ x_892.toInt ∧ x_892.toInt ≤ 4 from by omega), rfl, rfl, lv_sub hl [0, 1, 5, 6, 7] rfl⟩ (by show (2147483647 - x_892.toInt).toNat < (2147483647 - L4_828.toInt).toNat; omega)
            · skip
              have b_895 := i32_bd r_881
              have b_896 := i32_bd r_883
              have k_894 := kk_nlt rfl rfl c_884
              refine lv_iconst (v := 1) hx hb dX12_rests_98 (by decide) ?_
              refine lv_goto (tgt := 103) hx hb dX12_rests_99 (by decide) ?_
              refine lv_istore (lv' := [(7, .int 1), (6, .int 1), (5, .int 0), (4, .int L4_828), (3, .int L3_828), (0, .ref h0), (1, .int p0), (2, .int p1)]) hx hb dX12_rests_103 hl (by decide) rfl (fun ls hl => ?_)
              refine lv_iload_n hx hb dX12_rests_105 rfl (lv_at hl 4 rfl) ?_
              refine lv_iload hx hb dX12_rests_106 (lv_at hl 0 rfl) ?_
              refine lv_if_eq (tgt := 148) hx hb dX12_rests_108 (by decide) (fun c_897 => absurd c_897 (by decide)) (fun c_897 => ?_)
              refine lv_aload_n hx hb dX12_rests_111 rfl (lv_at hl 5 rfl) ?_
              refine lv_iload_n hx hb dX12_rests_112 rfl (lv_at hl 6 rfl) ?_
              refine lv_iconst (v := 1) hx hb dX12_rests_113 (by decide) ?_
              refine lv_iload hx hb dX12_rests_114 (lv_at hl 1 rfl) ?_
              refine lv_iload hx hb dX12_rests_116 (lv_at hl 2 rfl) ?_
              refine lv_iload_n hx hb dX12_rests_118 rfl (lv_at hl 7 rfl) ?_
              refine cpVi (rest := [.int L3_828]) ⟨hx, hb, hml, hown, hts⟩ hKN (hP.sub (ws' := [(h0, .inr (12, [.int m_thrown, .ref m_qworld, .ref m_qimages, .ref m_qhasImage, .ref m_qtape, .int m_taped, .ref m_qfive, .int m_size, .int m_at, .int m_from, .int m_token, .int m_value, .int m_faultKind, .int m_faultPlace, .ref m_qfresh, .int m_startOne, .int m_startOther, .int m_latest, .int m_leftBeats, .int m_signed, .int m_metMany, .ref m_qsums, .ref m_qpairs, .ref m_qgoesWith, .ref m_qsaid, .int m_saidMany, .int m_firstWait, .ref m_qfirstOrder, .int m_bundleFirst, .ref m_qtiredBy, .int m_tiredMany, .ref m_qmany, .ref m_qwidth, .ref m_qnumbers, .ref m_qmoving])), (m_qworld, .inl (cA 1, 122, .inl m_cworld))]) [0, 1] rfl) (g_X12_hasBy l D cA h0 m_thrown m_qworld m_qimages m_qhasImage m_qtape m_taped m_qfive m_size m_at m_from m_token m_value m_faultKind m_faultPlace m_qfresh m_startOne m_startOther m_latest m_leftBeats m_signed m_metMany m_qsums m_qpairs m_qgoesWith m_qsaid m_saidMany m_firstWait m_qfirstOrder m_bundleFirst m_qtiredBy m_tiredMany m_qmany m_qwidth m_qnumbers m_qmoving m_cworld p0 1 1 0 p1 (by omega) (by omega) (by omega) (by omega) (by omega) (by omega) (by omega) (by decide) a_m_cworld_0) (tb_V tw_2003 tw_2005 tw_92 tw_114 tw_2006) hdX12_hasBy ⟨rfl, rfl, Nat.le_of_ble_eq_true rfl, Nat.le_of_ble_eq_true rfl⟩ ⟨Nat.le_of_ble_eq_true rfl, Nat.le_of_ble_eq_true rfl⟩ rfl rfl rfl hl.1 rfl (Nat.le_of_ble_eq_true rfl) dX12_rests_119 (fun r_898 hr_898 => ?_)
              refine lv_aload_n hx hb dX12_rests_122 rfl (lv_at hl 5 rfl) ?_
              refine lv_iload_n hx hb dX12_rests_123 rfl (lv_at hl 6 rfl) ?_
              refine lv_iconst (v := 1) hx hb dX12_rests_124 (by decide) ?_
              refine lv_iload hx hb dX12_rests_125 (lv_at hl 1 rfl) ?_
              refine lv_if_ne (tgt := 134) hx hb dX12_rests_127 (by decide) (fun c_899 => ?_) (fun c_899 => absurd c_899 (by decide))
              refine lv_iconst (v := 0) hx hb dX12_rests_134 (by decide) ?_
              refine lv_iload hx hb dX12_rests_135 (lv_at hl 2 rfl) ?_
              refine lv_iload_n hx hb dX12_rests_137 rfl (lv_at hl 7 rfl) ?_
              refine cpVi (rest := [.int r_898, .int L3_828]) ⟨hx, hb, hml, hown, hts⟩ hKN (hP.sub (ws' := [(h0, .inr (12, [.int m_thrown, .ref m_qworld, .ref m_qimages, .ref m_qhasImage, .ref m_qtape, .int m_taped, .ref m_qfive, .int m_size, .int m_at, .int m_from, .int m_token, .int m_value, .int m_faultKind, .int m_faultPlace, .ref m_qfresh, .int m_startOne, .int m_startOther, .int m_latest, .int m_leftBeats, .int m_signed, .int m_metMany, .ref m_qsums, .ref m_qpairs, .ref m_qgoesWith, .ref m_qsaid, .int m_saidMany, .int m_firstWait, .ref m_qfirstOrder, .int m_bundleFirst, .ref m_qtiredBy, .int m_tiredMany, .ref m_qmany, .ref m_qwidth, .ref m_qnumbers, .ref m_qmoving])), (m_qworld, .inl (cA 1, 122, .inl m_cworld))]) [0, 1] rfl) (g_X12_hasBy l D cA h0 m_thrown m_qworld m_qimages m_qhasImage m_qtape m_taped m_qfive m_size m_at m_from m_token m_value m_faultKind m_faultPlace m_qfresh m_startOne m_startOther m_latest m_leftBeats m_signed m_metMany m_qsums m_qpairs m_qgoesWith m_qsaid m_saidMany m_firstWait m_qfirstOrder m_bundleFirst m_qtiredBy m_tiredMany m_qmany m_qwidth m_qnumbers m_qmoving m_cworld p0 1 0 0 p1 (by omega) (by omega) (by omega) (by omega) (by omega) (by omega) (by omega) (by decide) a_m_cworld_0) (tb_V tw_2003 tw_2005 tw_92 tw_114 tw_2006) hdX12_hasBy ⟨rfl, rfl, Nat.le_of_ble_eq_true rfl, Nat.le_of_ble_eq_true rfl⟩ ⟨Nat.le_of_ble_eq_true rfl, Nat.le_of_ble_eq_true rfl⟩ rfl rfl rfl hl.1 rfl (Nat.le_of_ble_eq_true rfl) dX12_rests_138 (fun r_900 hr_900 => ?_)
              refine lv_icmp_lt (tgt := 148) hx hb dX12_rests_141 (by decide) (fun c_901 => ?_) (fun c_901 => ?_)
              · skip
                have b_903 := i32_bd r_898
                have b_904 := i32_bd r_900
                have k_902 := kk_lt rfl rfl c_901
                refine lv_iconst (v := 0) hx hb dX12_rests_148 (by decide) ?_
                refine lv_iadd hx hb dX12_rests_149 ?_
                refine lv_topi (fun x_905 ex_905 => ?_)
                have b_907 := i32_bd L3_828
                have k_906 := ar_add rfl zi_0 ex_905 (by omega) (by omega)
                refine lv_istore_n (lv' := [(3, .int x_905), (7, .int 1), (6, .int 1), (5, .int 0), (4, .int L4_828), (0, .ref h0), (1, .int p0), (2, .int p1)]) hx hb dX12_rests_150 rfl hl (by decide) rfl (fun ls hl => ?_)
                obtain ⟨x_908, ex_908⟩ : ∃ y : Int32, L4_828 + Int32.ofInt 1 = y := ⟨_, rfl⟩
                have k_909 := ar_add (b := 1) rfl zi_1 ex_908.symm (by omega) (by omega)
                refine lv_iinc (v := x_908) (lv' := [(4, .int x_908), (3, .int x_905), (7, .int 1), (6, .int 1), (5, .int 0), (0, .ref h0), (1, .int p0), (2, .int p1)]) hx hb dX12_rests_151 hl (k := 4) rfl ex_908 (by decide) rfl (fun ls hl => ?_)
                refine lv_goto (tgt := 29) hx hb dX12_rests_154 (by decide) ?_
                exact ih_828 (x_908, x_905) _ _ _ ⟨(show 0 ≤ x_908.toInt ∧ x_908.toInt ≤ 4 from by omega), rfl, rfl, lv_sub hl [0, 1, 5, 6, 7] rfl⟩ (by show (2147483647 - x_908.toInt).toNat < (2147483647 - L4_828.toInt).toNat; omega)
              · skip
                have b_911 := i32_bd r_898
                have b_912 := i32_bd r_900
                have k_910 := kk_nlt rfl rfl c_901
                refine lv_iconst (v := 1) hx hb dX12_rests_144 (by decide) ?_
                refine lv_goto (tgt := 149) hx hb dX12_rests_145 (by decide) ?_
                refine lv_iadd hx hb dX12_rests_149 ?_
                refine lv_topi (fun x_913 ex_913 => ?_)
                refine lv_istore_n (lv' := [(3, .int x_913), (7, .int 1), (6, .int 1), (5, .int 0), (4, .int L4_828), (0, .ref h0), (1, .int p0), (2, .int p1)]) hx hb dX12_rests_150 rfl hl (by decide) rfl (fun ls hl => ?_)
                obtain ⟨x_915, ex_915⟩ : ∃ y : Int32, L4_828 + Int32.ofInt 1 = y := ⟨_, rfl⟩
                have k_916 := ar_add (b := 1) rfl zi_1 ex_915.symm (by omega) (by omega)
                refine lv_iinc (v := x_915) (lv' := [(4, .int x_915), (3, .int x_913), (7, .int 1), (6, .int 1), (5, .int 0), (0, .ref h0), (1, .int p0), (2, .int p1)]) hx hb dX12_rests_151 hl (k := 4) rfl ex_915 (by decide) rfl (fun ls hl => ?_)
                refine lv_goto (tgt := 29) hx hb dX12_rests_154 (by decide) ?_
                exact ih_828 (x_915, x_913) _ _ _ ⟨(show 0 ≤ x_915.toInt ∧ x_915.toInt ≤ 4 from by omega), rfl, rfl, lv_sub hl [0, 1, 5, 6, 7] rfl⟩ (by show (2147483647 - x_915.toInt).toNat < (2147483647 - L4_828.toInt).toNat; omega)
        · skip
          have k_917 := kk_eq rfl zi_1 c_834
          refine lv_iconst (v := 1) hx hb dX12_rests_43 (by decide) ?_
          refine lv_goto (tgt := 48) hx hb dX12_rests_44 (by decide) ?_
          refine lv_istore (lv' := [(5, .int 1), (4, .int L4_828), (3, .int L3_828), (0, .ref h0), (1, .int p0), (2, .int p1)]) hx hb dX12_rests_48 hl (by decide) rfl (fun ls hl => ?_)
          refine lv_iload hx hb dX12_rests_50 (lv_at hl 1 rfl) ?_
          refine lv_iconst (v := 2) hx hb dX12_rests_52 (by decide) ?_
          refine lv_idiv hx hb dX12_rests_53 (by decide) ?_
          refine lv_topi (fun x_918 ex_918 => ?_)
          have k_919 := ar_div rfl zi_2 ex_918 (by omega) (by omega)
          refine lv_iconst (v := 1) hx hb dX12_rests_54 (by decide) ?_
          refine lv_icmp_ne (tgt := 62) hx hb dX12_rests_55 (by decide) (fun c_920 => ?_) (fun c_920 => ?_)
          · skip
            have k_921 := kk_ne rfl zi_1 c_920
            refine lv_iconst (v := 0) hx hb dX12_rests_62 (by decide) ?_
            refine lv_istore (lv' := [(6, .int 0), (5, .int 1), (4, .int L4_828), (3, .int L3_828), (0, .ref h0), (1, .int p0), (2, .int p1)]) hx hb dX12_rests_63 hl (by decide) rfl (fun ls hl => ?_)
            refine lv_aload_n hx hb dX12_rests_65 rfl (lv_at hl 4 rfl) ?_
            refine lv_iload_n hx hb dX12_rests_66 rfl (lv_at hl 5 rfl) ?_
            refine lv_iconst (v := 0) hx hb dX12_rests_67 (by decide) ?_
            refine lv_iload hx hb dX12_rests_68 (lv_at hl 1 rfl) ?_
            refine lv_iload hx hb dX12_rests_70 (lv_at hl 0 rfl) ?_
            refine lv_iload_n hx hb dX12_rests_72 rfl (lv_at hl 6 rfl) ?_
            have z_922 := zi_0
            have z_923 := zi_1
            refine cpVi (rest := []) ⟨hx, hb, hml, hown, hts⟩ hKN (hP.sub (ws' := [(h0, .inr (12, [.int m_thrown, .ref m_qworld, .ref m_qimages, .ref m_qhasImage, .ref m_qtape, .int m_taped, .ref m_qfive, .int m_size, .int m_at, .int m_from, .int m_token, .int m_value, .int m_faultKind, .int m_faultPlace, .ref m_qfresh, .int m_startOne, .int m_startOther, .int m_latest, .int m_leftBeats, .int m_signed, .int m_metMany, .ref m_qsums, .ref m_qpairs, .ref m_qgoesWith, .ref m_qsaid, .int m_saidMany, .int m_firstWait, .ref m_qfirstOrder, .int m_bundleFirst, .ref m_qtiredBy, .int m_tiredMany, .ref m_qmany, .ref m_qwidth, .ref m_qnumbers, .ref m_qmoving])), (m_qworld, .inl (cA 1, 122, .inl m_cworld))]) [0, 1] rfl) (g_X12_hasBy l D cA h0 m_thrown m_qworld m_qimages m_qhasImage m_qtape m_taped m_qfive m_size m_at m_from m_token m_value m_faultKind m_faultPlace m_qfresh m_startOne m_startOther m_latest m_leftBeats m_signed m_metMany m_qsums m_qpairs m_qgoesWith m_qsaid m_saidMany m_firstWait m_qfirstOrder m_bundleFirst m_qtiredBy m_tiredMany m_qmany m_qwidth m_qnumbers m_qmoving m_cworld p0 0 1 0 p1 (by omega) (by omega) (by omega) (by omega) (by omega) (by omega) (by omega) (by decide) a_m_cworld_0) (tb_V tw_2003 tw_2005 tw_92 tw_114 tw_2006) hdX12_hasBy ⟨rfl, rfl, Nat.le_of_ble_eq_true rfl, Nat.le_of_ble_eq_true rfl⟩ ⟨Nat.le_of_ble_eq_true rfl, Nat.le_of_ble_eq_true rfl⟩ rfl rfl rfl hl.1 rfl (Nat.le_of_ble_eq_true rfl) dX12_rests_73 (fun r_924 hr_924 => ?_)
            refine lv_aload_n hx hb dX12_rests_76 rfl (lv_at hl 4 rfl) ?_
            refine lv_iload_n hx hb dX12_rests_77 rfl (lv_at hl 5 rfl) ?_
            refine lv_iconst (v := 0) hx hb dX12_rests_78 (by decide) ?_
            refine lv_iload hx hb dX12_rests_79 (lv_at hl 1 rfl) ?_
            refine lv_if_ne (tgt := 88) hx hb dX12_rests_81 (by decide) (fun c_925 => ?_) (fun c_925 => absurd c_925 (by decide))
            refine lv_iconst (v := 0) hx hb dX12_rests_88 (by decide) ?_
            refine lv_iload hx hb dX12_rests_89 (lv_at hl 0 rfl) ?_
            refine lv_iload_n hx hb dX12_rests_91 rfl (lv_at hl 6 rfl) ?_
            refine cpVi (rest := [.int r_924]) ⟨hx, hb, hml, hown, hts⟩ hKN (hP.sub (ws' := [(h0, .inr (12, [.int m_thrown, .ref m_qworld, .ref m_qimages, .ref m_qhasImage, .ref m_qtape, .int m_taped, .ref m_qfive, .int m_size, .int m_at, .int m_from, .int m_token, .int m_value, .int m_faultKind, .int m_faultPlace, .ref m_qfresh, .int m_startOne, .int m_startOther, .int m_latest, .int m_leftBeats, .int m_signed, .int m_metMany, .ref m_qsums, .ref m_qpairs, .ref m_qgoesWith, .ref m_qsaid, .int m_saidMany, .int m_firstWait, .ref m_qfirstOrder, .int m_bundleFirst, .ref m_qtiredBy, .int m_tiredMany, .ref m_qmany, .ref m_qwidth, .ref m_qnumbers, .ref m_qmoving])), (m_qworld, .inl (cA 1, 122, .inl m_cworld))]) [0, 1] rfl) (g_X12_hasBy l D cA h0 m_thrown m_qworld m_qimages m_qhasImage m_qtape m_taped m_qfive m_size m_at m_from m_token m_value m_faultKind m_faultPlace m_qfresh m_startOne m_startOther m_latest m_leftBeats m_signed m_metMany m_qsums m_qpairs m_qgoesWith m_qsaid m_saidMany m_firstWait m_qfirstOrder m_bundleFirst m_qtiredBy m_tiredMany m_qmany m_qwidth m_qnumbers m_qmoving m_cworld p0 0 0 0 p1 (by omega) (by omega) (by omega) (by omega) (by omega) (by omega) (by omega) (by decide) a_m_cworld_0) (tb_V tw_2003 tw_2005 tw_92 tw_114 tw_2006) hdX12_hasBy ⟨rfl, rfl, Nat.le_of_ble_eq_true rfl, Nat.le_of_ble_eq_true rfl⟩ ⟨Nat.le_of_ble_eq_true rfl, Nat.le_of_ble_eq_true rfl⟩ rfl rfl rfl hl.1 rfl (Nat.le_of_ble_eq_true rfl) dX12_rests_92 (fun r_926 hr_926 => ?_)
            refine lv_icmp_lt (tgt := 102) hx hb dX12_rests_95 (by decide) (fun c_927 => ?_) (fun c_927 => ?_)
            · skip
              have b_929 := i32_bd r_924
              have b_930 := i32_bd r_926
              have k_928 := kk_lt rfl rfl c_927
              refine lv_iconst (v := 0) hx hb dX12_rests_102 (by decide) ?_
              refine lv_istore (lv' := [(7, .int 0), (6, .int 0), (5, .int 1), (4, .int L4_828), (3, .int L3_828), (0, .ref h0), (1, .int p0), (2, .int p1)]) hx hb dX12_rests_103 hl (by decide) rfl (fun ls hl => ?_)
              refine lv_iload_n hx hb dX12_rests_105 rfl (lv_at hl 4 rfl) ?_
              refine lv_iload hx hb dX12_rests_106 (lv_at hl 0 rfl) ?_
              refine lv_if_eq (tgt := 148) hx hb dX12_rests_108 (by decide) (fun c_931 => ?_) (fun c_931 => absurd (by decide) c_931)
              refine lv_iconst (v := 0) hx hb dX12_rests_148 (by decide) ?_
              refine lv_iadd hx hb dX12_rests_149 ?_
              refine lv_topi (fun x_932 ex_932 => ?_)
              have b_934 := i32_bd L3_828
              have k_933 := ar_add rfl zi_0 ex_932 (by omega) (by omega)
              refine lv_istore_n (lv' := [(3, .int x_932), (7, .int 0), (6, .int 0), (5, .int 1), (4, .int L4_828), (0, .ref h0), (1, .int p0), (2, .int p1)]) hx hb dX12_rests_150 rfl hl (by decide) rfl (fun ls hl => ?_)
              obtain ⟨x_935, ex_935⟩ : ∃ y : Int32, L4_828 + Int32.ofInt 1 = y := ⟨_, rfl⟩
              have k_936 := ar_add (b := 1) rfl zi_1 ex_935.symm (by omega) (by omega)
              refine lv_iinc (v := x_935) (lv' := [(4, .int x_935), (3, .int x_932), (7, .int 0), (6, .int 0), (5, .int 1), (0, .ref h0), (1, .int p0), (2, .int p1)]) hx hb dX12_rests_151 hl (k := 4) rfl ex_935 (by decide) rfl (fun ls hl => ?_)
              refine lv_goto (tgt := 29) hx hb dX12_rests_154 (by decide) ?_
              exact ih_828 (x_935, x_932) _ _ _ ⟨(show 0 ≤ x_935.toInt ∧ x_935.toInt ≤ 4 from by omega), rfl, rfl, lv_sub hl [0, 1, 5, 6, 7] rfl⟩ (by show (2147483647 - x_935.toInt).toNat < (2147483647 - L4_828.toInt).toNat; omega)
            · skip
              have b_938 := i32_bd r_924
              have b_939 := i32_bd r_926
              have k_937 := kk_nlt rfl rfl c_927
              refine lv_iconst (v := 1) hx hb dX12_rests_98 (by decide) ?_
              refine lv_goto (tgt := 103) hx hb dX12_rests_99 (by decide) ?_
              refine lv_istore (lv' := [(7, .int 1), (6, .int 0), (5, .int 1), (4, .int L4_828), (3, .int L3_828), (0, .ref h0), (1, .int p0), (2, .int p1)]) hx hb dX12_rests_103 hl (by decide) rfl (fun ls hl => ?_)
              refine lv_iload_n hx hb dX12_rests_105 rfl (lv_at hl 4 rfl) ?_
              refine lv_iload hx hb dX12_rests_106 (lv_at hl 0 rfl) ?_
              refine lv_if_eq (tgt := 148) hx hb dX12_rests_108 (by decide) (fun c_940 => absurd c_940 (by decide)) (fun c_940 => ?_)
              refine lv_aload_n hx hb dX12_rests_111 rfl (lv_at hl 5 rfl) ?_
              refine lv_iload_n hx hb dX12_rests_112 rfl (lv_at hl 6 rfl) ?_
              refine lv_iconst (v := 1) hx hb dX12_rests_113 (by decide) ?_
              refine lv_iload hx hb dX12_rests_114 (lv_at hl 1 rfl) ?_
              refine lv_iload hx hb dX12_rests_116 (lv_at hl 2 rfl) ?_
              refine lv_iload_n hx hb dX12_rests_118 rfl (lv_at hl 7 rfl) ?_
              refine cpVi (rest := [.int L3_828]) ⟨hx, hb, hml, hown, hts⟩ hKN (hP.sub (ws' := [(h0, .inr (12, [.int m_thrown, .ref m_qworld, .ref m_qimages, .ref m_qhasImage, .ref m_qtape, .int m_taped, .ref m_qfive, .int m_size, .int m_at, .int m_from, .int m_token, .int m_value, .int m_faultKind, .int m_faultPlace, .ref m_qfresh, .int m_startOne, .int m_startOther, .int m_latest, .int m_leftBeats, .int m_signed, .int m_metMany, .ref m_qsums, .ref m_qpairs, .ref m_qgoesWith, .ref m_qsaid, .int m_saidMany, .int m_firstWait, .ref m_qfirstOrder, .int m_bundleFirst, .ref m_qtiredBy, .int m_tiredMany, .ref m_qmany, .ref m_qwidth, .ref m_qnumbers, .ref m_qmoving])), (m_qworld, .inl (cA 1, 122, .inl m_cworld))]) [0, 1] rfl) (g_X12_hasBy l D cA h0 m_thrown m_qworld m_qimages m_qhasImage m_qtape m_taped m_qfive m_size m_at m_from m_token m_value m_faultKind m_faultPlace m_qfresh m_startOne m_startOther m_latest m_leftBeats m_signed m_metMany m_qsums m_qpairs m_qgoesWith m_qsaid m_saidMany m_firstWait m_qfirstOrder m_bundleFirst m_qtiredBy m_tiredMany m_qmany m_qwidth m_qnumbers m_qmoving m_cworld p0 1 0 1 p1 (by omega) (by omega) (by omega) (by omega) (by omega) (by omega) (by omega) (by decide) a_m_cworld_0) (tb_V tw_2003 tw_2005 tw_92 tw_114 tw_2006) hdX12_hasBy ⟨rfl, rfl, Nat.le_of_ble_eq_true rfl, Nat.le_of_ble_eq_true rfl⟩ ⟨Nat.le_of_ble_eq_true rfl, Nat.le_of_ble_eq_true rfl⟩ rfl rfl rfl hl.1 rfl (Nat.le_of_ble_eq_true rfl) dX12_rests_119 (fun r_941 hr_941 => ?_)
              refine lv_aload_n hx hb dX12_rests_122 rfl (lv_at hl 5 rfl) ?_
              refine lv_iload_n hx hb dX12_rests_123 rfl (lv_at hl 6 rfl) ?_
              refine lv_iconst (v := 1) hx hb dX12_rests_124 (by decide) ?_
              refine lv_iload hx hb dX12_rests_125 (lv_at hl 1 rfl) ?_
              refine lv_if_ne (tgt := 134) hx hb dX12_rests_127 (by decide) (fun c_942 => absurd (by decide) c_942) (fun c_942 => ?_)
              refine lv_iconst (v := 1) hx hb dX12_rests_130 (by decide) ?_
              refine lv_goto (tgt := 135) hx hb dX12_rests_131 (by decide) ?_
              refine lv_iload hx hb dX12_rests_135 (lv_at hl 2 rfl) ?_
              refine lv_iload_n hx hb dX12_rests_137 rfl (lv_at hl 7 rfl) ?_
              refine cpVi (rest := [.int r_941, .int L3_828]) ⟨hx, hb, hml, hown, hts⟩ hKN (hP.sub (ws' := [(h0, .inr (12, [.int m_thrown, .ref m_qworld, .ref m_qimages, .ref m_qhasImage, .ref m_qtape, .int m_taped, .ref m_qfive, .int m_size, .int m_at, .int m_from, .int m_token, .int m_value, .int m_faultKind, .int m_faultPlace, .ref m_qfresh, .int m_startOne, .int m_startOther, .int m_latest, .int m_leftBeats, .int m_signed, .int m_metMany, .ref m_qsums, .ref m_qpairs, .ref m_qgoesWith, .ref m_qsaid, .int m_saidMany, .int m_firstWait, .ref m_qfirstOrder, .int m_bundleFirst, .ref m_qtiredBy, .int m_tiredMany, .ref m_qmany, .ref m_qwidth, .ref m_qnumbers, .ref m_qmoving])), (m_qworld, .inl (cA 1, 122, .inl m_cworld))]) [0, 1] rfl) (g_X12_hasBy l D cA h0 m_thrown m_qworld m_qimages m_qhasImage m_qtape m_taped m_qfive m_size m_at m_from m_token m_value m_faultKind m_faultPlace m_qfresh m_startOne m_startOther m_latest m_leftBeats m_signed m_metMany m_qsums m_qpairs m_qgoesWith m_qsaid m_saidMany m_firstWait m_qfirstOrder m_bundleFirst m_qtiredBy m_tiredMany m_qmany m_qwidth m_qnumbers m_qmoving m_cworld p0 1 1 1 p1 (by omega) (by omega) (by omega) (by omega) (by omega) (by omega) (by omega) (by decide) a_m_cworld_0) (tb_V tw_2003 tw_2005 tw_92 tw_114 tw_2006) hdX12_hasBy ⟨rfl, rfl, Nat.le_of_ble_eq_true rfl, Nat.le_of_ble_eq_true rfl⟩ ⟨Nat.le_of_ble_eq_true rfl, Nat.le_of_ble_eq_true rfl⟩ rfl rfl rfl hl.1 rfl (Nat.le_of_ble_eq_true rfl) dX12_rests_138 (fun r_943 hr_943 => ?_)
              refine lv_icmp_lt (tgt := 148) hx hb dX12_rests_141 (by decide) (fun c_944 => ?_) (fun c_944 => ?_)
              · skip
                have b_946 := i32_bd r_941
                have b_947 := i32_bd r_943
                have k_945 := kk_lt rfl rfl c_944
                refine lv_iconst (v := 0) hx hb dX12_rests_148 (by decide) ?_
                refine lv_iadd hx hb dX12_rests_149 ?_
                refine lv_topi (fun x_948 ex_948 => ?_)
                have b_950 := i32_bd L3_828
                have k_949 := ar_add rfl zi_0 ex_948 (by omega) (by omega)
                refine lv_istore_n (lv' := [(3, .int x_948), (7, .int 1), (6, .int 0), (5, .int 1), (4, .int L4_828), (0, .ref h0), (1, .int p0), (2, .int p1)]) hx hb dX12_rests_150 rfl hl (by decide) rfl (fun ls hl => ?_)
                obtain ⟨x_951, ex_951⟩ : ∃ y : Int32, L4_828 + Int32.ofInt 1 = y := ⟨_, rfl⟩
                have k_952 := ar_add (b := 1) rfl zi_1 ex_951.symm (by omega) (by omega)
                refine lv_iinc (v := x_951) (lv' := [(4, .int x_951), (3, .int x_948), (7, .int 1), (6, .int 0), (5, .int 1), (0, .ref h0), (1, .int p0), (2, .int p1)]) hx hb dX12_rests_151 hl (k := 4) rfl ex_951 (by decide) rfl (fun ls hl => ?_)
                refine lv_goto (tgt := 29) hx hb dX12_rests_154 (by decide) ?_
                exact ih_828 (x_951, x_948) _ _ _ ⟨(show 0 ≤ x_951.toInt ∧ x_951.toInt ≤ 4 from by omega), rfl, rfl, lv_sub hl [0, 1, 5, 6, 7] rfl⟩ (by show (2147483647 - x_951.toInt).toNat < (2147483647 - L4_828.toInt).toNat; omega)
              · skip
                have b_954 := i32_bd r_941
                have b_955 := i32_bd r_943
                have k_953 := kk_nlt rfl rfl c_944
                refine lv_iconst (v := 1) hx hb dX12_rests_144 (by decide) ?_
                refine lv_goto (tgt := 149) hx hb dX12_rests_145 (by decide) ?_
                refine lv_iadd hx hb dX12_rests_149 ?_
                refine lv_topi (fun x_956 ex_956 => ?_)
                refine lv_istore_n (lv' := [(3, .int x_956), (7, .int 1), (6, .int 0), (5, .int 1), (4, .int L4_828), (0, .ref h0), (1, .int p0), (2, .int p1)]) hx hb dX12_rests_150 rfl hl (by decide) rfl (fun ls hl => ?_)
                obtain ⟨x_958, ex_958⟩ : ∃ y : Int32, L4_828 + Int32.ofInt 1 = y := ⟨_, rfl⟩
                have k_959 := ar_add (b := 1) rfl zi_1 ex_958.symm (by omega) (by omega)
                refine lv_iinc (v := x_958) (lv' := [(4, .int x_958), (3, .int x_956), (7, .int 1), (6, .int 0), (5, .int 1), (0, .ref h0), (1, .int p0), (2, .int p1)]) hx hb dX12_rests_151 hl (k := 4) rfl ex_958 (by decide) rfl (fun ls hl => ?_)
                refine lv_goto (tgt := 29) hx hb dX12_rests_154 (by decide) ?_
                exact ih_828 (x_958, x_956) _ _ _ ⟨(show 0 ≤ x_958.toInt ∧ x_958.toInt ≤ 4 from by omega), rfl, rfl, lv_sub hl [0, 1, 5, 6, 7] rfl⟩ (by show (2147483647 - x_958.toInt).toNat < (2147483647 - L4_828.toInt).toNat; omega)
          · skip
            have k_960 := kk_eq rfl zi_1 c_920
            refine lv_iconst (v := 1) hx hb dX12_rests_58 (by decide) ?_
            refine lv_goto (tgt := 63) hx hb dX12_rests_59 (by decide) ?_
            refine lv_istore (lv' := [(6, .int 1), (5, .int 1), (4, .int L4_828), (3, .int L3_828), (0, .ref h0), (1, .int p0), (2, .int p1)]) hx hb dX12_rests_63 hl (by decide) rfl (fun ls hl => ?_)
            refine lv_aload_n hx hb dX12_rests_65 rfl (lv_at hl 4 rfl) ?_
            refine lv_iload_n hx hb dX12_rests_66 rfl (lv_at hl 5 rfl) ?_
            refine lv_iconst (v := 0) hx hb dX12_rests_67 (by decide) ?_
            refine lv_iload hx hb dX12_rests_68 (lv_at hl 1 rfl) ?_
            refine lv_iload hx hb dX12_rests_70 (lv_at hl 0 rfl) ?_
            refine lv_iload_n hx hb dX12_rests_72 rfl (lv_at hl 6 rfl) ?_
            have z_961 := zi_0
            have z_962 := zi_1
            refine cpVi (rest := []) ⟨hx, hb, hml, hown, hts⟩ hKN (hP.sub (ws' := [(h0, .inr (12, [.int m_thrown, .ref m_qworld, .ref m_qimages, .ref m_qhasImage, .ref m_qtape, .int m_taped, .ref m_qfive, .int m_size, .int m_at, .int m_from, .int m_token, .int m_value, .int m_faultKind, .int m_faultPlace, .ref m_qfresh, .int m_startOne, .int m_startOther, .int m_latest, .int m_leftBeats, .int m_signed, .int m_metMany, .ref m_qsums, .ref m_qpairs, .ref m_qgoesWith, .ref m_qsaid, .int m_saidMany, .int m_firstWait, .ref m_qfirstOrder, .int m_bundleFirst, .ref m_qtiredBy, .int m_tiredMany, .ref m_qmany, .ref m_qwidth, .ref m_qnumbers, .ref m_qmoving])), (m_qworld, .inl (cA 1, 122, .inl m_cworld))]) [0, 1] rfl) (g_X12_hasBy l D cA h0 m_thrown m_qworld m_qimages m_qhasImage m_qtape m_taped m_qfive m_size m_at m_from m_token m_value m_faultKind m_faultPlace m_qfresh m_startOne m_startOther m_latest m_leftBeats m_signed m_metMany m_qsums m_qpairs m_qgoesWith m_qsaid m_saidMany m_firstWait m_qfirstOrder m_bundleFirst m_qtiredBy m_tiredMany m_qmany m_qwidth m_qnumbers m_qmoving m_cworld p0 0 1 1 p1 (by omega) (by omega) (by omega) (by omega) (by omega) (by omega) (by omega) (by decide) a_m_cworld_0) (tb_V tw_2003 tw_2005 tw_92 tw_114 tw_2006) hdX12_hasBy ⟨rfl, rfl, Nat.le_of_ble_eq_true rfl, Nat.le_of_ble_eq_true rfl⟩ ⟨Nat.le_of_ble_eq_true rfl, Nat.le_of_ble_eq_true rfl⟩ rfl rfl rfl hl.1 rfl (Nat.le_of_ble_eq_true rfl) dX12_rests_73 (fun r_963 hr_963 => ?_)
            refine lv_aload_n hx hb dX12_rests_76 rfl (lv_at hl 4 rfl) ?_
            refine lv_iload_n hx hb dX12_rests_77 rfl (lv_at hl 5 rfl) ?_
            refine lv_iconst (v := 0) hx hb dX12_rests_78 (by decide) ?_
            refine lv_iload hx hb dX12_rests_79 (lv_at hl 1 rfl) ?_
            refine lv_if_ne (tgt := 88) hx hb dX12_rests_81 (by decide) (fun c_964 => ?_) (fun c_964 => absurd c_964 (by decide))
            refine lv_iconst (v := 0) hx hb dX12_rests_88 (by decide) ?_
            refine lv_iload hx hb dX12_rests_89 (lv_at hl 0 rfl) ?_
            refine lv_iload_n hx hb dX12_rests_91 rfl (lv_at hl 6 rfl) ?_
            refine cpVi (rest := [.int r_963]) ⟨hx, hb, hml, hown, hts⟩ hKN (hP.sub (ws' := [(h0, .inr (12, [.int m_thrown, .ref m_qworld, .ref m_qimages, .ref m_qhasImage, .ref m_qtape, .int m_taped, .ref m_qfive, .int m_size, .int m_at, .int m_from, .int m_token, .int m_value, .int m_faultKind, .int m_faultPlace, .ref m_qfresh, .int m_startOne, .int m_startOther, .int m_latest, .int m_leftBeats, .int m_signed, .int m_metMany, .ref m_qsums, .ref m_qpairs, .ref m_qgoesWith, .ref m_qsaid, .int m_saidMany, .int m_firstWait, .ref m_qfirstOrder, .int m_bundleFirst, .ref m_qtiredBy, .int m_tiredMany, .ref m_qmany, .ref m_qwidth, .ref m_qnumbers, .ref m_qmoving])), (m_qworld, .inl (cA 1, 122, .inl m_cworld))]) [0, 1] rfl) (g_X12_hasBy l D cA h0 m_thrown m_qworld m_qimages m_qhasImage m_qtape m_taped m_qfive m_size m_at m_from m_token m_value m_faultKind m_faultPlace m_qfresh m_startOne m_startOther m_latest m_leftBeats m_signed m_metMany m_qsums m_qpairs m_qgoesWith m_qsaid m_saidMany m_firstWait m_qfirstOrder m_bundleFirst m_qtiredBy m_tiredMany m_qmany m_qwidth m_qnumbers m_qmoving m_cworld p0 0 0 1 p1 (by omega) (by omega) (by omega) (by omega) (by omega) (by omega) (by omega) (by decide) a_m_cworld_0) (tb_V tw_2003 tw_2005 tw_92 tw_114 tw_2006) hdX12_hasBy ⟨rfl, rfl, Nat.le_of_ble_eq_true rfl, Nat.le_of_ble_eq_true rfl⟩ ⟨Nat.le_of_ble_eq_true rfl, Nat.le_of_ble_eq_true rfl⟩ rfl rfl rfl hl.1 rfl (Nat.le_of_ble_eq_true rfl) dX12_rests_92 (fun r_965 hr_965 => ?_)
            refine lv_icmp_lt (tgt := 102) hx hb dX12_rests_95 (by decide) (fun c_966 => ?_) (fun c_966 => ?_)
            · skip
              have b_968 := i32_bd r_963
              have b_969 := i32_bd r_965
              have k_967 := kk_lt rfl rfl c_966
              refine lv_iconst (v := 0) hx hb dX12_rests_102 (by decide) ?_
              refine lv_istore (lv' := [(7, .int 0), (6, .int 1), (5, .int 1), (4, .int L4_828), (3, .int L3_828), (0, .ref h0), (1, .int p0), (2, .int p1)]) hx hb dX12_rests_103 hl (by decide) rfl (fun ls hl => ?_)
              refine lv_iload_n hx hb dX12_rests_105 rfl (lv_at hl 4 rfl) ?_
              refine lv_iload hx hb dX12_rests_106 (lv_at hl 0 rfl) ?_
              refine lv_if_eq (tgt := 148) hx hb dX12_rests_108 (by decide) (fun c_970 => ?_) (fun c_970 => absurd (by decide) c_970)
              refine lv_iconst (v := 0) hx hb dX12_rests_148 (by decide) ?_
              refine lv_iadd hx hb dX12_rests_149 ?_
              refine lv_topi (fun x_971 ex_971 => ?_)
              have b_973 := i32_bd L3_828
              have k_972 := ar_add rfl zi_0 ex_971 (by omega) (by omega)
              refine lv_istore_n (lv' := [(3, .int x_971), (7, .int 0), (6, .int 1), (5, .int 1), (4, .int L4_828), (0, .ref h0), (1, .int p0), (2, .int p1)]) hx hb dX12_rests_150 rfl hl (by decide) rfl (fun ls hl => ?_)
              obtain ⟨x_974, ex_974⟩ : ∃ y : Int32, L4_828 + Int32.ofInt 1 = y := ⟨_, rfl⟩
              have k_975 := ar_add (b := 1) rfl zi_1 ex_974.symm (by omega) (by omega)
              refine lv_iinc (v := x_974) (lv' := [(4, .int x_974), (3, .int x_971), (7, .int 0), (6, .int 1), (5, .int 1), (0, .ref h0), (1, .int p0), (2, .int p1)]) hx hb dX12_rests_151 hl (k := 4) rfl ex_974 (by decide) rfl (fun ls hl => ?_)
              refine lv_goto (tgt := 29) hx hb dX12_rests_154 (by decide) ?_
              exact ih_828 (x_974, x_971) _ _ _ ⟨(show 0 ≤ x_974.toInt ∧ x_974.toInt ≤ 4 from by omega), rfl, rfl, lv_sub hl [0, 1, 5, 6, 7] rfl⟩ (by show (2147483647 - x_974.toInt).toNat < (2147483647 - L4_828.toInt).toNat; omega)
            · skip
              have b_977 := i32_bd r_963
              have b_978 := i32_bd r_965
              have k_976 := kk_nlt rfl rfl c_966
              refine lv_iconst (v := 1) hx hb dX12_rests_98 (by decide) ?_
              refine lv_goto (tgt := 103) hx hb dX12_rests_99 (by decide) ?_
              refine lv_istore (lv' := [(7, .int 1), (6, .int 1), (5, .int 1), (4, .int L4_828), (3, .int L3_828), (0, .ref h0), (1, .int p0), (2, .int p1)]) hx hb dX12_rests_103 hl (by decide) rfl (fun ls hl => ?_)
              refine lv_iload_n hx hb dX12_rests_105 rfl (lv_at hl 4 rfl) ?_
              refine lv_iload hx hb dX12_rests_106 (lv_at hl 0 rfl) ?_
              refine lv_if_eq (tgt := 148) hx hb dX12_rests_108 (by decide) (fun c_979 => absurd c_979 (by decide)) (fun c_979 => ?_)
              refine lv_aload_n hx hb dX12_rests_111 rfl (lv_at hl 5 rfl) ?_
              refine lv_iload_n hx hb dX12_rests_112 rfl (lv_at hl 6 rfl) ?_
              refine lv_iconst (v := 1) hx hb dX12_rests_113 (by decide) ?_
              refine lv_iload hx hb dX12_rests_114 (lv_at hl 1 rfl) ?_
              refine lv_iload hx hb dX12_rests_116 (lv_at hl 2 rfl) ?_
              refine lv_iload_n hx hb dX12_rests_118 rfl (lv_at hl 7 rfl) ?_
              refine cpVi (rest := [.int L3_828]) ⟨hx, hb, hml, hown, hts⟩ hKN (hP.sub (ws' := [(h0, .inr (12, [.int m_thrown, .ref m_qworld, .ref m_qimages, .ref m_qhasImage, .ref m_qtape, .int m_taped, .ref m_qfive, .int m_size, .int m_at, .int m_from, .int m_token, .int m_value, .int m_faultKind, .int m_faultPlace, .ref m_qfresh, .int m_startOne, .int m_startOther, .int m_latest, .int m_leftBeats, .int m_signed, .int m_metMany, .ref m_qsums, .ref m_qpairs, .ref m_qgoesWith, .ref m_qsaid, .int m_saidMany, .int m_firstWait, .ref m_qfirstOrder, .int m_bundleFirst, .ref m_qtiredBy, .int m_tiredMany, .ref m_qmany, .ref m_qwidth, .ref m_qnumbers, .ref m_qmoving])), (m_qworld, .inl (cA 1, 122, .inl m_cworld))]) [0, 1] rfl) (g_X12_hasBy l D cA h0 m_thrown m_qworld m_qimages m_qhasImage m_qtape m_taped m_qfive m_size m_at m_from m_token m_value m_faultKind m_faultPlace m_qfresh m_startOne m_startOther m_latest m_leftBeats m_signed m_metMany m_qsums m_qpairs m_qgoesWith m_qsaid m_saidMany m_firstWait m_qfirstOrder m_bundleFirst m_qtiredBy m_tiredMany m_qmany m_qwidth m_qnumbers m_qmoving m_cworld p0 1 1 1 p1 (by omega) (by omega) (by omega) (by omega) (by omega) (by omega) (by omega) (by decide) a_m_cworld_0) (tb_V tw_2003 tw_2005 tw_92 tw_114 tw_2006) hdX12_hasBy ⟨rfl, rfl, Nat.le_of_ble_eq_true rfl, Nat.le_of_ble_eq_true rfl⟩ ⟨Nat.le_of_ble_eq_true rfl, Nat.le_of_ble_eq_true rfl⟩ rfl rfl rfl hl.1 rfl (Nat.le_of_ble_eq_true rfl) dX12_rests_119 (fun r_980 hr_980 => ?_)
              refine lv_aload_n hx hb dX12_rests_122 rfl (lv_at hl 5 rfl) ?_
              refine lv_iload_n hx hb dX12_rests_123 rfl (lv_at hl 6 rfl) ?_
              refine lv_iconst (v := 1) hx hb dX12_rests_124 (by decide) ?_
              refine lv_iload hx hb dX12_rests_125 (lv_at hl 1 rfl) ?_
              refine lv_if_ne (tgt := 134) hx hb dX12_rests_127 (by decide) (fun c_981 => ?_) (fun c_981 => absurd c_981 (by decide))
              refine lv_iconst (v := 0) hx hb dX12_rests_134 (by decide) ?_
              refine lv_iload hx hb dX12_rests_135 (lv_at hl 2 rfl) ?_
              refine lv_iload_n hx hb dX12_rests_137 rfl (lv_at hl 7 rfl) ?_
              refine cpVi (rest := [.int r_980, .int L3_828]) ⟨hx, hb, hml, hown, hts⟩ hKN (hP.sub (ws' := [(h0, .inr (12, [.int m_thrown, .ref m_qworld, .ref m_qimages, .ref m_qhasImage, .ref m_qtape, .int m_taped, .ref m_qfive, .int m_size, .int m_at, .int m_from, .int m_token, .int m_value, .int m_faultKind, .int m_faultPlace, .ref m_qfresh, .int m_startOne, .int m_startOther, .int m_latest, .int m_leftBeats, .int m_signed, .int m_metMany, .ref m_qsums, .ref m_qpairs, .ref m_qgoesWith, .ref m_qsaid, .int m_saidMany, .int m_firstWait, .ref m_qfirstOrder, .int m_bundleFirst, .ref m_qtiredBy, .int m_tiredMany, .ref m_qmany, .ref m_qwidth, .ref m_qnumbers, .ref m_qmoving])), (m_qworld, .inl (cA 1, 122, .inl m_cworld))]) [0, 1] rfl) (g_X12_hasBy l D cA h0 m_thrown m_qworld m_qimages m_qhasImage m_qtape m_taped m_qfive m_size m_at m_from m_token m_value m_faultKind m_faultPlace m_qfresh m_startOne m_startOther m_latest m_leftBeats m_signed m_metMany m_qsums m_qpairs m_qgoesWith m_qsaid m_saidMany m_firstWait m_qfirstOrder m_bundleFirst m_qtiredBy m_tiredMany m_qmany m_qwidth m_qnumbers m_qmoving m_cworld p0 1 0 1 p1 (by omega) (by omega) (by omega) (by omega) (by omega) (by omega) (by omega) (by decide) a_m_cworld_0) (tb_V tw_2003 tw_2005 tw_92 tw_114 tw_2006) hdX12_hasBy ⟨rfl, rfl, Nat.le_of_ble_eq_true rfl, Nat.le_of_ble_eq_true rfl⟩ ⟨Nat.le_of_ble_eq_true rfl, Nat.le_of_ble_eq_true rfl⟩ rfl rfl rfl hl.1 rfl (Nat.le_of_ble_eq_true rfl) dX12_rests_138 (fun r_982 hr_982 => ?_)
              refine lv_icmp_lt (tgt := 148) hx hb dX12_rests_141 (by decide) (fun c_983 => ?_) (fun c_983 => ?_)
              · skip
                have b_985 := i32_bd r_980
                have b_986 := i32_bd r_982
                have k_984 := kk_lt rfl rfl c_983
                refine lv_iconst (v := 0) hx hb dX12_rests_148 (by decide) ?_
                refine lv_iadd hx hb dX12_rests_149 ?_
                refine lv_topi (fun x_987 ex_987 => ?_)
                have b_989 := i32_bd L3_828
                have k_988 := ar_add rfl zi_0 ex_987 (by omega) (by omega)
                refine lv_istore_n (lv' := [(3, .int x_987), (7, .int 1), (6, .int 1), (5, .int 1), (4, .int L4_828), (0, .ref h0), (1, .int p0), (2, .int p1)]) hx hb dX12_rests_150 rfl hl (by decide) rfl (fun ls hl => ?_)
                obtain ⟨x_990, ex_990⟩ : ∃ y : Int32, L4_828 + Int32.ofInt 1 = y := ⟨_, rfl⟩
                have k_991 := ar_add (b := 1) rfl zi_1 ex_990.symm (by omega) (by omega)
                refine lv_iinc (v := x_990) (lv' := [(4, .int x_990), (3, .int x_987), (7, .int 1), (6, .int 1), (5, .int 1), (0, .ref h0), (1, .int p0), (2, .int p1)]) hx hb dX12_rests_151 hl (k := 4) rfl ex_990 (by decide) rfl (fun ls hl => ?_)
                refine lv_goto (tgt := 29) hx hb dX12_rests_154 (by decide) ?_
                exact ih_828 (x_990, x_987) _ _ _ ⟨(show 0 ≤ x_990.toInt ∧ x_990.toInt ≤ 4 from by omega), rfl, rfl, lv_sub hl [0, 1, 5, 6, 7] rfl⟩ (by show (2147483647 - x_990.toInt).toNat < (2147483647 - L4_828.toInt).toNat; omega)
              · skip
                have b_993 := i32_bd r_980
                have b_994 := i32_bd r_982
                have k_992 := kk_nlt rfl rfl c_983
                refine lv_iconst (v := 1) hx hb dX12_rests_144 (by decide) ?_
                refine lv_goto (tgt := 149) hx hb dX12_rests_145 (by decide) ?_
                refine lv_iadd hx hb dX12_rests_149 ?_
                refine lv_topi (fun x_995 ex_995 => ?_)
                refine lv_istore_n (lv' := [(3, .int x_995), (7, .int 1), (6, .int 1), (5, .int 1), (4, .int L4_828), (0, .ref h0), (1, .int p0), (2, .int p1)]) hx hb dX12_rests_150 rfl hl (by decide) rfl (fun ls hl => ?_)
                obtain ⟨x_997, ex_997⟩ : ∃ y : Int32, L4_828 + Int32.ofInt 1 = y := ⟨_, rfl⟩
                have k_998 := ar_add (b := 1) rfl zi_1 ex_997.symm (by omega) (by omega)
                refine lv_iinc (v := x_997) (lv' := [(4, .int x_997), (3, .int x_995), (7, .int 1), (6, .int 1), (5, .int 1), (0, .ref h0), (1, .int p0), (2, .int p1)]) hx hb dX12_rests_151 hl (k := 4) rfl ex_997 (by decide) rfl (fun ls hl => ?_)
                refine lv_goto (tgt := 29) hx hb dX12_rests_154 (by decide) ?_
                exact ih_828 (x_997, x_995) _ _ _ ⟨(show 0 ≤ x_997.toInt ∧ x_997.toInt ≤ 4 from by omega), rfl, rfl, lv_sub hl [0, 1, 5, 6, 7] rfl⟩ (by show (2147483647 - x_997.toInt).toNat < (2147483647 - L4_828.toInt).toNat; omega)
    · skip
      refine lv_if_ne (tgt := 24) hx hb dX12_rests_18 (by decide) (fun c_999 => absurd (by decide) c_999) (fun c_999 => ?_)
      refine lv_bipush (v := (-2)) hx hb dX12_rests_21 (by decide) ?_
      exact W.iret (v := (-2)) hx hb hr (fun t ht hW => ⟨(-2), rfl, trivial, ht⟩) (fun _ h => by cases h) dX12_rests_23
  · skip
    refine lv_if_eq (tgt := 21) hx hb dX12_rests_6 (by decide) (fun c_1000 => ?_) (fun c_1000 => absurd (by decide) c_1000)
    refine lv_bipush (v := (-2)) hx hb dX12_rests_21 (by decide) ?_
    exact W.iret (v := (-2)) hx hb hr (fun t ht hW => ⟨(-2), rfl, trivial, ht⟩) (fun _ h => by cases h) dX12_rests_23
set_option maxHeartbeats 8000000 in
set_option maxRecDepth 100000 in
theorem g_X12_stands (l : Launch) (D : va_G) (cA : Nat → ClassId) (h0 : Nat) (m_thrown : Int32) (m_qworld : Nat) (m_qimages : Nat) (m_qhasImage : Nat) (m_qtape : Nat) (m_taped : Int32) (m_qfive : Nat) (m_size : Int32) (m_at : Int32) (m_from : Int32) (m_token : Int32) (m_value : Int32) (m_faultKind : Int32) (m_faultPlace : Int32) (m_qfresh : Nat) (m_startOne : Int32) (m_startOther : Int32) (m_latest : Int32) (m_leftBeats : Int32) (m_signed : Int32) (m_metMany : Int32) (m_qsums : Nat) (m_qpairs : Nat) (m_qgoesWith : Nat) (m_qsaid : Nat) (m_saidMany : Int32) (m_firstWait : Int32) (m_qfirstOrder : Nat) (m_bundleFirst : Int32) (m_qtiredBy : Nat) (m_tiredMany : Int32) (m_qmany : Nat) (m_qwidth : Nat) (m_qnumbers : Nat) (m_qmoving : Nat) (m_cworld : Nat → Int32) (h_m_taped : 0 ≤ (m_taped : Int32).toInt ∧ (m_taped : Int32).toInt ≤ 800) (h_m_size : 0 ≤ (m_size : Int32).toInt ∧ (m_size : Int32).toInt ≤ 800) (h_m_at : 0 ≤ (m_at : Int32).toInt ∧ (m_at : Int32).toInt ≤ 800) (h_m_from : 0 ≤ (m_from : Int32).toInt ∧ (m_from : Int32).toInt ≤ 800) (h_m_saidMany : 0 ≤ (m_saidMany : Int32).toInt ∧ (m_saidMany : Int32).toInt ≤ 60) (h_m_tiredMany : 0 ≤ (m_tiredMany : Int32).toInt ∧ (m_tiredMany : Int32).toInt ≤ 240) (a_m_cworld_0 : WI m_cworld) : Met l yX12_stands (Cond.code yX12_stands cX12_stands 3 (some .int) :: TB) (rmd 1 0 0) (PP D cA [(h0, .inr (12, [.int m_thrown, .ref m_qworld, .ref m_qimages, .ref m_qhasImage, .ref m_qtape, .int m_taped, .ref m_qfive, .int m_size, .int m_at, .int m_from, .int m_token, .int m_value, .int m_faultKind, .int m_faultPlace, .ref m_qfresh, .int m_startOne, .int m_startOther, .int m_latest, .int m_leftBeats, .int m_signed, .int m_metMany, .ref m_qsums, .ref m_qpairs, .ref m_qgoesWith, .ref m_qsaid, .int m_saidMany, .int m_firstWait, .ref m_qfirstOrder, .int m_bundleFirst, .ref m_qtiredBy, .int m_tiredMany, .ref m_qmany, .ref m_qwidth, .ref m_qnumbers, .ref m_qmoving])), (m_qworld, .inl (cA 1, 122, .inl m_cworld))] [.ref h0]) (vp_Si (fun r => -2 ≤ r.toInt ∧ r.toInt ≤ 127)) 0 0 (fun _ => False) := by
  refine Met.ofW (cc := cX12_stands) (maxL := 3) (ret := (some .int)) (by decide) rfl ?_
  intro p e s m args below meth c s₁ B hml hv
  obtain ⟨rfl, hP, hKN⟩ := hv
  have hx := B.exec
  have hb := B.bytes
  have hr := B.returns
  have hts : ∀ w ∈ TB, w.before _ s = true := fun w h => atoms_spec B.pre w (List.mem_cons_of_mem _ h)
  have hown : s.vm.findClass RX12 = some m.cls := findClass_of_methodNamed B.named
  have hlocks := B.notSynchronized
  have hl := lv_entry ([.ref h0]) (n := 3) (Nat.le_of_ble_eq_true rfl)
  rw [lg_entry_eq]
  generalize (lg_sl ([.ref h0]) ++ List.replicate (3 - (lg_sl ([.ref h0])).length) Slot.unset).toArray = ls at hl ⊢
  have hl : lv_has ls 3 [(0, .ref h0)] := hl
  refine lv_aload_n hx hb dX12_stands_0 rfl (lv_at hl 0 rfl) ?_
  refine cpVi (rest := []) ⟨hx, hb, hml, hown, hts⟩ hKN (hP.sub (ws' := [(h0, .inr (12, [.int m_thrown, .ref m_qworld, .ref m_qimages, .ref m_qhasImage, .ref m_qtape, .int m_taped, .ref m_qfive, .int m_size, .int m_at, .int m_from, .int m_token, .int m_value, .int m_faultKind, .int m_faultPlace, .ref m_qfresh, .int m_startOne, .int m_startOther, .int m_latest, .int m_leftBeats, .int m_signed, .int m_metMany, .ref m_qsums, .ref m_qpairs, .ref m_qgoesWith, .ref m_qsaid, .int m_saidMany, .int m_firstWait, .ref m_qfirstOrder, .int m_bundleFirst, .ref m_qtiredBy, .int m_tiredMany, .ref m_qmany, .ref m_qwidth, .ref m_qnumbers, .ref m_qmoving])), (m_qworld, .inl (cA 1, 122, .inl m_cworld))]) [0, 1] rfl) (g_X12_isGorge l D cA h0 m_thrown m_qworld m_qimages m_qhasImage m_qtape m_taped m_qfive m_size m_at m_from m_token m_value m_faultKind m_faultPlace m_qfresh m_startOne m_startOther m_latest m_leftBeats m_signed m_metMany m_qsums m_qpairs m_qgoesWith m_qsaid m_saidMany m_firstWait m_qfirstOrder m_bundleFirst m_qtiredBy m_tiredMany m_qmany m_qwidth m_qnumbers m_qmoving m_cworld (by omega) (by omega) (by omega) (by omega) (by omega) (by omega) a_m_cworld_0) (tb_V tw_1664 tw_1666 tw_54 tw_114 tw_1667) hdX12_isGorge ⟨rfl, rfl, Nat.le_of_ble_eq_true rfl, Nat.le_of_ble_eq_true rfl⟩ ⟨Nat.le_of_ble_eq_true rfl, Nat.le_of_ble_eq_true rfl⟩ rfl rfl rfl hl.1 rfl (Nat.le_of_ble_eq_true rfl) dX12_stands_1 (fun r_1 hr_1 => ?_)
  rcases hr_1 with ⟨k_1_0_0, k_1_0_1, k_1_0_2, k_1_0_3, rfl⟩ | rfl
  · skip
    refine lv_if_ne (tgt := 10) hx hb dX12_stands_4 (by decide) (fun c_2 => ?_) (fun c_2 => absurd c_2 (by decide))
    refine lv_iconst (v := 0) hx hb dX12_stands_10 (by decide) ?_
    refine lv_istore_n (lv' := [(1, .int 0), (0, .ref h0)]) hx hb dX12_stands_11 rfl hl (by decide) rfl (fun ls hl => ?_)
    refine lv_iconst (v := 0) hx hb dX12_stands_12 (by decide) ?_
    refine lv_istore_n (lv' := [(2, .int 0), (1, .int 0), (0, .ref h0)]) hx hb dX12_stands_13 rfl hl (by decide) rfl (fun ls hl => ?_)
    refine loopW (σ := Int32 × Int32) (fun _ => []) (fun ⟨L2_177, L1_177⟩ H locs ls => (0 ≤ L2_177.toInt ∧ L2_177.toInt ≤ 7) ∧ (0 ≤ L1_177.toInt ∧ L1_177.toInt ≤ 127) ∧ H = s.heap ∧ locs = [] ∧ lv_has ls 3 [(2, .int L2_177), (1, .int L1_177), (0, .ref h0)]) (fun ⟨L2_177, L1_177⟩ => (2147483647 - L2_177.toInt).toNat) ?_ ((0, 0) : Int32 × Int32) ⟨(by decide), (by decide), rfl, rfl, hl⟩
    intro x_177 H locs ls hI_177 ih_177
    obtain ⟨L2_177, L1_177⟩ := x_177
    obtain ⟨k0_177, k1_177, rfl, rfl, hl⟩ := hI_177
    have hl : lv_has ls 3 [(2, .int L2_177), (1, .int L1_177), (0, .ref h0)] := hl
    refine lv_iload_n hx hb dX12_stands_14 rfl (lv_at hl 0 rfl) ?_
    refine lv_aload_n hx hb dX12_stands_15 rfl (lv_at hl 2 rfl) ?_
    refine va_get (D := D) (ci := 12) (v := .ref m_qworld) (C := RX12) (T := TX12) (N := 35) hx hb hts inX12 hown hKN.1 hP 0 rfl rfl 1 (by decide) (hts _ tw_1420) (fun _ h9 => h9) rfl dX12_stands_16 ?_
    refine lv_iconst (v := 5) hx hb dX12_stands_19 (by decide) ?_
    refine va_iald hx hb hKN.1 hP 1 1 rfl rfl (by unfold vp_in; decide) dX12_stands_20 ?_
    refine W.eq (g2 := F0 m 21 ls [.int (m_cworld 5), .int L2_177]) rfl ?_
    have k_178 := a_m_cworld_0.1.1.2.2.2.2.1 (5) (by decide) (by decide)
    refine lv_icmp_ge (tgt := 58) hx hb dX12_stands_21 (by decide) (fun c_179 => ?_) (fun c_179 => ?_)
    · skip
      have k_180 := kk_le rfl rfl c_179
      refine lv_iload_n hx hb dX12_stands_58 rfl (lv_at hl 1 rfl) ?_
      exact W.iret (v := L1_177) hx hb hr (fun t ht hW => ⟨L1_177, rfl, (show -2 ≤ L1_177.toInt ∧ L1_177.toInt ≤ 127 from by omega), ht⟩) (fun _ h => by cases h) dX12_stands_59
    · skip
      have k_181 := kk_nle rfl rfl c_179
      refine lv_iload_n hx hb dX12_stands_24 rfl (lv_at hl 1 rfl) ?_
      refine lv_aload_n hx hb dX12_stands_25 rfl (lv_at hl 2 rfl) ?_
      refine lv_iload_n hx hb dX12_stands_26 rfl (lv_at hl 0 rfl) ?_
      refine lv_iconst (v := 1) hx hb dX12_stands_27 (by decide) ?_
      have z_182 := zi_1
      refine cpVi (rest := [.int L1_177]) ⟨hx, hb, hml, hown, hts⟩ hKN (hP.sub (ws' := [(h0, .inr (12, [.int m_thrown, .ref m_qworld, .ref m_qimages, .ref m_qhasImage, .ref m_qtape, .int m_taped, .ref m_qfive, .int m_size, .int m_at, .int m_from, .int m_token, .int m_value, .int m_faultKind, .int m_faultPlace, .ref m_qfresh, .int m_startOne, .int m_startOther, .int m_latest, .int m_leftBeats, .int m_signed, .int m_metMany, .ref m_qsums, .ref m_qpairs, .ref m_qgoesWith, .ref m_qsaid, .int m_saidMany, .int m_firstWait, .ref m_qfirstOrder, .int m_bundleFirst, .ref m_qtiredBy, .int m_tiredMany, .ref m_qmany, .ref m_qwidth, .ref m_qnumbers, .ref m_qmoving])), (m_qworld, .inl (cA 1, 122, .inl m_cworld))]) [0, 1] rfl) (g_X12_ofClause l D cA h0 m_thrown m_qworld m_qimages m_qhasImage m_qtape m_taped m_qfive m_size m_at m_from m_token m_value m_faultKind m_faultPlace m_qfresh m_startOne m_startOther m_latest m_leftBeats m_signed m_metMany m_qsums m_qpairs m_qgoesWith m_qsaid m_saidMany m_firstWait m_qfirstOrder m_bundleFirst m_qtiredBy m_tiredMany m_qmany m_qwidth m_qnumbers m_qmoving m_cworld L2_177 1 (by omega) (by omega) (by omega) (by omega) (by omega) (by omega) (by omega) (by decide) a_m_cworld_0) (tb_V tw_1652 tw_1654 tw_52 tw_114 tw_1655) hdX12_ofClause ⟨rfl, rfl, Nat.le_of_ble_eq_true rfl, Nat.le_of_ble_eq_true rfl⟩ ⟨Nat.le_of_ble_eq_true rfl, Nat.le_of_ble_eq_true rfl⟩ rfl rfl rfl hl.1 rfl (Nat.le_of_ble_eq_true rfl) dX12_stands_28 (fun r_183 hr_183 => ?_)
      refine lv_if_lt (tgt := 49) hx hb dX12_stands_31 (by decide) (fun c_184 => ?_) (fun c_184 => ?_)
      · skip
        have k_185 := kk_lt rfl zi_0 c_184
        refine lv_iconst (v := 0) hx hb dX12_stands_49 (by decide) ?_
        refine lv_ior hx hb dX12_stands_50 ?_
        refine lv_topi (fun x_186 ex_186 => ?_)
        have k_187 := ar_or (n := 7) (M := 128) rfl zi_0 ex_186 (by decide) (by decide) (by omega) (by omega)
        refine lv_istore_n (lv' := [(1, .int x_186), (2, .int L2_177), (0, .ref h0)]) hx hb dX12_stands_51 rfl hl (by decide) rfl (fun ls hl => ?_)
        obtain ⟨x_188, ex_188⟩ : ∃ y : Int32, L2_177 + Int32.ofInt 1 = y := ⟨_, rfl⟩
        have k_189 := ar_add (b := 1) rfl zi_1 ex_188.symm (by omega) (by omega)
        refine lv_iinc (v := x_188) (lv' := [(2, .int x_188), (1, .int x_186), (0, .ref h0)]) hx hb dX12_stands_52 hl (k := 1) rfl ex_188 (by decide) rfl (fun ls hl => ?_)
        refine lv_goto (tgt := 14) hx hb dX12_stands_55 (by decide) ?_
        exact ih_177 (x_188, x_186) _ _ _ ⟨(show 0 ≤ x_188.toInt ∧ x_188.toInt ≤ 7 from by omega), (show 0 ≤ x_186.toInt ∧ x_186.toInt ≤ 127 from by omega), rfl, rfl, lv_sub hl [0, 1, 2] rfl⟩ (by show (2147483647 - x_188.toInt).toNat < (2147483647 - L2_177.toInt).toNat; omega)
      · skip
        have k_190 := kk_nlt rfl zi_0 c_184
        refine lv_aload_n hx hb dX12_stands_34 rfl (lv_at hl 2 rfl) ?_
        refine lv_iload_n hx hb dX12_stands_35 rfl (lv_at hl 0 rfl) ?_
        refine lv_iconst (v := 2) hx hb dX12_stands_36 (by decide) ?_
        have z_191 := zi_2
        refine cpVi (rest := [.int L1_177]) ⟨hx, hb, hml, hown, hts⟩ hKN (hP.sub (ws' := [(h0, .inr (12, [.int m_thrown, .ref m_qworld, .ref m_qimages, .ref m_qhasImage, .ref m_qtape, .int m_taped, .ref m_qfive, .int m_size, .int m_at, .int m_from, .int m_token, .int m_value, .int m_faultKind, .int m_faultPlace, .ref m_qfresh, .int m_startOne, .int m_startOther, .int m_latest, .int m_leftBeats, .int m_signed, .int m_metMany, .ref m_qsums, .ref m_qpairs, .ref m_qgoesWith, .ref m_qsaid, .int m_saidMany, .int m_firstWait, .ref m_qfirstOrder, .int m_bundleFirst, .ref m_qtiredBy, .int m_tiredMany, .ref m_qmany, .ref m_qwidth, .ref m_qnumbers, .ref m_qmoving])), (m_qworld, .inl (cA 1, 122, .inl m_cworld))]) [0, 1] rfl) (g_X12_ofClause l D cA h0 m_thrown m_qworld m_qimages m_qhasImage m_qtape m_taped m_qfive m_size m_at m_from m_token m_value m_faultKind m_faultPlace m_qfresh m_startOne m_startOther m_latest m_leftBeats m_signed m_metMany m_qsums m_qpairs m_qgoesWith m_qsaid m_saidMany m_firstWait m_qfirstOrder m_bundleFirst m_qtiredBy m_tiredMany m_qmany m_qwidth m_qnumbers m_qmoving m_cworld L2_177 2 (by omega) (by omega) (by omega) (by omega) (by omega) (by omega) (by omega) (by decide) a_m_cworld_0) (tb_V tw_1652 tw_1654 tw_52 tw_114 tw_1655) hdX12_ofClause ⟨rfl, rfl, Nat.le_of_ble_eq_true rfl, Nat.le_of_ble_eq_true rfl⟩ ⟨Nat.le_of_ble_eq_true rfl, Nat.le_of_ble_eq_true rfl⟩ rfl rfl rfl hl.1 rfl (Nat.le_of_ble_eq_true rfl) dX12_stands_37 (fun r_192 hr_192 => ?_)
        refine lv_if_lt (tgt := 49) hx hb dX12_stands_40 (by decide) (fun c_193 => ?_) (fun c_193 => ?_)
        · skip
          have k_194 := kk_lt rfl zi_0 c_193
          refine lv_iconst (v := 0) hx hb dX12_stands_49 (by decide) ?_
          refine lv_ior hx hb dX12_stands_50 ?_
          refine lv_topi (fun x_195 ex_195 => ?_)
          have k_196 := ar_or (n := 7) (M := 128) rfl zi_0 ex_195 (by decide) (by decide) (by omega) (by omega)
          refine lv_istore_n (lv' := [(1, .int x_195), (2, .int L2_177), (0, .ref h0)]) hx hb dX12_stands_51 rfl hl (by decide) rfl (fun ls hl => ?_)
          obtain ⟨x_197, ex_197⟩ : ∃ y : Int32, L2_177 + Int32.ofInt 1 = y := ⟨_, rfl⟩
          have k_198 := ar_add (b := 1) rfl zi_1 ex_197.symm (by omega) (by omega)
          refine lv_iinc (v := x_197) (lv' := [(2, .int x_197), (1, .int x_195), (0, .ref h0)]) hx hb dX12_stands_52 hl (k := 1) rfl ex_197 (by decide) rfl (fun ls hl => ?_)
          refine lv_goto (tgt := 14) hx hb dX12_stands_55 (by decide) ?_
          exact ih_177 (x_197, x_195) _ _ _ ⟨(show 0 ≤ x_197.toInt ∧ x_197.toInt ≤ 7 from by omega), (show 0 ≤ x_195.toInt ∧ x_195.toInt ≤ 127 from by omega), rfl, rfl, lv_sub hl [0, 1, 2] rfl⟩ (by show (2147483647 - x_197.toInt).toNat < (2147483647 - L2_177.toInt).toNat; omega)
        · skip
          have k_199 := kk_nlt rfl zi_0 c_193
          refine lv_iconst (v := 1) hx hb dX12_stands_43 (by decide) ?_
          refine lv_iload_n hx hb dX12_stands_44 rfl (lv_at hl 0 rfl) ?_
          refine lv_ishl hx hb dX12_stands_45 ?_
          refine lv_topi (fun x_200 ex_200 => ?_)
          have k_201 := ar_shl1 ex_200 (by omega) (by omega)
          refine lv_goto (tgt := 50) hx hb dX12_stands_46 (by decide) ?_
          refine lv_ior hx hb dX12_stands_50 ?_
          refine lv_topi (fun x_202 ex_202 => ?_)
          have k_203 := ar_or (n := 7) (M := 128) rfl rfl ex_202 (by decide) (by decide) (by omega) (by omega)
          refine lv_istore_n (lv' := [(1, .int x_202), (2, .int L2_177), (0, .ref h0)]) hx hb dX12_stands_51 rfl hl (by decide) rfl (fun ls hl => ?_)
          obtain ⟨x_204, ex_204⟩ : ∃ y : Int32, L2_177 + Int32.ofInt 1 = y := ⟨_, rfl⟩
          have k_205 := ar_add (b := 1) rfl zi_1 ex_204.symm (by omega) (by omega)
          refine lv_iinc (v := x_204) (lv' := [(2, .int x_204), (1, .int x_202), (0, .ref h0)]) hx hb dX12_stands_52 hl (k := 1) rfl ex_204 (by decide) rfl (fun ls hl => ?_)
          refine lv_goto (tgt := 14) hx hb dX12_stands_55 (by decide) ?_
          exact ih_177 (x_204, x_202) _ _ _ ⟨(show 0 ≤ x_204.toInt ∧ x_204.toInt ≤ 7 from by omega), (show 0 ≤ x_202.toInt ∧ x_202.toInt ≤ 127 from by omega), rfl, rfl, lv_sub hl [0, 1, 2] rfl⟩ (by show (2147483647 - x_204.toInt).toNat < (2147483647 - L2_177.toInt).toNat; omega)
  · skip
    refine lv_if_ne (tgt := 10) hx hb dX12_stands_4 (by decide) (fun c_206 => absurd (by decide) c_206) (fun c_206 => ?_)
    refine lv_bipush (v := (-2)) hx hb dX12_stands_7 (by decide) ?_
    exact W.iret (v := (-2)) hx hb hr (fun t ht hW => ⟨(-2), rfl, (show -2 ≤ ((-2) : Int32).toInt ∧ ((-2) : Int32).toInt ≤ 127 from by decide), ht⟩) (fun _ h => by cases h) dX12_stands_9
set_option maxHeartbeats 8000000 in
set_option maxRecDepth 100000 in
theorem g_X12_goDrawn (l : Launch) (D : va_G) (cA : Nat → ClassId) (h0 : Nat) (m_thrown : Int32) (m_qworld : Nat) (m_qimages : Nat) (m_qhasImage : Nat) (m_qtape : Nat) (m_taped : Int32) (m_qfive : Nat) (m_size : Int32) (m_at : Int32) (m_from : Int32) (m_token : Int32) (m_value : Int32) (m_faultKind : Int32) (m_faultPlace : Int32) (m_qfresh : Nat) (m_startOne : Int32) (m_startOther : Int32) (m_latest : Int32) (m_leftBeats : Int32) (m_signed : Int32) (m_metMany : Int32) (m_qsums : Nat) (m_qpairs : Nat) (m_qgoesWith : Nat) (m_qsaid : Nat) (m_saidMany : Int32) (m_firstWait : Int32) (m_qfirstOrder : Nat) (m_bundleFirst : Int32) (m_qtiredBy : Nat) (m_tiredMany : Int32) (m_qmany : Nat) (m_qwidth : Nat) (m_qnumbers : Nat) (m_qmoving : Nat) (m_cworld : Nat → Int32) (p0 : Int64) (p1 : Int32) (p2 : Int32) (h_m_taped : 0 ≤ (m_taped : Int32).toInt ∧ (m_taped : Int32).toInt ≤ 800) (h_m_size : 0 ≤ (m_size : Int32).toInt ∧ (m_size : Int32).toInt ≤ 800) (h_m_at : 0 ≤ (m_at : Int32).toInt ∧ (m_at : Int32).toInt ≤ 800) (h_m_from : 0 ≤ (m_from : Int32).toInt ∧ (m_from : Int32).toInt ≤ 800) (h_m_saidMany : 0 ≤ (m_saidMany : Int32).toInt ∧ (m_saidMany : Int32).toInt ≤ 60) (h_m_tiredMany : 0 ≤ (m_tiredMany : Int32).toInt ∧ (m_tiredMany : Int32).toInt ≤ 240) (h_p1 : 0 ≤ (p1 : Int32).toInt ∧ (p1 : Int32).toInt ≤ 7) (h_p2 : 0 ≤ (p2 : Int32).toInt ∧ (p2 : Int32).toInt ≤ 7) (a_m_cworld_0 : WI m_cworld) : Met l yX12_goDrawn (Cond.code yX12_goDrawn cX12_goDrawn 8 (some .int) :: TB) (rmd 4 0 0) (PP D cA [(h0, .inr (12, [.int m_thrown, .ref m_qworld, .ref m_qimages, .ref m_qhasImage, .ref m_qtape, .int m_taped, .ref m_qfive, .int m_size, .int m_at, .int m_from, .int m_token, .int m_value, .int m_faultKind, .int m_faultPlace, .ref m_qfresh, .int m_startOne, .int m_startOther, .int m_latest, .int m_leftBeats, .int m_signed, .int m_metMany, .ref m_qsums, .ref m_qpairs, .ref m_qgoesWith, .ref m_qsaid, .int m_saidMany, .int m_firstWait, .ref m_qfirstOrder, .int m_bundleFirst, .ref m_qtiredBy, .int m_tiredMany, .ref m_qmany, .ref m_qwidth, .ref m_qnumbers, .ref m_qmoving])), (m_qworld, .inl (cA 1, 122, .inl m_cworld))] [.ref h0, .long p0, .int p1, .int p2]) (vp_Si (fun r => 0 ≤ r.toInt)) 0 0 (fun _ => False) := by
  refine Met.ofW (cc := cX12_goDrawn) (maxL := 8) (ret := (some .int)) (by decide) rfl ?_
  intro p e s m args below meth c s₁ B hml hv
  obtain ⟨rfl, hP, hKN⟩ := hv
  have hx := B.exec
  have hb := B.bytes
  have hr := B.returns
  have hts : ∀ w ∈ TB, w.before _ s = true := fun w h => atoms_spec B.pre w (List.mem_cons_of_mem _ h)
  have hown : s.vm.findClass RX12 = some m.cls := findClass_of_methodNamed B.named
  have hlocks := B.notSynchronized
  have hl := lv_entry ([.ref h0, .long p0, .int p1, .int p2]) (n := 8) (Nat.le_of_ble_eq_true rfl)
  rw [lg_entry_eq]
  generalize (lg_sl ([.ref h0, .long p0, .int p1, .int p2]) ++ List.replicate (8 - (lg_sl ([.ref h0, .long p0, .int p1, .int p2])).length) Slot.unset).toArray = ls at hl ⊢
  have hl : lv_has ls 8 [(0, .ref h0), (1, .long p0), (3, .int p1), (4, .int p2)] := hl
  refine lv_lload_n hx hb dX12_goDrawn_0 rfl (lv_at hl 1 rfl) ?_
  refine lv_lstore (lv' := [(5, .long p0), (0, .ref h0), (1, .long p0), (3, .int p1), (4, .int p2)]) hx hb dX12_goDrawn_1 hl (by decide) rfl (fun ls hl => ?_)
  refine lv_iconst (v := 0) hx hb dX12_goDrawn_3 (by decide) ?_
  refine lv_istore (lv' := [(7, .int 0), (5, .long p0), (0, .ref h0), (1, .long p0), (3, .int p1), (4, .int p2)]) hx hb dX12_goDrawn_4 hl (by decide) rfl (fun ls hl => ?_)
  have b_90 := i64_bd p0
  refine loopW (σ := Int32 × Int64) (fun _ => []) (fun ⟨L7_89, L5_89⟩ H locs ls => (0 ≤ L7_89.toInt) ∧ H = s.heap ∧ locs = [] ∧ lv_has ls 8 [(7, .int L7_89), (5, .long L5_89), (0, .ref h0), (1, .long p0), (3, .int p1), (4, .int p2)]) (fun ⟨L7_89, L5_89⟩ => (2147483647 - L7_89.toInt).toNat) ?_ ((0, p0) : Int32 × Int64) ⟨(by decide), rfl, rfl, hl⟩
  intro x_89 H locs ls hI_89 ih_89
  obtain ⟨L7_89, L5_89⟩ := x_89
  obtain ⟨k0_89, rfl, rfl, hl⟩ := hI_89
  have hl : lv_has ls 8 [(7, .int L7_89), (5, .long L5_89), (0, .ref h0), (1, .long p0), (3, .int p1), (4, .int p2)] := hl
  refine lv_iload hx hb dX12_goDrawn_6 (lv_at hl 0 rfl) ?_
  refine lv_aload_n hx hb dX12_goDrawn_8 rfl (lv_at hl 2 rfl) ?_
  refine lv_iload_n hx hb dX12_goDrawn_9 rfl (lv_at hl 4 rfl) ?_
  refine lv_iload hx hb dX12_goDrawn_10 (lv_at hl 5 rfl) ?_
  refine cpVi (rest := [.int L7_89]) ⟨hx, hb, hml, hown, hts⟩ hKN (hP.sub (ws' := [(h0, .inr (12, [.int m_thrown, .ref m_qworld, .ref m_qimages, .ref m_qhasImage, .ref m_qtape, .int m_taped, .ref m_qfive, .int m_size, .int m_at, .int m_from, .int m_token, .int m_value, .int m_faultKind, .int m_faultPlace, .ref m_qfresh, .int m_startOne, .int m_startOther, .int m_latest, .int m_leftBeats, .int m_signed, .int m_metMany, .ref m_qsums, .ref m_qpairs, .ref m_qgoesWith, .ref m_qsaid, .int m_saidMany, .int m_firstWait, .ref m_qfirstOrder, .int m_bundleFirst, .ref m_qtiredBy, .int m_tiredMany, .ref m_qmany, .ref m_qwidth, .ref m_qnumbers, .ref m_qmoving])), (m_qworld, .inl (cA 1, 122, .inl m_cworld))]) [0, 1] rfl) (g_X12_holdOf l D cA h0 m_thrown m_qworld m_qimages m_qhasImage m_qtape m_taped m_qfive m_size m_at m_from m_token m_value m_faultKind m_faultPlace m_qfresh m_startOne m_startOther m_latest m_leftBeats m_signed m_metMany m_qsums m_qpairs m_qgoesWith m_qsaid m_saidMany m_firstWait m_qfirstOrder m_bundleFirst m_qtiredBy m_tiredMany m_qmany m_qwidth m_qnumbers m_qmoving m_cworld p1 p2 (by omega) (by omega) (by omega) (by omega) (by omega) (by omega) (by omega) (by omega) a_m_cworld_0) (tb_V tw_1700 tw_1702 tw_63 tw_114 tw_1703) hdX12_holdOf ⟨rfl, rfl, Nat.le_of_ble_eq_true rfl, Nat.le_of_ble_eq_true rfl⟩ ⟨Nat.le_of_ble_eq_true rfl, Nat.le_of_ble_eq_true rfl⟩ rfl rfl rfl hl.1 rfl (Nat.le_of_ble_eq_true rfl) dX12_goDrawn_12 (fun r_91 hr_91 => ?_)
  refine lv_icmp_ge (tgt := 64) hx hb dX12_goDrawn_15 (by decide) (fun c_92 => ?_) (fun c_92 => ?_)
  · skip
    have b_94 := i32_bd r_91
    have k_93 := kk_le rfl rfl c_92
    refine lv_iload hx hb dX12_goDrawn_64 (lv_at hl 0 rfl) ?_
    exact W.iret (v := L7_89) hx hb hr (fun t ht hW => ⟨L7_89, rfl, (show 0 ≤ L7_89.toInt from by omega), ht⟩) (fun _ h => by cases h) dX12_goDrawn_66
  · skip
    have b_96 := i32_bd r_91
    have k_95 := kk_nle rfl rfl c_92
    refine lv_ldc2 (v := 1103515245) hx hb hown (hts _ tw_2118) dX12_goDrawn_18 ?_
    refine lv_lload hx hb dX12_goDrawn_21 (lv_at hl 1 rfl) ?_
    refine lv_lmul hx hb dX12_goDrawn_23 ?_
    refine lv_topl (fun x_97 ex_97 => ?_)
    refine lv_ldc2 (v := 12345) hx hb hown (hts _ tw_2119) dX12_goDrawn_24 ?_
    refine lv_ladd hx hb dX12_goDrawn_27 ?_
    refine lv_topl (fun x_98 ex_98 => ?_)
    refine lv_ldc2 (v := 2147483648) hx hb hown (hts _ tw_2120) dX12_goDrawn_28 ?_
    refine lv_lrem hx hb dX12_goDrawn_31 (by decide) ?_
    refine lv_topl (fun x_99 ex_99 => ?_)
    refine lv_lstore (lv' := [(5, .long x_99), (7, .int L7_89), (0, .ref h0), (1, .long p0), (3, .int p1), (4, .int p2)]) hx hb dX12_goDrawn_32 hl (by decide) rfl (fun ls hl => ?_)
    refine lv_lload hx hb dX12_goDrawn_34 (lv_at hl 0 rfl) ?_
    refine lv_ldc2 (v := 65536) hx hb hown (hts _ tw_2121) dX12_goDrawn_36 ?_
    refine lv_ldiv hx hb dX12_goDrawn_39 (by decide) ?_
    refine lv_topl (fun x_100 ex_100 => ?_)
    refine lv_ldc2 (v := 10) hx hb hown (hts _ tw_2049) dX12_goDrawn_40 ?_
    refine lv_lrem hx hb dX12_goDrawn_43 (by decide) ?_
    refine lv_topl (fun x_101 ex_101 => ?_)
    refine lv_aload_n hx hb dX12_goDrawn_44 rfl (lv_at hl 2 rfl) ?_
    refine va_get (D := D) (ci := 12) (v := .ref m_qworld) (C := RX12) (T := TX12) (N := 35) hx hb hts inX12 hown hKN.1 hP 0 rfl rfl 1 (by decide) (hts _ tw_1420) (fun _ h9 => h9) rfl dX12_goDrawn_45 ?_
    refine lv_iconst (v := 2) hx hb dX12_goDrawn_48 (by decide) ?_
    refine va_iald hx hb hKN.1 hP 1 1 rfl rfl (by unfold vp_in; decide) dX12_goDrawn_49 ?_
    refine W.eq (g2 := F0 m 50 ls [.int (m_cworld 2), .long x_101]) rfl ?_
    have k_102 := a_m_cworld_0.1.1.2.1 (2) (by decide) (by decide)
    obtain ⟨x_103, ex_103⟩ : ∃ y, ((m_cworld 2)).toInt64 = y := ⟨_, rfl⟩
    refine lv_i2l (v := x_103) hx hb dX12_goDrawn_50 ex_103 ?_
    have k_104 := tt_i2l ex_103
    refine W.lcmp hx hb dX12_goDrawn_51 ?_
    refine lv_if_ge (tgt := 58) hx hb dX12_goDrawn_52 (by decide) (fun c_105 => ?_) (fun c_105 => ?_)
    · skip
      have b_107 := i64_bd x_101
      have k_106 := jj_ge rfl rfl c_105
      obtain ⟨x_108, ex_108⟩ : ∃ y : Int32, L7_89 + Int32.ofInt 1 = y := ⟨_, rfl⟩
      have k_109 := ar_add (b := 1) rfl zi_1 ex_108.symm (by omega) (by omega)
      refine lv_iinc (v := x_108) (lv' := [(7, .int x_108), (5, .long x_99), (0, .ref h0), (1, .long p0), (3, .int p1), (4, .int p2)]) hx hb dX12_goDrawn_58 hl (k := 1) rfl ex_108 (by decide) rfl (fun ls hl => ?_)
      refine lv_goto (tgt := 6) hx hb dX12_goDrawn_61 (by decide) ?_
      exact ih_89 (x_108, x_99) _ _ _ ⟨(show 0 ≤ x_108.toInt from by omega), rfl, rfl, lv_sub hl [0, 1, 2, 3, 4, 5] rfl⟩ (by show (2147483647 - x_108.toInt).toNat < (2147483647 - L7_89.toInt).toNat; omega)
    · skip
      have b_111 := i64_bd x_101
      have k_110 := jj_nge rfl rfl c_105
      refine lv_iload hx hb dX12_goDrawn_55 (lv_at hl 1 rfl) ?_
      exact W.iret (v := L7_89) hx hb hr (fun t ht hW => ⟨L7_89, rfl, (show 0 ≤ L7_89.toInt from by omega), ht⟩) (fun _ h => by cases h) dX12_goDrawn_57
set_option maxHeartbeats 8000000 in
set_option maxRecDepth 100000 in
theorem g_X12_drawn (l : Launch) (D : va_G) (cA : Nat → ClassId) (h0 : Nat) (m_thrown : Int32) (m_qworld : Nat) (m_qimages : Nat) (m_qhasImage : Nat) (m_qtape : Nat) (m_taped : Int32) (m_qfive : Nat) (m_size : Int32) (m_at : Int32) (m_from : Int32) (m_token : Int32) (m_value : Int32) (m_faultKind : Int32) (m_faultPlace : Int32) (m_qfresh : Nat) (m_startOne : Int32) (m_startOther : Int32) (m_latest : Int32) (m_leftBeats : Int32) (m_signed : Int32) (m_metMany : Int32) (m_qsums : Nat) (m_qpairs : Nat) (m_qgoesWith : Nat) (m_qsaid : Nat) (m_saidMany : Int32) (m_firstWait : Int32) (m_qfirstOrder : Nat) (m_bundleFirst : Int32) (m_qtiredBy : Nat) (m_tiredMany : Int32) (m_qmany : Nat) (m_qwidth : Nat) (m_qnumbers : Nat) (m_qmoving : Nat) (m_cworld : Nat → Int32) (p0 : Int32) (p1 : Int32) (p2 : Int32) (h_m_taped : 0 ≤ (m_taped : Int32).toInt ∧ (m_taped : Int32).toInt ≤ 800) (h_m_size : 0 ≤ (m_size : Int32).toInt ∧ (m_size : Int32).toInt ≤ 800) (h_m_at : 0 ≤ (m_at : Int32).toInt ∧ (m_at : Int32).toInt ≤ 800) (h_m_from : 0 ≤ (m_from : Int32).toInt ∧ (m_from : Int32).toInt ≤ 800) (h_m_saidMany : 0 ≤ (m_saidMany : Int32).toInt ∧ (m_saidMany : Int32).toInt ≤ 60) (h_m_tiredMany : 0 ≤ (m_tiredMany : Int32).toInt ∧ (m_tiredMany : Int32).toInt ≤ 240) (a_m_cworld_0 : WI m_cworld) : Met l yX12_drawn (Cond.code yX12_drawn cX12_drawn 4 (some .int) :: TB) (rmd 5 0 0) (PP D cA [(h0, .inr (12, [.int m_thrown, .ref m_qworld, .ref m_qimages, .ref m_qhasImage, .ref m_qtape, .int m_taped, .ref m_qfive, .int m_size, .int m_at, .int m_from, .int m_token, .int m_value, .int m_faultKind, .int m_faultPlace, .ref m_qfresh, .int m_startOne, .int m_startOther, .int m_latest, .int m_leftBeats, .int m_signed, .int m_metMany, .ref m_qsums, .ref m_qpairs, .ref m_qgoesWith, .ref m_qsaid, .int m_saidMany, .int m_firstWait, .ref m_qfirstOrder, .int m_bundleFirst, .ref m_qtiredBy, .int m_tiredMany, .ref m_qmany, .ref m_qwidth, .ref m_qnumbers, .ref m_qmoving])), (m_qworld, .inl (cA 1, 122, .inl m_cworld))] [.ref h0, .int p0, .int p1, .int p2]) (vp_Si (fun r => -2 ≤ r.toInt)) 0 0 (fun _ => False) := by
  refine Met.ofW (cc := cX12_drawn) (maxL := 4) (ret := (some .int)) (by decide) rfl ?_
  intro p e s m args below meth c s₁ B hml hv
  obtain ⟨rfl, hP, hKN⟩ := hv
  have hx := B.exec
  have hb := B.bytes
  have hr := B.returns
  have hts : ∀ w ∈ TB, w.before _ s = true := fun w h => atoms_spec B.pre w (List.mem_cons_of_mem _ h)
  have hown : s.vm.findClass RX12 = some m.cls := findClass_of_methodNamed B.named
  have hlocks := B.notSynchronized
  have hl := lv_entry ([.ref h0, .int p0, .int p1, .int p2]) (n := 4) (Nat.le_of_ble_eq_true rfl)
  rw [lg_entry_eq]
  generalize (lg_sl ([.ref h0, .int p0, .int p1, .int p2]) ++ List.replicate (4 - (lg_sl ([.ref h0, .int p0, .int p1, .int p2])).length) Slot.unset).toArray = ls at hl ⊢
  have hl : lv_has ls 4 [(0, .ref h0), (1, .int p0), (2, .int p1), (3, .int p2)] := hl
  refine lv_iload_n hx hb dX12_drawn_0 rfl (lv_at hl 1 rfl) ?_
  refine cpSi (rest := []) ⟨hx, hb, hml, hown, hts⟩ hKN (hP.sub (ws' := []) [] rfl) (g_X12_isSeed l D cA p0) (tb_S tw_2111 tw_2112 tw_114 tw_2113) hdX12_isSeed ⟨rfl, rfl, Nat.le_of_ble_eq_true rfl, Nat.le_of_ble_eq_true rfl⟩ ⟨Nat.le_of_ble_eq_true rfl, Nat.le_of_ble_eq_true rfl⟩ rfl hl.1 rfl (Nat.le_of_ble_eq_true rfl) dX12_drawn_1 (fun r_1 hr_1 => ?_)
  refine lv_if_eq (tgt := 16) hx hb dX12_drawn_4 (by decide) (fun c_2 => ?_) (fun c_2 => ?_)
  · skip
    have k_3 := kk_eq rfl zi_0 c_2
    refine lv_bipush (v := (-2)) hx hb dX12_drawn_16 (by decide) ?_
    exact W.iret (v := (-2)) hx hb hr (fun t ht hW => ⟨(-2), rfl, (show -2 ≤ ((-2) : Int32).toInt from by decide), ht⟩) (fun _ h => by cases h) dX12_drawn_18
  · skip
    have k_4 := kk_ne rfl zi_0 c_2
    refine lv_aload_n hx hb dX12_drawn_7 rfl (lv_at hl 0 rfl) ?_
    refine lv_iload_n hx hb dX12_drawn_8 rfl (lv_at hl 2 rfl) ?_
    refine lv_iload_n hx hb dX12_drawn_9 rfl (lv_at hl 3 rfl) ?_
    refine cpVi (rest := []) ⟨hx, hb, hml, hown, hts⟩ hKN (hP.sub (ws' := [(h0, .inr (12, [.int m_thrown, .ref m_qworld, .ref m_qimages, .ref m_qhasImage, .ref m_qtape, .int m_taped, .ref m_qfive, .int m_size, .int m_at, .int m_from, .int m_token, .int m_value, .int m_faultKind, .int m_faultPlace, .ref m_qfresh, .int m_startOne, .int m_startOther, .int m_latest, .int m_leftBeats, .int m_signed, .int m_metMany, .ref m_qsums, .ref m_qpairs, .ref m_qgoesWith, .ref m_qsaid, .int m_saidMany, .int m_firstWait, .ref m_qfirstOrder, .int m_bundleFirst, .ref m_qtiredBy, .int m_tiredMany, .ref m_qmany, .ref m_qwidth, .ref m_qnumbers, .ref m_qmoving])), (m_qworld, .inl (cA 1, 122, .inl m_cworld))]) [0, 1] rfl) (g_X12_areMen l D cA h0 m_thrown m_qworld m_qimages m_qhasImage m_qtape m_taped m_qfive m_size m_at m_from m_token m_value m_faultKind m_faultPlace m_qfresh m_startOne m_startOther m_latest m_leftBeats m_signed m_metMany m_qsums m_qpairs m_qgoesWith m_qsaid m_saidMany m_firstWait m_qfirstOrder m_bundleFirst m_qtiredBy m_tiredMany m_qmany m_qwidth m_qnumbers m_qmoving m_cworld p1 p2 (by omega) (by omega) (by omega) (by omega) (by omega) (by omega) a_m_cworld_0) (tb_V tw_1771 tw_1773 tw_68 tw_114 tw_1774) hdX12_areMen ⟨rfl, rfl, Nat.le_of_ble_eq_true rfl, Nat.le_of_ble_eq_true rfl⟩ ⟨Nat.le_of_ble_eq_true rfl, Nat.le_of_ble_eq_true rfl⟩ rfl rfl rfl hl.1 rfl (Nat.le_of_ble_eq_true rfl) dX12_drawn_10 (fun r_5 hr_5 => ?_)
    rcases hr_5 with ⟨k_5_0_0, k_5_0_1, k_5_0_2, k_5_0_3, k_5_0_4, k_5_0_5, k_5_0_6, k_5_0_7, rfl⟩ | rfl
    · skip
      refine lv_if_ne (tgt := 19) hx hb dX12_drawn_13 (by decide) (fun c_6 => ?_) (fun c_6 => absurd c_6 (by decide))
      refine lv_aload_n hx hb dX12_drawn_19 rfl (lv_at hl 0 rfl) ?_
      refine lv_iload_n hx hb dX12_drawn_20 rfl (lv_at hl 2 rfl) ?_
      refine lv_iload_n hx hb dX12_drawn_21 rfl (lv_at hl 3 rfl) ?_
      refine cpVi (rest := []) ⟨hx, hb, hml, hown, hts⟩ hKN (hP.sub (ws' := [(h0, .inr (12, [.int m_thrown, .ref m_qworld, .ref m_qimages, .ref m_qhasImage, .ref m_qtape, .int m_taped, .ref m_qfive, .int m_size, .int m_at, .int m_from, .int m_token, .int m_value, .int m_faultKind, .int m_faultPlace, .ref m_qfresh, .int m_startOne, .int m_startOther, .int m_latest, .int m_leftBeats, .int m_signed, .int m_metMany, .ref m_qsums, .ref m_qpairs, .ref m_qgoesWith, .ref m_qsaid, .int m_saidMany, .int m_firstWait, .ref m_qfirstOrder, .int m_bundleFirst, .ref m_qtiredBy, .int m_tiredMany, .ref m_qmany, .ref m_qwidth, .ref m_qnumbers, .ref m_qmoving])), (m_qworld, .inl (cA 1, 122, .inl m_cworld))]) [0, 1] rfl) (g_X12_isPair l D cA h0 m_thrown m_qworld m_qimages m_qhasImage m_qtape m_taped m_qfive m_size m_at m_from m_token m_value m_faultKind m_faultPlace m_qfresh m_startOne m_startOther m_latest m_leftBeats m_signed m_metMany m_qsums m_qpairs m_qgoesWith m_qsaid m_saidMany m_firstWait m_qfirstOrder m_bundleFirst m_qtiredBy m_tiredMany m_qmany m_qwidth m_qnumbers m_qmoving m_cworld p1 p2 (by omega) (by omega) (by omega) (by omega) (by omega) (by omega) (by omega) (by omega) a_m_cworld_0) (tb_V tw_1775 tw_1777 tw_69 tw_114 tw_1778) hdX12_isPair ⟨rfl, rfl, Nat.le_of_ble_eq_true rfl, Nat.le_of_ble_eq_true rfl⟩ ⟨Nat.le_of_ble_eq_true rfl, Nat.le_of_ble_eq_true rfl⟩ rfl rfl rfl hl.1 rfl (Nat.le_of_ble_eq_true rfl) dX12_drawn_22 (fun r_7 hr_7 => ?_)
      refine lv_if_eq (tgt := 39) hx hb dX12_drawn_25 (by decide) (fun c_8 => ?_) (fun c_8 => ?_)
      · skip
        have k_9 := kk_eq rfl zi_0 c_8
        refine lv_iconst (v := (-1)) hx hb dX12_drawn_39 (by decide) ?_
        exact W.iret (v := (-1)) hx hb hr (fun t ht hW => ⟨(-1), rfl, (show -2 ≤ ((-1) : Int32).toInt from by decide), ht⟩) (fun _ h => by cases h) dX12_drawn_40
      · skip
        have k_10 := kk_ne rfl zi_0 c_8
        refine lv_aload_n hx hb dX12_drawn_28 rfl (lv_at hl 0 rfl) ?_
        refine lv_iload_n hx hb dX12_drawn_29 rfl (lv_at hl 1 rfl) ?_
        obtain ⟨x_11, ex_11⟩ : ∃ y, p0.toInt64 = y := ⟨_, rfl⟩
        refine lv_i2l (v := x_11) hx hb dX12_drawn_30 ex_11 ?_
        have k_12 := tt_i2l ex_11
        refine lv_iload_n hx hb dX12_drawn_31 rfl (lv_at hl 2 rfl) ?_
        refine lv_iload_n hx hb dX12_drawn_32 rfl (lv_at hl 3 rfl) ?_
        refine cpVi (rest := []) ⟨hx, hb, hml, hown, hts⟩ hKN (hP.sub (ws' := [(h0, .inr (12, [.int m_thrown, .ref m_qworld, .ref m_qimages, .ref m_qhasImage, .ref m_qtape, .int m_taped, .ref m_qfive, .int m_size, .int m_at, .int m_from, .int m_token, .int m_value, .int m_faultKind, .int m_faultPlace, .ref m_qfresh, .int m_startOne, .int m_startOther, .int m_latest, .int m_leftBeats, .int m_signed, .int m_metMany, .ref m_qsums, .ref m_qpairs, .ref m_qgoesWith, .ref m_qsaid, .int m_saidMany, .int m_firstWait, .ref m_qfirstOrder, .int m_bundleFirst, .ref m_qtiredBy, .int m_tiredMany, .ref m_qmany, .ref m_qwidth, .ref m_qnumbers, .ref m_qmoving])), (m_qworld, .inl (cA 1, 122, .inl m_cworld))]) [0, 1] rfl) (g_X12_goDrawn l D cA h0 m_thrown m_qworld m_qimages m_qhasImage m_qtape m_taped m_qfive m_size m_at m_from m_token m_value m_faultKind m_faultPlace m_qfresh m_startOne m_startOther m_latest m_leftBeats m_signed m_metMany m_qsums m_qpairs m_qgoesWith m_qsaid m_saidMany m_firstWait m_qfirstOrder m_bundleFirst m_qtiredBy m_tiredMany m_qmany m_qwidth m_qnumbers m_qmoving m_cworld x_11 p1 p2 (by omega) (by omega) (by omega) (by omega) (by omega) (by omega) (by omega) (by omega) a_m_cworld_0) (tb_V tw_2114 tw_2116 tw_99 tw_114 tw_2117) hdX12_goDrawn ⟨rfl, rfl, Nat.le_of_ble_eq_true rfl, Nat.le_of_ble_eq_true rfl⟩ ⟨Nat.le_of_ble_eq_true rfl, Nat.le_of_ble_eq_true rfl⟩ rfl rfl rfl hl.1 rfl (Nat.le_of_ble_eq_true rfl) dX12_drawn_33 (fun r_13 hr_13 => ?_)
        refine lv_goto (tgt := 40) hx hb dX12_drawn_36 (by decide) ?_
        exact W.iret (v := r_13) hx hb hr (fun t ht hW => ⟨r_13, rfl, (show -2 ≤ r_13.toInt from by omega), ht⟩) (fun _ h => by cases h) dX12_drawn_40
    · skip
      refine lv_if_ne (tgt := 19) hx hb dX12_drawn_13 (by decide) (fun c_14 => absurd (by decide) c_14) (fun c_14 => ?_)
      refine lv_bipush (v := (-2)) hx hb dX12_drawn_16 (by decide) ?_
      exact W.iret (v := (-2)) hx hb hr (fun t ht hW => ⟨(-2), rfl, (show -2 ≤ ((-2) : Int32).toInt from by decide), ht⟩) (fun _ h => by cases h) dX12_drawn_18
set_option maxHeartbeats 8000000 in
set_option maxRecDepth 100000 in
theorem g_X12_luck (l : Launch) (D : va_G) (cA : Nat → ClassId) (h0 : Nat) (m_thrown : Int32) (m_qworld : Nat) (m_qimages : Nat) (m_qhasImage : Nat) (m_qtape : Nat) (m_taped : Int32) (m_qfive : Nat) (m_size : Int32) (m_at : Int32) (m_from : Int32) (m_token : Int32) (m_value : Int32) (m_faultKind : Int32) (m_faultPlace : Int32) (m_qfresh : Nat) (m_startOne : Int32) (m_startOther : Int32) (m_latest : Int32) (m_leftBeats : Int32) (m_signed : Int32) (m_metMany : Int32) (m_qsums : Nat) (m_qpairs : Nat) (m_qgoesWith : Nat) (m_qsaid : Nat) (m_saidMany : Int32) (m_firstWait : Int32) (m_qfirstOrder : Nat) (m_bundleFirst : Int32) (m_qtiredBy : Nat) (m_tiredMany : Int32) (m_qmany : Nat) (m_qwidth : Nat) (m_qnumbers : Nat) (m_qmoving : Nat) (m_cworld : Nat → Int32) (p0 : Int32) (p1 : Int32) (p2 : Int32) (p3 : Int32) (p4 : Int32) (h_m_taped : 0 ≤ (m_taped : Int32).toInt ∧ (m_taped : Int32).toInt ≤ 800) (h_m_size : 0 ≤ (m_size : Int32).toInt ∧ (m_size : Int32).toInt ≤ 800) (h_m_at : 0 ≤ (m_at : Int32).toInt ∧ (m_at : Int32).toInt ≤ 800) (h_m_from : 0 ≤ (m_from : Int32).toInt ∧ (m_from : Int32).toInt ≤ 800) (h_m_saidMany : 0 ≤ (m_saidMany : Int32).toInt ∧ (m_saidMany : Int32).toInt ≤ 60) (h_m_tiredMany : 0 ≤ (m_tiredMany : Int32).toInt ∧ (m_tiredMany : Int32).toInt ≤ 240) (a_m_cworld_0 : WI m_cworld) : Met l yX12_luck (Cond.code yX12_luck cX12_luck 8 (some .int) :: TB) (rmd 5 0 0) (PP D cA [(h0, .inr (12, [.int m_thrown, .ref m_qworld, .ref m_qimages, .ref m_qhasImage, .ref m_qtape, .int m_taped, .ref m_qfive, .int m_size, .int m_at, .int m_from, .int m_token, .int m_value, .int m_faultKind, .int m_faultPlace, .ref m_qfresh, .int m_startOne, .int m_startOther, .int m_latest, .int m_leftBeats, .int m_signed, .int m_metMany, .ref m_qsums, .ref m_qpairs, .ref m_qgoesWith, .ref m_qsaid, .int m_saidMany, .int m_firstWait, .ref m_qfirstOrder, .int m_bundleFirst, .ref m_qtiredBy, .int m_tiredMany, .ref m_qmany, .ref m_qwidth, .ref m_qnumbers, .ref m_qmoving])), (m_qworld, .inl (cA 1, 122, .inl m_cworld))] [.ref h0, .int p0, .int p1, .int p2, .int p3, .int p4]) (vp_Si (fun r => True)) 0 0 (fun _ => False) := by
  refine Met.ofW (cc := cX12_luck) (maxL := 8) (ret := (some .int)) (by decide) rfl ?_
  intro p e s m args below meth c s₁ B hml hv
  obtain ⟨rfl, hP, hKN⟩ := hv
  have hx := B.exec
  have hb := B.bytes
  have hr := B.returns
  have hts : ∀ w ∈ TB, w.before _ s = true := fun w h => atoms_spec B.pre w (List.mem_cons_of_mem _ h)
  have hown : s.vm.findClass RX12 = some m.cls := findClass_of_methodNamed B.named
  have hlocks := B.notSynchronized
  have hl := lv_entry ([.ref h0, .int p0, .int p1, .int p2, .int p3, .int p4]) (n := 8) (Nat.le_of_ble_eq_true rfl)
  rw [lg_entry_eq]
  generalize (lg_sl ([.ref h0, .int p0, .int p1, .int p2, .int p3, .int p4]) ++ List.replicate (8 - (lg_sl ([.ref h0, .int p0, .int p1, .int p2, .int p3, .int p4])).length) Slot.unset).toArray = ls at hl ⊢
  have hl : lv_has ls 8 [(0, .ref h0), (1, .int p0), (2, .int p1), (3, .int p2), (4, .int p3), (5, .int p4)] := hl
  refine lv_iload_n hx hb dX12_luck_0 rfl (lv_at hl 1 rfl) ?_
  refine cpSi (rest := []) ⟨hx, hb, hml, hown, hts⟩ hKN (hP.sub (ws' := []) [] rfl) (g_X12_isSeed l D cA p0) (tb_S tw_2111 tw_2112 tw_114 tw_2113) hdX12_isSeed ⟨rfl, rfl, Nat.le_of_ble_eq_true rfl, Nat.le_of_ble_eq_true rfl⟩ ⟨Nat.le_of_ble_eq_true rfl, Nat.le_of_ble_eq_true rfl⟩ rfl hl.1 rfl (Nat.le_of_ble_eq_true rfl) dX12_luck_1 (fun r_1 hr_1 => ?_)
  refine lv_if_eq (tgt := 39) hx hb dX12_luck_4 (by decide) (fun c_2 => ?_) (fun c_2 => ?_)
  · skip
    have k_3 := kk_eq rfl zi_0 c_2
    refine lv_bipush (v := (-2)) hx hb dX12_luck_39 (by decide) ?_
    exact W.iret (v := (-2)) hx hb hr (fun t ht hW => ⟨(-2), rfl, trivial, ht⟩) (fun _ h => by cases h) dX12_luck_41
  · skip
    have k_4 := kk_ne rfl zi_0 c_2
    refine lv_iload_n hx hb dX12_luck_7 rfl (lv_at hl 2 rfl) ?_
    obtain ⟨x_5, ex_5⟩ : ∃ y, p1.toInt64 = y := ⟨_, rfl⟩
    refine lv_i2l (v := x_5) hx hb dX12_luck_8 ex_5 ?_
    have k_6 := tt_i2l ex_5
    refine lv_lconst (v := 1) hx hb dX12_luck_9 (by decide) ?_
    refine lv_ldc2 (v := 20) hx hb hown (hts _ tw_2126) dX12_luck_10 ?_
    have z_7 := zj_1
    have z_8 := zj_20
    refine cpSi (rest := []) ⟨hx, hb, hml, hown, hts⟩ hKN (hP.sub (ws' := []) [] rfl) (g_X12_in l D cA x_5 1 20) (tb_S tw_1530 tw_1531 tw_114 tw_1532) hdX12_in ⟨rfl, rfl, Nat.le_of_ble_eq_true rfl, Nat.le_of_ble_eq_true rfl⟩ ⟨Nat.le_of_ble_eq_true rfl, Nat.le_of_ble_eq_true rfl⟩ rfl hl.1 rfl (Nat.le_of_ble_eq_true rfl) dX12_luck_13 (fun r_9 hr_9 => ?_)
    rcases hr_9 with ⟨k_9_0_0, k_9_0_1, rfl⟩ | ⟨k_9_1_0, rfl⟩
    · skip
      refine lv_if_eq (tgt := 39) hx hb dX12_luck_16 (by decide) (fun c_10 => absurd c_10 (by decide)) (fun c_10 => ?_)
      refine lv_aload_n hx hb dX12_luck_19 rfl (lv_at hl 0 rfl) ?_
      refine lv_iload_n hx hb dX12_luck_20 rfl (lv_at hl 3 rfl) ?_
      refine lv_iload hx hb dX12_luck_21 (lv_at hl 4 rfl) ?_
      refine cpVi (rest := []) ⟨hx, hb, hml, hown, hts⟩ hKN (hP.sub (ws' := [(h0, .inr (12, [.int m_thrown, .ref m_qworld, .ref m_qimages, .ref m_qhasImage, .ref m_qtape, .int m_taped, .ref m_qfive, .int m_size, .int m_at, .int m_from, .int m_token, .int m_value, .int m_faultKind, .int m_faultPlace, .ref m_qfresh, .int m_startOne, .int m_startOther, .int m_latest, .int m_leftBeats, .int m_signed, .int m_metMany, .ref m_qsums, .ref m_qpairs, .ref m_qgoesWith, .ref m_qsaid, .int m_saidMany, .int m_firstWait, .ref m_qfirstOrder, .int m_bundleFirst, .ref m_qtiredBy, .int m_tiredMany, .ref m_qmany, .ref m_qwidth, .ref m_qnumbers, .ref m_qmoving])), (m_qworld, .inl (cA 1, 122, .inl m_cworld))]) [0, 1] rfl) (g_X12_areMen l D cA h0 m_thrown m_qworld m_qimages m_qhasImage m_qtape m_taped m_qfive m_size m_at m_from m_token m_value m_faultKind m_faultPlace m_qfresh m_startOne m_startOther m_latest m_leftBeats m_signed m_metMany m_qsums m_qpairs m_qgoesWith m_qsaid m_saidMany m_firstWait m_qfirstOrder m_bundleFirst m_qtiredBy m_tiredMany m_qmany m_qwidth m_qnumbers m_qmoving m_cworld p2 p3 (by omega) (by omega) (by omega) (by omega) (by omega) (by omega) a_m_cworld_0) (tb_V tw_1771 tw_1773 tw_68 tw_114 tw_1774) hdX12_areMen ⟨rfl, rfl, Nat.le_of_ble_eq_true rfl, Nat.le_of_ble_eq_true rfl⟩ ⟨Nat.le_of_ble_eq_true rfl, Nat.le_of_ble_eq_true rfl⟩ rfl rfl rfl hl.1 rfl (Nat.le_of_ble_eq_true rfl) dX12_luck_23 (fun r_11 hr_11 => ?_)
      rcases hr_11 with ⟨k_11_0_0, k_11_0_1, k_11_0_2, k_11_0_3, k_11_0_4, k_11_0_5, k_11_0_6, k_11_0_7, rfl⟩ | rfl
      · skip
        refine lv_if_eq (tgt := 39) hx hb dX12_luck_26 (by decide) (fun c_12 => absurd c_12 (by decide)) (fun c_12 => ?_)
        refine lv_aload_n hx hb dX12_luck_29 rfl (lv_at hl 0 rfl) ?_
        refine lv_iload hx hb dX12_luck_30 (lv_at hl 5 rfl) ?_
        obtain ⟨x_13, ex_13⟩ : ∃ y, p4.toInt64 = y := ⟨_, rfl⟩
        refine lv_i2l (v := x_13) hx hb dX12_luck_32 ex_13 ?_
        have k_14 := tt_i2l ex_13
        refine cpVi (rest := []) ⟨hx, hb, hml, hown, hts⟩ hKN (hP.sub (ws' := [(h0, .inr (12, [.int m_thrown, .ref m_qworld, .ref m_qimages, .ref m_qhasImage, .ref m_qtape, .int m_taped, .ref m_qfive, .int m_size, .int m_at, .int m_from, .int m_token, .int m_value, .int m_faultKind, .int m_faultPlace, .ref m_qfresh, .int m_startOne, .int m_startOther, .int m_latest, .int m_leftBeats, .int m_signed, .int m_metMany, .ref m_qsums, .ref m_qpairs, .ref m_qgoesWith, .ref m_qsaid, .int m_saidMany, .int m_firstWait, .ref m_qfirstOrder, .int m_bundleFirst, .ref m_qtiredBy, .int m_tiredMany, .ref m_qmany, .ref m_qwidth, .ref m_qnumbers, .ref m_qmoving])), (m_qworld, .inl (cA 1, 122, .inl m_cworld))]) [0, 1] rfl) (g_X12_isClause l D cA h0 m_thrown m_qworld m_qimages m_qhasImage m_qtape m_taped m_qfive m_size m_at m_from m_token m_value m_faultKind m_faultPlace m_qfresh m_startOne m_startOther m_latest m_leftBeats m_signed m_metMany m_qsums m_qpairs m_qgoesWith m_qsaid m_saidMany m_firstWait m_qfirstOrder m_bundleFirst m_qtiredBy m_tiredMany m_qmany m_qwidth m_qnumbers m_qmoving m_cworld x_13 (by omega) (by omega) (by omega) (by omega) (by omega) (by omega) a_m_cworld_0) (tb_V tw_1648 tw_1650 tw_51 tw_114 tw_1651) hdX12_isClause ⟨rfl, rfl, Nat.le_of_ble_eq_true rfl, Nat.le_of_ble_eq_true rfl⟩ ⟨Nat.le_of_ble_eq_true rfl, Nat.le_of_ble_eq_true rfl⟩ rfl rfl rfl hl.1 rfl (Nat.le_of_ble_eq_true rfl) dX12_luck_33 (fun r_15 hr_15 => ?_)
        rcases hr_15 with ⟨k_15_0_0, k_15_0_1, k_15_0_2, k_15_0_3, k_15_0_4, k_15_0_5, rfl⟩ | rfl
        · skip
          refine lv_if_ne (tgt := 42) hx hb dX12_luck_36 (by decide) (fun c_16 => ?_) (fun c_16 => absurd c_16 (by decide))
          refine lv_aload_n hx hb dX12_luck_42 rfl (lv_at hl 0 rfl) ?_
          refine lv_iload_n hx hb dX12_luck_43 rfl (lv_at hl 3 rfl) ?_
          refine lv_iload hx hb dX12_luck_44 (lv_at hl 4 rfl) ?_
          refine cpVi (rest := []) ⟨hx, hb, hml, hown, hts⟩ hKN (hP.sub (ws' := [(h0, .inr (12, [.int m_thrown, .ref m_qworld, .ref m_qimages, .ref m_qhasImage, .ref m_qtape, .int m_taped, .ref m_qfive, .int m_size, .int m_at, .int m_from, .int m_token, .int m_value, .int m_faultKind, .int m_faultPlace, .ref m_qfresh, .int m_startOne, .int m_startOther, .int m_latest, .int m_leftBeats, .int m_signed, .int m_metMany, .ref m_qsums, .ref m_qpairs, .ref m_qgoesWith, .ref m_qsaid, .int m_saidMany, .int m_firstWait, .ref m_qfirstOrder, .int m_bundleFirst, .ref m_qtiredBy, .int m_tiredMany, .ref m_qmany, .ref m_qwidth, .ref m_qnumbers, .ref m_qmoving])), (m_qworld, .inl (cA 1, 122, .inl m_cworld))]) [0, 1] rfl) (g_X12_isPair l D cA h0 m_thrown m_qworld m_qimages m_qhasImage m_qtape m_taped m_qfive m_size m_at m_from m_token m_value m_faultKind m_faultPlace m_qfresh m_startOne m_startOther m_latest m_leftBeats m_signed m_metMany m_qsums m_qpairs m_qgoesWith m_qsaid m_saidMany m_firstWait m_qfirstOrder m_bundleFirst m_qtiredBy m_tiredMany m_qmany m_qwidth m_qnumbers m_qmoving m_cworld p2 p3 (by omega) (by omega) (by omega) (by omega) (by omega) (by omega) (by omega) (by omega) a_m_cworld_0) (tb_V tw_1775 tw_1777 tw_69 tw_114 tw_1778) hdX12_isPair ⟨rfl, rfl, Nat.le_of_ble_eq_true rfl, Nat.le_of_ble_eq_true rfl⟩ ⟨Nat.le_of_ble_eq_true rfl, Nat.le_of_ble_eq_true rfl⟩ rfl rfl rfl hl.1 rfl (Nat.le_of_ble_eq_true rfl) dX12_luck_46 (fun r_17 hr_17 => ?_)
          refine lv_if_ne (tgt := 54) hx hb dX12_luck_49 (by decide) (fun c_18 => ?_) (fun c_18 => ?_)
          · skip
            have k_19 := kk_ne rfl zi_0 c_18
            refine lv_iconst (v := 0) hx hb dX12_luck_54 (by decide) ?_
            refine lv_istore (lv' := [(6, .int 0), (0, .ref h0), (1, .int p0), (2, .int p1), (3, .int p2), (4, .int p3), (5, .int p4)]) hx hb dX12_luck_55 hl (by decide) rfl (fun ls hl => ?_)
            refine lv_iconst (v := 0) hx hb dX12_luck_57 (by decide) ?_
            refine lv_istore (lv' := [(7, .int 0), (6, .int 0), (0, .ref h0), (1, .int p0), (2, .int p1), (3, .int p2), (4, .int p3), (5, .int p4)]) hx hb dX12_luck_58 hl (by decide) rfl (fun ls hl => ?_)
            refine loopW (σ := Int32 × Int32) (fun _ => []) (fun ⟨L7_179, L6_179⟩ H locs ls => (0 ≤ L7_179.toInt ∧ L7_179.toInt ≤ 20) ∧ H = s.heap ∧ locs = [] ∧ lv_has ls 8 [(7, .int L7_179), (6, .int L6_179), (0, .ref h0), (1, .int p0), (2, .int p1), (3, .int p2), (4, .int p3), (5, .int p4)]) (fun ⟨L7_179, L6_179⟩ => (2147483647 - L7_179.toInt).toNat) ?_ ((0, 0) : Int32 × Int32) ⟨(by decide), rfl, rfl, hl⟩
            intro x_179 H locs ls hI_179 ih_179
            obtain ⟨L7_179, L6_179⟩ := x_179
            obtain ⟨k0_179, rfl, rfl, hl⟩ := hI_179
            have hl : lv_has ls 8 [(7, .int L7_179), (6, .int L6_179), (0, .ref h0), (1, .int p0), (2, .int p1), (3, .int p2), (4, .int p3), (5, .int p4)] := hl
            refine lv_iload hx hb dX12_luck_60 (lv_at hl 0 rfl) ?_
            refine lv_iload_n hx hb dX12_luck_62 rfl (lv_at hl 4 rfl) ?_
            refine lv_icmp_ge (tgt := 105) hx hb dX12_luck_63 (by decide) (fun c_180 => ?_) (fun c_180 => ?_)
            · skip
              have k_181 := kk_le rfl rfl c_180
              refine lv_iload hx hb dX12_luck_105 (lv_at hl 1 rfl) ?_
              exact W.iret (v := L6_179) hx hb hr (fun t ht hW => ⟨L6_179, rfl, trivial, ht⟩) (fun _ h => by cases h) dX12_luck_107
            · skip
              have k_182 := kk_nle rfl rfl c_180
              refine lv_iload hx hb dX12_luck_66 (lv_at hl 1 rfl) ?_
              refine lv_aload_n hx hb dX12_luck_68 rfl (lv_at hl 2 rfl) ?_
              refine lv_iload_n hx hb dX12_luck_69 rfl (lv_at hl 3 rfl) ?_
              obtain ⟨x_183, ex_183⟩ : ∃ y, p0.toInt64 = y := ⟨_, rfl⟩
              refine lv_i2l (v := x_183) hx hb dX12_luck_70 ex_183 ?_
              have k_184 := tt_i2l ex_183
              refine lv_iload hx hb dX12_luck_71 (lv_at hl 0 rfl) ?_
              obtain ⟨x_185, ex_185⟩ : ∃ y, L7_179.toInt64 = y := ⟨_, rfl⟩
              refine lv_i2l (v := x_185) hx hb dX12_luck_73 ex_185 ?_
              have k_186 := tt_i2l ex_185
              refine lv_ladd hx hb dX12_luck_74 ?_
              refine lv_topl (fun x_187 ex_187 => ?_)
              have b_188 := i32_bd p0
              have b_189 := i32_bd L7_179
              have k_190 := ar_ladd rfl rfl ex_187 (by omega) (by omega)
              refine lv_iload_n hx hb dX12_luck_75 rfl (lv_at hl 5 rfl) ?_
              refine lv_iload hx hb dX12_luck_76 (lv_at hl 6 rfl) ?_
              refine cpVi (rest := [.int L6_179]) ⟨hx, hb, hml, hown, hts⟩ hKN (hP.sub (ws' := [(h0, .inr (12, [.int m_thrown, .ref m_qworld, .ref m_qimages, .ref m_qhasImage, .ref m_qtape, .int m_taped, .ref m_qfive, .int m_size, .int m_at, .int m_from, .int m_token, .int m_value, .int m_faultKind, .int m_faultPlace, .ref m_qfresh, .int m_startOne, .int m_startOther, .int m_latest, .int m_leftBeats, .int m_signed, .int m_metMany, .ref m_qsums, .ref m_qpairs, .ref m_qgoesWith, .ref m_qsaid, .int m_saidMany, .int m_firstWait, .ref m_qfirstOrder, .int m_bundleFirst, .ref m_qtiredBy, .int m_tiredMany, .ref m_qmany, .ref m_qwidth, .ref m_qnumbers, .ref m_qmoving])), (m_qworld, .inl (cA 1, 122, .inl m_cworld))]) [0, 1] rfl) (g_X12_goDrawn l D cA h0 m_thrown m_qworld m_qimages m_qhasImage m_qtape m_taped m_qfive m_size m_at m_from m_token m_value m_faultKind m_faultPlace m_qfresh m_startOne m_startOther m_latest m_leftBeats m_signed m_metMany m_qsums m_qpairs m_qgoesWith m_qsaid m_saidMany m_firstWait m_qfirstOrder m_bundleFirst m_qtiredBy m_tiredMany m_qmany m_qwidth m_qnumbers m_qmoving m_cworld x_187 p2 p3 (by omega) (by omega) (by omega) (by omega) (by omega) (by omega) (by omega) (by omega) a_m_cworld_0) (tb_V tw_2114 tw_2116 tw_99 tw_114 tw_2117) hdX12_goDrawn ⟨rfl, rfl, Nat.le_of_ble_eq_true rfl, Nat.le_of_ble_eq_true rfl⟩ ⟨Nat.le_of_ble_eq_true rfl, Nat.le_of_ble_eq_true rfl⟩ rfl rfl rfl hl.1 rfl (Nat.le_of_ble_eq_true rfl) dX12_luck_78 (fun r_191 hr_191 => ?_)
              refine lv_aload_n hx hb dX12_luck_81 rfl (lv_at hl 2 rfl) ?_
              refine lv_iload hx hb dX12_luck_82 (lv_at hl 7 rfl) ?_
              refine lv_iconst (v := 0) hx hb dX12_luck_84 (by decide) ?_
              have z_192 := zi_0
              refine cpVi (rest := [.int r_191, .int L6_179]) ⟨hx, hb, hml, hown, hts⟩ hKN (hP.sub (ws' := [(h0, .inr (12, [.int m_thrown, .ref m_qworld, .ref m_qimages, .ref m_qhasImage, .ref m_qtape, .int m_taped, .ref m_qfive, .int m_size, .int m_at, .int m_from, .int m_token, .int m_value, .int m_faultKind, .int m_faultPlace, .ref m_qfresh, .int m_startOne, .int m_startOther, .int m_latest, .int m_leftBeats, .int m_signed, .int m_metMany, .ref m_qsums, .ref m_qpairs, .ref m_qgoesWith, .ref m_qsaid, .int m_saidMany, .int m_firstWait, .ref m_qfirstOrder, .int m_bundleFirst, .ref m_qtiredBy, .int m_tiredMany, .ref m_qmany, .ref m_qwidth, .ref m_qnumbers, .ref m_qmoving])), (m_qworld, .inl (cA 1, 122, .inl m_cworld))]) [0, 1] rfl) (g_X12_ofClause l D cA h0 m_thrown m_qworld m_qimages m_qhasImage m_qtape m_taped m_qfive m_size m_at m_from m_token m_value m_faultKind m_faultPlace m_qfresh m_startOne m_startOther m_latest m_leftBeats m_signed m_metMany m_qsums m_qpairs m_qgoesWith m_qsaid m_saidMany m_firstWait m_qfirstOrder m_bundleFirst m_qtiredBy m_tiredMany m_qmany m_qwidth m_qnumbers m_qmoving m_cworld p4 0 (by omega) (by omega) (by omega) (by omega) (by omega) (by omega) (by omega) (by decide) a_m_cworld_0) (tb_V tw_1652 tw_1654 tw_52 tw_114 tw_1655) hdX12_ofClause ⟨rfl, rfl, Nat.le_of_ble_eq_true rfl, Nat.le_of_ble_eq_true rfl⟩ ⟨Nat.le_of_ble_eq_true rfl, Nat.le_of_ble_eq_true rfl⟩ rfl rfl rfl hl.1 rfl (Nat.le_of_ble_eq_true rfl) dX12_luck_85 (fun r_193 hr_193 => ?_)
              refine lv_icmp_lt (tgt := 95) hx hb dX12_luck_88 (by decide) (fun c_194 => ?_) (fun c_194 => ?_)
              · skip
                have k_195 := kk_lt rfl rfl c_194
                refine lv_iconst (v := 0) hx hb dX12_luck_95 (by decide) ?_
                refine lv_iadd hx hb dX12_luck_96 ?_
                refine lv_topi (fun x_196 ex_196 => ?_)
                have b_198 := i32_bd L6_179
                have k_197 := ar_add rfl zi_0 ex_196 (by omega) (by omega)
                refine lv_istore (lv' := [(6, .int x_196), (7, .int L7_179), (0, .ref h0), (1, .int p0), (2, .int p1), (3, .int p2), (4, .int p3), (5, .int p4)]) hx hb dX12_luck_97 hl (by decide) rfl (fun ls hl => ?_)
                obtain ⟨x_199, ex_199⟩ : ∃ y : Int32, L7_179 + Int32.ofInt 1 = y := ⟨_, rfl⟩
                have k_200 := ar_add (b := 1) rfl zi_1 ex_199.symm (by omega) (by omega)
                refine lv_iinc (v := x_199) (lv' := [(7, .int x_199), (6, .int x_196), (0, .ref h0), (1, .int p0), (2, .int p1), (3, .int p2), (4, .int p3), (5, .int p4)]) hx hb dX12_luck_99 hl (k := 1) rfl ex_199 (by decide) rfl (fun ls hl => ?_)
                refine lv_goto (tgt := 60) hx hb dX12_luck_102 (by decide) ?_
                exact ih_179 (x_199, x_196) _ _ _ ⟨(show 0 ≤ x_199.toInt ∧ x_199.toInt ≤ 20 from by omega), rfl, rfl, lv_sub hl [0, 1, 2, 3, 4, 5, 6, 7] rfl⟩ (by show (2147483647 - x_199.toInt).toNat < (2147483647 - L7_179.toInt).toNat; omega)
              · skip
                have k_201 := kk_nlt rfl rfl c_194
                refine lv_iconst (v := 1) hx hb dX12_luck_91 (by decide) ?_
                refine lv_goto (tgt := 96) hx hb dX12_luck_92 (by decide) ?_
                refine lv_iadd hx hb dX12_luck_96 ?_
                refine lv_topi (fun x_202 ex_202 => ?_)
                refine lv_istore (lv' := [(6, .int x_202), (7, .int L7_179), (0, .ref h0), (1, .int p0), (2, .int p1), (3, .int p2), (4, .int p3), (5, .int p4)]) hx hb dX12_luck_97 hl (by decide) rfl (fun ls hl => ?_)
                obtain ⟨x_204, ex_204⟩ : ∃ y : Int32, L7_179 + Int32.ofInt 1 = y := ⟨_, rfl⟩
                have k_205 := ar_add (b := 1) rfl zi_1 ex_204.symm (by omega) (by omega)
                refine lv_iinc (v := x_204) (lv' := [(7, .int x_204), (6, .int x_202), (0, .ref h0), (1, .int p0), (2, .int p1), (3, .int p2), (4, .int p3), (5, .int p4)]) hx hb dX12_luck_99 hl (k := 1) rfl ex_204 (by decide) rfl (fun ls hl => ?_)
                refine lv_goto (tgt := 60) hx hb dX12_luck_102 (by decide) ?_
                exact ih_179 (x_204, x_202) _ _ _ ⟨(show 0 ≤ x_204.toInt ∧ x_204.toInt ≤ 20 from by omega), rfl, rfl, lv_sub hl [0, 1, 2, 3, 4, 5, 6, 7] rfl⟩ (by show (2147483647 - x_204.toInt).toNat < (2147483647 - L7_179.toInt).toNat; omega)
          · skip
            have k_206 := kk_eq rfl zi_0 c_18
            refine lv_iconst (v := (-1)) hx hb dX12_luck_52 (by decide) ?_
            exact W.iret (v := (-1)) hx hb hr (fun t ht hW => ⟨(-1), rfl, trivial, ht⟩) (fun _ h => by cases h) dX12_luck_53
        · skip
          refine lv_if_ne (tgt := 42) hx hb dX12_luck_36 (by decide) (fun c_207 => absurd (by decide) c_207) (fun c_207 => ?_)
          refine lv_bipush (v := (-2)) hx hb dX12_luck_39 (by decide) ?_
          exact W.iret (v := (-2)) hx hb hr (fun t ht hW => ⟨(-2), rfl, trivial, ht⟩) (fun _ h => by cases h) dX12_luck_41
      · skip
        refine lv_if_eq (tgt := 39) hx hb dX12_luck_26 (by decide) (fun c_208 => ?_) (fun c_208 => absurd (by decide) c_208)
        refine lv_bipush (v := (-2)) hx hb dX12_luck_39 (by decide) ?_
        exact W.iret (v := (-2)) hx hb hr (fun t ht hW => ⟨(-2), rfl, trivial, ht⟩) (fun _ h => by cases h) dX12_luck_41
    · skip
      refine lv_if_eq (tgt := 39) hx hb dX12_luck_16 (by decide) (fun c_209 => ?_) (fun c_209 => absurd (by decide) c_209)
      refine lv_bipush (v := (-2)) hx hb dX12_luck_39 (by decide) ?_
      exact W.iret (v := (-2)) hx hb hr (fun t ht hW => ⟨(-2), rfl, trivial, ht⟩) (fun _ h => by cases h) dX12_luck_41
set_option maxHeartbeats 8000000 in
set_option maxRecDepth 100000 in
theorem g_X12_fault (l : Launch) (D : va_G) (cA : Nat → ClassId) (h0 : Nat) (m_thrown : Int32) (m_qworld : Nat) (m_qimages : Nat) (m_qhasImage : Nat) (m_qtape : Nat) (m_taped : Int32) (m_qfive : Nat) (m_size : Int32) (m_at : Int32) (m_from : Int32) (m_token : Int32) (m_value : Int32) (m_faultKind : Int32) (m_faultPlace : Int32) (m_qfresh : Nat) (m_startOne : Int32) (m_startOther : Int32) (m_latest : Int32) (m_leftBeats : Int32) (m_signed : Int32) (m_metMany : Int32) (m_qsums : Nat) (m_qpairs : Nat) (m_qgoesWith : Nat) (m_qsaid : Nat) (m_saidMany : Int32) (m_firstWait : Int32) (m_qfirstOrder : Nat) (m_bundleFirst : Int32) (m_qtiredBy : Nat) (m_tiredMany : Int32) (m_qmany : Nat) (m_qwidth : Nat) (m_qnumbers : Nat) (m_qmoving : Nat) (p0 : Int32) (h_m_taped : 0 ≤ (m_taped : Int32).toInt ∧ (m_taped : Int32).toInt ≤ 800) (h_m_size : 0 ≤ (m_size : Int32).toInt ∧ (m_size : Int32).toInt ≤ 800) (h_m_at : 0 ≤ (m_at : Int32).toInt ∧ (m_at : Int32).toInt ≤ 800) (h_m_from : 0 ≤ (m_from : Int32).toInt ∧ (m_from : Int32).toInt ≤ 800) (h_m_saidMany : 0 ≤ (m_saidMany : Int32).toInt ∧ (m_saidMany : Int32).toInt ≤ 60) (h_m_tiredMany : 0 ≤ (m_tiredMany : Int32).toInt ∧ (m_tiredMany : Int32).toInt ≤ 240) : Met l yX12_fault (Cond.code yX12_fault cX12_fault 2 (some .int) :: TB) (rmd 0 0 0) (PP D cA [(h0, .inr (12, [.int m_thrown, .ref m_qworld, .ref m_qimages, .ref m_qhasImage, .ref m_qtape, .int m_taped, .ref m_qfive, .int m_size, .int m_at, .int m_from, .int m_token, .int m_value, .int m_faultKind, .int m_faultPlace, .ref m_qfresh, .int m_startOne, .int m_startOther, .int m_latest, .int m_leftBeats, .int m_signed, .int m_metMany, .ref m_qsums, .ref m_qpairs, .ref m_qgoesWith, .ref m_qsaid, .int m_saidMany, .int m_firstWait, .ref m_qfirstOrder, .int m_bundleFirst, .ref m_qtiredBy, .int m_tiredMany, .ref m_qmany, .ref m_qwidth, .ref m_qnumbers, .ref m_qmoving]))] [.ref h0, .int p0]) (vp_Si (fun r => True)) 0 0 (fun _ => False) := by
  refine Met.ofW (cc := cX12_fault) (maxL := 2) (ret := (some .int)) (by decide) rfl ?_
  intro p e s m args below meth c s₁ B hml hv
  obtain ⟨rfl, hP, hKN⟩ := hv
  have hx := B.exec
  have hb := B.bytes
  have hr := B.returns
  have hts : ∀ w ∈ TB, w.before _ s = true := fun w h => atoms_spec B.pre w (List.mem_cons_of_mem _ h)
  have hown : s.vm.findClass RX12 = some m.cls := findClass_of_methodNamed B.named
  have hlocks := B.notSynchronized
  have hl := lv_entry ([.ref h0, .int p0]) (n := 2) (Nat.le_of_ble_eq_true rfl)
  rw [lg_entry_eq]
  generalize (lg_sl ([.ref h0, .int p0]) ++ List.replicate (2 - (lg_sl ([.ref h0, .int p0])).length) Slot.unset).toArray = ls at hl ⊢
  have hl : lv_has ls 2 [(0, .ref h0), (1, .int p0)] := hl
  refine lv_iload_n hx hb dX12_fault_0 rfl (lv_at hl 1 rfl) ?_
  refine lv_if_ne (tgt := 11) hx hb dX12_fault_1 (by decide) (fun c_1 => ?_) (fun c_1 => ?_)
  · skip
    have b_3 := i32_bd p0
    have k_2 := kk_ne rfl zi_0 c_1
    refine lv_iload_n hx hb dX12_fault_11 rfl (lv_at hl 1 rfl) ?_
    refine lv_iconst (v := 1) hx hb dX12_fault_12 (by decide) ?_
    refine lv_icmp_ne (tgt := 23) hx hb dX12_fault_13 (by decide) (fun c_4 => ?_) (fun c_4 => ?_)
    · skip
      have k_5 := kk_ne rfl zi_1 c_4
      refine lv_iconst (v := (-1)) hx hb dX12_fault_23 (by decide) ?_
      exact W.iret (v := (-1)) hx hb hr (fun t ht hW => ⟨(-1), rfl, trivial, ht⟩) (fun _ h => by cases h) dX12_fault_24
    · skip
      have k_6 := kk_eq rfl zi_1 c_4
      refine lv_aload_n hx hb dX12_fault_16 rfl (lv_at hl 0 rfl) ?_
      refine va_get (D := D) (ci := 12) (v := .int m_faultPlace) (C := RX12) (T := TX12) (N := 35) hx hb hts inX12 hown hKN.1 hP 0 rfl rfl 13 (by decide) (hts _ tw_1432) (fun _ h9 => h9) rfl dX12_fault_17 ?_
      refine lv_goto (tgt := 24) hx hb dX12_fault_20 (by decide) ?_
      exact W.iret (v := m_faultPlace) hx hb hr (fun t ht hW => ⟨m_faultPlace, rfl, trivial, ht⟩) (fun _ h => by cases h) dX12_fault_24
  · skip
    have b_8 := i32_bd p0
    have k_7 := kk_eq rfl zi_0 c_1
    refine lv_aload_n hx hb dX12_fault_4 rfl (lv_at hl 0 rfl) ?_
    refine va_get (D := D) (ci := 12) (v := .int m_faultKind) (C := RX12) (T := TX12) (N := 35) hx hb hts inX12 hown hKN.1 hP 0 rfl rfl 12 (by decide) (hts _ tw_1431) (fun _ h9 => h9) rfl dX12_fault_5 ?_
    refine lv_goto (tgt := 24) hx hb dX12_fault_8 (by decide) ?_
    exact W.iret (v := m_faultKind) hx hb hr (fun t ht hW => ⟨m_faultKind, rfl, trivial, ht⟩) (fun _ h => by cases h) dX12_fault_24
set_option maxHeartbeats 8000000 in
set_option maxRecDepth 100000 in
theorem g_X12_count (l : Launch) (D : va_G) (cA : Nat → ClassId) (h0 : Nat) (m_thrown : Int32) (m_qworld : Nat) (m_qimages : Nat) (m_qhasImage : Nat) (m_qtape : Nat) (m_taped : Int32) (m_qfive : Nat) (m_size : Int32) (m_at : Int32) (m_from : Int32) (m_token : Int32) (m_value : Int32) (m_faultKind : Int32) (m_faultPlace : Int32) (m_qfresh : Nat) (m_startOne : Int32) (m_startOther : Int32) (m_latest : Int32) (m_leftBeats : Int32) (m_signed : Int32) (m_metMany : Int32) (m_qsums : Nat) (m_qpairs : Nat) (m_qgoesWith : Nat) (m_qsaid : Nat) (m_saidMany : Int32) (m_firstWait : Int32) (m_qfirstOrder : Nat) (m_bundleFirst : Int32) (m_qtiredBy : Nat) (m_tiredMany : Int32) (m_qmany : Nat) (m_qwidth : Nat) (m_qnumbers : Nat) (m_qmoving : Nat) (m_cworld : Nat → Int32) (m_cmany : Nat → Int32) (p0 : Int32) (h_m_taped : 0 ≤ (m_taped : Int32).toInt ∧ (m_taped : Int32).toInt ≤ 800) (h_m_size : 0 ≤ (m_size : Int32).toInt ∧ (m_size : Int32).toInt ≤ 800) (h_m_at : 0 ≤ (m_at : Int32).toInt ∧ (m_at : Int32).toInt ≤ 800) (h_m_from : 0 ≤ (m_from : Int32).toInt ∧ (m_from : Int32).toInt ≤ 800) (h_m_saidMany : 0 ≤ (m_saidMany : Int32).toInt ∧ (m_saidMany : Int32).toInt ≤ 60) (h_m_tiredMany : 0 ≤ (m_tiredMany : Int32).toInt ∧ (m_tiredMany : Int32).toInt ≤ 240) (a_m_cworld_0 : WI m_cworld) (a_m_cmany_0 : AR (-1) 60 m_cmany) : Met l yX12_count (Cond.code yX12_count cX12_count 4 (some .int) :: TB) (rmd 1 0 0) (PP D cA [(h0, .inr (12, [.int m_thrown, .ref m_qworld, .ref m_qimages, .ref m_qhasImage, .ref m_qtape, .int m_taped, .ref m_qfive, .int m_size, .int m_at, .int m_from, .int m_token, .int m_value, .int m_faultKind, .int m_faultPlace, .ref m_qfresh, .int m_startOne, .int m_startOther, .int m_latest, .int m_leftBeats, .int m_signed, .int m_metMany, .ref m_qsums, .ref m_qpairs, .ref m_qgoesWith, .ref m_qsaid, .int m_saidMany, .int m_firstWait, .ref m_qfirstOrder, .int m_bundleFirst, .ref m_qtiredBy, .int m_tiredMany, .ref m_qmany, .ref m_qwidth, .ref m_qnumbers, .ref m_qmoving])), (m_qworld, .inl (cA 1, 122, .inl m_cworld)), (m_qmany, .inl (cA 1, 4, .inl m_cmany))] [.ref h0, .int p0]) (vp_Si (fun r => True)) 0 0 (fun _ => False) := by
  refine Met.ofW (cc := cX12_count) (maxL := 4) (ret := (some .int)) (by decide) rfl ?_
  intro p e s m args below meth c s₁ B hml hv
  obtain ⟨rfl, hP, hKN⟩ := hv
  have hx := B.exec
  have hb := B.bytes
  have hr := B.returns
  have hts : ∀ w ∈ TB, w.before _ s = true := fun w h => atoms_spec B.pre w (List.mem_cons_of_mem _ h)
  have hown : s.vm.findClass RX12 = some m.cls := findClass_of_methodNamed B.named
  have hlocks := B.notSynchronized
  have hl := lv_entry ([.ref h0, .int p0]) (n := 4) (Nat.le_of_ble_eq_true rfl)
  rw [lg_entry_eq]
  generalize (lg_sl ([.ref h0, .int p0]) ++ List.replicate (4 - (lg_sl ([.ref h0, .int p0])).length) Slot.unset).toArray = ls at hl ⊢
  have hl : lv_has ls 4 [(0, .ref h0), (1, .int p0)] := hl
  refine lv_iload_n hx hb dX12_count_0 rfl (lv_at hl 1 rfl) ?_
  obtain ⟨x_1, ex_1⟩ : ∃ y, p0.toInt64 = y := ⟨_, rfl⟩
  refine lv_i2l (v := x_1) hx hb dX12_count_1 ex_1 ?_
  have k_2 := tt_i2l ex_1
  refine lv_lconst (v := 0) hx hb dX12_count_2 (by decide) ?_
  refine lv_ldc2 (v := 8) hx hb hown (hts _ tw_2136) dX12_count_3 ?_
  have z_3 := zj_0
  have z_4 := zj_8
  refine cpSi (rest := []) ⟨hx, hb, hml, hown, hts⟩ hKN (hP.sub (ws' := []) [] rfl) (g_X12_in l D cA x_1 0 8) (tb_S tw_1530 tw_1531 tw_114 tw_1532) hdX12_in ⟨rfl, rfl, Nat.le_of_ble_eq_true rfl, Nat.le_of_ble_eq_true rfl⟩ ⟨Nat.le_of_ble_eq_true rfl, Nat.le_of_ble_eq_true rfl⟩ rfl hl.1 rfl (Nat.le_of_ble_eq_true rfl) dX12_count_6 (fun r_5 hr_5 => ?_)
  rcases hr_5 with ⟨k_5_0_0, k_5_0_1, rfl⟩ | ⟨k_5_1_0, rfl⟩
  · skip
    refine lv_if_eq (tgt := 19) hx hb dX12_count_9 (by decide) (fun c_6 => absurd c_6 (by decide)) (fun c_6 => ?_)
    refine lv_aload_n hx hb dX12_count_12 rfl (lv_at hl 0 rfl) ?_
    refine va_get (D := D) (ci := 12) (v := .ref m_qworld) (C := RX12) (T := TX12) (N := 35) hx hb hts inX12 hown hKN.1 hP 0 rfl rfl 1 (by decide) (hts _ tw_1420) (fun _ h9 => h9) rfl dX12_count_13 ?_
    refine lv_iload_n hx hb dX12_count_16 rfl (lv_at hl 1 rfl) ?_
    refine va_iald hx hb hKN.1 hP 1 1 rfl rfl (vp_in_iff.mpr ⟨by omega, by omega⟩) dX12_count_17 ?_
    refine lv_topi (fun x_7 ex_7 => ?_)
    exact W.iret (v := x_7) hx hb hr (fun t ht hW => ⟨x_7, rfl, trivial, ht⟩) (fun _ h => by cases h) dX12_count_18
  · skip
    refine lv_if_eq (tgt := 19) hx hb dX12_count_9 (by decide) (fun c_8 => ?_) (fun c_8 => absurd (by decide) c_8)
    refine lv_iload_n hx hb dX12_count_19 rfl (lv_at hl 1 rfl) ?_
    refine lv_bipush (v := 9) hx hb dX12_count_20 (by decide) ?_
    refine lv_icmp_ne (tgt := 30) hx hb dX12_count_22 (by decide) (fun c_9 => ?_) (fun c_9 => ?_)
    · skip
      have b_11 := i32_bd p0
      have k_10 := kk_ne rfl zi_9 c_9
      refine lv_iload_n hx hb dX12_count_30 rfl (lv_at hl 1 rfl) ?_
      refine lv_bipush (v := 10) hx hb dX12_count_31 (by decide) ?_
      refine lv_icmp_eq (tgt := 38) hx hb dX12_count_33 (by decide) (fun c_12 => ?_) (fun c_12 => ?_)
      · skip
        have k_13 := kk_eq rfl zi_10 c_12
        refine lv_iconst (v := 0) hx hb dX12_count_38 (by decide) ?_
        refine lv_istore_n (lv' := [(2, .int 0), (0, .ref h0), (1, .int p0)]) hx hb dX12_count_39 rfl hl (by decide) rfl (fun ls hl => ?_)
        refine lv_iconst (v := 0) hx hb dX12_count_40 (by decide) ?_
        refine lv_istore_n (lv' := [(3, .int 0), (2, .int 0), (0, .ref h0), (1, .int p0)]) hx hb dX12_count_41 rfl hl (by decide) rfl (fun ls hl => ?_)
        refine loopW (σ := Int32 × Int32) (fun _ => []) (fun ⟨L3_119, L2_119⟩ H locs ls => (0 ≤ L3_119.toInt ∧ L3_119.toInt ≤ 4) ∧ H = s.heap ∧ locs = [] ∧ lv_has ls 4 [(3, .int L3_119), (2, .int L2_119), (0, .ref h0), (1, .int p0)]) (fun ⟨L3_119, L2_119⟩ => (2147483647 - L3_119.toInt).toNat) ?_ ((0, 0) : Int32 × Int32) ⟨(by decide), rfl, rfl, hl⟩
        intro x_119 H locs ls hI_119 ih_119
        obtain ⟨L3_119, L2_119⟩ := x_119
        obtain ⟨k0_119, rfl, rfl, hl⟩ := hI_119
        have hl : lv_has ls 4 [(3, .int L3_119), (2, .int L2_119), (0, .ref h0), (1, .int p0)] := hl
        refine lv_iload_n hx hb dX12_count_42 rfl (lv_at hl 0 rfl) ?_
        refine lv_iconst (v := 4) hx hb dX12_count_43 (by decide) ?_
        refine lv_icmp_ge (tgt := 71) hx hb dX12_count_44 (by decide) (fun c_120 => ?_) (fun c_120 => ?_)
        · skip
          have k_121 := kk_le zi_4 rfl c_120
          refine lv_iload_n hx hb dX12_count_71 rfl (lv_at hl 1 rfl) ?_
          exact W.iret (v := L2_119) hx hb hr (fun t ht hW => ⟨L2_119, rfl, trivial, ht⟩) (fun _ h => by cases h) dX12_count_72
        · skip
          have k_122 := kk_nle zi_4 rfl c_120
          refine lv_iload_n hx hb dX12_count_47 rfl (lv_at hl 1 rfl) ?_
          refine lv_aload_n hx hb dX12_count_48 rfl (lv_at hl 2 rfl) ?_
          refine va_get (D := D) (ci := 12) (v := .ref m_qmany) (C := RX12) (T := TX12) (N := 35) hx hb hts inX12 hown hKN.1 hP 0 rfl rfl 31 (by decide) (hts _ tw_1450) (fun _ h9 => h9) rfl dX12_count_49 ?_
          refine lv_iload_n hx hb dX12_count_52 rfl (lv_at hl 0 rfl) ?_
          refine va_iald hx hb hKN.1 hP 2 1 rfl rfl (vp_in_iff.mpr ⟨by omega, by omega⟩) dX12_count_53 ?_
          refine lv_topi (fun x_123 ex_123 => ?_)
          have k_124 := a_m_cmany_0 (L3_119.toNatClampNeg)
          rw [← ex_123] at k_124
          refine lv_iconst (v := (-1)) hx hb dX12_count_54 (by decide) ?_
          refine lv_icmp_ne (tgt := 62) hx hb dX12_count_55 (by decide) (fun c_125 => ?_) (fun c_125 => ?_)
          · skip
            have k_126 := kk_ne rfl zi_m1 c_125
            refine lv_iconst (v := 1) hx hb dX12_count_62 (by decide) ?_
            refine lv_iadd hx hb dX12_count_63 ?_
            refine lv_topi (fun x_127 ex_127 => ?_)
            refine lv_istore_n (lv' := [(2, .int x_127), (3, .int L3_119), (0, .ref h0), (1, .int p0)]) hx hb dX12_count_64 rfl hl (by decide) rfl (fun ls hl => ?_)
            obtain ⟨x_129, ex_129⟩ : ∃ y : Int32, L3_119 + Int32.ofInt 1 = y := ⟨_, rfl⟩
            have k_130 := ar_add (b := 1) rfl zi_1 ex_129.symm (by omega) (by omega)
            refine lv_iinc (v := x_129) (lv' := [(3, .int x_129), (2, .int x_127), (0, .ref h0), (1, .int p0)]) hx hb dX12_count_65 hl (k := 1) rfl ex_129 (by decide) rfl (fun ls hl => ?_)
            refine lv_goto (tgt := 42) hx hb dX12_count_68 (by decide) ?_
            exact ih_119 (x_129, x_127) _ _ _ ⟨(show 0 ≤ x_129.toInt ∧ x_129.toInt ≤ 4 from by omega), rfl, rfl, lv_sub hl [0, 1, 2, 3] rfl⟩ (by show (2147483647 - x_129.toInt).toNat < (2147483647 - L3_119.toInt).toNat; omega)
          · skip
            have k_131 := kk_eq rfl zi_m1 c_125
            refine lv_iconst (v := 0) hx hb dX12_count_58 (by decide) ?_
            refine lv_goto (tgt := 63) hx hb dX12_count_59 (by decide) ?_
            refine lv_iadd hx hb dX12_count_63 ?_
            refine lv_topi (fun x_132 ex_132 => ?_)
            have b_134 := i32_bd L2_119
            have k_133 := ar_add rfl zi_0 ex_132 (by omega) (by omega)
            refine lv_istore_n (lv' := [(2, .int x_132), (3, .int L3_119), (0, .ref h0), (1, .int p0)]) hx hb dX12_count_64 rfl hl (by decide) rfl (fun ls hl => ?_)
            obtain ⟨x_135, ex_135⟩ : ∃ y : Int32, L3_119 + Int32.ofInt 1 = y := ⟨_, rfl⟩
            have k_136 := ar_add (b := 1) rfl zi_1 ex_135.symm (by omega) (by omega)
            refine lv_iinc (v := x_135) (lv' := [(3, .int x_135), (2, .int x_132), (0, .ref h0), (1, .int p0)]) hx hb dX12_count_65 hl (k := 1) rfl ex_135 (by decide) rfl (fun ls hl => ?_)
            refine lv_goto (tgt := 42) hx hb dX12_count_68 (by decide) ?_
            exact ih_119 (x_135, x_132) _ _ _ ⟨(show 0 ≤ x_135.toInt ∧ x_135.toInt ≤ 4 from by omega), rfl, rfl, lv_sub hl [0, 1, 2, 3] rfl⟩ (by show (2147483647 - x_135.toInt).toNat < (2147483647 - L3_119.toInt).toNat; omega)
      · skip
        have k_137 := kk_ne rfl zi_10 c_12
        refine lv_iconst (v := (-1)) hx hb dX12_count_36 (by decide) ?_
        exact W.iret (v := (-1)) hx hb hr (fun t ht hW => ⟨(-1), rfl, trivial, ht⟩) (fun _ h => by cases h) dX12_count_37
    · skip
      have b_139 := i32_bd p0
      have k_138 := kk_eq rfl zi_9 c_9
      refine lv_aload_n hx hb dX12_count_25 rfl (lv_at hl 0 rfl) ?_
      refine va_get (D := D) (ci := 12) (v := .int m_taped) (C := RX12) (T := TX12) (N := 35) hx hb hts inX12 hown hKN.1 hP 0 rfl rfl 5 (by decide) (hts _ tw_1424) (fun _ h9 => h9) rfl dX12_count_26 ?_
      exact W.iret (v := m_taped) hx hb hr (fun t ht hW => ⟨m_taped, rfl, trivial, ht⟩) (fun _ h => by cases h) dX12_count_29
set_option maxHeartbeats 8000000 in
set_option maxRecDepth 100000 in
theorem g_X12_end (l : Launch) (D : va_G) (cA : Nat → ClassId) (sz : Nat) (h0 : Nat) (m_thrown : Int32) (m_qworld : Nat) (m_qimages : Nat) (m_qhasImage : Nat) (m_qtape : Nat) (m_taped : Int32) (m_qfive : Nat) (m_size : Int32) (m_at : Int32) (m_from : Int32) (m_token : Int32) (m_value : Int32) (m_faultKind : Int32) (m_faultPlace : Int32) (m_qfresh : Nat) (m_startOne : Int32) (m_startOther : Int32) (m_latest : Int32) (m_leftBeats : Int32) (m_signed : Int32) (m_metMany : Int32) (m_qsums : Nat) (m_qpairs : Nat) (m_qgoesWith : Nat) (m_qsaid : Nat) (m_saidMany : Int32) (m_firstWait : Int32) (m_qfirstOrder : Nat) (m_bundleFirst : Int32) (m_qtiredBy : Nat) (m_tiredMany : Int32) (m_qmany : Nat) (m_qwidth : Nat) (m_qnumbers : Nat) (m_qmoving : Nat) (p0 : Int32) (h_m_taped : 0 ≤ (m_taped : Int32).toInt ∧ (m_taped : Int32).toInt ≤ 800) (h_m_size : 0 ≤ (m_size : Int32).toInt ∧ (m_size : Int32).toInt ≤ 800) (h_m_at : 0 ≤ (m_at : Int32).toInt ∧ (m_at : Int32).toInt ≤ 800) (h_m_from : 0 ≤ (m_from : Int32).toInt ∧ (m_from : Int32).toInt ≤ 800) (h_m_saidMany : 0 ≤ (m_saidMany : Int32).toInt ∧ (m_saidMany : Int32).toInt ≤ 60) (h_m_tiredMany : 0 ≤ (m_tiredMany : Int32).toInt ∧ (m_tiredMany : Int32).toInt ≤ 240) : Met l yX12_end (Cond.code yX12_end cX12_end 2 (some .int) :: TB) (rmd 1 0 0) (PM D cA sz [(h0, .inr (12, [.int m_thrown, .ref m_qworld, .ref m_qimages, .ref m_qhasImage, .ref m_qtape, .int m_taped, .ref m_qfive, .int m_size, .int m_at, .int m_from, .int m_token, .int m_value, .int m_faultKind, .int m_faultPlace, .ref m_qfresh, .int m_startOne, .int m_startOther, .int m_latest, .int m_leftBeats, .int m_signed, .int m_metMany, .ref m_qsums, .ref m_qpairs, .ref m_qgoesWith, .ref m_qsaid, .int m_saidMany, .int m_firstWait, .ref m_qfirstOrder, .int m_bundleFirst, .ref m_qtiredBy, .int m_tiredMany, .ref m_qmany, .ref m_qwidth, .ref m_qnumbers, .ref m_qmoving]))] [.ref h0, .int p0]) (va_Qi (fun r (u : SU) => (-1 ≤ r.toInt ∧ r.toInt ≤ 800) ∧ (0 ≤ (u.2.1 0).toInt ∧ (u.2.1 0).toInt ≤ 800)) (fun u t => va_P D vwCl [(h0, .inr (12, [.int m_thrown, .ref m_qworld, .ref m_qimages, .ref m_qhasImage, .ref m_qtape, .int (u.2.1 0), .ref m_qfive, .int m_size, .int m_at, .int m_from, .int m_token, .int m_value, .int m_faultKind, .int m_faultPlace, .ref m_qfresh, .int m_startOne, .int m_startOther, .int m_latest, .int m_leftBeats, .int m_signed, .int m_metMany, .ref m_qsums, .ref m_qpairs, .ref m_qgoesWith, .ref m_qsaid, .int m_saidMany, .int m_firstWait, .ref m_qfirstOrder, .int m_bundleFirst, .ref m_qtiredBy, .int m_tiredMany, .ref m_qmany, .ref m_qwidth, .ref m_qnumbers, .ref m_qmoving]))] t.heap ∧ va_D (va_A [(h0, .inr (12, [.int m_thrown, .ref m_qworld, .ref m_qimages, .ref m_qhasImage, .ref m_qtape, .int m_taped, .ref m_qfive, .int m_size, .int m_at, .int m_from, .int m_token, .int m_value, .int m_faultKind, .int m_faultPlace, .ref m_qfresh, .int m_startOne, .int m_startOther, .int m_latest, .int m_leftBeats, .int m_signed, .int m_metMany, .ref m_qsums, .ref m_qpairs, .ref m_qgoesWith, .ref m_qsaid, .int m_saidMany, .int m_firstWait, .ref m_qfirstOrder, .int m_bundleFirst, .ref m_qtiredBy, .int m_tiredMany, .ref m_qmany, .ref m_qwidth, .ref m_qnumbers, .ref m_qmoving]))] sz) [(h0, .inr (12, [.int m_thrown, .ref m_qworld, .ref m_qimages, .ref m_qhasImage, .ref m_qtape, .int (u.2.1 0), .ref m_qfive, .int m_size, .int m_at, .int m_from, .int m_token, .int m_value, .int m_faultKind, .int m_faultPlace, .ref m_qfresh, .int m_startOne, .int m_startOther, .int m_latest, .int m_leftBeats, .int m_signed, .int m_metMany, .ref m_qsums, .ref m_qpairs, .ref m_qgoesWith, .ref m_qsaid, .int m_saidMany, .int m_firstWait, .ref m_qfirstOrder, .int m_bundleFirst, .ref m_qtiredBy, .int m_tiredMany, .ref m_qmany, .ref m_qwidth, .ref m_qnumbers, .ref m_qmoving]))]) (va_A [(h0, .inr (12, [.int m_thrown, .ref m_qworld, .ref m_qimages, .ref m_qhasImage, .ref m_qtape, .int m_taped, .ref m_qfive, .int m_size, .int m_at, .int m_from, .int m_token, .int m_value, .int m_faultKind, .int m_faultPlace, .ref m_qfresh, .int m_startOne, .int m_startOther, .int m_latest, .int m_leftBeats, .int m_signed, .int m_metMany, .ref m_qsums, .ref m_qpairs, .ref m_qgoesWith, .ref m_qsaid, .int m_saidMany, .int m_firstWait, .ref m_qfirstOrder, .int m_bundleFirst, .ref m_qtiredBy, .int m_tiredMany, .ref m_qmany, .ref m_qwidth, .ref m_qnumbers, .ref m_qmoving]))] sz)) 0 0 (va_A [(h0, .inr (12, [.int m_thrown, .ref m_qworld, .ref m_qimages, .ref m_qhasImage, .ref m_qtape, .int m_taped, .ref m_qfive, .int m_size, .int m_at, .int m_from, .int m_token, .int m_value, .int m_faultKind, .int m_faultPlace, .ref m_qfresh, .int m_startOne, .int m_startOther, .int m_latest, .int m_leftBeats, .int m_signed, .int m_metMany, .ref m_qsums, .ref m_qpairs, .ref m_qgoesWith, .ref m_qsaid, .int m_saidMany, .int m_firstWait, .ref m_qfirstOrder, .int m_bundleFirst, .ref m_qtiredBy, .int m_tiredMany, .ref m_qmany, .ref m_qwidth, .ref m_qnumbers, .ref m_qmoving]))] sz) := by
  refine Met.ofW (cc := cX12_end) (maxL := 2) (ret := (some .int)) (by decide) rfl ?_
  intro p e s m args below meth c s₁ B hml hv
  obtain ⟨rfl, hsz, hP, hKN, hD0⟩ := hv
  have hx := B.exec
  have hb := B.bytes
  have hr := B.returns
  have hts : ∀ w ∈ TB, w.before _ s = true := fun w h => atoms_spec B.pre w (List.mem_cons_of_mem _ h)
  have hown : s.vm.findClass RX12 = some m.cls := findClass_of_methodNamed B.named
  have hlocks := B.notSynchronized
  subst hsz
  have hD := hD0.self (sz := s.heap.size)
  generalize hAe : va_A [(h0, .inr (12, [.int m_thrown, .ref m_qworld, .ref m_qimages, .ref m_qhasImage, .ref m_qtape, .int m_taped, .ref m_qfive, .int m_size, .int m_at, .int m_from, .int m_token, .int m_value, .int m_faultKind, .int m_faultPlace, .ref m_qfresh, .int m_startOne, .int m_startOther, .int m_latest, .int m_leftBeats, .int m_signed, .int m_metMany, .ref m_qsums, .ref m_qpairs, .ref m_qgoesWith, .ref m_qsaid, .int m_saidMany, .int m_firstWait, .ref m_qfirstOrder, .int m_bundleFirst, .ref m_qtiredBy, .int m_tiredMany, .ref m_qmany, .ref m_qwidth, .ref m_qnumbers, .ref m_qmoving]))] s.heap.size = A at hD ⊢
  have hA : ∀ q : Nat, s.heap.size ≤ q → A q := fun q h => by rw [← hAe]; exact Or.inr h
  have hS : va_S A s.heap s.heap [] := va_S.rf
  have hl := lv_entry ([.ref h0, .int p0]) (n := 2) (Nat.le_of_ble_eq_true rfl)
  rw [lg_entry_eq]
  generalize (lg_sl ([.ref h0, .int p0]) ++ List.replicate (2 - (lg_sl ([.ref h0, .int p0])).length) Slot.unset).toArray = ls at hl ⊢
  have hl : lv_has ls 2 [(0, .ref h0), (1, .int p0)] := hl
  refine lv_iload_n hx hb dX12_end_0 rfl (lv_at hl 1 rfl) ?_
  obtain ⟨x_1, ex_1⟩ : ∃ y, p0.toInt64 = y := ⟨_, rfl⟩
  refine lv_i2l (v := x_1) hx hb dX12_end_1 ex_1 ?_
  have k_2 := tt_i2l ex_1
  refine lv_lconst (v := 0) hx hb dX12_end_2 (by decide) ?_
  refine lv_aload_n hx hb dX12_end_3 rfl (lv_at hl 0 rfl) ?_
  refine va_get (D := D) (ci := 12) (v := .int m_taped) (C := RX12) (T := TX12) (N := 35) hx hb hts inX12 hown hKN.1 hP 0 rfl rfl 5 (by decide) (hts _ tw_1424) (fun _ h9 => h9) rfl dX12_end_4 ?_
  obtain ⟨x_3, ex_3⟩ : ∃ y, m_taped.toInt64 = y := ⟨_, rfl⟩
  refine lv_i2l (v := x_3) hx hb dX12_end_7 ex_3 ?_
  have k_4 := tt_i2l ex_3
  have z_5 := zj_0
  refine cpSi (rest := []) ⟨hx, hb, hml, hown, hts⟩ hKN (hP.sub (ws' := []) [] rfl) (g_X12_in l D cA x_1 0 x_3) (tb_S tw_1530 tw_1531 tw_114 tw_1532) hdX12_in ⟨rfl, rfl, Nat.le_of_ble_eq_true rfl, Nat.le_of_ble_eq_true rfl⟩ ⟨Nat.le_of_ble_eq_true rfl, Nat.le_of_ble_eq_true rfl⟩ rfl hl.1 rfl (Nat.le_of_ble_eq_true rfl) dX12_end_8 (fun r_6 hr_6 => ?_)
  rcases hr_6 with ⟨k_6_0_0, k_6_0_1, rfl⟩ | ⟨k_6_1_0, rfl⟩
  · skip
    refine lv_if_ne (tgt := 16) hx hb dX12_end_11 (by decide) (fun c_7 => ?_) (fun c_7 => absurd c_7 (by decide))
    refine lv_aload_n hx hb dX12_end_16 rfl (lv_at hl 0 rfl) ?_
    refine lv_iload_n hx hb dX12_end_17 rfl (lv_at hl 1 rfl) ?_
    refine va_put (D := D) (ci := 12) (v := .int p0) (ty := .int) (C := RX12) (T := TX12) (N := 35) hx hb hts inX12 tyX12 tyX12_ok nmX12 hown hKN.1 hP hD hS 0 rfl rfl 5 (by decide) (hts _ tw_1424) (fun _ h9 => h9) rfl (by decide +kernel) rfl rfl (Nat.le_of_ble_eq_true rfl) dX12_end_18 (fun H locs hP hD hS => ?_)
    have hP : va_P D vwCl [(h0, .inr (12, [.int m_thrown, .ref m_qworld, .ref m_qimages, .ref m_qhasImage, .ref m_qtape, .int p0, .ref m_qfive, .int m_size, .int m_at, .int m_from, .int m_token, .int m_value, .int m_faultKind, .int m_faultPlace, .ref m_qfresh, .int m_startOne, .int m_startOther, .int m_latest, .int m_leftBeats, .int m_signed, .int m_metMany, .ref m_qsums, .ref m_qpairs, .ref m_qgoesWith, .ref m_qsaid, .int m_saidMany, .int m_firstWait, .ref m_qfirstOrder, .int m_bundleFirst, .ref m_qtiredBy, .int m_tiredMany, .ref m_qmany, .ref m_qwidth, .ref m_qnumbers, .ref m_qmoving]))] H := hP
    have hD : va_D A [(h0, .inr (12, [.int m_thrown, .ref m_qworld, .ref m_qimages, .ref m_qhasImage, .ref m_qtape, .int p0, .ref m_qfive, .int m_size, .int m_at, .int m_from, .int m_token, .int m_value, .int m_faultKind, .int m_faultPlace, .ref m_qfresh, .int m_startOne, .int m_startOther, .int m_latest, .int m_leftBeats, .int m_signed, .int m_metMany, .ref m_qsums, .ref m_qpairs, .ref m_qgoesWith, .ref m_qsaid, .int m_saidMany, .int m_firstWait, .ref m_qfirstOrder, .int m_bundleFirst, .ref m_qtiredBy, .int m_tiredMany, .ref m_qmany, .ref m_qwidth, .ref m_qnumbers, .ref m_qmoving]))] := hD
    refine lv_iload_n hx hb dX12_end_21 rfl (lv_at hl 1 rfl) ?_
    have hP9 := hP.sub (ws' := [(h0, .inr (12, [.int m_thrown, .ref m_qworld, .ref m_qimages, .ref m_qhasImage, .ref m_qtape, .int p0, .ref m_qfive, .int m_size, .int m_at, .int m_from, .int m_token, .int m_value, .int m_faultKind, .int m_faultPlace, .ref m_qfresh, .int m_startOne, .int m_startOther, .int m_latest, .int m_leftBeats, .int m_signed, .int m_metMany, .ref m_qsums, .ref m_qpairs, .ref m_qgoesWith, .ref m_qsaid, .int m_saidMany, .int m_firstWait, .ref m_qfirstOrder, .int m_bundleFirst, .ref m_qtiredBy, .int m_tiredMany, .ref m_qmany, .ref m_qwidth, .ref m_qnumbers, .ref m_qmoving]))]) [0] rfl
    have hD9 := hD.sub (ws' := [(h0, .inr (12, [.int m_thrown, .ref m_qworld, .ref m_qimages, .ref m_qhasImage, .ref m_qtape, .int p0, .ref m_qfive, .int m_size, .int m_at, .int m_from, .int m_token, .int m_value, .int m_faultKind, .int m_faultPlace, .ref m_qfresh, .int m_startOne, .int m_startOther, .int m_latest, .int m_leftBeats, .int m_signed, .int m_metMany, .ref m_qsums, .ref m_qpairs, .ref m_qgoesWith, .ref m_qsaid, .int m_saidMany, .int m_firstWait, .ref m_qfirstOrder, .int m_bundleFirst, .ref m_qtiredBy, .int m_tiredMany, .ref m_qmany, .ref m_qwidth, .ref m_qnumbers, .ref m_qmoving]))]) [0] (by decide) rfl
    exact W.iret (v := p0) hx hb hr (fun t ht hW => ⟨⟨p0, ((fun _ => 0), (selI [p0]), (fun _ _ => 0), (fun _ _ => 0)), rfl, ⟨(show -1 ≤ p0.toInt ∧ p0.toInt ≤ 800 from by omega), (show 0 ≤ p0.toInt ∧ p0.toInt ≤ 800 from by omega)⟩, by rw [ht]; exact hP9, hD9⟩, hS.F ht⟩) hS.2.2 dX12_end_22
  · skip
    refine lv_if_ne (tgt := 16) hx hb dX12_end_11 (by decide) (fun c_8 => absurd (by decide) c_8) (fun c_8 => ?_)
    refine lv_iconst (v := (-1)) hx hb dX12_end_14 (by decide) ?_
    have hP9 := hP.sub (ws' := [(h0, .inr (12, [.int m_thrown, .ref m_qworld, .ref m_qimages, .ref m_qhasImage, .ref m_qtape, .int m_taped, .ref m_qfive, .int m_size, .int m_at, .int m_from, .int m_token, .int m_value, .int m_faultKind, .int m_faultPlace, .ref m_qfresh, .int m_startOne, .int m_startOther, .int m_latest, .int m_leftBeats, .int m_signed, .int m_metMany, .ref m_qsums, .ref m_qpairs, .ref m_qgoesWith, .ref m_qsaid, .int m_saidMany, .int m_firstWait, .ref m_qfirstOrder, .int m_bundleFirst, .ref m_qtiredBy, .int m_tiredMany, .ref m_qmany, .ref m_qwidth, .ref m_qnumbers, .ref m_qmoving]))]) [0] rfl
    have hD9 := hD.sub (ws' := [(h0, .inr (12, [.int m_thrown, .ref m_qworld, .ref m_qimages, .ref m_qhasImage, .ref m_qtape, .int m_taped, .ref m_qfive, .int m_size, .int m_at, .int m_from, .int m_token, .int m_value, .int m_faultKind, .int m_faultPlace, .ref m_qfresh, .int m_startOne, .int m_startOther, .int m_latest, .int m_leftBeats, .int m_signed, .int m_metMany, .ref m_qsums, .ref m_qpairs, .ref m_qgoesWith, .ref m_qsaid, .int m_saidMany, .int m_firstWait, .ref m_qfirstOrder, .int m_bundleFirst, .ref m_qtiredBy, .int m_tiredMany, .ref m_qmany, .ref m_qwidth, .ref m_qnumbers, .ref m_qmoving]))]) [0] (by decide) rfl
    exact W.iret (v := (-1)) hx hb hr (fun t ht hW => ⟨⟨(-1), ((fun _ => 0), (selI [m_taped]), (fun _ _ => 0), (fun _ _ => 0)), rfl, ⟨(show -1 ≤ ((-1) : Int32).toInt ∧ ((-1) : Int32).toInt ≤ 800 from by decide), (show 0 ≤ m_taped.toInt ∧ m_taped.toInt ≤ 800 from by omega)⟩, by rw [ht]; exact hP9, hD9⟩, hS.F ht⟩) hS.2.2 dX12_end_15

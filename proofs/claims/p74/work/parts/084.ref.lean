set_option maxHeartbeats 8000000 in
set_option maxRecDepth 100000 in
theorem g_X12_resinOf_f (l : Launch) (D : va_G) (cA : Nat → ClassId) (h0 : Nat) (m_thrown : Int32) (m_qworld : Nat) (m_qimages : Nat) (m_qhasImage : Nat) (m_qtape : Nat) (m_taped : Int32) (m_qfive : Nat) (m_size : Int32) (m_at : Int32) (m_from : Int32) (m_token : Int32) (m_value : Int32) (m_faultKind : Int32) (m_faultPlace : Int32) (m_qfresh : Nat) (m_startOne : Int32) (m_startOther : Int32) (m_latest : Int32) (m_leftBeats : Int32) (m_signed : Int32) (m_metMany : Int32) (m_qsums : Nat) (m_qpairs : Nat) (m_qgoesWith : Nat) (m_qsaid : Nat) (m_saidMany : Int32) (m_firstWait : Int32) (m_qfirstOrder : Nat) (m_bundleFirst : Int32) (m_qtiredBy : Nat) (m_tiredMany : Int32) (m_qmany : Nat) (m_qwidth : Nat) (m_qnumbers : Nat) (m_qmoving : Nat) (m_cworld : Nat → Int32) (p0 : Int32) (p1 : Int32) (p2 : Int32) (h_m_taped : 0 ≤ (m_taped : Int32).toInt ∧ (m_taped : Int32).toInt ≤ 800) (h_m_size : 0 ≤ (m_size : Int32).toInt ∧ (m_size : Int32).toInt ≤ 800) (h_m_at : 0 ≤ (m_at : Int32).toInt ∧ (m_at : Int32).toInt ≤ 800) (h_m_from : 0 ≤ (m_from : Int32).toInt ∧ (m_from : Int32).toInt ≤ 800) (h_m_saidMany : 0 ≤ (m_saidMany : Int32).toInt ∧ (m_saidMany : Int32).toInt ≤ 60) (h_m_tiredMany : 0 ≤ (m_tiredMany : Int32).toInt ∧ (m_tiredMany : Int32).toInt ≤ 240) (h_p0 : 0 ≤ (p0 : Int32).toInt ∧ (p0 : Int32).toInt ≤ 7) (h_p1 : 0 ≤ (p1 : Int32).toInt ∧ (p1 : Int32).toInt ≤ 7) (h_p2 : 0 ≤ (p2 : Int32).toInt ∧ (p2 : Int32).toInt ≤ 20) (a_m_cworld_0 : WI m_cworld) : Met l yX12_resinOf (Cond.code yX12_resinOf cX12_resinOf 6 (some .int) :: TB) (rmd 1 0 0) (PP D cA [(h0, .inr (12, [.int m_thrown, .ref m_qworld, .ref m_qimages, .ref m_qhasImage, .ref m_qtape, .int m_taped, .ref m_qfive, .int m_size, .int m_at, .int m_from, .int m_token, .int m_value, .int m_faultKind, .int m_faultPlace, .ref m_qfresh, .int m_startOne, .int m_startOther, .int m_latest, .int m_leftBeats, .int m_signed, .int m_metMany, .ref m_qsums, .ref m_qpairs, .ref m_qgoesWith, .ref m_qsaid, .int m_saidMany, .int m_firstWait, .ref m_qfirstOrder, .int m_bundleFirst, .ref m_qtiredBy, .int m_tiredMany, .ref m_qmany, .ref m_qwidth, .ref m_qnumbers, .ref m_qmoving])), (m_qworld, .inl (cA 1, 122, .inl m_cworld))] [.ref h0, .int p0, .int p1, .int p2]) (vp_Si (fun r => (0 ≤ r.toInt ∧ r.toInt ≤ 100) ∧ ((r : Int32).toInt = RBi ((m_cworld (9 + 3 * (p0 : Int32).toInt.toNat + (1 : Int32).toInt.toNat)).toInt) ((m_cworld (9 + 3 * (p1 : Int32).toInt.toNat + (1 : Int32).toInt.toNat)).toInt) (p2 : Int32).toInt ((p2 : Int32).toInt + 1).toNat + min ((m_cworld (9 + 3 * (p0 : Int32).toInt.toNat + (2 : Int32).toInt.toNat)).toInt) ((m_cworld (9 + 3 * (p1 : Int32).toInt.toNat + (2 : Int32).toInt.toNat)).toInt)))) 0 0 (fun _ => False) := by
  refine Met.ofW (cc := cX12_resinOf) (maxL := 6) (ret := (some .int)) (by decide) rfl ?_
  intro p e s m args below meth c s₁ B hml hv
  obtain ⟨rfl, hP, hKN⟩ := hv
  have hx := B.exec
  have hb := B.bytes
  have hr := B.returns
  have hts : ∀ w ∈ TB, w.before _ s = true := fun w h => atoms_spec B.pre w (List.mem_cons_of_mem _ h)
  have hown : s.vm.findClass RX12 = some m.cls := findClass_of_methodNamed B.named
  have hlocks := B.notSynchronized
  have hl := lv_entry ([.ref h0, .int p0, .int p1, .int p2]) (n := 6) (Nat.le_of_ble_eq_true rfl)
  rw [lg_entry_eq]
  generalize (lg_sl ([.ref h0, .int p0, .int p1, .int p2]) ++ List.replicate (6 - (lg_sl ([.ref h0, .int p0, .int p1, .int p2])).length) Slot.unset).toArray = ls at hl ⊢
  have hl : lv_has ls 6 [(0, .ref h0), (1, .int p0), (2, .int p1), (3, .int p2)] := hl
  refine lv_iconst (v := 0) hx hb dX12_resinOf_0 (by decide) ?_
  refine lv_istore (lv' := [(4, .int 0), (0, .ref h0), (1, .int p0), (2, .int p1), (3, .int p2)]) hx hb dX12_resinOf_1 hl (by decide) rfl (fun ls hl => ?_)
  refine lv_iconst (v := 0) hx hb dX12_resinOf_3 (by decide) ?_
  refine lv_istore (lv' := [(5, .int 0), (4, .int 0), (0, .ref h0), (1, .int p0), (2, .int p1), (3, .int p2)]) hx hb dX12_resinOf_4 hl (by decide) rfl (fun ls hl => ?_)
  have z_128 := zi_0
  have hb_129 : (0 : Int32).toInt = RBi ((m_cworld (9 + 3 * (p0 : Int32).toInt.toNat + (1 : Int32).toInt.toNat)).toInt) ((m_cworld (9 + 3 * (p1 : Int32).toInt.toNat + (1 : Int32).toInt.toNat)).toInt) (p2 : Int32).toInt (0 : Int32).toInt.toNat := by
    have z : (0 : Int32).toInt.toNat = 0 := by decide
    rw [z]; exact zi_0
  refine loopW (σ := Int32 × Int32) (fun _ => []) (fun ⟨L5_127, L4_127⟩ H locs ls => (0 ≤ L5_127.toInt ∧ L5_127.toInt ≤ 21) ∧ (0 ≤ L4_127.toInt ∧ L4_127.toInt ≤ 70) ∧ (L5_127.toInt ≤ p2.toInt + 1) ∧ (L4_127.toInt = RBi ((m_cworld (9 + 3 * (p0 : Int32).toInt.toNat + (1 : Int32).toInt.toNat)).toInt) ((m_cworld (9 + 3 * (p1 : Int32).toInt.toNat + (1 : Int32).toInt.toNat)).toInt) (p2 : Int32).toInt L5_127.toInt.toNat) ∧ H = s.heap ∧ locs = [] ∧ lv_has ls 6 [(5, .int L5_127), (4, .int L4_127), (0, .ref h0), (1, .int p0), (2, .int p1), (3, .int p2)]) (fun ⟨L5_127, L4_127⟩ => (2147483647 - L5_127.toInt).toNat) ?_ ((0, 0) : Int32 × Int32) ⟨(by decide), (by decide), (show (0 : Int32).toInt ≤ p2.toInt + 1 from by first | omega | decide), hb_129, rfl, rfl, hl⟩
  intro x_127 H locs ls hI_127 ih_127
  obtain ⟨L5_127, L4_127⟩ := x_127
  obtain ⟨k0_127, k1_127, k2_127, k3_127, rfl, rfl, hl⟩ := hI_127
  have hl : lv_has ls 6 [(5, .int L5_127), (4, .int L4_127), (0, .ref h0), (1, .int p0), (2, .int p1), (3, .int p2)] := hl
  refine lv_iload hx hb dX12_resinOf_6 (lv_at hl 0 rfl) ?_
  refine lv_iload_n hx hb dX12_resinOf_8 rfl (lv_at hl 5 rfl) ?_
  refine lv_icmp_gt (tgt := 52) hx hb dX12_resinOf_9 (by decide) (fun c_130 => ?_) (fun c_130 => ?_)
  · skip
    have k_131 := kk_lt rfl rfl c_130
    refine lv_iload hx hb dX12_resinOf_52 (lv_at hl 1 rfl) ?_
    refine lv_aload_n hx hb dX12_resinOf_54 rfl (lv_at hl 2 rfl) ?_
    refine lv_iload_n hx hb dX12_resinOf_55 rfl (lv_at hl 3 rfl) ?_
    refine lv_iconst (v := 2) hx hb dX12_resinOf_56 (by decide) ?_
    have z_132 := zi_2
    refine cpVi (rest := [.int L4_127]) ⟨hx, hb, hml, hown, hts⟩ hKN (hP.sub (ws' := [(h0, .inr (12, [.int m_thrown, .ref m_qworld, .ref m_qimages, .ref m_qhasImage, .ref m_qtape, .int m_taped, .ref m_qfive, .int m_size, .int m_at, .int m_from, .int m_token, .int m_value, .int m_faultKind, .int m_faultPlace, .ref m_qfresh, .int m_startOne, .int m_startOther, .int m_latest, .int m_leftBeats, .int m_signed, .int m_metMany, .ref m_qsums, .ref m_qpairs, .ref m_qgoesWith, .ref m_qsaid, .int m_saidMany, .int m_firstWait, .ref m_qfirstOrder, .int m_bundleFirst, .ref m_qtiredBy, .int m_tiredMany, .ref m_qmany, .ref m_qwidth, .ref m_qnumbers, .ref m_qmoving])), (m_qworld, .inl (cA 1, 122, .inl m_cworld))]) [0, 1] rfl) (g_X12_of l D cA h0 m_thrown m_qworld m_qimages m_qhasImage m_qtape m_taped m_qfive m_size m_at m_from m_token m_value m_faultKind m_faultPlace m_qfresh m_startOne m_startOther m_latest m_leftBeats m_signed m_metMany m_qsums m_qpairs m_qgoesWith m_qsaid m_saidMany m_firstWait m_qfirstOrder m_bundleFirst m_qtiredBy m_tiredMany m_qmany m_qwidth m_qnumbers m_qmoving m_cworld p0 2 (by omega) (by omega) (by omega) (by omega) (by omega) (by omega) (by omega) (by decide) a_m_cworld_0) (tb_V tw_1640 tw_1642 tw_50 tw_114 tw_1643) hdX12_of ⟨rfl, rfl, Nat.le_of_ble_eq_true rfl, Nat.le_of_ble_eq_true rfl⟩ ⟨Nat.le_of_ble_eq_true rfl, Nat.le_of_ble_eq_true rfl⟩ rfl rfl rfl hl.1 rfl (Nat.le_of_ble_eq_true rfl) dX12_resinOf_57 (fun r_133 hr_133 => ?_)
    obtain ⟨k_133_0_0, k_133_0_1⟩ := hr_133
    refine lv_aload_n hx hb dX12_resinOf_60 rfl (lv_at hl 2 rfl) ?_
    refine lv_iload_n hx hb dX12_resinOf_61 rfl (lv_at hl 4 rfl) ?_
    refine lv_iconst (v := 2) hx hb dX12_resinOf_62 (by decide) ?_
    refine cpVi (rest := [.int r_133, .int L4_127]) ⟨hx, hb, hml, hown, hts⟩ hKN (hP.sub (ws' := [(h0, .inr (12, [.int m_thrown, .ref m_qworld, .ref m_qimages, .ref m_qhasImage, .ref m_qtape, .int m_taped, .ref m_qfive, .int m_size, .int m_at, .int m_from, .int m_token, .int m_value, .int m_faultKind, .int m_faultPlace, .ref m_qfresh, .int m_startOne, .int m_startOther, .int m_latest, .int m_leftBeats, .int m_signed, .int m_metMany, .ref m_qsums, .ref m_qpairs, .ref m_qgoesWith, .ref m_qsaid, .int m_saidMany, .int m_firstWait, .ref m_qfirstOrder, .int m_bundleFirst, .ref m_qtiredBy, .int m_tiredMany, .ref m_qmany, .ref m_qwidth, .ref m_qnumbers, .ref m_qmoving])), (m_qworld, .inl (cA 1, 122, .inl m_cworld))]) [0, 1] rfl) (g_X12_of l D cA h0 m_thrown m_qworld m_qimages m_qhasImage m_qtape m_taped m_qfive m_size m_at m_from m_token m_value m_faultKind m_faultPlace m_qfresh m_startOne m_startOther m_latest m_leftBeats m_signed m_metMany m_qsums m_qpairs m_qgoesWith m_qsaid m_saidMany m_firstWait m_qfirstOrder m_bundleFirst m_qtiredBy m_tiredMany m_qmany m_qwidth m_qnumbers m_qmoving m_cworld p1 2 (by omega) (by omega) (by omega) (by omega) (by omega) (by omega) (by omega) (by decide) a_m_cworld_0) (tb_V tw_1640 tw_1642 tw_50 tw_114 tw_1643) hdX12_of ⟨rfl, rfl, Nat.le_of_ble_eq_true rfl, Nat.le_of_ble_eq_true rfl⟩ ⟨Nat.le_of_ble_eq_true rfl, Nat.le_of_ble_eq_true rfl⟩ rfl rfl rfl hl.1 rfl (Nat.le_of_ble_eq_true rfl) dX12_resinOf_63 (fun r_134 hr_134 => ?_)
    obtain ⟨k_134_0_0, k_134_0_1⟩ := hr_134
    refine cpSi (rest := [.int L4_127]) ⟨hx, hb, hml, hown, hts⟩ hKN (hP.sub (ws' := []) [] rfl) (g_J9_min_7cf53 l D cA r_133 r_134) (tb_S tw_1566 tw_555 tw_115 tw_556) hdJ9_min_7cf53 ⟨rfl, rfl, Nat.le_of_ble_eq_true rfl, Nat.le_of_ble_eq_true rfl⟩ ⟨Nat.le_of_ble_eq_true rfl, Nat.le_of_ble_eq_true rfl⟩ rfl hl.1 rfl (Nat.le_of_ble_eq_true rfl) dX12_resinOf_66 (fun r_135 hr_135 => ?_)
    obtain ⟨k_135_0_0, k_135_0_1, k_135_0_2⟩ := hr_135
    refine lv_iadd hx hb dX12_resinOf_69 ?_
    refine lv_topi (fun x_136 ex_136 => ?_)
    have k_137 := ar_add rfl rfl ex_136 (by omega) (by omega)
    have hb_138 : (x_136 : Int32).toInt = RBi ((m_cworld (9 + 3 * (p0 : Int32).toInt.toNat + (1 : Int32).toInt.toNat)).toInt) ((m_cworld (9 + 3 * (p1 : Int32).toInt.toNat + (1 : Int32).toInt.toNat)).toInt) (p2 : Int32).toInt ((p2 : Int32).toInt + 1).toNat + min ((m_cworld (9 + 3 * (p0 : Int32).toInt.toNat + (2 : Int32).toInt.toNat)).toInt) ((m_cworld (9 + 3 * (p1 : Int32).toInt.toNat + (2 : Int32).toInt.toNat)).toInt) := by
      have e_RC := congrArg Int32.toInt k_133_0_1
      have e_RD := congrArg Int32.toInt k_134_0_1
      rw [show ((p2 : Int32).toInt + 1).toNat = L5_127.toInt.toNat from by omega, ← k3_127]; omega
    exact W.iret (v := x_136) hx hb hr (fun t ht hW => ⟨x_136, rfl, (⟨(show 0 ≤ x_136.toInt ∧ x_136.toInt ≤ 100 from by omega), hb_138⟩), ht⟩) (fun _ h => by cases h) dX12_resinOf_70
  · skip
    have k_139 := kk_nlt rfl rfl c_130
    refine lv_iload hx hb dX12_resinOf_12 (lv_at hl 1 rfl) ?_
    refine lv_aload_n hx hb dX12_resinOf_14 rfl (lv_at hl 2 rfl) ?_
    refine lv_iload_n hx hb dX12_resinOf_15 rfl (lv_at hl 3 rfl) ?_
    refine lv_iconst (v := 1) hx hb dX12_resinOf_16 (by decide) ?_
    have z_140 := zi_1
    refine cpVi (rest := [.int L4_127]) ⟨hx, hb, hml, hown, hts⟩ hKN (hP.sub (ws' := [(h0, .inr (12, [.int m_thrown, .ref m_qworld, .ref m_qimages, .ref m_qhasImage, .ref m_qtape, .int m_taped, .ref m_qfive, .int m_size, .int m_at, .int m_from, .int m_token, .int m_value, .int m_faultKind, .int m_faultPlace, .ref m_qfresh, .int m_startOne, .int m_startOther, .int m_latest, .int m_leftBeats, .int m_signed, .int m_metMany, .ref m_qsums, .ref m_qpairs, .ref m_qgoesWith, .ref m_qsaid, .int m_saidMany, .int m_firstWait, .ref m_qfirstOrder, .int m_bundleFirst, .ref m_qtiredBy, .int m_tiredMany, .ref m_qmany, .ref m_qwidth, .ref m_qnumbers, .ref m_qmoving])), (m_qworld, .inl (cA 1, 122, .inl m_cworld))]) [0, 1] rfl) (g_X12_of l D cA h0 m_thrown m_qworld m_qimages m_qhasImage m_qtape m_taped m_qfive m_size m_at m_from m_token m_value m_faultKind m_faultPlace m_qfresh m_startOne m_startOther m_latest m_leftBeats m_signed m_metMany m_qsums m_qpairs m_qgoesWith m_qsaid m_saidMany m_firstWait m_qfirstOrder m_bundleFirst m_qtiredBy m_tiredMany m_qmany m_qwidth m_qnumbers m_qmoving m_cworld p0 1 (by omega) (by omega) (by omega) (by omega) (by omega) (by omega) (by omega) (by decide) a_m_cworld_0) (tb_V tw_1640 tw_1642 tw_50 tw_114 tw_1643) hdX12_of ⟨rfl, rfl, Nat.le_of_ble_eq_true rfl, Nat.le_of_ble_eq_true rfl⟩ ⟨Nat.le_of_ble_eq_true rfl, Nat.le_of_ble_eq_true rfl⟩ rfl rfl rfl hl.1 rfl (Nat.le_of_ble_eq_true rfl) dX12_resinOf_17 (fun r_141 hr_141 => ?_)
    obtain ⟨k_141_0_0, k_141_0_1⟩ := hr_141
    refine lv_iconst (v := 2) hx hb dX12_resinOf_20 (by decide) ?_
    refine lv_iload hx hb dX12_resinOf_21 (lv_at hl 0 rfl) ?_
    refine lv_imul hx hb dX12_resinOf_23 ?_
    refine lv_topi (fun x_142 ex_142 => ?_)
    have k_143 := ar_mul zi_2 rfl ex_142 (by omega) (by omega)
    refine lv_iadd hx hb dX12_resinOf_24 ?_
    refine lv_topi (fun x_144 ex_144 => ?_)
    have k_145 := ar_add rfl rfl ex_144 (by omega) (by omega)
    refine lv_aload_n hx hb dX12_resinOf_25 rfl (lv_at hl 2 rfl) ?_
    refine lv_iload_n hx hb dX12_resinOf_26 rfl (lv_at hl 4 rfl) ?_
    refine lv_iconst (v := 1) hx hb dX12_resinOf_27 (by decide) ?_
    refine cpVi (rest := [.int x_144, .int L4_127]) ⟨hx, hb, hml, hown, hts⟩ hKN (hP.sub (ws' := [(h0, .inr (12, [.int m_thrown, .ref m_qworld, .ref m_qimages, .ref m_qhasImage, .ref m_qtape, .int m_taped, .ref m_qfive, .int m_size, .int m_at, .int m_from, .int m_token, .int m_value, .int m_faultKind, .int m_faultPlace, .ref m_qfresh, .int m_startOne, .int m_startOther, .int m_latest, .int m_leftBeats, .int m_signed, .int m_metMany, .ref m_qsums, .ref m_qpairs, .ref m_qgoesWith, .ref m_qsaid, .int m_saidMany, .int m_firstWait, .ref m_qfirstOrder, .int m_bundleFirst, .ref m_qtiredBy, .int m_tiredMany, .ref m_qmany, .ref m_qwidth, .ref m_qnumbers, .ref m_qmoving])), (m_qworld, .inl (cA 1, 122, .inl m_cworld))]) [0, 1] rfl) (g_X12_of l D cA h0 m_thrown m_qworld m_qimages m_qhasImage m_qtape m_taped m_qfive m_size m_at m_from m_token m_value m_faultKind m_faultPlace m_qfresh m_startOne m_startOther m_latest m_leftBeats m_signed m_metMany m_qsums m_qpairs m_qgoesWith m_qsaid m_saidMany m_firstWait m_qfirstOrder m_bundleFirst m_qtiredBy m_tiredMany m_qmany m_qwidth m_qnumbers m_qmoving m_cworld p1 1 (by omega) (by omega) (by omega) (by omega) (by omega) (by omega) (by omega) (by decide) a_m_cworld_0) (tb_V tw_1640 tw_1642 tw_50 tw_114 tw_1643) hdX12_of ⟨rfl, rfl, Nat.le_of_ble_eq_true rfl, Nat.le_of_ble_eq_true rfl⟩ ⟨Nat.le_of_ble_eq_true rfl, Nat.le_of_ble_eq_true rfl⟩ rfl rfl rfl hl.1 rfl (Nat.le_of_ble_eq_true rfl) dX12_resinOf_28 (fun r_146 hr_146 => ?_)
    obtain ⟨k_146_0_0, k_146_0_1⟩ := hr_146
    refine lv_iconst (v := 2) hx hb dX12_resinOf_31 (by decide) ?_
    refine lv_iload_n hx hb dX12_resinOf_32 rfl (lv_at hl 5 rfl) ?_
    refine lv_iload hx hb dX12_resinOf_33 (lv_at hl 0 rfl) ?_
    refine lv_isub hx hb dX12_resinOf_35 ?_
    refine lv_topi (fun x_147 ex_147 => ?_)
    have k_148 := ar_sub rfl rfl ex_147 (by omega) (by omega)
    refine lv_imul hx hb dX12_resinOf_36 ?_
    refine lv_topi (fun x_149 ex_149 => ?_)
    have k_150 := ar_mul zi_2 rfl ex_149 (by omega) (by omega)
    refine lv_iadd hx hb dX12_resinOf_37 ?_
    refine lv_topi (fun x_151 ex_151 => ?_)
    have k_152 := ar_add rfl rfl ex_151 (by omega) (by omega)
    refine cpSi (rest := [.int L4_127]) ⟨hx, hb, hml, hown, hts⟩ hKN (hP.sub (ws' := []) [] rfl) (g_J9_min_7cf53 l D cA x_144 x_151) (tb_S tw_1566 tw_555 tw_115 tw_556) hdJ9_min_7cf53 ⟨rfl, rfl, Nat.le_of_ble_eq_true rfl, Nat.le_of_ble_eq_true rfl⟩ ⟨Nat.le_of_ble_eq_true rfl, Nat.le_of_ble_eq_true rfl⟩ rfl hl.1 rfl (Nat.le_of_ble_eq_true rfl) dX12_resinOf_38 (fun r_153 hr_153 => ?_)
    obtain ⟨k_153_0_0, k_153_0_1, k_153_0_2⟩ := hr_153
    refine cpSi (rest := []) ⟨hx, hb, hml, hown, hts⟩ hKN (hP.sub (ws' := []) [] rfl) (g_J9_max_7cf53 l D cA L4_127 r_153) (tb_S tw_1735 tw_779 tw_115 tw_780) hdJ9_max_7cf53 ⟨rfl, rfl, Nat.le_of_ble_eq_true rfl, Nat.le_of_ble_eq_true rfl⟩ ⟨Nat.le_of_ble_eq_true rfl, Nat.le_of_ble_eq_true rfl⟩ rfl hl.1 rfl (Nat.le_of_ble_eq_true rfl) dX12_resinOf_41 (fun r_154 hr_154 => ?_)
    obtain ⟨k_154_0_0, k_154_0_1, k_154_0_2⟩ := hr_154
    refine lv_istore (lv' := [(4, .int r_154), (5, .int L5_127), (0, .ref h0), (1, .int p0), (2, .int p1), (3, .int p2)]) hx hb dX12_resinOf_44 hl (by decide) rfl (fun ls hl => ?_)
    obtain ⟨x_155, ex_155⟩ : ∃ y : Int32, L5_127 + Int32.ofInt 1 = y := ⟨_, rfl⟩
    have k_156 := ar_add (b := 1) rfl zi_1 ex_155.symm (by omega) (by omega)
    refine lv_iinc (v := x_155) (lv' := [(5, .int x_155), (4, .int r_154), (0, .ref h0), (1, .int p0), (2, .int p1), (3, .int p2)]) hx hb dX12_resinOf_46 hl (k := 1) rfl ex_155 (by decide) rfl (fun ls hl => ?_)
    refine lv_goto (tgt := 6) hx hb dX12_resinOf_49 (by decide) ?_
    have hb_157 : r_154.toInt = RBi ((m_cworld (9 + 3 * (p0 : Int32).toInt.toNat + (1 : Int32).toInt.toNat)).toInt) ((m_cworld (9 + 3 * (p1 : Int32).toInt.toNat + (1 : Int32).toInt.toNat)).toInt) (p2 : Int32).toInt x_155.toInt.toNat := by
      have e_RA := congrArg Int32.toInt k_141_0_1
      have e_RB := congrArg Int32.toInt k_146_0_1
      rw [show x_155.toInt.toNat = L5_127.toInt.toNat + 1 from by omega]
      show _ = max (RBi ((m_cworld (9 + 3 * (p0 : Int32).toInt.toNat + (1 : Int32).toInt.toNat)).toInt) ((m_cworld (9 + 3 * (p1 : Int32).toInt.toNat + (1 : Int32).toInt.toNat)).toInt) (p2 : Int32).toInt L5_127.toInt.toNat) (min ((m_cworld (9 + 3 * (p0 : Int32).toInt.toNat + (1 : Int32).toInt.toNat)).toInt + 2 * (L5_127.toInt.toNat : Int)) ((m_cworld (9 + 3 * (p1 : Int32).toInt.toNat + (1 : Int32).toInt.toNat)).toInt + 2 * (p2.toInt - (L5_127.toInt.toNat : Int))))
      rw [← k3_127]; omega
    exact ih_127 (x_155, r_154) _ _ _ ⟨(show 0 ≤ x_155.toInt ∧ x_155.toInt ≤ 21 from by omega), (show 0 ≤ r_154.toInt ∧ r_154.toInt ≤ 70 from by omega), (show x_155.toInt ≤ p2.toInt + 1 from by first | omega | decide), hb_157, rfl, rfl, lv_sub hl [0, 1, 2, 3, 4, 5] rfl⟩ (by show (2147483647 - x_155.toInt).toNat < (2147483647 - L5_127.toInt).toNat; omega)
set_option maxHeartbeats 8000000 in
set_option maxRecDepth 100000 in
theorem g_X12_spare (l : Launch) (D : va_G) (cA : Nat → ClassId) (h0 : Nat) (m_thrown : Int32) (m_qworld : Nat) (m_qimages : Nat) (m_qhasImage : Nat) (m_qtape : Nat) (m_taped : Int32) (m_qfive : Nat) (m_size : Int32) (m_at : Int32) (m_from : Int32) (m_token : Int32) (m_value : Int32) (m_faultKind : Int32) (m_faultPlace : Int32) (m_qfresh : Nat) (m_startOne : Int32) (m_startOther : Int32) (m_latest : Int32) (m_leftBeats : Int32) (m_signed : Int32) (m_metMany : Int32) (m_qsums : Nat) (m_qpairs : Nat) (m_qgoesWith : Nat) (m_qsaid : Nat) (m_saidMany : Int32) (m_firstWait : Int32) (m_qfirstOrder : Nat) (m_bundleFirst : Int32) (m_qtiredBy : Nat) (m_tiredMany : Int32) (m_qmany : Nat) (m_qwidth : Nat) (m_qnumbers : Nat) (m_qmoving : Nat) (m_cworld : Nat → Int32) (p0 : Int32) (p1 : Int32) (h_m_taped : 0 ≤ (m_taped : Int32).toInt ∧ (m_taped : Int32).toInt ≤ 800) (h_m_size : 0 ≤ (m_size : Int32).toInt ∧ (m_size : Int32).toInt ≤ 800) (h_m_at : 0 ≤ (m_at : Int32).toInt ∧ (m_at : Int32).toInt ≤ 800) (h_m_from : 0 ≤ (m_from : Int32).toInt ∧ (m_from : Int32).toInt ≤ 800) (h_m_saidMany : 0 ≤ (m_saidMany : Int32).toInt ∧ (m_saidMany : Int32).toInt ≤ 60) (h_m_tiredMany : 0 ≤ (m_tiredMany : Int32).toInt ∧ (m_tiredMany : Int32).toInt ≤ 240) (a_m_cworld_0 : WI m_cworld) : Met l yX12_spare (Cond.code yX12_spare cX12_spare 4 (some .int) :: TB) (rmd 3 0 0) (PP D cA [(h0, .inr (12, [.int m_thrown, .ref m_qworld, .ref m_qimages, .ref m_qhasImage, .ref m_qtape, .int m_taped, .ref m_qfive, .int m_size, .int m_at, .int m_from, .int m_token, .int m_value, .int m_faultKind, .int m_faultPlace, .ref m_qfresh, .int m_startOne, .int m_startOther, .int m_latest, .int m_leftBeats, .int m_signed, .int m_metMany, .ref m_qsums, .ref m_qpairs, .ref m_qgoesWith, .ref m_qsaid, .int m_saidMany, .int m_firstWait, .ref m_qfirstOrder, .int m_bundleFirst, .ref m_qtiredBy, .int m_tiredMany, .ref m_qmany, .ref m_qwidth, .ref m_qnumbers, .ref m_qmoving])), (m_qworld, .inl (cA 1, 122, .inl m_cworld))] [.ref h0, .int p0, .int p1]) (vp_Si (fun r => -2 ≤ r.toInt ∧ r.toInt ≤ 20)) 0 0 (fun _ => False) := by
  refine Met.ofW (cc := cX12_spare) (maxL := 4) (ret := (some .int)) (by decide) rfl ?_
  intro p e s m args below meth c s₁ B hml hv
  obtain ⟨rfl, hP, hKN⟩ := hv
  have hx := B.exec
  have hb := B.bytes
  have hr := B.returns
  have hts : ∀ w ∈ TB, w.before _ s = true := fun w h => atoms_spec B.pre w (List.mem_cons_of_mem _ h)
  have hown : s.vm.findClass RX12 = some m.cls := findClass_of_methodNamed B.named
  have hlocks := B.notSynchronized
  have hl := lv_entry ([.ref h0, .int p0, .int p1]) (n := 4) (Nat.le_of_ble_eq_true rfl)
  rw [lg_entry_eq]
  generalize (lg_sl ([.ref h0, .int p0, .int p1]) ++ List.replicate (4 - (lg_sl ([.ref h0, .int p0, .int p1])).length) Slot.unset).toArray = ls at hl ⊢
  have hl : lv_has ls 4 [(0, .ref h0), (1, .int p0), (2, .int p1)] := hl
  have hw3 := a_m_cworld_0.1.1.2.2.1 3 (by decide) (by decide)
  refine lv_aload_n hx hb dX12_spare_0 rfl (lv_at hl 0 rfl) ?_
  refine lv_iload_n hx hb dX12_spare_1 rfl (lv_at hl 1 rfl) ?_
  refine lv_iload_n hx hb dX12_spare_2 rfl (lv_at hl 2 rfl) ?_
  refine cpVi (rest := []) ⟨hx, hb, hml, hown, hts⟩ hKN (hP.sub (ws' := [(h0, .inr (12, [.int m_thrown, .ref m_qworld, .ref m_qimages, .ref m_qhasImage, .ref m_qtape, .int m_taped, .ref m_qfive, .int m_size, .int m_at, .int m_from, .int m_token, .int m_value, .int m_faultKind, .int m_faultPlace, .ref m_qfresh, .int m_startOne, .int m_startOther, .int m_latest, .int m_leftBeats, .int m_signed, .int m_metMany, .ref m_qsums, .ref m_qpairs, .ref m_qgoesWith, .ref m_qsaid, .int m_saidMany, .int m_firstWait, .ref m_qfirstOrder, .int m_bundleFirst, .ref m_qtiredBy, .int m_tiredMany, .ref m_qmany, .ref m_qwidth, .ref m_qnumbers, .ref m_qmoving])), (m_qworld, .inl (cA 1, 122, .inl m_cworld))]) [0, 1] rfl) (g_X12_areMen l D cA h0 m_thrown m_qworld m_qimages m_qhasImage m_qtape m_taped m_qfive m_size m_at m_from m_token m_value m_faultKind m_faultPlace m_qfresh m_startOne m_startOther m_latest m_leftBeats m_signed m_metMany m_qsums m_qpairs m_qgoesWith m_qsaid m_saidMany m_firstWait m_qfirstOrder m_bundleFirst m_qtiredBy m_tiredMany m_qmany m_qwidth m_qnumbers m_qmoving m_cworld p0 p1 (by omega) (by omega) (by omega) (by omega) (by omega) (by omega) a_m_cworld_0) (tb_V tw_1771 tw_1773 tw_68 tw_114 tw_1774) hdX12_areMen ⟨rfl, rfl, Nat.le_of_ble_eq_true rfl, Nat.le_of_ble_eq_true rfl⟩ ⟨Nat.le_of_ble_eq_true rfl, Nat.le_of_ble_eq_true rfl⟩ rfl rfl rfl hl.1 rfl (Nat.le_of_ble_eq_true rfl) dX12_spare_3 (fun r_1 hr_1 => ?_)
  rcases hr_1 with ⟨k_1_0_0, k_1_0_1, k_1_0_2, k_1_0_3, k_1_0_4, k_1_0_5, k_1_0_6, k_1_0_7, rfl⟩ | rfl
  · skip
    refine lv_if_ne (tgt := 12) hx hb dX12_spare_6 (by decide) (fun c_2 => ?_) (fun c_2 => absurd c_2 (by decide))
    refine lv_aload_n hx hb dX12_spare_12 rfl (lv_at hl 0 rfl) ?_
    refine lv_iload_n hx hb dX12_spare_13 rfl (lv_at hl 1 rfl) ?_
    refine lv_iload_n hx hb dX12_spare_14 rfl (lv_at hl 2 rfl) ?_
    refine cpVi (rest := []) ⟨hx, hb, hml, hown, hts⟩ hKN (hP.sub (ws' := [(h0, .inr (12, [.int m_thrown, .ref m_qworld, .ref m_qimages, .ref m_qhasImage, .ref m_qtape, .int m_taped, .ref m_qfive, .int m_size, .int m_at, .int m_from, .int m_token, .int m_value, .int m_faultKind, .int m_faultPlace, .ref m_qfresh, .int m_startOne, .int m_startOther, .int m_latest, .int m_leftBeats, .int m_signed, .int m_metMany, .ref m_qsums, .ref m_qpairs, .ref m_qgoesWith, .ref m_qsaid, .int m_saidMany, .int m_firstWait, .ref m_qfirstOrder, .int m_bundleFirst, .ref m_qtiredBy, .int m_tiredMany, .ref m_qmany, .ref m_qwidth, .ref m_qnumbers, .ref m_qmoving])), (m_qworld, .inl (cA 1, 122, .inl m_cworld))]) [0, 1] rfl) (g_X12_isPair l D cA h0 m_thrown m_qworld m_qimages m_qhasImage m_qtape m_taped m_qfive m_size m_at m_from m_token m_value m_faultKind m_faultPlace m_qfresh m_startOne m_startOther m_latest m_leftBeats m_signed m_metMany m_qsums m_qpairs m_qgoesWith m_qsaid m_saidMany m_firstWait m_qfirstOrder m_bundleFirst m_qtiredBy m_tiredMany m_qmany m_qwidth m_qnumbers m_qmoving m_cworld p0 p1 (by omega) (by omega) (by omega) (by omega) (by omega) (by omega) (by omega) (by omega) a_m_cworld_0) (tb_V tw_1775 tw_1777 tw_69 tw_114 tw_1778) hdX12_isPair ⟨rfl, rfl, Nat.le_of_ble_eq_true rfl, Nat.le_of_ble_eq_true rfl⟩ ⟨Nat.le_of_ble_eq_true rfl, Nat.le_of_ble_eq_true rfl⟩ rfl rfl rfl hl.1 rfl (Nat.le_of_ble_eq_true rfl) dX12_spare_15 (fun r_3 hr_3 => ?_)
    refine lv_if_ne (tgt := 23) hx hb dX12_spare_18 (by decide) (fun c_4 => ?_) (fun c_4 => ?_)
    · skip
      have k_5 := kk_ne rfl zi_0 c_4
      refine lv_iconst (v := 0) hx hb dX12_spare_23 (by decide) ?_
      refine lv_istore_n (lv' := [(3, .int 0), (0, .ref h0), (1, .int p0), (2, .int p1)]) hx hb dX12_spare_24 rfl hl (by decide) rfl (fun ls hl => ?_)
      have z_16 := zi_0
      refine loopW (σ := Int32) (fun _ => []) (fun L3_15 H locs ls => (0 ≤ L3_15.toInt ∧ L3_15.toInt ≤ 20) ∧ (L3_15.toInt ≤ (m_cworld 3).toInt) ∧ H = s.heap ∧ locs = [] ∧ lv_has ls 4 [(3, .int L3_15), (0, .ref h0), (1, .int p0), (2, .int p1)]) (fun L3_15 => (2147483647 - L3_15.toInt).toNat) ?_ (0 : Int32) ⟨(by decide), (show (0 : Int32).toInt ≤ (m_cworld 3).toInt from by first | omega | decide), rfl, rfl, hl⟩
      intro x_15 H locs ls hI_15 ih_15
      obtain ⟨L3_15, rfl⟩ : ∃ z, z = x_15 := ⟨_, rfl⟩
      obtain ⟨k0_15, k1_15, rfl, rfl, hl⟩ := hI_15
      have hl : lv_has ls 4 [(3, .int L3_15), (0, .ref h0), (1, .int p0), (2, .int p1)] := hl
      refine lv_aload_n hx hb dX12_spare_25 rfl (lv_at hl 1 rfl) ?_
      refine lv_iload_n hx hb dX12_spare_26 rfl (lv_at hl 2 rfl) ?_
      refine lv_iload_n hx hb dX12_spare_27 rfl (lv_at hl 3 rfl) ?_
      refine lv_iload_n hx hb dX12_spare_28 rfl (lv_at hl 0 rfl) ?_
      refine cpVi (rest := []) ⟨hx, hb, hml, hown, hts⟩ hKN (hP.sub (ws' := [(h0, .inr (12, [.int m_thrown, .ref m_qworld, .ref m_qimages, .ref m_qhasImage, .ref m_qtape, .int m_taped, .ref m_qfive, .int m_size, .int m_at, .int m_from, .int m_token, .int m_value, .int m_faultKind, .int m_faultPlace, .ref m_qfresh, .int m_startOne, .int m_startOther, .int m_latest, .int m_leftBeats, .int m_signed, .int m_metMany, .ref m_qsums, .ref m_qpairs, .ref m_qgoesWith, .ref m_qsaid, .int m_saidMany, .int m_firstWait, .ref m_qfirstOrder, .int m_bundleFirst, .ref m_qtiredBy, .int m_tiredMany, .ref m_qmany, .ref m_qwidth, .ref m_qnumbers, .ref m_qmoving])), (m_qworld, .inl (cA 1, 122, .inl m_cworld))]) [0, 1] rfl) (g_X12_resinOf_f l D cA h0 m_thrown m_qworld m_qimages m_qhasImage m_qtape m_taped m_qfive m_size m_at m_from m_token m_value m_faultKind m_faultPlace m_qfresh m_startOne m_startOther m_latest m_leftBeats m_signed m_metMany m_qsums m_qpairs m_qgoesWith m_qsaid m_saidMany m_firstWait m_qfirstOrder m_bundleFirst m_qtiredBy m_tiredMany m_qmany m_qwidth m_qnumbers m_qmoving m_cworld p0 p1 L3_15 (by omega) (by omega) (by omega) (by omega) (by omega) (by omega) (by omega) (by omega) (by omega) a_m_cworld_0) (tb_V tw_1830 tw_1832 tw_73 tw_114 tw_1833) hdX12_resinOf ⟨rfl, rfl, Nat.le_of_ble_eq_true rfl, Nat.le_of_ble_eq_true rfl⟩ ⟨Nat.le_of_ble_eq_true rfl, Nat.le_of_ble_eq_true rfl⟩ rfl rfl rfl hl.1 rfl (Nat.le_of_ble_eq_true rfl) dX12_spare_29 (fun r_17 hr_17 => ?_)
      obtain ⟨k_17_0_0, k_17_0_1⟩ := hr_17
      refine lv_aload_n hx hb dX12_spare_32 rfl (lv_at hl 1 rfl) ?_
      refine lv_iload_n hx hb dX12_spare_33 rfl (lv_at hl 2 rfl) ?_
      refine lv_iload_n hx hb dX12_spare_34 rfl (lv_at hl 3 rfl) ?_
      refine lv_aload_n hx hb dX12_spare_35 rfl (lv_at hl 1 rfl) ?_
      refine va_get (D := D) (ci := 12) (v := .ref m_qworld) (C := RX12) (T := TX12) (N := 35) hx hb hts inX12 hown hKN.1 hP 0 rfl rfl 1 (by decide) (hts _ tw_1420) (fun _ h9 => h9) rfl dX12_spare_36 ?_
      refine lv_iconst (v := 3) hx hb dX12_spare_39 (by decide) ?_
      refine va_iald hx hb hKN.1 hP 1 1 rfl rfl (by unfold vp_in; decide) dX12_spare_40 ?_
      refine W.eq (g2 := F0 m 41 ls [.int (m_cworld 3), .int p1, .int p0, .ref h0, .int r_17]) rfl ?_
      have k_18 := a_m_cworld_0.1.1.2.2.1 (3) (by decide) (by decide)
      refine cpVi (rest := [.int r_17]) ⟨hx, hb, hml, hown, hts⟩ hKN (hP.sub (ws' := [(h0, .inr (12, [.int m_thrown, .ref m_qworld, .ref m_qimages, .ref m_qhasImage, .ref m_qtape, .int m_taped, .ref m_qfive, .int m_size, .int m_at, .int m_from, .int m_token, .int m_value, .int m_faultKind, .int m_faultPlace, .ref m_qfresh, .int m_startOne, .int m_startOther, .int m_latest, .int m_leftBeats, .int m_signed, .int m_metMany, .ref m_qsums, .ref m_qpairs, .ref m_qgoesWith, .ref m_qsaid, .int m_saidMany, .int m_firstWait, .ref m_qfirstOrder, .int m_bundleFirst, .ref m_qtiredBy, .int m_tiredMany, .ref m_qmany, .ref m_qwidth, .ref m_qnumbers, .ref m_qmoving])), (m_qworld, .inl (cA 1, 122, .inl m_cworld))]) [0, 1] rfl) (g_X12_resinOf_f l D cA h0 m_thrown m_qworld m_qimages m_qhasImage m_qtape m_taped m_qfive m_size m_at m_from m_token m_value m_faultKind m_faultPlace m_qfresh m_startOne m_startOther m_latest m_leftBeats m_signed m_metMany m_qsums m_qpairs m_qgoesWith m_qsaid m_saidMany m_firstWait m_qfirstOrder m_bundleFirst m_qtiredBy m_tiredMany m_qmany m_qwidth m_qnumbers m_qmoving m_cworld p0 p1 (m_cworld 3) (by omega) (by omega) (by omega) (by omega) (by omega) (by omega) (by omega) (by omega) (by omega) a_m_cworld_0) (tb_V tw_1830 tw_1832 tw_73 tw_114 tw_1833) hdX12_resinOf ⟨rfl, rfl, Nat.le_of_ble_eq_true rfl, Nat.le_of_ble_eq_true rfl⟩ ⟨Nat.le_of_ble_eq_true rfl, Nat.le_of_ble_eq_true rfl⟩ rfl rfl rfl hl.1 rfl (Nat.le_of_ble_eq_true rfl) dX12_spare_41 (fun r_19 hr_19 => ?_)
      obtain ⟨k_19_0_0, k_19_0_1⟩ := hr_19
      refine lv_icmp_ge (tgt := 53) hx hb dX12_spare_44 (by decide) (fun c_20 => ?_) (fun c_20 => ?_)
      · skip
        have k_21 := kk_le rfl rfl c_20
        refine lv_iload_n hx hb dX12_spare_53 rfl (lv_at hl 0 rfl) ?_
        exact W.iret (v := L3_15) hx hb hr (fun t ht hW => ⟨L3_15, rfl, (show -2 ≤ L3_15.toInt ∧ L3_15.toInt ≤ 20 from by omega), ht⟩) (fun _ h => by cases h) dX12_spare_54
      · skip
        have k_22 := kk_nle rfl rfl c_20
        have hne : L3_15.toInt ≠ (m_cworld 3).toInt := fun h => by
          have e1 := k_17_0_1
          have e2 := k_19_0_1
          rw [h] at e1
          omega
        obtain ⟨x_23, ex_23⟩ : ∃ y : Int32, L3_15 + Int32.ofInt 1 = y := ⟨_, rfl⟩
        have k_24 := ar_add (b := 1) rfl zi_1 ex_23.symm (by omega) (by omega)
        refine lv_iinc (v := x_23) (lv' := [(3, .int x_23), (0, .ref h0), (1, .int p0), (2, .int p1)]) hx hb dX12_spare_47 hl (k := 0) rfl ex_23 (by decide) rfl (fun ls hl => ?_)
        refine lv_goto (tgt := 25) hx hb dX12_spare_50 (by decide) ?_
        exact ih_15 (x_23) _ _ _ ⟨(show 0 ≤ x_23.toInt ∧ x_23.toInt ≤ 20 from by omega), (show x_23.toInt ≤ (m_cworld 3).toInt from by first | omega | decide), rfl, rfl, lv_sub hl [0, 1, 2, 3] rfl⟩ (by show (2147483647 - x_23.toInt).toNat < (2147483647 - L3_15.toInt).toNat; omega)
    · skip
      have k_25 := kk_eq rfl zi_0 c_4
      refine lv_iconst (v := (-1)) hx hb dX12_spare_21 (by decide) ?_
      exact W.iret (v := (-1)) hx hb hr (fun t ht hW => ⟨(-1), rfl, (show -2 ≤ ((-1) : Int32).toInt ∧ ((-1) : Int32).toInt ≤ 20 from by decide), ht⟩) (fun _ h => by cases h) dX12_spare_22
  · skip
    refine lv_if_ne (tgt := 12) hx hb dX12_spare_6 (by decide) (fun c_26 => absurd (by decide) c_26) (fun c_26 => ?_)
    refine lv_bipush (v := (-2)) hx hb dX12_spare_9 (by decide) ?_
    exact W.iret (v := (-2)) hx hb hr (fun t ht hW => ⟨(-2), rfl, (show -2 ≤ ((-2) : Int32).toInt ∧ ((-2) : Int32).toInt ≤ 20 from by decide), ht⟩) (fun _ h => by cases h) dX12_spare_11
set_option maxHeartbeats 8000000 in
set_option maxRecDepth 100000 in
theorem g_X12_gripLess_z (l : Launch) (D : va_G) (cA : Nat → ClassId) (h0 : Nat) (m_thrown : Int32) (m_qworld : Nat) (m_qimages : Nat) (m_qhasImage : Nat) (m_qtape : Nat) (m_taped : Int32) (m_qfive : Nat) (m_size : Int32) (m_at : Int32) (m_from : Int32) (m_token : Int32) (m_value : Int32) (m_faultKind : Int32) (m_faultPlace : Int32) (m_qfresh : Nat) (m_startOne : Int32) (m_startOther : Int32) (m_latest : Int32) (m_leftBeats : Int32) (m_signed : Int32) (m_metMany : Int32) (m_qsums : Nat) (m_qpairs : Nat) (m_qgoesWith : Nat) (m_qsaid : Nat) (m_saidMany : Int32) (m_firstWait : Int32) (m_qfirstOrder : Nat) (m_bundleFirst : Int32) (m_qtiredBy : Nat) (m_tiredMany : Int32) (m_qmany : Nat) (m_qwidth : Nat) (m_qnumbers : Nat) (m_qmoving : Nat) (m_cworld : Nat → Int32) (p0 : Int32) (p1 : Int32) (p2 : Int32) (h_m_taped : 0 ≤ (m_taped : Int32).toInt ∧ (m_taped : Int32).toInt ≤ 800) (h_m_size : 0 ≤ (m_size : Int32).toInt ∧ (m_size : Int32).toInt ≤ 800) (h_m_at : 0 ≤ (m_at : Int32).toInt ∧ (m_at : Int32).toInt ≤ 800) (h_m_from : 0 ≤ (m_from : Int32).toInt ∧ (m_from : Int32).toInt ≤ 800) (h_m_saidMany : 0 ≤ (m_saidMany : Int32).toInt ∧ (m_saidMany : Int32).toInt ≤ 60) (h_m_tiredMany : 0 ≤ (m_tiredMany : Int32).toInt ∧ (m_tiredMany : Int32).toInt ≤ 240) (h_p0 : 0 ≤ (p0 : Int32).toInt ∧ (p0 : Int32).toInt ≤ 7) (h_p2 : 0 ≤ (p2 : Int32).toInt ∧ (p2 : Int32).toInt ≤ 0) (a_m_cworld_0 : WI m_cworld) : Met l yX12_gripLess (Cond.code yX12_gripLess cX12_gripLess 4 (some .int) :: TB) (rmd 1 0 0) (PP D cA [(h0, .inr (12, [.int m_thrown, .ref m_qworld, .ref m_qimages, .ref m_qhasImage, .ref m_qtape, .int m_taped, .ref m_qfive, .int m_size, .int m_at, .int m_from, .int m_token, .int m_value, .int m_faultKind, .int m_faultPlace, .ref m_qfresh, .int m_startOne, .int m_startOther, .int m_latest, .int m_leftBeats, .int m_signed, .int m_metMany, .ref m_qsums, .ref m_qpairs, .ref m_qgoesWith, .ref m_qsaid, .int m_saidMany, .int m_firstWait, .ref m_qfirstOrder, .int m_bundleFirst, .ref m_qtiredBy, .int m_tiredMany, .ref m_qmany, .ref m_qwidth, .ref m_qnumbers, .ref m_qmoving])), (m_qworld, .inl (cA 1, 122, .inl m_cworld))] [.ref h0, .int p0, .int p1, .int p2]) (vp_Si (fun r => 0 ≤ r.toInt ∧ r.toInt ≤ 30)) 0 0 (fun _ => False) := by
  refine Met.ofW (cc := cX12_gripLess) (maxL := 4) (ret := (some .int)) (by decide) rfl ?_
  intro p e s m args below meth c s₁ B hml hv
  obtain ⟨rfl, hP, hKN⟩ := hv
  have hx := B.exec
  have hb := B.bytes
  have hr := B.returns
  have hts : ∀ w ∈ TB, w.before _ s = true := fun w h => atoms_spec B.pre w (List.mem_cons_of_mem _ h)
  have hown : s.vm.findClass RX12 = some m.cls := findClass_of_methodNamed B.named
  have hlocks := B.notSynchronized
  have hl := lv_entry ([.ref h0, .int p0, .int p1, .int p2]) (n := 4) (Nat.le_of_ble_eq_true rfl)
  rw [lg_entry_eq]
  generalize (lg_sl ([.ref h0, .int p0, .int p1, .int p2]) ++ List.replicate (4 - (lg_sl ([.ref h0, .int p0, .int p1, .int p2])).length) Slot.unset).toArray = ls at hl ⊢
  have hl : lv_has ls 4 [(0, .ref h0), (1, .int p0), (2, .int p1), (3, .int p2)] := hl
  refine lv_aload_n hx hb dX12_gripLess_0 rfl (lv_at hl 0 rfl) ?_
  refine lv_iload_n hx hb dX12_gripLess_1 rfl (lv_at hl 1 rfl) ?_
  refine lv_iconst (v := 1) hx hb dX12_gripLess_2 (by decide) ?_
  have z_1 := zi_1
  refine cpVi (rest := []) ⟨hx, hb, hml, hown, hts⟩ hKN (hP.sub (ws' := [(h0, .inr (12, [.int m_thrown, .ref m_qworld, .ref m_qimages, .ref m_qhasImage, .ref m_qtape, .int m_taped, .ref m_qfive, .int m_size, .int m_at, .int m_from, .int m_token, .int m_value, .int m_faultKind, .int m_faultPlace, .ref m_qfresh, .int m_startOne, .int m_startOther, .int m_latest, .int m_leftBeats, .int m_signed, .int m_metMany, .ref m_qsums, .ref m_qpairs, .ref m_qgoesWith, .ref m_qsaid, .int m_saidMany, .int m_firstWait, .ref m_qfirstOrder, .int m_bundleFirst, .ref m_qtiredBy, .int m_tiredMany, .ref m_qmany, .ref m_qwidth, .ref m_qnumbers, .ref m_qmoving])), (m_qworld, .inl (cA 1, 122, .inl m_cworld))]) [0, 1] rfl) (g_X12_of l D cA h0 m_thrown m_qworld m_qimages m_qhasImage m_qtape m_taped m_qfive m_size m_at m_from m_token m_value m_faultKind m_faultPlace m_qfresh m_startOne m_startOther m_latest m_leftBeats m_signed m_metMany m_qsums m_qpairs m_qgoesWith m_qsaid m_saidMany m_firstWait m_qfirstOrder m_bundleFirst m_qtiredBy m_tiredMany m_qmany m_qwidth m_qnumbers m_qmoving m_cworld p0 1 (by omega) (by omega) (by omega) (by omega) (by omega) (by omega) (by omega) (by decide) a_m_cworld_0) (tb_V tw_1640 tw_1642 tw_50 tw_114 tw_1643) hdX12_of ⟨rfl, rfl, Nat.le_of_ble_eq_true rfl, Nat.le_of_ble_eq_true rfl⟩ ⟨Nat.le_of_ble_eq_true rfl, Nat.le_of_ble_eq_true rfl⟩ rfl rfl rfl hl.1 rfl (Nat.le_of_ble_eq_true rfl) dX12_gripLess_3 (fun r_2 hr_2 => ?_)
  obtain ⟨k_2_0_0, k_2_0_1⟩ := hr_2
  refine lv_iload_n hx hb dX12_gripLess_6 rfl (lv_at hl 1 rfl) ?_
  refine lv_iload_n hx hb dX12_gripLess_7 rfl (lv_at hl 2 rfl) ?_
  refine lv_icmp_ne (tgt := 15) hx hb dX12_gripLess_8 (by decide) (fun c_3 => ?_) (fun c_3 => ?_)
  · skip
    have b_5 := i32_bd p1
    have k_4 := kk_ne rfl rfl c_3
    refine lv_iconst (v := 0) hx hb dX12_gripLess_15 (by decide) ?_
    refine lv_isub hx hb dX12_gripLess_16 ?_
    refine lv_topi (fun x_6 ex_6 => ?_)
    have k_7 := ar_sub rfl zi_0 ex_6 (by omega) (by omega)
    exact W.iret (v := x_6) hx hb hr (fun t ht hW => ⟨x_6, rfl, (show 0 ≤ x_6.toInt ∧ x_6.toInt ≤ 30 from by omega), ht⟩) (fun _ h => by cases h) dX12_gripLess_17
  · skip
    have b_9 := i32_bd p1
    have k_8 := kk_eq rfl rfl c_3
    refine lv_iload_n hx hb dX12_gripLess_11 rfl (lv_at hl 3 rfl) ?_
    refine lv_goto (tgt := 16) hx hb dX12_gripLess_12 (by decide) ?_
    refine lv_isub hx hb dX12_gripLess_16 ?_
    refine lv_topi (fun x_10 ex_10 => ?_)
    have k_11 := ar_sub rfl rfl ex_10 (by omega) (by omega)
    exact W.iret (v := x_10) hx hb hr (fun t ht hW => ⟨x_10, rfl, (show 0 ≤ x_10.toInt ∧ x_10.toInt ≤ 30 from by omega), ht⟩) (fun _ h => by cases h) dX12_gripLess_17
set_option maxHeartbeats 8000000 in
set_option maxRecDepth 100000 in
theorem g_X12_holdBy_z (l : Launch) (D : va_G) (cA : Nat → ClassId) (h0 : Nat) (m_thrown : Int32) (m_qworld : Nat) (m_qimages : Nat) (m_qhasImage : Nat) (m_qtape : Nat) (m_taped : Int32) (m_qfive : Nat) (m_size : Int32) (m_at : Int32) (m_from : Int32) (m_token : Int32) (m_value : Int32) (m_faultKind : Int32) (m_faultPlace : Int32) (m_qfresh : Nat) (m_startOne : Int32) (m_startOther : Int32) (m_latest : Int32) (m_leftBeats : Int32) (m_signed : Int32) (m_metMany : Int32) (m_qsums : Nat) (m_qpairs : Nat) (m_qgoesWith : Nat) (m_qsaid : Nat) (m_saidMany : Int32) (m_firstWait : Int32) (m_qfirstOrder : Nat) (m_bundleFirst : Int32) (m_qtiredBy : Nat) (m_tiredMany : Int32) (m_qmany : Nat) (m_qwidth : Nat) (m_qnumbers : Nat) (m_qmoving : Nat) (m_cworld : Nat → Int32) (p0 : Int32) (p1 : Int32) (p2 : Int32) (p3 : Int32) (h_m_taped : 0 ≤ (m_taped : Int32).toInt ∧ (m_taped : Int32).toInt ≤ 800) (h_m_size : 0 ≤ (m_size : Int32).toInt ∧ (m_size : Int32).toInt ≤ 800) (h_m_at : 0 ≤ (m_at : Int32).toInt ∧ (m_at : Int32).toInt ≤ 800) (h_m_from : 0 ≤ (m_from : Int32).toInt ∧ (m_from : Int32).toInt ≤ 800) (h_m_saidMany : 0 ≤ (m_saidMany : Int32).toInt ∧ (m_saidMany : Int32).toInt ≤ 60) (h_m_tiredMany : 0 ≤ (m_tiredMany : Int32).toInt ∧ (m_tiredMany : Int32).toInt ≤ 240) (h_p0 : 0 ≤ (p0 : Int32).toInt ∧ (p0 : Int32).toInt ≤ 7) (h_p1 : 0 ≤ (p1 : Int32).toInt ∧ (p1 : Int32).toInt ≤ 7) (h_p3 : 0 ≤ (p3 : Int32).toInt ∧ (p3 : Int32).toInt ≤ 0) (a_m_cworld_0 : WI m_cworld) : Met l yX12_holdBy (Cond.code yX12_holdBy cX12_holdBy 5 (some .int) :: TB) (rmd 2 0 0) (PP D cA [(h0, .inr (12, [.int m_thrown, .ref m_qworld, .ref m_qimages, .ref m_qhasImage, .ref m_qtape, .int m_taped, .ref m_qfive, .int m_size, .int m_at, .int m_from, .int m_token, .int m_value, .int m_faultKind, .int m_faultPlace, .ref m_qfresh, .int m_startOne, .int m_startOther, .int m_latest, .int m_leftBeats, .int m_signed, .int m_metMany, .ref m_qsums, .ref m_qpairs, .ref m_qgoesWith, .ref m_qsaid, .int m_saidMany, .int m_firstWait, .ref m_qfirstOrder, .int m_bundleFirst, .ref m_qtiredBy, .int m_tiredMany, .ref m_qmany, .ref m_qwidth, .ref m_qnumbers, .ref m_qmoving])), (m_qworld, .inl (cA 1, 122, .inl m_cworld))] [.ref h0, .int p0, .int p1, .int p2, .int p3]) (vp_Si (fun r => 0 ≤ r.toInt ∧ r.toInt ≤ 60)) 0 0 (fun _ => False) := by
  refine Met.ofW (cc := cX12_holdBy) (maxL := 5) (ret := (some .int)) (by decide) rfl ?_
  intro p e s m args below meth c s₁ B hml hv
  obtain ⟨rfl, hP, hKN⟩ := hv
  have hx := B.exec
  have hb := B.bytes
  have hr := B.returns
  have hts : ∀ w ∈ TB, w.before _ s = true := fun w h => atoms_spec B.pre w (List.mem_cons_of_mem _ h)
  have hown : s.vm.findClass RX12 = some m.cls := findClass_of_methodNamed B.named
  have hlocks := B.notSynchronized
  have hl := lv_entry ([.ref h0, .int p0, .int p1, .int p2, .int p3]) (n := 5) (Nat.le_of_ble_eq_true rfl)
  rw [lg_entry_eq]
  generalize (lg_sl ([.ref h0, .int p0, .int p1, .int p2, .int p3]) ++ List.replicate (5 - (lg_sl ([.ref h0, .int p0, .int p1, .int p2, .int p3])).length) Slot.unset).toArray = ls at hl ⊢
  have hl : lv_has ls 5 [(0, .ref h0), (1, .int p0), (2, .int p1), (3, .int p2), (4, .int p3)] := hl
  refine lv_aload_n hx hb dX12_holdBy_0 rfl (lv_at hl 0 rfl) ?_
  refine lv_iload_n hx hb dX12_holdBy_1 rfl (lv_at hl 1 rfl) ?_
  refine lv_iload_n hx hb dX12_holdBy_2 rfl (lv_at hl 3 rfl) ?_
  refine lv_iload hx hb dX12_holdBy_3 (lv_at hl 4 rfl) ?_
  refine cpVi (rest := []) ⟨hx, hb, hml, hown, hts⟩ hKN (hP.sub (ws' := [(h0, .inr (12, [.int m_thrown, .ref m_qworld, .ref m_qimages, .ref m_qhasImage, .ref m_qtape, .int m_taped, .ref m_qfive, .int m_size, .int m_at, .int m_from, .int m_token, .int m_value, .int m_faultKind, .int m_faultPlace, .ref m_qfresh, .int m_startOne, .int m_startOther, .int m_latest, .int m_leftBeats, .int m_signed, .int m_metMany, .ref m_qsums, .ref m_qpairs, .ref m_qgoesWith, .ref m_qsaid, .int m_saidMany, .int m_firstWait, .ref m_qfirstOrder, .int m_bundleFirst, .ref m_qtiredBy, .int m_tiredMany, .ref m_qmany, .ref m_qwidth, .ref m_qnumbers, .ref m_qmoving])), (m_qworld, .inl (cA 1, 122, .inl m_cworld))]) [0, 1] rfl) (g_X12_gripLess_z l D cA h0 m_thrown m_qworld m_qimages m_qhasImage m_qtape m_taped m_qfive m_size m_at m_from m_token m_value m_faultKind m_faultPlace m_qfresh m_startOne m_startOther m_latest m_leftBeats m_signed m_metMany m_qsums m_qpairs m_qgoesWith m_qsaid m_saidMany m_firstWait m_qfirstOrder m_bundleFirst m_qtiredBy m_tiredMany m_qmany m_qwidth m_qnumbers m_qmoving m_cworld p0 p2 p3 (by omega) (by omega) (by omega) (by omega) (by omega) (by omega) (by omega) (by omega) a_m_cworld_0) (tb_V tw_1708 tw_1710 tw_65 tw_114 tw_1711) hdX12_gripLess ⟨rfl, rfl, Nat.le_of_ble_eq_true rfl, Nat.le_of_ble_eq_true rfl⟩ ⟨Nat.le_of_ble_eq_true rfl, Nat.le_of_ble_eq_true rfl⟩ rfl rfl rfl hl.1 rfl (Nat.le_of_ble_eq_true rfl) dX12_holdBy_5 (fun r_1 hr_1 => ?_)
  refine lv_aload_n hx hb dX12_holdBy_8 rfl (lv_at hl 0 rfl) ?_
  refine lv_iload_n hx hb dX12_holdBy_9 rfl (lv_at hl 2 rfl) ?_
  refine lv_iload_n hx hb dX12_holdBy_10 rfl (lv_at hl 3 rfl) ?_
  refine lv_iload hx hb dX12_holdBy_11 (lv_at hl 4 rfl) ?_
  refine cpVi (rest := [.int r_1]) ⟨hx, hb, hml, hown, hts⟩ hKN (hP.sub (ws' := [(h0, .inr (12, [.int m_thrown, .ref m_qworld, .ref m_qimages, .ref m_qhasImage, .ref m_qtape, .int m_taped, .ref m_qfive, .int m_size, .int m_at, .int m_from, .int m_token, .int m_value, .int m_faultKind, .int m_faultPlace, .ref m_qfresh, .int m_startOne, .int m_startOther, .int m_latest, .int m_leftBeats, .int m_signed, .int m_metMany, .ref m_qsums, .ref m_qpairs, .ref m_qgoesWith, .ref m_qsaid, .int m_saidMany, .int m_firstWait, .ref m_qfirstOrder, .int m_bundleFirst, .ref m_qtiredBy, .int m_tiredMany, .ref m_qmany, .ref m_qwidth, .ref m_qnumbers, .ref m_qmoving])), (m_qworld, .inl (cA 1, 122, .inl m_cworld))]) [0, 1] rfl) (g_X12_gripLess_z l D cA h0 m_thrown m_qworld m_qimages m_qhasImage m_qtape m_taped m_qfive m_size m_at m_from m_token m_value m_faultKind m_faultPlace m_qfresh m_startOne m_startOther m_latest m_leftBeats m_signed m_metMany m_qsums m_qpairs m_qgoesWith m_qsaid m_saidMany m_firstWait m_qfirstOrder m_bundleFirst m_qtiredBy m_tiredMany m_qmany m_qwidth m_qnumbers m_qmoving m_cworld p1 p2 p3 (by omega) (by omega) (by omega) (by omega) (by omega) (by omega) (by omega) (by omega) a_m_cworld_0) (tb_V tw_1708 tw_1710 tw_65 tw_114 tw_1711) hdX12_gripLess ⟨rfl, rfl, Nat.le_of_ble_eq_true rfl, Nat.le_of_ble_eq_true rfl⟩ ⟨Nat.le_of_ble_eq_true rfl, Nat.le_of_ble_eq_true rfl⟩ rfl rfl rfl hl.1 rfl (Nat.le_of_ble_eq_true rfl) dX12_holdBy_13 (fun r_2 hr_2 => ?_)
  refine cpSi (rest := []) ⟨hx, hb, hml, hown, hts⟩ hKN (hP.sub (ws' := []) [] rfl) (g_J9_min_7cf53 l D cA r_1 r_2) (tb_S tw_1566 tw_555 tw_115 tw_556) hdJ9_min_7cf53 ⟨rfl, rfl, Nat.le_of_ble_eq_true rfl, Nat.le_of_ble_eq_true rfl⟩ ⟨Nat.le_of_ble_eq_true rfl, Nat.le_of_ble_eq_true rfl⟩ rfl hl.1 rfl (Nat.le_of_ble_eq_true rfl) dX12_holdBy_16 (fun r_3 hr_3 => ?_)
  obtain ⟨k_3_0_0, k_3_0_1, k_3_0_2⟩ := hr_3
  refine lv_aload_n hx hb dX12_holdBy_19 rfl (lv_at hl 0 rfl) ?_
  refine lv_iload_n hx hb dX12_holdBy_20 rfl (lv_at hl 1 rfl) ?_
  refine lv_iconst (v := 2) hx hb dX12_holdBy_21 (by decide) ?_
  have z_4 := zi_2
  refine cpVi (rest := [.int r_3]) ⟨hx, hb, hml, hown, hts⟩ hKN (hP.sub (ws' := [(h0, .inr (12, [.int m_thrown, .ref m_qworld, .ref m_qimages, .ref m_qhasImage, .ref m_qtape, .int m_taped, .ref m_qfive, .int m_size, .int m_at, .int m_from, .int m_token, .int m_value, .int m_faultKind, .int m_faultPlace, .ref m_qfresh, .int m_startOne, .int m_startOther, .int m_latest, .int m_leftBeats, .int m_signed, .int m_metMany, .ref m_qsums, .ref m_qpairs, .ref m_qgoesWith, .ref m_qsaid, .int m_saidMany, .int m_firstWait, .ref m_qfirstOrder, .int m_bundleFirst, .ref m_qtiredBy, .int m_tiredMany, .ref m_qmany, .ref m_qwidth, .ref m_qnumbers, .ref m_qmoving])), (m_qworld, .inl (cA 1, 122, .inl m_cworld))]) [0, 1] rfl) (g_X12_of l D cA h0 m_thrown m_qworld m_qimages m_qhasImage m_qtape m_taped m_qfive m_size m_at m_from m_token m_value m_faultKind m_faultPlace m_qfresh m_startOne m_startOther m_latest m_leftBeats m_signed m_metMany m_qsums m_qpairs m_qgoesWith m_qsaid m_saidMany m_firstWait m_qfirstOrder m_bundleFirst m_qtiredBy m_tiredMany m_qmany m_qwidth m_qnumbers m_qmoving m_cworld p0 2 (by omega) (by omega) (by omega) (by omega) (by omega) (by omega) (by omega) (by decide) a_m_cworld_0) (tb_V tw_1640 tw_1642 tw_50 tw_114 tw_1643) hdX12_of ⟨rfl, rfl, Nat.le_of_ble_eq_true rfl, Nat.le_of_ble_eq_true rfl⟩ ⟨Nat.le_of_ble_eq_true rfl, Nat.le_of_ble_eq_true rfl⟩ rfl rfl rfl hl.1 rfl (Nat.le_of_ble_eq_true rfl) dX12_holdBy_22 (fun r_5 hr_5 => ?_)
  obtain ⟨k_5_0_0, k_5_0_1⟩ := hr_5
  refine lv_aload_n hx hb dX12_holdBy_25 rfl (lv_at hl 0 rfl) ?_
  refine lv_iload_n hx hb dX12_holdBy_26 rfl (lv_at hl 2 rfl) ?_
  refine lv_iconst (v := 2) hx hb dX12_holdBy_27 (by decide) ?_
  refine cpVi (rest := [.int r_5, .int r_3]) ⟨hx, hb, hml, hown, hts⟩ hKN (hP.sub (ws' := [(h0, .inr (12, [.int m_thrown, .ref m_qworld, .ref m_qimages, .ref m_qhasImage, .ref m_qtape, .int m_taped, .ref m_qfive, .int m_size, .int m_at, .int m_from, .int m_token, .int m_value, .int m_faultKind, .int m_faultPlace, .ref m_qfresh, .int m_startOne, .int m_startOther, .int m_latest, .int m_leftBeats, .int m_signed, .int m_metMany, .ref m_qsums, .ref m_qpairs, .ref m_qgoesWith, .ref m_qsaid, .int m_saidMany, .int m_firstWait, .ref m_qfirstOrder, .int m_bundleFirst, .ref m_qtiredBy, .int m_tiredMany, .ref m_qmany, .ref m_qwidth, .ref m_qnumbers, .ref m_qmoving])), (m_qworld, .inl (cA 1, 122, .inl m_cworld))]) [0, 1] rfl) (g_X12_of l D cA h0 m_thrown m_qworld m_qimages m_qhasImage m_qtape m_taped m_qfive m_size m_at m_from m_token m_value m_faultKind m_faultPlace m_qfresh m_startOne m_startOther m_latest m_leftBeats m_signed m_metMany m_qsums m_qpairs m_qgoesWith m_qsaid m_saidMany m_firstWait m_qfirstOrder m_bundleFirst m_qtiredBy m_tiredMany m_qmany m_qwidth m_qnumbers m_qmoving m_cworld p1 2 (by omega) (by omega) (by omega) (by omega) (by omega) (by omega) (by omega) (by decide) a_m_cworld_0) (tb_V tw_1640 tw_1642 tw_50 tw_114 tw_1643) hdX12_of ⟨rfl, rfl, Nat.le_of_ble_eq_true rfl, Nat.le_of_ble_eq_true rfl⟩ ⟨Nat.le_of_ble_eq_true rfl, Nat.le_of_ble_eq_true rfl⟩ rfl rfl rfl hl.1 rfl (Nat.le_of_ble_eq_true rfl) dX12_holdBy_28 (fun r_6 hr_6 => ?_)
  obtain ⟨k_6_0_0, k_6_0_1⟩ := hr_6
  refine cpSi (rest := [.int r_3]) ⟨hx, hb, hml, hown, hts⟩ hKN (hP.sub (ws' := []) [] rfl) (g_J9_min_7cf53 l D cA r_5 r_6) (tb_S tw_1566 tw_555 tw_115 tw_556) hdJ9_min_7cf53 ⟨rfl, rfl, Nat.le_of_ble_eq_true rfl, Nat.le_of_ble_eq_true rfl⟩ ⟨Nat.le_of_ble_eq_true rfl, Nat.le_of_ble_eq_true rfl⟩ rfl hl.1 rfl (Nat.le_of_ble_eq_true rfl) dX12_holdBy_31 (fun r_7 hr_7 => ?_)
  obtain ⟨k_7_0_0, k_7_0_1, k_7_0_2⟩ := hr_7
  refine lv_iadd hx hb dX12_holdBy_34 ?_
  refine lv_topi (fun x_8 ex_8 => ?_)
  have k_9 := ar_add rfl rfl ex_8 (by omega) (by omega)
  exact W.iret (v := x_8) hx hb hr (fun t ht hW => ⟨x_8, rfl, (show 0 ≤ x_8.toInt ∧ x_8.toInt ≤ 60 from by omega), ht⟩) (fun _ h => by cases h) dX12_holdBy_35
set_option maxHeartbeats 8000000 in
set_option maxRecDepth 100000 in
theorem g_X12_holdOf_z (l : Launch) (D : va_G) (cA : Nat → ClassId) (h0 : Nat) (m_thrown : Int32) (m_qworld : Nat) (m_qimages : Nat) (m_qhasImage : Nat) (m_qtape : Nat) (m_taped : Int32) (m_qfive : Nat) (m_size : Int32) (m_at : Int32) (m_from : Int32) (m_token : Int32) (m_value : Int32) (m_faultKind : Int32) (m_faultPlace : Int32) (m_qfresh : Nat) (m_startOne : Int32) (m_startOther : Int32) (m_latest : Int32) (m_leftBeats : Int32) (m_signed : Int32) (m_metMany : Int32) (m_qsums : Nat) (m_qpairs : Nat) (m_qgoesWith : Nat) (m_qsaid : Nat) (m_saidMany : Int32) (m_firstWait : Int32) (m_qfirstOrder : Nat) (m_bundleFirst : Int32) (m_qtiredBy : Nat) (m_tiredMany : Int32) (m_qmany : Nat) (m_qwidth : Nat) (m_qnumbers : Nat) (m_qmoving : Nat) (m_cworld : Nat → Int32) (p0 : Int32) (p1 : Int32) (h_m_taped : 0 ≤ (m_taped : Int32).toInt ∧ (m_taped : Int32).toInt ≤ 800) (h_m_size : 0 ≤ (m_size : Int32).toInt ∧ (m_size : Int32).toInt ≤ 800) (h_m_at : 0 ≤ (m_at : Int32).toInt ∧ (m_at : Int32).toInt ≤ 800) (h_m_from : 0 ≤ (m_from : Int32).toInt ∧ (m_from : Int32).toInt ≤ 800) (h_m_saidMany : 0 ≤ (m_saidMany : Int32).toInt ∧ (m_saidMany : Int32).toInt ≤ 60) (h_m_tiredMany : 0 ≤ (m_tiredMany : Int32).toInt ∧ (m_tiredMany : Int32).toInt ≤ 240) (h_p0 : 0 ≤ (p0 : Int32).toInt ∧ (p0 : Int32).toInt ≤ 7) (h_p1 : 0 ≤ (p1 : Int32).toInt ∧ (p1 : Int32).toInt ≤ 7) (a_m_cworld_0 : WI m_cworld) : Met l yX12_holdOf (Cond.code yX12_holdOf cX12_holdOf 3 (some .int) :: TB) (rmd 3 0 0) (PP D cA [(h0, .inr (12, [.int m_thrown, .ref m_qworld, .ref m_qimages, .ref m_qhasImage, .ref m_qtape, .int m_taped, .ref m_qfive, .int m_size, .int m_at, .int m_from, .int m_token, .int m_value, .int m_faultKind, .int m_faultPlace, .ref m_qfresh, .int m_startOne, .int m_startOther, .int m_latest, .int m_leftBeats, .int m_signed, .int m_metMany, .ref m_qsums, .ref m_qpairs, .ref m_qgoesWith, .ref m_qsaid, .int m_saidMany, .int m_firstWait, .ref m_qfirstOrder, .int m_bundleFirst, .ref m_qtiredBy, .int m_tiredMany, .ref m_qmany, .ref m_qwidth, .ref m_qnumbers, .ref m_qmoving])), (m_qworld, .inl (cA 1, 122, .inl m_cworld))] [.ref h0, .int p0, .int p1]) (vp_Si (fun r => 0 ≤ r.toInt ∧ r.toInt ≤ 60)) 0 0 (fun _ => False) := by
  refine Met.ofW (cc := cX12_holdOf) (maxL := 3) (ret := (some .int)) (by decide) rfl ?_
  intro p e s m args below meth c s₁ B hml hv
  obtain ⟨rfl, hP, hKN⟩ := hv
  have hx := B.exec
  have hb := B.bytes
  have hr := B.returns
  have hts : ∀ w ∈ TB, w.before _ s = true := fun w h => atoms_spec B.pre w (List.mem_cons_of_mem _ h)
  have hown : s.vm.findClass RX12 = some m.cls := findClass_of_methodNamed B.named
  have hlocks := B.notSynchronized
  have hl := lv_entry ([.ref h0, .int p0, .int p1]) (n := 3) (Nat.le_of_ble_eq_true rfl)
  rw [lg_entry_eq]
  generalize (lg_sl ([.ref h0, .int p0, .int p1]) ++ List.replicate (3 - (lg_sl ([.ref h0, .int p0, .int p1])).length) Slot.unset).toArray = ls at hl ⊢
  have hl : lv_has ls 3 [(0, .ref h0), (1, .int p0), (2, .int p1)] := hl
  refine lv_aload_n hx hb dX12_holdOf_0 rfl (lv_at hl 0 rfl) ?_
  refine lv_iload_n hx hb dX12_holdOf_1 rfl (lv_at hl 1 rfl) ?_
  refine lv_iload_n hx hb dX12_holdOf_2 rfl (lv_at hl 2 rfl) ?_
  refine lv_iconst (v := (-1)) hx hb dX12_holdOf_3 (by decide) ?_
  refine lv_iconst (v := 0) hx hb dX12_holdOf_4 (by decide) ?_
  have z_1 := zi_m1
  have z_2 := zi_0
  refine cpVi (rest := []) ⟨hx, hb, hml, hown, hts⟩ hKN (hP.sub (ws' := [(h0, .inr (12, [.int m_thrown, .ref m_qworld, .ref m_qimages, .ref m_qhasImage, .ref m_qtape, .int m_taped, .ref m_qfive, .int m_size, .int m_at, .int m_from, .int m_token, .int m_value, .int m_faultKind, .int m_faultPlace, .ref m_qfresh, .int m_startOne, .int m_startOther, .int m_latest, .int m_leftBeats, .int m_signed, .int m_metMany, .ref m_qsums, .ref m_qpairs, .ref m_qgoesWith, .ref m_qsaid, .int m_saidMany, .int m_firstWait, .ref m_qfirstOrder, .int m_bundleFirst, .ref m_qtiredBy, .int m_tiredMany, .ref m_qmany, .ref m_qwidth, .ref m_qnumbers, .ref m_qmoving])), (m_qworld, .inl (cA 1, 122, .inl m_cworld))]) [0, 1] rfl) (g_X12_holdBy_z l D cA h0 m_thrown m_qworld m_qimages m_qhasImage m_qtape m_taped m_qfive m_size m_at m_from m_token m_value m_faultKind m_faultPlace m_qfresh m_startOne m_startOther m_latest m_leftBeats m_signed m_metMany m_qsums m_qpairs m_qgoesWith m_qsaid m_saidMany m_firstWait m_qfirstOrder m_bundleFirst m_qtiredBy m_tiredMany m_qmany m_qwidth m_qnumbers m_qmoving m_cworld p0 p1 (-1) 0 (by omega) (by omega) (by omega) (by omega) (by omega) (by omega) (by omega) (by omega) (by decide) a_m_cworld_0) (tb_V tw_1704 tw_1706 tw_64 tw_114 tw_1707) hdX12_holdBy ⟨rfl, rfl, Nat.le_of_ble_eq_true rfl, Nat.le_of_ble_eq_true rfl⟩ ⟨Nat.le_of_ble_eq_true rfl, Nat.le_of_ble_eq_true rfl⟩ rfl rfl rfl hl.1 rfl (Nat.le_of_ble_eq_true rfl) dX12_holdOf_5 (fun r_3 hr_3 => ?_)
  exact W.iret (v := r_3) hx hb hr (fun t ht hW => ⟨r_3, rfl, (show 0 ≤ r_3.toInt ∧ r_3.toInt ≤ 60 from by omega), ht⟩) (fun _ h => by cases h) dX12_holdOf_8
set_option maxHeartbeats 8000000 in
set_option maxRecDepth 100000 in
theorem g_X12_layMatch_h (l : Launch) (D : va_G) (cA : Nat → ClassId) (sz : Nat) (h0 : Nat) (m_thrown : Int32) (m_qworld : Nat) (m_qimages : Nat) (m_qhasImage : Nat) (m_qtape : Nat) (m_taped : Int32) (m_qfive : Nat) (m_size : Int32) (m_at : Int32) (m_from : Int32) (m_token : Int32) (m_value : Int32) (m_faultKind : Int32) (m_faultPlace : Int32) (m_qfresh : Nat) (m_startOne : Int32) (m_startOther : Int32) (m_latest : Int32) (m_leftBeats : Int32) (m_signed : Int32) (m_metMany : Int32) (m_qsums : Nat) (m_qpairs : Nat) (m_qgoesWith : Nat) (m_qsaid : Nat) (m_saidMany : Int32) (m_firstWait : Int32) (m_qfirstOrder : Nat) (m_bundleFirst : Int32) (m_qtiredBy : Nat) (m_tiredMany : Int32) (m_qmany : Nat) (m_qwidth : Nat) (m_qnumbers : Nat) (m_qmoving : Nat) (m_cworld : Nat → Int32) (m_csums : Nat → Int32) (m_cpairs : Nat → Int32) (p0 : Int32) (h_m_taped : 0 ≤ (m_taped : Int32).toInt ∧ (m_taped : Int32).toInt ≤ 800) (h_m_size : 0 ≤ (m_size : Int32).toInt ∧ (m_size : Int32).toInt ≤ 800) (h_m_at : 0 ≤ (m_at : Int32).toInt ∧ (m_at : Int32).toInt ≤ 800) (h_m_from : 0 ≤ (m_from : Int32).toInt ∧ (m_from : Int32).toInt ≤ 800) (h_m_saidMany : 0 ≤ (m_saidMany : Int32).toInt ∧ (m_saidMany : Int32).toInt ≤ 60) (h_m_tiredMany : 0 ≤ (m_tiredMany : Int32).toInt ∧ (m_tiredMany : Int32).toInt ≤ 240) (h_p0 : 61 ≤ (p0 : Int32).toInt) (a_m_cworld_0 : WI m_cworld) : Met l yX12_layMatch (Cond.code yX12_layMatch cX12_layMatch 8 none :: TB) (rmd 4 0 0) (PM D cA sz [(h0, .inr (12, [.int m_thrown, .ref m_qworld, .ref m_qimages, .ref m_qhasImage, .ref m_qtape, .int m_taped, .ref m_qfive, .int m_size, .int m_at, .int m_from, .int m_token, .int m_value, .int m_faultKind, .int m_faultPlace, .ref m_qfresh, .int m_startOne, .int m_startOther, .int m_latest, .int m_leftBeats, .int m_signed, .int m_metMany, .ref m_qsums, .ref m_qpairs, .ref m_qgoesWith, .ref m_qsaid, .int m_saidMany, .int m_firstWait, .ref m_qfirstOrder, .int m_bundleFirst, .ref m_qtiredBy, .int m_tiredMany, .ref m_qmany, .ref m_qwidth, .ref m_qnumbers, .ref m_qmoving])), (m_qworld, .inl (cA 1, 122, .inl m_cworld)), (m_qsums, .inl (cA 1, 2304, .inl m_csums)), (m_qpairs, .inl (cA 1, 2304, .inl m_cpairs))] [.ref h0, .int p0]) (va_Qv (fun (u : SU) => (((u.2.2.1 1) 0).toInt = 0)) (fun u t => va_P D vwCl [(h0, .inr (12, [.int m_thrown, .ref m_qworld, .ref m_qimages, .ref m_qhasImage, .ref m_qtape, .int m_taped, .ref m_qfive, .int m_size, .int m_at, .int m_from, .int m_token, .int m_value, .int m_faultKind, .int m_faultPlace, .ref m_qfresh, .int m_startOne, .int m_startOther, .int m_latest, .int m_leftBeats, .int m_signed, .int m_metMany, .ref m_qsums, .ref m_qpairs, .ref m_qgoesWith, .ref m_qsaid, .int m_saidMany, .int m_firstWait, .ref m_qfirstOrder, .int m_bundleFirst, .ref m_qtiredBy, .int m_tiredMany, .ref m_qmany, .ref m_qwidth, .ref m_qnumbers, .ref m_qmoving])), (m_qworld, .inl (cA 1, 122, .inl m_cworld)), (m_qsums, .inl (cA 1, 2304, .inl (u.2.2.1 0))), (m_qpairs, .inl (cA 1, 2304, .inl (u.2.2.1 1)))] t.heap ∧ va_D (va_A [(h0, .inr (12, [.int m_thrown, .ref m_qworld, .ref m_qimages, .ref m_qhasImage, .ref m_qtape, .int m_taped, .ref m_qfive, .int m_size, .int m_at, .int m_from, .int m_token, .int m_value, .int m_faultKind, .int m_faultPlace, .ref m_qfresh, .int m_startOne, .int m_startOther, .int m_latest, .int m_leftBeats, .int m_signed, .int m_metMany, .ref m_qsums, .ref m_qpairs, .ref m_qgoesWith, .ref m_qsaid, .int m_saidMany, .int m_firstWait, .ref m_qfirstOrder, .int m_bundleFirst, .ref m_qtiredBy, .int m_tiredMany, .ref m_qmany, .ref m_qwidth, .ref m_qnumbers, .ref m_qmoving])), (m_qworld, .inl (cA 1, 122, .inl m_cworld)), (m_qsums, .inl (cA 1, 2304, .inl m_csums)), (m_qpairs, .inl (cA 1, 2304, .inl m_cpairs))] sz) [(h0, .inr (12, [.int m_thrown, .ref m_qworld, .ref m_qimages, .ref m_qhasImage, .ref m_qtape, .int m_taped, .ref m_qfive, .int m_size, .int m_at, .int m_from, .int m_token, .int m_value, .int m_faultKind, .int m_faultPlace, .ref m_qfresh, .int m_startOne, .int m_startOther, .int m_latest, .int m_leftBeats, .int m_signed, .int m_metMany, .ref m_qsums, .ref m_qpairs, .ref m_qgoesWith, .ref m_qsaid, .int m_saidMany, .int m_firstWait, .ref m_qfirstOrder, .int m_bundleFirst, .ref m_qtiredBy, .int m_tiredMany, .ref m_qmany, .ref m_qwidth, .ref m_qnumbers, .ref m_qmoving])), (m_qworld, .inl (cA 1, 122, .inl m_cworld)), (m_qsums, .inl (cA 1, 2304, .inl (u.2.2.1 0))), (m_qpairs, .inl (cA 1, 2304, .inl (u.2.2.1 1)))]) (va_A [(h0, .inr (12, [.int m_thrown, .ref m_qworld, .ref m_qimages, .ref m_qhasImage, .ref m_qtape, .int m_taped, .ref m_qfive, .int m_size, .int m_at, .int m_from, .int m_token, .int m_value, .int m_faultKind, .int m_faultPlace, .ref m_qfresh, .int m_startOne, .int m_startOther, .int m_latest, .int m_leftBeats, .int m_signed, .int m_metMany, .ref m_qsums, .ref m_qpairs, .ref m_qgoesWith, .ref m_qsaid, .int m_saidMany, .int m_firstWait, .ref m_qfirstOrder, .int m_bundleFirst, .ref m_qtiredBy, .int m_tiredMany, .ref m_qmany, .ref m_qwidth, .ref m_qnumbers, .ref m_qmoving])), (m_qworld, .inl (cA 1, 122, .inl m_cworld)), (m_qsums, .inl (cA 1, 2304, .inl m_csums)), (m_qpairs, .inl (cA 1, 2304, .inl m_cpairs))] sz)) 0 0 (va_A [(h0, .inr (12, [.int m_thrown, .ref m_qworld, .ref m_qimages, .ref m_qhasImage, .ref m_qtape, .int m_taped, .ref m_qfive, .int m_size, .int m_at, .int m_from, .int m_token, .int m_value, .int m_faultKind, .int m_faultPlace, .ref m_qfresh, .int m_startOne, .int m_startOther, .int m_latest, .int m_leftBeats, .int m_signed, .int m_metMany, .ref m_qsums, .ref m_qpairs, .ref m_qgoesWith, .ref m_qsaid, .int m_saidMany, .int m_firstWait, .ref m_qfirstOrder, .int m_bundleFirst, .ref m_qtiredBy, .int m_tiredMany, .ref m_qmany, .ref m_qwidth, .ref m_qnumbers, .ref m_qmoving])), (m_qworld, .inl (cA 1, 122, .inl m_cworld)), (m_qsums, .inl (cA 1, 2304, .inl m_csums)), (m_qpairs, .inl (cA 1, 2304, .inl m_cpairs))] sz) := by
  refine Met.ofW (cc := cX12_layMatch) (maxL := 8) (ret := none) (by decide) rfl ?_
  intro p e s m args below meth c s₁ B hml hv
  obtain ⟨rfl, hsz, hP, hKN, hD0⟩ := hv
  have hx := B.exec
  have hb := B.bytes
  have hr := B.returns
  have hts : ∀ w ∈ TB, w.before _ s = true := fun w h => atoms_spec B.pre w (List.mem_cons_of_mem _ h)
  have hown : s.vm.findClass RX12 = some m.cls := findClass_of_methodNamed B.named
  have hlocks := B.notSynchronized
  subst hsz
  have hD := hD0.self (sz := s.heap.size)
  generalize hAe : va_A [(h0, .inr (12, [.int m_thrown, .ref m_qworld, .ref m_qimages, .ref m_qhasImage, .ref m_qtape, .int m_taped, .ref m_qfive, .int m_size, .int m_at, .int m_from, .int m_token, .int m_value, .int m_faultKind, .int m_faultPlace, .ref m_qfresh, .int m_startOne, .int m_startOther, .int m_latest, .int m_leftBeats, .int m_signed, .int m_metMany, .ref m_qsums, .ref m_qpairs, .ref m_qgoesWith, .ref m_qsaid, .int m_saidMany, .int m_firstWait, .ref m_qfirstOrder, .int m_bundleFirst, .ref m_qtiredBy, .int m_tiredMany, .ref m_qmany, .ref m_qwidth, .ref m_qnumbers, .ref m_qmoving])), (m_qworld, .inl (cA 1, 122, .inl m_cworld)), (m_qsums, .inl (cA 1, 2304, .inl m_csums)), (m_qpairs, .inl (cA 1, 2304, .inl m_cpairs))] s.heap.size = A at hD ⊢
  have hA : ∀ q : Nat, s.heap.size ≤ q → A q := fun q h => by rw [← hAe]; exact Or.inr h
  have hS : va_S A s.heap s.heap [] := va_S.rf
  have hl := lv_entry ([.ref h0, .int p0]) (n := 8) (Nat.le_of_ble_eq_true rfl)
  rw [lg_entry_eq]
  generalize (lg_sl ([.ref h0, .int p0]) ++ List.replicate (8 - (lg_sl ([.ref h0, .int p0])).length) Slot.unset).toArray = ls at hl ⊢
  have hl : lv_has ls 8 [(0, .ref h0), (1, .int p0)] := hl
  refine lv_aload_n hx hb dX12_layMatch_0 rfl (lv_at hl 0 rfl) ?_
  refine va_get (D := D) (ci := 12) (v := .ref m_qworld) (C := RX12) (T := TX12) (N := 35) hx hb hts inX12 hown hKN.1 hP 0 rfl rfl 1 (by decide) (hts _ tw_1420) (fun _ h9 => h9) rfl dX12_layMatch_1 ?_
  refine lv_iconst (v := 4) hx hb dX12_layMatch_4 (by decide) ?_
  refine va_iald hx hb hKN.1 hP 1 1 rfl rfl (by unfold vp_in; decide) dX12_layMatch_5 ?_
  refine W.eq (g2 := F0 m 6 ls [.int (m_cworld 4)]) rfl ?_
  have k_1 := a_m_cworld_0.1.1.2.2.2.1 (4) (by decide) (by decide)
  refine lv_istore_n (lv' := [(2, .int (m_cworld 4)), (0, .ref h0), (1, .int p0)]) hx hb dX12_layMatch_6 rfl hl (by decide) rfl (fun ls hl => ?_)
  refine lv_iload_n hx hb dX12_layMatch_7 rfl (lv_at hl 0 rfl) ?_
  refine lv_istore_n (lv' := [(3, .int (m_cworld 4)), (2, .int (m_cworld 4)), (0, .ref h0), (1, .int p0)]) hx hb dX12_layMatch_8 rfl hl (by decide) rfl (fun ls hl => ?_)
  refine loopW (σ := Int32 × (Nat → Int32) × (Nat → Int32)) (fun _ => []) (fun ⟨L3_23759, F1_23759, F2_23759⟩ H locs ls => (-1 ≤ L3_23759.toInt ∧ L3_23759.toInt ≤ 8) ∧ (ZQ F2_23759 L3_23759.toInt 0 (m_cworld 4).toInt.toNat) ∧ (L3_23759.toInt ≤ (m_cworld 4).toInt) ∧ va_P D vwCl [(h0, .inr (12, [.int m_thrown, .ref m_qworld, .ref m_qimages, .ref m_qhasImage, .ref m_qtape, .int m_taped, .ref m_qfive, .int m_size, .int m_at, .int m_from, .int m_token, .int m_value, .int m_faultKind, .int m_faultPlace, .ref m_qfresh, .int m_startOne, .int m_startOther, .int m_latest, .int m_leftBeats, .int m_signed, .int m_metMany, .ref m_qsums, .ref m_qpairs, .ref m_qgoesWith, .ref m_qsaid, .int m_saidMany, .int m_firstWait, .ref m_qfirstOrder, .int m_bundleFirst, .ref m_qtiredBy, .int m_tiredMany, .ref m_qmany, .ref m_qwidth, .ref m_qnumbers, .ref m_qmoving])), (m_qworld, .inl (cA 1, 122, .inl m_cworld)), (m_qsums, .inl (cA 1, 2304, .inl F1_23759)), (m_qpairs, .inl (cA 1, 2304, .inl F2_23759))] H ∧ va_D A [(h0, .inr (12, [.int m_thrown, .ref m_qworld, .ref m_qimages, .ref m_qhasImage, .ref m_qtape, .int m_taped, .ref m_qfive, .int m_size, .int m_at, .int m_from, .int m_token, .int m_value, .int m_faultKind, .int m_faultPlace, .ref m_qfresh, .int m_startOne, .int m_startOther, .int m_latest, .int m_leftBeats, .int m_signed, .int m_metMany, .ref m_qsums, .ref m_qpairs, .ref m_qgoesWith, .ref m_qsaid, .int m_saidMany, .int m_firstWait, .ref m_qfirstOrder, .int m_bundleFirst, .ref m_qtiredBy, .int m_tiredMany, .ref m_qmany, .ref m_qwidth, .ref m_qnumbers, .ref m_qmoving])), (m_qworld, .inl (cA 1, 122, .inl m_cworld)), (m_qsums, .inl (cA 1, 2304, .inl F1_23759)), (m_qpairs, .inl (cA 1, 2304, .inl F2_23759))] ∧ va_S A s.heap H locs ∧ lv_has ls 8 [(3, .int L3_23759), (2, .int (m_cworld 4)), (0, .ref h0), (1, .int p0)]) (fun ⟨L3_23759, F1_23759, F2_23759⟩ => (L3_23759.toInt + 2147483648).toNat) ?_ (((m_cworld 4), m_csums, m_cpairs) : Int32 × (Nat → Int32) × (Nat → Int32)) ⟨(show -1 ≤ (m_cworld 4).toInt ∧ (m_cworld 4).toInt ≤ 8 from by omega), (show ZQ m_cpairs (m_cworld 4).toInt 0 (m_cworld 4).toInt.toNat from by exact ZQ.start (by omega)), (show (m_cworld 4).toInt ≤ (m_cworld 4).toInt from by first | omega | decide), hP, hD, hS, hl⟩
  intro x_23759 H locs ls hI_23759 ih_23759
  obtain ⟨L3_23759, F1_23759, F2_23759⟩ := x_23759
  obtain ⟨k0_23759, k1_23759, k2_23759, hP, hD, hS, hl⟩ := hI_23759
  have hP : va_P D vwCl [(h0, .inr (12, [.int m_thrown, .ref m_qworld, .ref m_qimages, .ref m_qhasImage, .ref m_qtape, .int m_taped, .ref m_qfive, .int m_size, .int m_at, .int m_from, .int m_token, .int m_value, .int m_faultKind, .int m_faultPlace, .ref m_qfresh, .int m_startOne, .int m_startOther, .int m_latest, .int m_leftBeats, .int m_signed, .int m_metMany, .ref m_qsums, .ref m_qpairs, .ref m_qgoesWith, .ref m_qsaid, .int m_saidMany, .int m_firstWait, .ref m_qfirstOrder, .int m_bundleFirst, .ref m_qtiredBy, .int m_tiredMany, .ref m_qmany, .ref m_qwidth, .ref m_qnumbers, .ref m_qmoving])), (m_qworld, .inl (cA 1, 122, .inl m_cworld)), (m_qsums, .inl (cA 1, 2304, .inl F1_23759)), (m_qpairs, .inl (cA 1, 2304, .inl F2_23759))] H := hP
  have hD : va_D A [(h0, .inr (12, [.int m_thrown, .ref m_qworld, .ref m_qimages, .ref m_qhasImage, .ref m_qtape, .int m_taped, .ref m_qfive, .int m_size, .int m_at, .int m_from, .int m_token, .int m_value, .int m_faultKind, .int m_faultPlace, .ref m_qfresh, .int m_startOne, .int m_startOther, .int m_latest, .int m_leftBeats, .int m_signed, .int m_metMany, .ref m_qsums, .ref m_qpairs, .ref m_qgoesWith, .ref m_qsaid, .int m_saidMany, .int m_firstWait, .ref m_qfirstOrder, .int m_bundleFirst, .ref m_qtiredBy, .int m_tiredMany, .ref m_qmany, .ref m_qwidth, .ref m_qnumbers, .ref m_qmoving])), (m_qworld, .inl (cA 1, 122, .inl m_cworld)), (m_qsums, .inl (cA 1, 2304, .inl F1_23759)), (m_qpairs, .inl (cA 1, 2304, .inl F2_23759))] := hD
  have hl : lv_has ls 8 [(3, .int L3_23759), (2, .int (m_cworld 4)), (0, .ref h0), (1, .int p0)] := hl
  refine lv_iload_n hx hb dX12_layMatch_9 rfl (lv_at hl 0 rfl) ?_
  refine lv_if_lt (tgt := 231) hx hb dX12_layMatch_10 (by decide) (fun c_23760 => ?_) (fun c_23760 => ?_)
  · skip
    have k_23761 := kk_lt rfl zi_0 c_23760
    have hP9 := hP.sub (ws' := [(h0, .inr (12, [.int m_thrown, .ref m_qworld, .ref m_qimages, .ref m_qhasImage, .ref m_qtape, .int m_taped, .ref m_qfive, .int m_size, .int m_at, .int m_from, .int m_token, .int m_value, .int m_faultKind, .int m_faultPlace, .ref m_qfresh, .int m_startOne, .int m_startOther, .int m_latest, .int m_leftBeats, .int m_signed, .int m_metMany, .ref m_qsums, .ref m_qpairs, .ref m_qgoesWith, .ref m_qsaid, .int m_saidMany, .int m_firstWait, .ref m_qfirstOrder, .int m_bundleFirst, .ref m_qtiredBy, .int m_tiredMany, .ref m_qmany, .ref m_qwidth, .ref m_qnumbers, .ref m_qmoving])), (m_qworld, .inl (cA 1, 122, .inl m_cworld)), (m_qsums, .inl (cA 1, 2304, .inl F1_23759)), (m_qpairs, .inl (cA 1, 2304, .inl F2_23759))]) [0, 1, 2, 3] rfl
    have hD9 := hD.sub (ws' := [(h0, .inr (12, [.int m_thrown, .ref m_qworld, .ref m_qimages, .ref m_qhasImage, .ref m_qtape, .int m_taped, .ref m_qfive, .int m_size, .int m_at, .int m_from, .int m_token, .int m_value, .int m_faultKind, .int m_faultPlace, .ref m_qfresh, .int m_startOne, .int m_startOther, .int m_latest, .int m_leftBeats, .int m_signed, .int m_metMany, .ref m_qsums, .ref m_qpairs, .ref m_qgoesWith, .ref m_qsaid, .int m_saidMany, .int m_firstWait, .ref m_qfirstOrder, .int m_bundleFirst, .ref m_qtiredBy, .int m_tiredMany, .ref m_qmany, .ref m_qwidth, .ref m_qnumbers, .ref m_qmoving])), (m_qworld, .inl (cA 1, 122, .inl m_cworld)), (m_qsums, .inl (cA 1, 2304, .inl F1_23759)), (m_qpairs, .inl (cA 1, 2304, .inl F2_23759))]) [0, 1, 2, 3] (by decide) rfl
    exact W.vret hx hb hr (fun t ht hW => ⟨⟨((fun _ => 0), (fun _ => 0), (selF [F1_23759, F2_23759]), (fun _ _ => 0)), rfl, (show (F2_23759 0).toInt = 0 from by exact k1_23759 0 (Or.inl ⟨by omega, by omega, by have := Nat.two_pow_pos (m_cworld 4).toInt.toNat; omega⟩)), by rw [ht]; exact hP9, hD9⟩, hS.F ht⟩) hS.2.2 dX12_layMatch_231
  · skip
    have k_23762 := kk_nlt rfl zi_0 c_23760
    refine lv_iconst (v := 0) hx hb dX12_layMatch_13 (by decide) ?_
    refine lv_istore (lv' := [(4, .int 0), (3, .int L3_23759), (2, .int (m_cworld 4)), (0, .ref h0), (1, .int p0)]) hx hb dX12_layMatch_14 hl (by decide) rfl (fun ls hl => ?_)
    have z_30538 := zi_0
    have hb_30539 : ZQ F2_23759 L3_23759.toInt (0 : Int32).toInt (m_cworld 4).toInt.toNat := by
      have z : (0 : Int32).toInt = 0 := by decide
      rw [z]; exact k1_23759
    refine loopW (σ := Int32 × (Nat → Int32) × (Nat → Int32)) (fun _ => []) (fun ⟨L4_30537, F1_30537, F2_30537⟩ H locs ls => (0 ≤ L4_30537.toInt ∧ L4_30537.toInt ≤ 256) ∧ (ZQ F2_30537 L3_23759.toInt L4_30537.toInt (m_cworld 4).toInt.toNat) ∧ va_P D vwCl [(h0, .inr (12, [.int m_thrown, .ref m_qworld, .ref m_qimages, .ref m_qhasImage, .ref m_qtape, .int m_taped, .ref m_qfive, .int m_size, .int m_at, .int m_from, .int m_token, .int m_value, .int m_faultKind, .int m_faultPlace, .ref m_qfresh, .int m_startOne, .int m_startOther, .int m_latest, .int m_leftBeats, .int m_signed, .int m_metMany, .ref m_qsums, .ref m_qpairs, .ref m_qgoesWith, .ref m_qsaid, .int m_saidMany, .int m_firstWait, .ref m_qfirstOrder, .int m_bundleFirst, .ref m_qtiredBy, .int m_tiredMany, .ref m_qmany, .ref m_qwidth, .ref m_qnumbers, .ref m_qmoving])), (m_qworld, .inl (cA 1, 122, .inl m_cworld)), (m_qsums, .inl (cA 1, 2304, .inl F1_30537)), (m_qpairs, .inl (cA 1, 2304, .inl F2_30537))] H ∧ va_D A [(h0, .inr (12, [.int m_thrown, .ref m_qworld, .ref m_qimages, .ref m_qhasImage, .ref m_qtape, .int m_taped, .ref m_qfive, .int m_size, .int m_at, .int m_from, .int m_token, .int m_value, .int m_faultKind, .int m_faultPlace, .ref m_qfresh, .int m_startOne, .int m_startOther, .int m_latest, .int m_leftBeats, .int m_signed, .int m_metMany, .ref m_qsums, .ref m_qpairs, .ref m_qgoesWith, .ref m_qsaid, .int m_saidMany, .int m_firstWait, .ref m_qfirstOrder, .int m_bundleFirst, .ref m_qtiredBy, .int m_tiredMany, .ref m_qmany, .ref m_qwidth, .ref m_qnumbers, .ref m_qmoving])), (m_qworld, .inl (cA 1, 122, .inl m_cworld)), (m_qsums, .inl (cA 1, 2304, .inl F1_30537)), (m_qpairs, .inl (cA 1, 2304, .inl F2_30537))] ∧ va_S A s.heap H locs ∧ lv_has ls 8 [(4, .int L4_30537), (3, .int L3_23759), (2, .int (m_cworld 4)), (0, .ref h0), (1, .int p0)]) (fun ⟨L4_30537, F1_30537, F2_30537⟩ => (2147483647 - L4_30537.toInt).toNat) ?_ ((0, F1_23759, F2_23759) : Int32 × (Nat → Int32) × (Nat → Int32)) ⟨(by decide), hb_30539, hP, hD, hS, hl⟩
    intro x_30537 H locs ls hI_30537 ih_30537
    obtain ⟨L4_30537, F1_30537, F2_30537⟩ := x_30537
    obtain ⟨k0_30537, k1_30537, hP, hD, hS, hl⟩ := hI_30537
    have hP : va_P D vwCl [(h0, .inr (12, [.int m_thrown, .ref m_qworld, .ref m_qimages, .ref m_qhasImage, .ref m_qtape, .int m_taped, .ref m_qfive, .int m_size, .int m_at, .int m_from, .int m_token, .int m_value, .int m_faultKind, .int m_faultPlace, .ref m_qfresh, .int m_startOne, .int m_startOther, .int m_latest, .int m_leftBeats, .int m_signed, .int m_metMany, .ref m_qsums, .ref m_qpairs, .ref m_qgoesWith, .ref m_qsaid, .int m_saidMany, .int m_firstWait, .ref m_qfirstOrder, .int m_bundleFirst, .ref m_qtiredBy, .int m_tiredMany, .ref m_qmany, .ref m_qwidth, .ref m_qnumbers, .ref m_qmoving])), (m_qworld, .inl (cA 1, 122, .inl m_cworld)), (m_qsums, .inl (cA 1, 2304, .inl F1_30537)), (m_qpairs, .inl (cA 1, 2304, .inl F2_30537))] H := hP
    have hD : va_D A [(h0, .inr (12, [.int m_thrown, .ref m_qworld, .ref m_qimages, .ref m_qhasImage, .ref m_qtape, .int m_taped, .ref m_qfive, .int m_size, .int m_at, .int m_from, .int m_token, .int m_value, .int m_faultKind, .int m_faultPlace, .ref m_qfresh, .int m_startOne, .int m_startOther, .int m_latest, .int m_leftBeats, .int m_signed, .int m_metMany, .ref m_qsums, .ref m_qpairs, .ref m_qgoesWith, .ref m_qsaid, .int m_saidMany, .int m_firstWait, .ref m_qfirstOrder, .int m_bundleFirst, .ref m_qtiredBy, .int m_tiredMany, .ref m_qmany, .ref m_qwidth, .ref m_qnumbers, .ref m_qmoving])), (m_qworld, .inl (cA 1, 122, .inl m_cworld)), (m_qsums, .inl (cA 1, 2304, .inl F1_30537)), (m_qpairs, .inl (cA 1, 2304, .inl F2_30537))] := hD
    have hl : lv_has ls 8 [(4, .int L4_30537), (3, .int L3_23759), (2, .int (m_cworld 4)), (0, .ref h0), (1, .int p0)] := hl
    refine lv_iload hx hb dX12_layMatch_16 (lv_at hl 0 rfl) ?_
    refine lv_iconst (v := 1) hx hb dX12_layMatch_18 (by decide) ?_
    refine lv_iload_n hx hb dX12_layMatch_19 rfl (lv_at hl 2 rfl) ?_
    refine lv_ishl hx hb dX12_layMatch_20 ?_
    refine lv_topi (fun x_30540 ex_30540 => ?_)
    have k_30541 := ar_shl1 ex_30540 (by omega) (by omega)
    have k_30542 := ar_shl1p ex_30540 (by omega) (by omega)
    have k_30543 := two_le (n := (m_cworld 4).toInt.toNat) (by omega)
    refine lv_icmp_ge (tgt := 225) hx hb dX12_layMatch_21 (by decide) (fun c_30544 => ?_) (fun c_30544 => ?_)
    · skip
      have k_30545 := kk_le rfl rfl c_30544
      obtain ⟨x_30546, ex_30546⟩ : ∃ y : Int32, L3_23759 + Int32.ofInt (-1) = y := ⟨_, rfl⟩
      have k_30547 := ar_add (b := (-1)) rfl zi_m1 ex_30546.symm (by omega) (by omega)
      refine lv_iinc (v := x_30546) (lv' := [(3, .int x_30546), (4, .int L4_30537), (2, .int (m_cworld 4)), (0, .ref h0), (1, .int p0)]) hx hb dX12_layMatch_225 hl (k := 1) rfl ex_30546 (by decide) rfl (fun ls hl => ?_)
      refine lv_goto (tgt := 9) hx hb dX12_layMatch_228 (by decide) ?_
      exact ih_23759 (x_30546, F1_30537, F2_30537) _ _ _ ⟨(show -1 ≤ x_30546.toInt ∧ x_30546.toInt ≤ 8 from by omega), (show ZQ F2_30537 x_30546.toInt 0 (m_cworld 4).toInt.toNat from by exact ZQ.next k1_30537 (by omega) (by omega) (by omega)), (show x_30546.toInt ≤ (m_cworld 4).toInt from by first | omega | decide), hP.sub [0, 1, 2, 3] rfl, hD.sub [0, 1, 2, 3] (by decide) rfl, hS, lv_sub hl [0, 2, 3, 4] rfl⟩ (by show (x_30546.toInt + 2147483648).toNat < (L3_23759.toInt + 2147483648).toNat; omega)
    · skip
      have k_30548 := kk_nle rfl rfl c_30544
      refine lv_iload_n hx hb dX12_layMatch_24 rfl (lv_at hl 1 rfl) ?_
      refine lv_iload_n hx hb dX12_layMatch_25 rfl (lv_at hl 2 rfl) ?_
      refine lv_icmp_ne (tgt := 33) hx hb dX12_layMatch_26 (by decide) (fun c_30549 => ?_) (fun c_30549 => ?_)
      · skip
        have k_30550 := kk_ne rfl rfl c_30549
        refine lv_aload_n hx hb dX12_layMatch_33 rfl (lv_at hl 3 rfl) ?_
        refine lv_iload_n hx hb dX12_layMatch_34 rfl (lv_at hl 1 rfl) ?_
        refine lv_iconst (v := 1) hx hb dX12_layMatch_35 (by decide) ?_
        refine lv_iadd hx hb dX12_layMatch_36 ?_
        refine lv_topi (fun x_30551 ex_30551 => ?_)
        have k_30552 := ar_add rfl zi_1 ex_30551 (by omega) (by omega)
        refine lv_iload hx hb dX12_layMatch_37 (lv_at hl 0 rfl) ?_
        refine cpVi (rest := []) ⟨hx, hb, hml, hown, hts⟩ hKN (hP.sub (ws' := [(h0, .inr (12, [.int m_thrown, .ref m_qworld, .ref m_qimages, .ref m_qhasImage, .ref m_qtape, .int m_taped, .ref m_qfive, .int m_size, .int m_at, .int m_from, .int m_token, .int m_value, .int m_faultKind, .int m_faultPlace, .ref m_qfresh, .int m_startOne, .int m_startOther, .int m_latest, .int m_leftBeats, .int m_signed, .int m_metMany, .ref m_qsums, .ref m_qpairs, .ref m_qgoesWith, .ref m_qsaid, .int m_saidMany, .int m_firstWait, .ref m_qfirstOrder, .int m_bundleFirst, .ref m_qtiredBy, .int m_tiredMany, .ref m_qmany, .ref m_qwidth, .ref m_qnumbers, .ref m_qmoving])), (m_qsums, .inl (cA 1, 2304, .inl F1_30537))]) [0, 2] rfl) (g_X12_sumFrom l D cA h0 m_thrown m_qworld m_qimages m_qhasImage m_qtape m_taped m_qfive m_size m_at m_from m_token m_value m_faultKind m_faultPlace m_qfresh m_startOne m_startOther m_latest m_leftBeats m_signed m_metMany m_qsums m_qpairs m_qgoesWith m_qsaid m_saidMany m_firstWait m_qfirstOrder m_bundleFirst m_qtiredBy m_tiredMany m_qmany m_qwidth m_qnumbers m_qmoving F1_30537 x_30551 L4_30537 (by omega) (by omega) (by omega) (by omega) (by omega) (by omega) (by omega) (by omega)) (tb_V tw_1803 tw_1805 tw_71 tw_114 tw_1806) hdX12_sumFrom ⟨rfl, rfl, Nat.le_of_ble_eq_true rfl, Nat.le_of_ble_eq_true rfl⟩ ⟨Nat.le_of_ble_eq_true rfl, Nat.le_of_ble_eq_true rfl⟩ rfl rfl rfl hl.1 rfl (Nat.le_of_ble_eq_true rfl) dX12_layMatch_39 (fun r_30553 hr_30553 => ?_)
        refine lv_istore (lv' := [(5, .int r_30553), (4, .int L4_30537), (3, .int L3_23759), (2, .int (m_cworld 4)), (0, .ref h0), (1, .int p0)]) hx hb dX12_layMatch_42 hl (by decide) rfl (fun ls hl => ?_)
        refine lv_iload_n hx hb dX12_layMatch_44 rfl (lv_at hl 2 rfl) ?_
        refine lv_iload_n hx hb dX12_layMatch_45 rfl (lv_at hl 3 rfl) ?_
        refine lv_icmp_ne (tgt := 53) hx hb dX12_layMatch_46 (by decide) (fun c_30554 => ?_) (fun c_30554 => ?_)
        · skip
          have k_30555 := kk_ne rfl rfl c_30554
          refine lv_aload_n hx hb dX12_layMatch_53 rfl (lv_at hl 4 rfl) ?_
          refine va_get (D := D) (ci := 12) (v := .ref m_qpairs) (C := RX12) (T := TX12) (N := 35) hx hb hts inX12 hown hKN.1 hP 0 rfl rfl 22 (by decide) (hts _ tw_1441) (fun _ h9 => h9) rfl dX12_layMatch_54 ?_
          refine lv_iload_n hx hb dX12_layMatch_57 rfl (lv_at hl 2 rfl) ?_
          refine lv_iconst (v := 1) hx hb dX12_layMatch_58 (by decide) ?_
          refine lv_iadd hx hb dX12_layMatch_59 ?_
          refine lv_topi (fun x_30556 ex_30556 => ?_)
          obtain rfl : x_30551 = x_30556 := ex_30551.trans ex_30556.symm
          refine lv_bipush (v := 8) hx hb dX12_layMatch_60 (by decide) ?_
          refine lv_ishl hx hb dX12_layMatch_62 ?_
          refine lv_topi (fun x_30557 ex_30557 => ?_)
          have k_30558 := ar_shl8 ex_30557 (by omega) (by omega)
          refine lv_iload hx hb dX12_layMatch_63 (lv_at hl 1 rfl) ?_
          refine lv_ior hx hb dX12_layMatch_65 ?_
          refine lv_topi (fun x_30559 ex_30559 => ?_)
          have k_30560 := ar_or8 rfl rfl ex_30559 (by omega) (by omega) (by omega)
          refine va_iald hx hb hKN.1 hP 3 1 rfl rfl (vp_in_iff.mpr ⟨by omega, by omega⟩) dX12_layMatch_66 ?_
          refine lv_topi (fun x_30561 ex_30561 => ?_)
          have kz_x_30561 : x_30561.toInt = 0 := by
            have kc : x_30559.toNatClampNeg = x_30559.toInt.toNat := rfl
            rw [ex_30561]
            exact k1_30537 _ (Or.inl ⟨by omega, by omega, by omega⟩)
          refine lv_istore (lv' := [(6, .int x_30561), (5, .int r_30553), (4, .int L4_30537), (3, .int L3_23759), (2, .int (m_cworld 4)), (0, .ref h0), (1, .int p0)]) hx hb dX12_layMatch_67 hl (by decide) rfl (fun ls hl => ?_)
          refine lv_iconst (v := 0) hx hb dX12_layMatch_69 (by decide) ?_
          refine lv_istore (lv' := [(7, .int 0), (6, .int x_30561), (5, .int r_30553), (4, .int L4_30537), (3, .int L3_23759), (2, .int (m_cworld 4)), (0, .ref h0), (1, .int p0)]) hx hb dX12_layMatch_70 hl (by decide) rfl (fun ls hl => ?_)
          have b_30773 := i32_bd r_30553
          refine loopW (σ := Int32 × Int32 × Int32) (fun _ => []) (fun ⟨L7_30772, L6_30772, L5_30772⟩ H locs ls => (0 ≤ L7_30772.toInt ∧ L7_30772.toInt ≤ 8) ∧ (0 ≤ L6_30772.toInt ∧ L6_30772.toInt ≤ 0) ∧ va_P D vwCl [(h0, .inr (12, [.int m_thrown, .ref m_qworld, .ref m_qimages, .ref m_qhasImage, .ref m_qtape, .int m_taped, .ref m_qfive, .int m_size, .int m_at, .int m_from, .int m_token, .int m_value, .int m_faultKind, .int m_faultPlace, .ref m_qfresh, .int m_startOne, .int m_startOther, .int m_latest, .int m_leftBeats, .int m_signed, .int m_metMany, .ref m_qsums, .ref m_qpairs, .ref m_qgoesWith, .ref m_qsaid, .int m_saidMany, .int m_firstWait, .ref m_qfirstOrder, .int m_bundleFirst, .ref m_qtiredBy, .int m_tiredMany, .ref m_qmany, .ref m_qwidth, .ref m_qnumbers, .ref m_qmoving])), (m_qworld, .inl (cA 1, 122, .inl m_cworld)), (m_qsums, .inl (cA 1, 2304, .inl F1_30537)), (m_qpairs, .inl (cA 1, 2304, .inl F2_30537))] H ∧ va_D A [(h0, .inr (12, [.int m_thrown, .ref m_qworld, .ref m_qimages, .ref m_qhasImage, .ref m_qtape, .int m_taped, .ref m_qfive, .int m_size, .int m_at, .int m_from, .int m_token, .int m_value, .int m_faultKind, .int m_faultPlace, .ref m_qfresh, .int m_startOne, .int m_startOther, .int m_latest, .int m_leftBeats, .int m_signed, .int m_metMany, .ref m_qsums, .ref m_qpairs, .ref m_qgoesWith, .ref m_qsaid, .int m_saidMany, .int m_firstWait, .ref m_qfirstOrder, .int m_bundleFirst, .ref m_qtiredBy, .int m_tiredMany, .ref m_qmany, .ref m_qwidth, .ref m_qnumbers, .ref m_qmoving])), (m_qworld, .inl (cA 1, 122, .inl m_cworld)), (m_qsums, .inl (cA 1, 2304, .inl F1_30537)), (m_qpairs, .inl (cA 1, 2304, .inl F2_30537))] ∧ va_S A s.heap H locs ∧ lv_has ls 8 [(7, .int L7_30772), (6, .int L6_30772), (5, .int L5_30772), (4, .int L4_30537), (3, .int L3_23759), (2, .int (m_cworld 4)), (0, .ref h0), (1, .int p0)]) (fun ⟨L7_30772, L6_30772, L5_30772⟩ => (2147483647 - L7_30772.toInt).toNat) ?_ ((0, x_30561, r_30553) : Int32 × Int32 × Int32) ⟨(by decide), (show 0 ≤ x_30561.toInt ∧ x_30561.toInt ≤ 0 from by omega), hP, hD, hS, hl⟩
          intro x_30772 H locs ls hI_30772 ih_30772
          obtain ⟨L7_30772, L6_30772, L5_30772⟩ := x_30772
          obtain ⟨k0_30772, k1_30772, hP, hD, hS, hl⟩ := hI_30772
          have hP : va_P D vwCl [(h0, .inr (12, [.int m_thrown, .ref m_qworld, .ref m_qimages, .ref m_qhasImage, .ref m_qtape, .int m_taped, .ref m_qfive, .int m_size, .int m_at, .int m_from, .int m_token, .int m_value, .int m_faultKind, .int m_faultPlace, .ref m_qfresh, .int m_startOne, .int m_startOther, .int m_latest, .int m_leftBeats, .int m_signed, .int m_metMany, .ref m_qsums, .ref m_qpairs, .ref m_qgoesWith, .ref m_qsaid, .int m_saidMany, .int m_firstWait, .ref m_qfirstOrder, .int m_bundleFirst, .ref m_qtiredBy, .int m_tiredMany, .ref m_qmany, .ref m_qwidth, .ref m_qnumbers, .ref m_qmoving])), (m_qworld, .inl (cA 1, 122, .inl m_cworld)), (m_qsums, .inl (cA 1, 2304, .inl F1_30537)), (m_qpairs, .inl (cA 1, 2304, .inl F2_30537))] H := hP
          have hD : va_D A [(h0, .inr (12, [.int m_thrown, .ref m_qworld, .ref m_qimages, .ref m_qhasImage, .ref m_qtape, .int m_taped, .ref m_qfive, .int m_size, .int m_at, .int m_from, .int m_token, .int m_value, .int m_faultKind, .int m_faultPlace, .ref m_qfresh, .int m_startOne, .int m_startOther, .int m_latest, .int m_leftBeats, .int m_signed, .int m_metMany, .ref m_qsums, .ref m_qpairs, .ref m_qgoesWith, .ref m_qsaid, .int m_saidMany, .int m_firstWait, .ref m_qfirstOrder, .int m_bundleFirst, .ref m_qtiredBy, .int m_tiredMany, .ref m_qmany, .ref m_qwidth, .ref m_qnumbers, .ref m_qmoving])), (m_qworld, .inl (cA 1, 122, .inl m_cworld)), (m_qsums, .inl (cA 1, 2304, .inl F1_30537)), (m_qpairs, .inl (cA 1, 2304, .inl F2_30537))] := hD
          have hl : lv_has ls 8 [(7, .int L7_30772), (6, .int L6_30772), (5, .int L5_30772), (4, .int L4_30537), (3, .int L3_23759), (2, .int (m_cworld 4)), (0, .ref h0), (1, .int p0)] := hl
          refine lv_iload hx hb dX12_layMatch_72 (lv_at hl 0 rfl) ?_
          refine lv_iload_n hx hb dX12_layMatch_74 rfl (lv_at hl 5 rfl) ?_
          refine lv_icmp_ge (tgt := 191) hx hb dX12_layMatch_75 (by decide) (fun c_30774 => ?_) (fun c_30774 => ?_)
          · skip
            have k_30775 := kk_le rfl rfl c_30774
            refine lv_aload_n hx hb dX12_layMatch_191 rfl (lv_at hl 6 rfl) ?_
            refine va_get (D := D) (ci := 12) (v := .ref m_qsums) (C := RX12) (T := TX12) (N := 35) hx hb hts inX12 hown hKN.1 hP 0 rfl rfl 21 (by decide) (hts _ tw_1440) (fun _ h9 => h9) rfl dX12_layMatch_192 ?_
            refine lv_iload_n hx hb dX12_layMatch_195 rfl (lv_at hl 4 rfl) ?_
            refine lv_bipush (v := 8) hx hb dX12_layMatch_196 (by decide) ?_
            refine lv_ishl hx hb dX12_layMatch_198 ?_
            refine lv_topi (fun x_30776 ex_30776 => ?_)
            have k_30777 := ar_shl8 ex_30776 (by omega) (by omega)
            refine lv_iload hx hb dX12_layMatch_199 (lv_at hl 3 rfl) ?_
            refine lv_ior hx hb dX12_layMatch_201 ?_
            refine lv_topi (fun x_30778 ex_30778 => ?_)
            have k_30779 := ar_or8 rfl rfl ex_30778 (by omega) (by omega) (by omega)
            refine lv_iload hx hb dX12_layMatch_202 (lv_at hl 2 rfl) ?_
            refine va_iast hx hb hKN.1 hP hD hS 2 1 rfl rfl (vp_in_iff.mpr ⟨by omega, by omega⟩) dX12_layMatch_204 (fun H locs hP hD hS => ?_)
            have hP : va_P D vwCl [(h0, .inr (12, [.int m_thrown, .ref m_qworld, .ref m_qimages, .ref m_qhasImage, .ref m_qtape, .int m_taped, .ref m_qfive, .int m_size, .int m_at, .int m_from, .int m_token, .int m_value, .int m_faultKind, .int m_faultPlace, .ref m_qfresh, .int m_startOne, .int m_startOther, .int m_latest, .int m_leftBeats, .int m_signed, .int m_metMany, .ref m_qsums, .ref m_qpairs, .ref m_qgoesWith, .ref m_qsaid, .int m_saidMany, .int m_firstWait, .ref m_qfirstOrder, .int m_bundleFirst, .ref m_qtiredBy, .int m_tiredMany, .ref m_qmany, .ref m_qwidth, .ref m_qnumbers, .ref m_qmoving])), (m_qworld, .inl (cA 1, 122, .inl m_cworld)), (m_qsums, .inl (cA 1, 2304, .inl (upd F1_30537 x_30778.toNatClampNeg L5_30772))), (m_qpairs, .inl (cA 1, 2304, .inl F2_30537))] H := hP
            have hD : va_D A [(h0, .inr (12, [.int m_thrown, .ref m_qworld, .ref m_qimages, .ref m_qhasImage, .ref m_qtape, .int m_taped, .ref m_qfive, .int m_size, .int m_at, .int m_from, .int m_token, .int m_value, .int m_faultKind, .int m_faultPlace, .ref m_qfresh, .int m_startOne, .int m_startOther, .int m_latest, .int m_leftBeats, .int m_signed, .int m_metMany, .ref m_qsums, .ref m_qpairs, .ref m_qgoesWith, .ref m_qsaid, .int m_saidMany, .int m_firstWait, .ref m_qfirstOrder, .int m_bundleFirst, .ref m_qtiredBy, .int m_tiredMany, .ref m_qmany, .ref m_qwidth, .ref m_qnumbers, .ref m_qmoving])), (m_qworld, .inl (cA 1, 122, .inl m_cworld)), (m_qsums, .inl (cA 1, 2304, .inl (upd F1_30537 x_30778.toNatClampNeg L5_30772))), (m_qpairs, .inl (cA 1, 2304, .inl F2_30537))] := hD
            generalize ef_30780 : (upd F1_30537 x_30778.toNatClampNeg L5_30772) = f_30780 at hP hD
            refine lv_aload_n hx hb dX12_layMatch_205 rfl (lv_at hl 6 rfl) ?_
            refine va_get (D := D) (ci := 12) (v := .ref m_qpairs) (C := RX12) (T := TX12) (N := 35) hx hb hts inX12 hown hKN.1 hP 0 rfl rfl 22 (by decide) (hts _ tw_1441) (fun _ h9 => h9) rfl dX12_layMatch_206 ?_
            refine lv_iload_n hx hb dX12_layMatch_209 rfl (lv_at hl 4 rfl) ?_
            refine lv_bipush (v := 8) hx hb dX12_layMatch_210 (by decide) ?_
            refine lv_ishl hx hb dX12_layMatch_212 ?_
            refine lv_topi (fun x_30781 ex_30781 => ?_)
            obtain rfl : x_30776 = x_30781 := ex_30776.trans ex_30781.symm
            refine lv_iload hx hb dX12_layMatch_213 (lv_at hl 3 rfl) ?_
            refine lv_ior hx hb dX12_layMatch_215 ?_
            refine lv_topi (fun x_30782 ex_30782 => ?_)
            obtain rfl : x_30778 = x_30782 := ex_30778.trans ex_30782.symm
            refine lv_iload hx hb dX12_layMatch_216 (lv_at hl 1 rfl) ?_
            refine va_iast hx hb hKN.1 hP hD hS 3 1 rfl rfl (vp_in_iff.mpr ⟨by omega, by omega⟩) dX12_layMatch_218 (fun H locs hP hD hS => ?_)
            have hP : va_P D vwCl [(h0, .inr (12, [.int m_thrown, .ref m_qworld, .ref m_qimages, .ref m_qhasImage, .ref m_qtape, .int m_taped, .ref m_qfive, .int m_size, .int m_at, .int m_from, .int m_token, .int m_value, .int m_faultKind, .int m_faultPlace, .ref m_qfresh, .int m_startOne, .int m_startOther, .int m_latest, .int m_leftBeats, .int m_signed, .int m_metMany, .ref m_qsums, .ref m_qpairs, .ref m_qgoesWith, .ref m_qsaid, .int m_saidMany, .int m_firstWait, .ref m_qfirstOrder, .int m_bundleFirst, .ref m_qtiredBy, .int m_tiredMany, .ref m_qmany, .ref m_qwidth, .ref m_qnumbers, .ref m_qmoving])), (m_qworld, .inl (cA 1, 122, .inl m_cworld)), (m_qsums, .inl (cA 1, 2304, .inl f_30780)), (m_qpairs, .inl (cA 1, 2304, .inl (upd F2_30537 x_30778.toNatClampNeg L6_30772)))] H := hP
            have hD : va_D A [(h0, .inr (12, [.int m_thrown, .ref m_qworld, .ref m_qimages, .ref m_qhasImage, .ref m_qtape, .int m_taped, .ref m_qfive, .int m_size, .int m_at, .int m_from, .int m_token, .int m_value, .int m_faultKind, .int m_faultPlace, .ref m_qfresh, .int m_startOne, .int m_startOther, .int m_latest, .int m_leftBeats, .int m_signed, .int m_metMany, .ref m_qsums, .ref m_qpairs, .ref m_qgoesWith, .ref m_qsaid, .int m_saidMany, .int m_firstWait, .ref m_qfirstOrder, .int m_bundleFirst, .ref m_qtiredBy, .int m_tiredMany, .ref m_qmany, .ref m_qwidth, .ref m_qnumbers, .ref m_qmoving])), (m_qworld, .inl (cA 1, 122, .inl m_cworld)), (m_qsums, .inl (cA 1, 2304, .inl f_30780)), (m_qpairs, .inl (cA 1, 2304, .inl (upd F2_30537 x_30778.toNatClampNeg L6_30772)))] := hD
            generalize ef_30783 : (upd F2_30537 x_30778.toNatClampNeg L6_30772) = f_30783 at hP hD
            obtain ⟨x_30784, ex_30784⟩ : ∃ y : Int32, L4_30537 + Int32.ofInt 1 = y := ⟨_, rfl⟩
            have k_30785 := ar_add (b := 1) rfl zi_1 ex_30784.symm (by omega) (by omega)
            refine lv_iinc (v := x_30784) (lv' := [(4, .int x_30784), (7, .int L7_30772), (6, .int L6_30772), (5, .int L5_30772), (3, .int L3_23759), (2, .int (m_cworld 4)), (0, .ref h0), (1, .int p0)]) hx hb dX12_layMatch_219 hl (k := 3) rfl ex_30784 (by decide) rfl (fun ls hl => ?_)
            refine lv_goto (tgt := 16) hx hb dX12_layMatch_222 (by decide) ?_
            have hb_30786 : ZQ f_30783 L3_23759.toInt x_30784.toInt (m_cworld 4).toInt.toNat := by
              have kc : x_30778.toNatClampNeg = x_30778.toInt.toNat := rfl
              rw [← ef_30783]; exact ZQ.step k1_30537 (by omega) (by omega) (by omega)
            exact ih_30537 (x_30784, f_30780, f_30783) _ _ _ ⟨(show 0 ≤ x_30784.toInt ∧ x_30784.toInt ≤ 256 from by omega), hb_30786, hP.sub [0, 1, 2, 3] rfl, hD.sub [0, 1, 2, 3] (by decide) rfl, hS, lv_sub hl [0, 4, 5, 6, 7] rfl⟩ (by show (2147483647 - x_30784.toInt).toNat < (2147483647 - L4_30537.toInt).toNat; omega)
          · skip
            have k_30787 := kk_nle rfl rfl c_30774
            refine lv_iload_n hx hb dX12_layMatch_78 rfl (lv_at hl 4 rfl) ?_
            refine lv_iload_n hx hb dX12_layMatch_79 rfl (lv_at hl 5 rfl) ?_
            refine lv_icmp_ge (tgt := 191) hx hb dX12_layMatch_80 (by decide) (fun c_30788 => ?_) (fun c_30788 => ?_)
            · skip
              have k_30789 := kk_le rfl rfl c_30788
              refine lv_aload_n hx hb dX12_layMatch_191 rfl (lv_at hl 6 rfl) ?_
              refine va_get (D := D) (ci := 12) (v := .ref m_qsums) (C := RX12) (T := TX12) (N := 35) hx hb hts inX12 hown hKN.1 hP 0 rfl rfl 21 (by decide) (hts _ tw_1440) (fun _ h9 => h9) rfl dX12_layMatch_192 ?_
              refine lv_iload_n hx hb dX12_layMatch_195 rfl (lv_at hl 4 rfl) ?_
              refine lv_bipush (v := 8) hx hb dX12_layMatch_196 (by decide) ?_
              refine lv_ishl hx hb dX12_layMatch_198 ?_
              refine lv_topi (fun x_30790 ex_30790 => ?_)
              have k_30791 := ar_shl8 ex_30790 (by omega) (by omega)
              refine lv_iload hx hb dX12_layMatch_199 (lv_at hl 3 rfl) ?_
              refine lv_ior hx hb dX12_layMatch_201 ?_
              refine lv_topi (fun x_30792 ex_30792 => ?_)
              have k_30793 := ar_or8 rfl rfl ex_30792 (by omega) (by omega) (by omega)
              refine lv_iload hx hb dX12_layMatch_202 (lv_at hl 2 rfl) ?_
              refine va_iast hx hb hKN.1 hP hD hS 2 1 rfl rfl (vp_in_iff.mpr ⟨by omega, by omega⟩) dX12_layMatch_204 (fun H locs hP hD hS => ?_)
              have hP : va_P D vwCl [(h0, .inr (12, [.int m_thrown, .ref m_qworld, .ref m_qimages, .ref m_qhasImage, .ref m_qtape, .int m_taped, .ref m_qfive, .int m_size, .int m_at, .int m_from, .int m_token, .int m_value, .int m_faultKind, .int m_faultPlace, .ref m_qfresh, .int m_startOne, .int m_startOther, .int m_latest, .int m_leftBeats, .int m_signed, .int m_metMany, .ref m_qsums, .ref m_qpairs, .ref m_qgoesWith, .ref m_qsaid, .int m_saidMany, .int m_firstWait, .ref m_qfirstOrder, .int m_bundleFirst, .ref m_qtiredBy, .int m_tiredMany, .ref m_qmany, .ref m_qwidth, .ref m_qnumbers, .ref m_qmoving])), (m_qworld, .inl (cA 1, 122, .inl m_cworld)), (m_qsums, .inl (cA 1, 2304, .inl (upd F1_30537 x_30792.toNatClampNeg L5_30772))), (m_qpairs, .inl (cA 1, 2304, .inl F2_30537))] H := hP
              have hD : va_D A [(h0, .inr (12, [.int m_thrown, .ref m_qworld, .ref m_qimages, .ref m_qhasImage, .ref m_qtape, .int m_taped, .ref m_qfive, .int m_size, .int m_at, .int m_from, .int m_token, .int m_value, .int m_faultKind, .int m_faultPlace, .ref m_qfresh, .int m_startOne, .int m_startOther, .int m_latest, .int m_leftBeats, .int m_signed, .int m_metMany, .ref m_qsums, .ref m_qpairs, .ref m_qgoesWith, .ref m_qsaid, .int m_saidMany, .int m_firstWait, .ref m_qfirstOrder, .int m_bundleFirst, .ref m_qtiredBy, .int m_tiredMany, .ref m_qmany, .ref m_qwidth, .ref m_qnumbers, .ref m_qmoving])), (m_qworld, .inl (cA 1, 122, .inl m_cworld)), (m_qsums, .inl (cA 1, 2304, .inl (upd F1_30537 x_30792.toNatClampNeg L5_30772))), (m_qpairs, .inl (cA 1, 2304, .inl F2_30537))] := hD
              generalize ef_30794 : (upd F1_30537 x_30792.toNatClampNeg L5_30772) = f_30794 at hP hD
              refine lv_aload_n hx hb dX12_layMatch_205 rfl (lv_at hl 6 rfl) ?_
              refine va_get (D := D) (ci := 12) (v := .ref m_qpairs) (C := RX12) (T := TX12) (N := 35) hx hb hts inX12 hown hKN.1 hP 0 rfl rfl 22 (by decide) (hts _ tw_1441) (fun _ h9 => h9) rfl dX12_layMatch_206 ?_
              refine lv_iload_n hx hb dX12_layMatch_209 rfl (lv_at hl 4 rfl) ?_
              refine lv_bipush (v := 8) hx hb dX12_layMatch_210 (by decide) ?_
              refine lv_ishl hx hb dX12_layMatch_212 ?_
              refine lv_topi (fun x_30795 ex_30795 => ?_)
              obtain rfl : x_30790 = x_30795 := ex_30790.trans ex_30795.symm
              refine lv_iload hx hb dX12_layMatch_213 (lv_at hl 3 rfl) ?_
              refine lv_ior hx hb dX12_layMatch_215 ?_
              refine lv_topi (fun x_30796 ex_30796 => ?_)
              obtain rfl : x_30792 = x_30796 := ex_30792.trans ex_30796.symm
              refine lv_iload hx hb dX12_layMatch_216 (lv_at hl 1 rfl) ?_
              refine va_iast hx hb hKN.1 hP hD hS 3 1 rfl rfl (vp_in_iff.mpr ⟨by omega, by omega⟩) dX12_layMatch_218 (fun H locs hP hD hS => ?_)
              have hP : va_P D vwCl [(h0, .inr (12, [.int m_thrown, .ref m_qworld, .ref m_qimages, .ref m_qhasImage, .ref m_qtape, .int m_taped, .ref m_qfive, .int m_size, .int m_at, .int m_from, .int m_token, .int m_value, .int m_faultKind, .int m_faultPlace, .ref m_qfresh, .int m_startOne, .int m_startOther, .int m_latest, .int m_leftBeats, .int m_signed, .int m_metMany, .ref m_qsums, .ref m_qpairs, .ref m_qgoesWith, .ref m_qsaid, .int m_saidMany, .int m_firstWait, .ref m_qfirstOrder, .int m_bundleFirst, .ref m_qtiredBy, .int m_tiredMany, .ref m_qmany, .ref m_qwidth, .ref m_qnumbers, .ref m_qmoving])), (m_qworld, .inl (cA 1, 122, .inl m_cworld)), (m_qsums, .inl (cA 1, 2304, .inl f_30794)), (m_qpairs, .inl (cA 1, 2304, .inl (upd F2_30537 x_30792.toNatClampNeg L6_30772)))] H := hP
              have hD : va_D A [(h0, .inr (12, [.int m_thrown, .ref m_qworld, .ref m_qimages, .ref m_qhasImage, .ref m_qtape, .int m_taped, .ref m_qfive, .int m_size, .int m_at, .int m_from, .int m_token, .int m_value, .int m_faultKind, .int m_faultPlace, .ref m_qfresh, .int m_startOne, .int m_startOther, .int m_latest, .int m_leftBeats, .int m_signed, .int m_metMany, .ref m_qsums, .ref m_qpairs, .ref m_qgoesWith, .ref m_qsaid, .int m_saidMany, .int m_firstWait, .ref m_qfirstOrder, .int m_bundleFirst, .ref m_qtiredBy, .int m_tiredMany, .ref m_qmany, .ref m_qwidth, .ref m_qnumbers, .ref m_qmoving])), (m_qworld, .inl (cA 1, 122, .inl m_cworld)), (m_qsums, .inl (cA 1, 2304, .inl f_30794)), (m_qpairs, .inl (cA 1, 2304, .inl (upd F2_30537 x_30792.toNatClampNeg L6_30772)))] := hD
              generalize ef_30797 : (upd F2_30537 x_30792.toNatClampNeg L6_30772) = f_30797 at hP hD
              obtain ⟨x_30798, ex_30798⟩ : ∃ y : Int32, L4_30537 + Int32.ofInt 1 = y := ⟨_, rfl⟩
              have k_30799 := ar_add (b := 1) rfl zi_1 ex_30798.symm (by omega) (by omega)
              refine lv_iinc (v := x_30798) (lv' := [(4, .int x_30798), (7, .int L7_30772), (6, .int L6_30772), (5, .int L5_30772), (3, .int L3_23759), (2, .int (m_cworld 4)), (0, .ref h0), (1, .int p0)]) hx hb dX12_layMatch_219 hl (k := 3) rfl ex_30798 (by decide) rfl (fun ls hl => ?_)
              refine lv_goto (tgt := 16) hx hb dX12_layMatch_222 (by decide) ?_
              have hb_30800 : ZQ f_30797 L3_23759.toInt x_30798.toInt (m_cworld 4).toInt.toNat := by
                have kc : x_30792.toNatClampNeg = x_30792.toInt.toNat := rfl
                rw [← ef_30797]; exact ZQ.step k1_30537 (by omega) (by omega) (by omega)
              exact ih_30537 (x_30798, f_30794, f_30797) _ _ _ ⟨(show 0 ≤ x_30798.toInt ∧ x_30798.toInt ≤ 256 from by omega), hb_30800, hP.sub [0, 1, 2, 3] rfl, hD.sub [0, 1, 2, 3] (by decide) rfl, hS, lv_sub hl [0, 4, 5, 6, 7] rfl⟩ (by show (2147483647 - x_30798.toInt).toNat < (2147483647 - L4_30537.toInt).toNat; omega)
            · skip
              have k_30801 := kk_nle rfl rfl c_30788
              refine lv_aload_n hx hb dX12_layMatch_83 rfl (lv_at hl 6 rfl) ?_
              refine lv_iload_n hx hb dX12_layMatch_84 rfl (lv_at hl 4 rfl) ?_
              refine lv_iconst (v := 0) hx hb dX12_layMatch_85 (by decide) ?_
              have z_30802 := zi_0
              refine cpVi (rest := []) ⟨hx, hb, hml, hown, hts⟩ hKN (hP.sub (ws' := [(h0, .inr (12, [.int m_thrown, .ref m_qworld, .ref m_qimages, .ref m_qhasImage, .ref m_qtape, .int m_taped, .ref m_qfive, .int m_size, .int m_at, .int m_from, .int m_token, .int m_value, .int m_faultKind, .int m_faultPlace, .ref m_qfresh, .int m_startOne, .int m_startOther, .int m_latest, .int m_leftBeats, .int m_signed, .int m_metMany, .ref m_qsums, .ref m_qpairs, .ref m_qgoesWith, .ref m_qsaid, .int m_saidMany, .int m_firstWait, .ref m_qfirstOrder, .int m_bundleFirst, .ref m_qtiredBy, .int m_tiredMany, .ref m_qmany, .ref m_qwidth, .ref m_qnumbers, .ref m_qmoving])), (m_qworld, .inl (cA 1, 122, .inl m_cworld))]) [0, 1] rfl) (g_X12_of l D cA h0 m_thrown m_qworld m_qimages m_qhasImage m_qtape m_taped m_qfive m_size m_at m_from m_token m_value m_faultKind m_faultPlace m_qfresh m_startOne m_startOther m_latest m_leftBeats m_signed m_metMany m_qsums m_qpairs m_qgoesWith m_qsaid m_saidMany m_firstWait m_qfirstOrder m_bundleFirst m_qtiredBy m_tiredMany m_qmany m_qwidth m_qnumbers m_qmoving m_cworld L3_23759 0 (by omega) (by omega) (by omega) (by omega) (by omega) (by omega) (by omega) (by decide) a_m_cworld_0) (tb_V tw_1640 tw_1642 tw_50 tw_114 tw_1643) hdX12_of ⟨rfl, rfl, Nat.le_of_ble_eq_true rfl, Nat.le_of_ble_eq_true rfl⟩ ⟨Nat.le_of_ble_eq_true rfl, Nat.le_of_ble_eq_true rfl⟩ rfl rfl rfl hl.1 rfl (Nat.le_of_ble_eq_true rfl) dX12_layMatch_86 (fun r_30803 hr_30803 => ?_)
              obtain ⟨k_30803_0_0, k_30803_0_1⟩ := hr_30803
              refine lv_if_ne (tgt := 185) hx hb dX12_layMatch_89 (by decide) (fun c_30804 => ?_) (fun c_30804 => ?_)
              · skip
                have k_30805 := kk_ne rfl zi_0 c_30804
                obtain ⟨x_30806, ex_30806⟩ : ∃ y : Int32, L7_30772 + Int32.ofInt 1 = y := ⟨_, rfl⟩
                have k_30807 := ar_add (b := 1) rfl zi_1 ex_30806.symm (by omega) (by omega)
                refine lv_iinc (v := x_30806) (lv' := [(7, .int x_30806), (6, .int L6_30772), (5, .int L5_30772), (4, .int L4_30537), (3, .int L3_23759), (2, .int (m_cworld 4)), (0, .ref h0), (1, .int p0)]) hx hb dX12_layMatch_185 hl (k := 0) rfl ex_30806 (by decide) rfl (fun ls hl => ?_)
                refine lv_goto (tgt := 72) hx hb dX12_layMatch_188 (by decide) ?_
                exact ih_30772 (x_30806, L6_30772, L5_30772) _ _ _ ⟨(show 0 ≤ x_30806.toInt ∧ x_30806.toInt ≤ 8 from by omega), (show 0 ≤ L6_30772.toInt ∧ L6_30772.toInt ≤ 0 from by omega), hP.sub [0, 1, 2, 3] rfl, hD.sub [0, 1, 2, 3] (by decide) rfl, hS, lv_sub hl [0, 1, 2, 3, 4, 5, 6, 7] rfl⟩ (by show (2147483647 - x_30806.toInt).toNat < (2147483647 - L7_30772.toInt).toNat; omega)
              · skip
                have k_30808 := kk_eq rfl zi_0 c_30804
                refine lv_aload_n hx hb dX12_layMatch_92 rfl (lv_at hl 6 rfl) ?_
                refine lv_iload hx hb dX12_layMatch_93 (lv_at hl 0 rfl) ?_
                refine lv_iconst (v := 0) hx hb dX12_layMatch_95 (by decide) ?_
                refine cpVi (rest := []) ⟨hx, hb, hml, hown, hts⟩ hKN (hP.sub (ws' := [(h0, .inr (12, [.int m_thrown, .ref m_qworld, .ref m_qimages, .ref m_qhasImage, .ref m_qtape, .int m_taped, .ref m_qfive, .int m_size, .int m_at, .int m_from, .int m_token, .int m_value, .int m_faultKind, .int m_faultPlace, .ref m_qfresh, .int m_startOne, .int m_startOther, .int m_latest, .int m_leftBeats, .int m_signed, .int m_metMany, .ref m_qsums, .ref m_qpairs, .ref m_qgoesWith, .ref m_qsaid, .int m_saidMany, .int m_firstWait, .ref m_qfirstOrder, .int m_bundleFirst, .ref m_qtiredBy, .int m_tiredMany, .ref m_qmany, .ref m_qwidth, .ref m_qnumbers, .ref m_qmoving])), (m_qworld, .inl (cA 1, 122, .inl m_cworld))]) [0, 1] rfl) (g_X12_of l D cA h0 m_thrown m_qworld m_qimages m_qhasImage m_qtape m_taped m_qfive m_size m_at m_from m_token m_value m_faultKind m_faultPlace m_qfresh m_startOne m_startOther m_latest m_leftBeats m_signed m_metMany m_qsums m_qpairs m_qgoesWith m_qsaid m_saidMany m_firstWait m_qfirstOrder m_bundleFirst m_qtiredBy m_tiredMany m_qmany m_qwidth m_qnumbers m_qmoving m_cworld L7_30772 0 (by omega) (by omega) (by omega) (by omega) (by omega) (by omega) (by omega) (by decide) a_m_cworld_0) (tb_V tw_1640 tw_1642 tw_50 tw_114 tw_1643) hdX12_of ⟨rfl, rfl, Nat.le_of_ble_eq_true rfl, Nat.le_of_ble_eq_true rfl⟩ ⟨Nat.le_of_ble_eq_true rfl, Nat.le_of_ble_eq_true rfl⟩ rfl rfl rfl hl.1 rfl (Nat.le_of_ble_eq_true rfl) dX12_layMatch_96 (fun r_30809 hr_30809 => ?_)
                obtain ⟨k_30809_0_0, k_30809_0_1⟩ := hr_30809
                refine lv_iconst (v := 1) hx hb dX12_layMatch_99 (by decide) ?_
                refine lv_icmp_ne (tgt := 185) hx hb dX12_layMatch_100 (by decide) (fun c_30810 => ?_) (fun c_30810 => ?_)
                · skip
                  have k_30811 := kk_ne rfl zi_1 c_30810
                  obtain ⟨x_30812, ex_30812⟩ : ∃ y : Int32, L7_30772 + Int32.ofInt 1 = y := ⟨_, rfl⟩
                  have k_30813 := ar_add (b := 1) rfl zi_1 ex_30812.symm (by omega) (by omega)
                  refine lv_iinc (v := x_30812) (lv' := [(7, .int x_30812), (6, .int L6_30772), (5, .int L5_30772), (4, .int L4_30537), (3, .int L3_23759), (2, .int (m_cworld 4)), (0, .ref h0), (1, .int p0)]) hx hb dX12_layMatch_185 hl (k := 0) rfl ex_30812 (by decide) rfl (fun ls hl => ?_)
                  refine lv_goto (tgt := 72) hx hb dX12_layMatch_188 (by decide) ?_
                  exact ih_30772 (x_30812, L6_30772, L5_30772) _ _ _ ⟨(show 0 ≤ x_30812.toInt ∧ x_30812.toInt ≤ 8 from by omega), (show 0 ≤ L6_30772.toInt ∧ L6_30772.toInt ≤ 0 from by omega), hP.sub [0, 1, 2, 3] rfl, hD.sub [0, 1, 2, 3] (by decide) rfl, hS, lv_sub hl [0, 1, 2, 3, 4, 5, 6, 7] rfl⟩ (by show (2147483647 - x_30812.toInt).toNat < (2147483647 - L7_30772.toInt).toNat; omega)
                · skip
                  have k_30814 := kk_eq rfl zi_1 c_30810
                  refine lv_iload hx hb dX12_layMatch_103 (lv_at hl 3 rfl) ?_
                  refine lv_iload hx hb dX12_layMatch_105 (lv_at hl 0 rfl) ?_
                  refine cpSi (rest := []) ⟨hx, hb, hml, hown, hts⟩ hKN (hP.sub (ws' := []) [] rfl) (g_X12_bit l D cA L4_30537 L7_30772) (tb_S tw_1807 tw_1808 tw_114 tw_1809) hdX12_bit ⟨rfl, rfl, Nat.le_of_ble_eq_true rfl, Nat.le_of_ble_eq_true rfl⟩ ⟨Nat.le_of_ble_eq_true rfl, Nat.le_of_ble_eq_true rfl⟩ rfl hl.1 rfl (Nat.le_of_ble_eq_true rfl) dX12_layMatch_107 (fun r_30815 hr_30815 => ?_)
                  refine lv_iconst (v := 1) hx hb dX12_layMatch_110 (by decide) ?_
                  refine lv_icmp_ne (tgt := 117) hx hb dX12_layMatch_111 (by decide) (fun c_30816 => ?_) (fun c_30816 => ?_)
                  · skip
                    have k_30817 := kk_ne rfl zi_1 c_30816
                    refine lv_iload hx hb dX12_layMatch_117 (lv_at hl 2 rfl) ?_
                    refine lv_aload_n hx hb dX12_layMatch_119 rfl (lv_at hl 6 rfl) ?_
                    refine lv_iload_n hx hb dX12_layMatch_120 rfl (lv_at hl 4 rfl) ?_
                    refine lv_iload hx hb dX12_layMatch_121 (lv_at hl 0 rfl) ?_
                    refine cpVi (rest := [.int L5_30772]) ⟨hx, hb, hml, hown, hts⟩ hKN (hP.sub (ws' := [(h0, .inr (12, [.int m_thrown, .ref m_qworld, .ref m_qimages, .ref m_qhasImage, .ref m_qtape, .int m_taped, .ref m_qfive, .int m_size, .int m_at, .int m_from, .int m_token, .int m_value, .int m_faultKind, .int m_faultPlace, .ref m_qfresh, .int m_startOne, .int m_startOther, .int m_latest, .int m_leftBeats, .int m_signed, .int m_metMany, .ref m_qsums, .ref m_qpairs, .ref m_qgoesWith, .ref m_qsaid, .int m_saidMany, .int m_firstWait, .ref m_qfirstOrder, .int m_bundleFirst, .ref m_qtiredBy, .int m_tiredMany, .ref m_qmany, .ref m_qwidth, .ref m_qnumbers, .ref m_qmoving])), (m_qworld, .inl (cA 1, 122, .inl m_cworld))]) [0, 1] rfl) (g_X12_holdOf_z l D cA h0 m_thrown m_qworld m_qimages m_qhasImage m_qtape m_taped m_qfive m_size m_at m_from m_token m_value m_faultKind m_faultPlace m_qfresh m_startOne m_startOther m_latest m_leftBeats m_signed m_metMany m_qsums m_qpairs m_qgoesWith m_qsaid m_saidMany m_firstWait m_qfirstOrder m_bundleFirst m_qtiredBy m_tiredMany m_qmany m_qwidth m_qnumbers m_qmoving m_cworld L3_23759 L7_30772 (by omega) (by omega) (by omega) (by omega) (by omega) (by omega) (by omega) (by omega) a_m_cworld_0) (tb_V tw_1700 tw_1702 tw_63 tw_114 tw_1703) hdX12_holdOf ⟨rfl, rfl, Nat.le_of_ble_eq_true rfl, Nat.le_of_ble_eq_true rfl⟩ ⟨Nat.le_of_ble_eq_true rfl, Nat.le_of_ble_eq_true rfl⟩ rfl rfl rfl hl.1 rfl (Nat.le_of_ble_eq_true rfl) dX12_layMatch_123 (fun r_30818 hr_30818 => ?_)
                    refine lv_aload_n hx hb dX12_layMatch_126 rfl (lv_at hl 6 rfl) ?_
                    refine lv_iload_n hx hb dX12_layMatch_127 rfl (lv_at hl 4 rfl) ?_
                    refine lv_iconst (v := 1) hx hb dX12_layMatch_128 (by decide) ?_
                    refine lv_iadd hx hb dX12_layMatch_129 ?_
                    refine lv_topi (fun x_30819 ex_30819 => ?_)
                    obtain rfl : x_30551 = x_30819 := ex_30551.trans ex_30819.symm
                    refine lv_iload hx hb dX12_layMatch_130 (lv_at hl 3 rfl) ?_
                    refine lv_iconst (v := 1) hx hb dX12_layMatch_132 (by decide) ?_
                    refine lv_iload hx hb dX12_layMatch_133 (lv_at hl 0 rfl) ?_
                    refine lv_ishl hx hb dX12_layMatch_135 ?_
                    refine lv_topi (fun x_30820 ex_30820 => ?_)
                    have k_30821 := ar_shl1 ex_30820 (by omega) (by omega)
                    refine lv_ior hx hb dX12_layMatch_136 ?_
                    refine lv_topi (fun x_30822 ex_30822 => ?_)
                    have k_30823 := ar_or (n := 8) (M := 256) rfl rfl ex_30822 (by decide) (by decide) (by omega) (by omega)
                    refine cpVi (rest := [.int r_30818, .int L5_30772]) ⟨hx, hb, hml, hown, hts⟩ hKN (hP.sub (ws' := [(h0, .inr (12, [.int m_thrown, .ref m_qworld, .ref m_qimages, .ref m_qhasImage, .ref m_qtape, .int m_taped, .ref m_qfive, .int m_size, .int m_at, .int m_from, .int m_token, .int m_value, .int m_faultKind, .int m_faultPlace, .ref m_qfresh, .int m_startOne, .int m_startOther, .int m_latest, .int m_leftBeats, .int m_signed, .int m_metMany, .ref m_qsums, .ref m_qpairs, .ref m_qgoesWith, .ref m_qsaid, .int m_saidMany, .int m_firstWait, .ref m_qfirstOrder, .int m_bundleFirst, .ref m_qtiredBy, .int m_tiredMany, .ref m_qmany, .ref m_qwidth, .ref m_qnumbers, .ref m_qmoving])), (m_qsums, .inl (cA 1, 2304, .inl F1_30537))]) [0, 2] rfl) (g_X12_sumFrom l D cA h0 m_thrown m_qworld m_qimages m_qhasImage m_qtape m_taped m_qfive m_size m_at m_from m_token m_value m_faultKind m_faultPlace m_qfresh m_startOne m_startOther m_latest m_leftBeats m_signed m_metMany m_qsums m_qpairs m_qgoesWith m_qsaid m_saidMany m_firstWait m_qfirstOrder m_bundleFirst m_qtiredBy m_tiredMany m_qmany m_qwidth m_qnumbers m_qmoving F1_30537 x_30551 x_30822 (by omega) (by omega) (by omega) (by omega) (by omega) (by omega) (by omega) (by omega)) (tb_V tw_1803 tw_1805 tw_71 tw_114 tw_1806) hdX12_sumFrom ⟨rfl, rfl, Nat.le_of_ble_eq_true rfl, Nat.le_of_ble_eq_true rfl⟩ ⟨Nat.le_of_ble_eq_true rfl, Nat.le_of_ble_eq_true rfl⟩ rfl rfl rfl hl.1 rfl (Nat.le_of_ble_eq_true rfl) dX12_layMatch_137 (fun r_30824 hr_30824 => ?_)
                    refine lv_iadd hx hb dX12_layMatch_140 ?_
                    refine lv_topi (fun x_30825 ex_30825 => ?_)
                    refine cpSi (rest := []) ⟨hx, hb, hml, hown, hts⟩ hKN (hP.sub (ws' := []) [] rfl) (g_J9_max_7cf53 l D cA L5_30772 x_30825) (tb_S tw_1735 tw_779 tw_115 tw_780) hdJ9_max_7cf53 ⟨rfl, rfl, Nat.le_of_ble_eq_true rfl, Nat.le_of_ble_eq_true rfl⟩ ⟨Nat.le_of_ble_eq_true rfl, Nat.le_of_ble_eq_true rfl⟩ rfl hl.1 rfl (Nat.le_of_ble_eq_true rfl) dX12_layMatch_141 (fun r_30827 hr_30827 => ?_)
                    obtain ⟨k_30827_0_0, k_30827_0_1, k_30827_0_2⟩ := hr_30827
                    refine lv_istore (lv' := [(5, .int r_30827), (7, .int L7_30772), (6, .int L6_30772), (4, .int L4_30537), (3, .int L3_23759), (2, .int (m_cworld 4)), (0, .ref h0), (1, .int p0)]) hx hb dX12_layMatch_144 hl (by decide) rfl (fun ls hl => ?_)
                    refine lv_aload_n hx hb dX12_layMatch_146 rfl (lv_at hl 6 rfl) ?_
                    refine lv_iload_n hx hb dX12_layMatch_147 rfl (lv_at hl 4 rfl) ?_
                    refine lv_iload hx hb dX12_layMatch_148 (lv_at hl 1 rfl) ?_
                    refine cpVi (rest := []) ⟨hx, hb, hml, hown, hts⟩ hKN (hP.sub (ws' := [(h0, .inr (12, [.int m_thrown, .ref m_qworld, .ref m_qimages, .ref m_qhasImage, .ref m_qtape, .int m_taped, .ref m_qfive, .int m_size, .int m_at, .int m_from, .int m_token, .int m_value, .int m_faultKind, .int m_faultPlace, .ref m_qfresh, .int m_startOne, .int m_startOther, .int m_latest, .int m_leftBeats, .int m_signed, .int m_metMany, .ref m_qsums, .ref m_qpairs, .ref m_qgoesWith, .ref m_qsaid, .int m_saidMany, .int m_firstWait, .ref m_qfirstOrder, .int m_bundleFirst, .ref m_qtiredBy, .int m_tiredMany, .ref m_qmany, .ref m_qwidth, .ref m_qnumbers, .ref m_qmoving])), (m_qworld, .inl (cA 1, 122, .inl m_cworld))]) [0, 1] rfl) (g_X12_holdOf_z l D cA h0 m_thrown m_qworld m_qimages m_qhasImage m_qtape m_taped m_qfive m_size m_at m_from m_token m_value m_faultKind m_faultPlace m_qfresh m_startOne m_startOther m_latest m_leftBeats m_signed m_metMany m_qsums m_qpairs m_qgoesWith m_qsaid m_saidMany m_firstWait m_qfirstOrder m_bundleFirst m_qtiredBy m_tiredMany m_qmany m_qwidth m_qnumbers m_qmoving m_cworld L3_23759 L7_30772 (by omega) (by omega) (by omega) (by omega) (by omega) (by omega) (by omega) (by omega) a_m_cworld_0) (tb_V tw_1700 tw_1702 tw_63 tw_114 tw_1703) hdX12_holdOf ⟨rfl, rfl, Nat.le_of_ble_eq_true rfl, Nat.le_of_ble_eq_true rfl⟩ ⟨Nat.le_of_ble_eq_true rfl, Nat.le_of_ble_eq_true rfl⟩ rfl rfl rfl hl.1 rfl (Nat.le_of_ble_eq_true rfl) dX12_layMatch_150 (fun r_30828 hr_30828 => ?_)
                    refine lv_iload_n hx hb dX12_layMatch_153 rfl (lv_at hl 7 rfl) ?_
                    refine lv_icmp_lt (tgt := 185) hx hb dX12_layMatch_154 (by decide) (fun c_30829 => ?_) (fun c_30829 => ?_)
                    · skip
                      have k_30830 := kk_lt rfl rfl c_30829
                      obtain ⟨x_30831, ex_30831⟩ : ∃ y : Int32, L7_30772 + Int32.ofInt 1 = y := ⟨_, rfl⟩
                      have k_30832 := ar_add (b := 1) rfl zi_1 ex_30831.symm (by omega) (by omega)
                      refine lv_iinc (v := x_30831) (lv' := [(7, .int x_30831), (5, .int r_30827), (6, .int L6_30772), (4, .int L4_30537), (3, .int L3_23759), (2, .int (m_cworld 4)), (0, .ref h0), (1, .int p0)]) hx hb dX12_layMatch_185 hl (k := 1) rfl ex_30831 (by decide) rfl (fun ls hl => ?_)
                      refine lv_goto (tgt := 72) hx hb dX12_layMatch_188 (by decide) ?_
                      exact ih_30772 (x_30831, L6_30772, r_30827) _ _ _ ⟨(show 0 ≤ x_30831.toInt ∧ x_30831.toInt ≤ 8 from by omega), (show 0 ≤ L6_30772.toInt ∧ L6_30772.toInt ≤ 0 from by omega), hP.sub [0, 1, 2, 3] rfl, hD.sub [0, 1, 2, 3] (by decide) rfl, hS, lv_sub hl [0, 2, 1, 3, 4, 5, 6, 7] rfl⟩ (by show (2147483647 - x_30831.toInt).toNat < (2147483647 - L7_30772.toInt).toNat; omega)
                    · skip
                      have k_30833 := kk_nlt rfl rfl c_30829
                      exfalso; omega
                  · skip
                    have k_30834 := kk_eq rfl zi_1 c_30816
                    refine lv_goto (tgt := 185) hx hb dX12_layMatch_114 (by decide) ?_
                    obtain ⟨x_30835, ex_30835⟩ : ∃ y : Int32, L7_30772 + Int32.ofInt 1 = y := ⟨_, rfl⟩
                    have k_30836 := ar_add (b := 1) rfl zi_1 ex_30835.symm (by omega) (by omega)
                    refine lv_iinc (v := x_30835) (lv' := [(7, .int x_30835), (6, .int L6_30772), (5, .int L5_30772), (4, .int L4_30537), (3, .int L3_23759), (2, .int (m_cworld 4)), (0, .ref h0), (1, .int p0)]) hx hb dX12_layMatch_185 hl (k := 0) rfl ex_30835 (by decide) rfl (fun ls hl => ?_)
                    refine lv_goto (tgt := 72) hx hb dX12_layMatch_188 (by decide) ?_
                    exact ih_30772 (x_30835, L6_30772, L5_30772) _ _ _ ⟨(show 0 ≤ x_30835.toInt ∧ x_30835.toInt ≤ 8 from by omega), (show 0 ≤ L6_30772.toInt ∧ L6_30772.toInt ≤ 0 from by omega), hP.sub [0, 1, 2, 3] rfl, hD.sub [0, 1, 2, 3] (by decide) rfl, hS, lv_sub hl [0, 1, 2, 3, 4, 5, 6, 7] rfl⟩ (by show (2147483647 - x_30835.toInt).toNat < (2147483647 - L7_30772.toInt).toNat; omega)
        · skip
          have k_30837 := kk_eq rfl rfl c_30554
          refine lv_iconst (v := 0) hx hb dX12_layMatch_49 (by decide) ?_
          refine lv_goto (tgt := 67) hx hb dX12_layMatch_50 (by decide) ?_
          refine lv_istore (lv' := [(6, .int 0), (5, .int r_30553), (4, .int L4_30537), (3, .int L3_23759), (2, .int (m_cworld 4)), (0, .ref h0), (1, .int p0)]) hx hb dX12_layMatch_67 hl (by decide) rfl (fun ls hl => ?_)
          refine lv_iconst (v := 0) hx hb dX12_layMatch_69 (by decide) ?_
          refine lv_istore (lv' := [(7, .int 0), (6, .int 0), (5, .int r_30553), (4, .int L4_30537), (3, .int L3_23759), (2, .int (m_cworld 4)), (0, .ref h0), (1, .int p0)]) hx hb dX12_layMatch_70 hl (by decide) rfl (fun ls hl => ?_)
          have b_31049 := i32_bd r_30553
          refine loopW (σ := Int32 × Int32 × Int32) (fun _ => []) (fun ⟨L7_31048, L6_31048, L5_31048⟩ H locs ls => (0 ≤ L7_31048.toInt ∧ L7_31048.toInt ≤ 7) ∧ (0 ≤ L6_31048.toInt ∧ L6_31048.toInt ≤ 0) ∧ va_P D vwCl [(h0, .inr (12, [.int m_thrown, .ref m_qworld, .ref m_qimages, .ref m_qhasImage, .ref m_qtape, .int m_taped, .ref m_qfive, .int m_size, .int m_at, .int m_from, .int m_token, .int m_value, .int m_faultKind, .int m_faultPlace, .ref m_qfresh, .int m_startOne, .int m_startOther, .int m_latest, .int m_leftBeats, .int m_signed, .int m_metMany, .ref m_qsums, .ref m_qpairs, .ref m_qgoesWith, .ref m_qsaid, .int m_saidMany, .int m_firstWait, .ref m_qfirstOrder, .int m_bundleFirst, .ref m_qtiredBy, .int m_tiredMany, .ref m_qmany, .ref m_qwidth, .ref m_qnumbers, .ref m_qmoving])), (m_qworld, .inl (cA 1, 122, .inl m_cworld)), (m_qsums, .inl (cA 1, 2304, .inl F1_30537)), (m_qpairs, .inl (cA 1, 2304, .inl F2_30537))] H ∧ va_D A [(h0, .inr (12, [.int m_thrown, .ref m_qworld, .ref m_qimages, .ref m_qhasImage, .ref m_qtape, .int m_taped, .ref m_qfive, .int m_size, .int m_at, .int m_from, .int m_token, .int m_value, .int m_faultKind, .int m_faultPlace, .ref m_qfresh, .int m_startOne, .int m_startOther, .int m_latest, .int m_leftBeats, .int m_signed, .int m_metMany, .ref m_qsums, .ref m_qpairs, .ref m_qgoesWith, .ref m_qsaid, .int m_saidMany, .int m_firstWait, .ref m_qfirstOrder, .int m_bundleFirst, .ref m_qtiredBy, .int m_tiredMany, .ref m_qmany, .ref m_qwidth, .ref m_qnumbers, .ref m_qmoving])), (m_qworld, .inl (cA 1, 122, .inl m_cworld)), (m_qsums, .inl (cA 1, 2304, .inl F1_30537)), (m_qpairs, .inl (cA 1, 2304, .inl F2_30537))] ∧ va_S A s.heap H locs ∧ lv_has ls 8 [(7, .int L7_31048), (6, .int L6_31048), (5, .int L5_31048), (4, .int L4_30537), (3, .int L3_23759), (2, .int (m_cworld 4)), (0, .ref h0), (1, .int p0)]) (fun ⟨L7_31048, L6_31048, L5_31048⟩ => (2147483647 - L7_31048.toInt).toNat) ?_ ((0, 0, r_30553) : Int32 × Int32 × Int32) ⟨(by decide), (by decide), hP, hD, hS, hl⟩
          intro x_31048 H locs ls hI_31048 ih_31048
          obtain ⟨L7_31048, L6_31048, L5_31048⟩ := x_31048
          obtain ⟨k0_31048, k1_31048, hP, hD, hS, hl⟩ := hI_31048
          have hP : va_P D vwCl [(h0, .inr (12, [.int m_thrown, .ref m_qworld, .ref m_qimages, .ref m_qhasImage, .ref m_qtape, .int m_taped, .ref m_qfive, .int m_size, .int m_at, .int m_from, .int m_token, .int m_value, .int m_faultKind, .int m_faultPlace, .ref m_qfresh, .int m_startOne, .int m_startOther, .int m_latest, .int m_leftBeats, .int m_signed, .int m_metMany, .ref m_qsums, .ref m_qpairs, .ref m_qgoesWith, .ref m_qsaid, .int m_saidMany, .int m_firstWait, .ref m_qfirstOrder, .int m_bundleFirst, .ref m_qtiredBy, .int m_tiredMany, .ref m_qmany, .ref m_qwidth, .ref m_qnumbers, .ref m_qmoving])), (m_qworld, .inl (cA 1, 122, .inl m_cworld)), (m_qsums, .inl (cA 1, 2304, .inl F1_30537)), (m_qpairs, .inl (cA 1, 2304, .inl F2_30537))] H := hP
          have hD : va_D A [(h0, .inr (12, [.int m_thrown, .ref m_qworld, .ref m_qimages, .ref m_qhasImage, .ref m_qtape, .int m_taped, .ref m_qfive, .int m_size, .int m_at, .int m_from, .int m_token, .int m_value, .int m_faultKind, .int m_faultPlace, .ref m_qfresh, .int m_startOne, .int m_startOther, .int m_latest, .int m_leftBeats, .int m_signed, .int m_metMany, .ref m_qsums, .ref m_qpairs, .ref m_qgoesWith, .ref m_qsaid, .int m_saidMany, .int m_firstWait, .ref m_qfirstOrder, .int m_bundleFirst, .ref m_qtiredBy, .int m_tiredMany, .ref m_qmany, .ref m_qwidth, .ref m_qnumbers, .ref m_qmoving])), (m_qworld, .inl (cA 1, 122, .inl m_cworld)), (m_qsums, .inl (cA 1, 2304, .inl F1_30537)), (m_qpairs, .inl (cA 1, 2304, .inl F2_30537))] := hD
          have hl : lv_has ls 8 [(7, .int L7_31048), (6, .int L6_31048), (5, .int L5_31048), (4, .int L4_30537), (3, .int L3_23759), (2, .int (m_cworld 4)), (0, .ref h0), (1, .int p0)] := hl
          refine lv_iload hx hb dX12_layMatch_72 (lv_at hl 0 rfl) ?_
          refine lv_iload_n hx hb dX12_layMatch_74 rfl (lv_at hl 5 rfl) ?_
          refine lv_icmp_ge (tgt := 191) hx hb dX12_layMatch_75 (by decide) (fun c_31050 => ?_) (fun c_31050 => ?_)
          · skip
            have k_31051 := kk_le rfl rfl c_31050
            refine lv_aload_n hx hb dX12_layMatch_191 rfl (lv_at hl 6 rfl) ?_
            refine va_get (D := D) (ci := 12) (v := .ref m_qsums) (C := RX12) (T := TX12) (N := 35) hx hb hts inX12 hown hKN.1 hP 0 rfl rfl 21 (by decide) (hts _ tw_1440) (fun _ h9 => h9) rfl dX12_layMatch_192 ?_
            refine lv_iload_n hx hb dX12_layMatch_195 rfl (lv_at hl 4 rfl) ?_
            refine lv_bipush (v := 8) hx hb dX12_layMatch_196 (by decide) ?_
            refine lv_ishl hx hb dX12_layMatch_198 ?_
            refine lv_topi (fun x_31052 ex_31052 => ?_)
            have k_31053 := ar_shl8 ex_31052 (by omega) (by omega)
            refine lv_iload hx hb dX12_layMatch_199 (lv_at hl 3 rfl) ?_
            refine lv_ior hx hb dX12_layMatch_201 ?_
            refine lv_topi (fun x_31054 ex_31054 => ?_)
            have k_31055 := ar_or8 rfl rfl ex_31054 (by omega) (by omega) (by omega)
            refine lv_iload hx hb dX12_layMatch_202 (lv_at hl 2 rfl) ?_
            refine va_iast hx hb hKN.1 hP hD hS 2 1 rfl rfl (vp_in_iff.mpr ⟨by omega, by omega⟩) dX12_layMatch_204 (fun H locs hP hD hS => ?_)
            have hP : va_P D vwCl [(h0, .inr (12, [.int m_thrown, .ref m_qworld, .ref m_qimages, .ref m_qhasImage, .ref m_qtape, .int m_taped, .ref m_qfive, .int m_size, .int m_at, .int m_from, .int m_token, .int m_value, .int m_faultKind, .int m_faultPlace, .ref m_qfresh, .int m_startOne, .int m_startOther, .int m_latest, .int m_leftBeats, .int m_signed, .int m_metMany, .ref m_qsums, .ref m_qpairs, .ref m_qgoesWith, .ref m_qsaid, .int m_saidMany, .int m_firstWait, .ref m_qfirstOrder, .int m_bundleFirst, .ref m_qtiredBy, .int m_tiredMany, .ref m_qmany, .ref m_qwidth, .ref m_qnumbers, .ref m_qmoving])), (m_qworld, .inl (cA 1, 122, .inl m_cworld)), (m_qsums, .inl (cA 1, 2304, .inl (upd F1_30537 x_31054.toNatClampNeg L5_31048))), (m_qpairs, .inl (cA 1, 2304, .inl F2_30537))] H := hP
            have hD : va_D A [(h0, .inr (12, [.int m_thrown, .ref m_qworld, .ref m_qimages, .ref m_qhasImage, .ref m_qtape, .int m_taped, .ref m_qfive, .int m_size, .int m_at, .int m_from, .int m_token, .int m_value, .int m_faultKind, .int m_faultPlace, .ref m_qfresh, .int m_startOne, .int m_startOther, .int m_latest, .int m_leftBeats, .int m_signed, .int m_metMany, .ref m_qsums, .ref m_qpairs, .ref m_qgoesWith, .ref m_qsaid, .int m_saidMany, .int m_firstWait, .ref m_qfirstOrder, .int m_bundleFirst, .ref m_qtiredBy, .int m_tiredMany, .ref m_qmany, .ref m_qwidth, .ref m_qnumbers, .ref m_qmoving])), (m_qworld, .inl (cA 1, 122, .inl m_cworld)), (m_qsums, .inl (cA 1, 2304, .inl (upd F1_30537 x_31054.toNatClampNeg L5_31048))), (m_qpairs, .inl (cA 1, 2304, .inl F2_30537))] := hD
            generalize ef_31056 : (upd F1_30537 x_31054.toNatClampNeg L5_31048) = f_31056 at hP hD
            refine lv_aload_n hx hb dX12_layMatch_205 rfl (lv_at hl 6 rfl) ?_
            refine va_get (D := D) (ci := 12) (v := .ref m_qpairs) (C := RX12) (T := TX12) (N := 35) hx hb hts inX12 hown hKN.1 hP 0 rfl rfl 22 (by decide) (hts _ tw_1441) (fun _ h9 => h9) rfl dX12_layMatch_206 ?_
            refine lv_iload_n hx hb dX12_layMatch_209 rfl (lv_at hl 4 rfl) ?_
            refine lv_bipush (v := 8) hx hb dX12_layMatch_210 (by decide) ?_
            refine lv_ishl hx hb dX12_layMatch_212 ?_
            refine lv_topi (fun x_31057 ex_31057 => ?_)
            obtain rfl : x_31052 = x_31057 := ex_31052.trans ex_31057.symm
            refine lv_iload hx hb dX12_layMatch_213 (lv_at hl 3 rfl) ?_
            refine lv_ior hx hb dX12_layMatch_215 ?_
            refine lv_topi (fun x_31058 ex_31058 => ?_)
            obtain rfl : x_31054 = x_31058 := ex_31054.trans ex_31058.symm
            refine lv_iload hx hb dX12_layMatch_216 (lv_at hl 1 rfl) ?_
            refine va_iast hx hb hKN.1 hP hD hS 3 1 rfl rfl (vp_in_iff.mpr ⟨by omega, by omega⟩) dX12_layMatch_218 (fun H locs hP hD hS => ?_)
            have hP : va_P D vwCl [(h0, .inr (12, [.int m_thrown, .ref m_qworld, .ref m_qimages, .ref m_qhasImage, .ref m_qtape, .int m_taped, .ref m_qfive, .int m_size, .int m_at, .int m_from, .int m_token, .int m_value, .int m_faultKind, .int m_faultPlace, .ref m_qfresh, .int m_startOne, .int m_startOther, .int m_latest, .int m_leftBeats, .int m_signed, .int m_metMany, .ref m_qsums, .ref m_qpairs, .ref m_qgoesWith, .ref m_qsaid, .int m_saidMany, .int m_firstWait, .ref m_qfirstOrder, .int m_bundleFirst, .ref m_qtiredBy, .int m_tiredMany, .ref m_qmany, .ref m_qwidth, .ref m_qnumbers, .ref m_qmoving])), (m_qworld, .inl (cA 1, 122, .inl m_cworld)), (m_qsums, .inl (cA 1, 2304, .inl f_31056)), (m_qpairs, .inl (cA 1, 2304, .inl (upd F2_30537 x_31054.toNatClampNeg L6_31048)))] H := hP
            have hD : va_D A [(h0, .inr (12, [.int m_thrown, .ref m_qworld, .ref m_qimages, .ref m_qhasImage, .ref m_qtape, .int m_taped, .ref m_qfive, .int m_size, .int m_at, .int m_from, .int m_token, .int m_value, .int m_faultKind, .int m_faultPlace, .ref m_qfresh, .int m_startOne, .int m_startOther, .int m_latest, .int m_leftBeats, .int m_signed, .int m_metMany, .ref m_qsums, .ref m_qpairs, .ref m_qgoesWith, .ref m_qsaid, .int m_saidMany, .int m_firstWait, .ref m_qfirstOrder, .int m_bundleFirst, .ref m_qtiredBy, .int m_tiredMany, .ref m_qmany, .ref m_qwidth, .ref m_qnumbers, .ref m_qmoving])), (m_qworld, .inl (cA 1, 122, .inl m_cworld)), (m_qsums, .inl (cA 1, 2304, .inl f_31056)), (m_qpairs, .inl (cA 1, 2304, .inl (upd F2_30537 x_31054.toNatClampNeg L6_31048)))] := hD
            generalize ef_31059 : (upd F2_30537 x_31054.toNatClampNeg L6_31048) = f_31059 at hP hD
            obtain ⟨x_31060, ex_31060⟩ : ∃ y : Int32, L4_30537 + Int32.ofInt 1 = y := ⟨_, rfl⟩
            have k_31061 := ar_add (b := 1) rfl zi_1 ex_31060.symm (by omega) (by omega)
            refine lv_iinc (v := x_31060) (lv' := [(4, .int x_31060), (7, .int L7_31048), (6, .int L6_31048), (5, .int L5_31048), (3, .int L3_23759), (2, .int (m_cworld 4)), (0, .ref h0), (1, .int p0)]) hx hb dX12_layMatch_219 hl (k := 3) rfl ex_31060 (by decide) rfl (fun ls hl => ?_)
            refine lv_goto (tgt := 16) hx hb dX12_layMatch_222 (by decide) ?_
            have hb_31062 : ZQ f_31059 L3_23759.toInt x_31060.toInt (m_cworld 4).toInt.toNat := by
              have kc : x_31054.toNatClampNeg = x_31054.toInt.toNat := rfl
              rw [← ef_31059]; exact ZQ.step k1_30537 (by omega) (by omega) (by omega)
            exact ih_30537 (x_31060, f_31056, f_31059) _ _ _ ⟨(show 0 ≤ x_31060.toInt ∧ x_31060.toInt ≤ 256 from by omega), hb_31062, hP.sub [0, 1, 2, 3] rfl, hD.sub [0, 1, 2, 3] (by decide) rfl, hS, lv_sub hl [0, 4, 5, 6, 7] rfl⟩ (by show (2147483647 - x_31060.toInt).toNat < (2147483647 - L4_30537.toInt).toNat; omega)
          · skip
            have k_31063 := kk_nle rfl rfl c_31050
            refine lv_iload_n hx hb dX12_layMatch_78 rfl (lv_at hl 4 rfl) ?_
            refine lv_iload_n hx hb dX12_layMatch_79 rfl (lv_at hl 5 rfl) ?_
            refine lv_icmp_ge (tgt := 191) hx hb dX12_layMatch_80 (by decide) (fun c_31064 => ?_) (fun c_31064 => ?_)
            · skip
              have k_31065 := kk_le rfl rfl c_31064
              refine lv_aload_n hx hb dX12_layMatch_191 rfl (lv_at hl 6 rfl) ?_
              refine va_get (D := D) (ci := 12) (v := .ref m_qsums) (C := RX12) (T := TX12) (N := 35) hx hb hts inX12 hown hKN.1 hP 0 rfl rfl 21 (by decide) (hts _ tw_1440) (fun _ h9 => h9) rfl dX12_layMatch_192 ?_
              refine lv_iload_n hx hb dX12_layMatch_195 rfl (lv_at hl 4 rfl) ?_
              refine lv_bipush (v := 8) hx hb dX12_layMatch_196 (by decide) ?_
              refine lv_ishl hx hb dX12_layMatch_198 ?_
              refine lv_topi (fun x_31066 ex_31066 => ?_)
              have k_31067 := ar_shl8 ex_31066 (by omega) (by omega)
              refine lv_iload hx hb dX12_layMatch_199 (lv_at hl 3 rfl) ?_
              refine lv_ior hx hb dX12_layMatch_201 ?_
              refine lv_topi (fun x_31068 ex_31068 => ?_)
              have k_31069 := ar_or8 rfl rfl ex_31068 (by omega) (by omega) (by omega)
              refine lv_iload hx hb dX12_layMatch_202 (lv_at hl 2 rfl) ?_
              refine va_iast hx hb hKN.1 hP hD hS 2 1 rfl rfl (vp_in_iff.mpr ⟨by omega, by omega⟩) dX12_layMatch_204 (fun H locs hP hD hS => ?_)
              have hP : va_P D vwCl [(h0, .inr (12, [.int m_thrown, .ref m_qworld, .ref m_qimages, .ref m_qhasImage, .ref m_qtape, .int m_taped, .ref m_qfive, .int m_size, .int m_at, .int m_from, .int m_token, .int m_value, .int m_faultKind, .int m_faultPlace, .ref m_qfresh, .int m_startOne, .int m_startOther, .int m_latest, .int m_leftBeats, .int m_signed, .int m_metMany, .ref m_qsums, .ref m_qpairs, .ref m_qgoesWith, .ref m_qsaid, .int m_saidMany, .int m_firstWait, .ref m_qfirstOrder, .int m_bundleFirst, .ref m_qtiredBy, .int m_tiredMany, .ref m_qmany, .ref m_qwidth, .ref m_qnumbers, .ref m_qmoving])), (m_qworld, .inl (cA 1, 122, .inl m_cworld)), (m_qsums, .inl (cA 1, 2304, .inl (upd F1_30537 x_31068.toNatClampNeg L5_31048))), (m_qpairs, .inl (cA 1, 2304, .inl F2_30537))] H := hP
              have hD : va_D A [(h0, .inr (12, [.int m_thrown, .ref m_qworld, .ref m_qimages, .ref m_qhasImage, .ref m_qtape, .int m_taped, .ref m_qfive, .int m_size, .int m_at, .int m_from, .int m_token, .int m_value, .int m_faultKind, .int m_faultPlace, .ref m_qfresh, .int m_startOne, .int m_startOther, .int m_latest, .int m_leftBeats, .int m_signed, .int m_metMany, .ref m_qsums, .ref m_qpairs, .ref m_qgoesWith, .ref m_qsaid, .int m_saidMany, .int m_firstWait, .ref m_qfirstOrder, .int m_bundleFirst, .ref m_qtiredBy, .int m_tiredMany, .ref m_qmany, .ref m_qwidth, .ref m_qnumbers, .ref m_qmoving])), (m_qworld, .inl (cA 1, 122, .inl m_cworld)), (m_qsums, .inl (cA 1, 2304, .inl (upd F1_30537 x_31068.toNatClampNeg L5_31048))), (m_qpairs, .inl (cA 1, 2304, .inl F2_30537))] := hD
              generalize ef_31070 : (upd F1_30537 x_31068.toNatClampNeg L5_31048) = f_31070 at hP hD
              refine lv_aload_n hx hb dX12_layMatch_205 rfl (lv_at hl 6 rfl) ?_
              refine va_get (D := D) (ci := 12) (v := .ref m_qpairs) (C := RX12) (T := TX12) (N := 35) hx hb hts inX12 hown hKN.1 hP 0 rfl rfl 22 (by decide) (hts _ tw_1441) (fun _ h9 => h9) rfl dX12_layMatch_206 ?_
              refine lv_iload_n hx hb dX12_layMatch_209 rfl (lv_at hl 4 rfl) ?_
              refine lv_bipush (v := 8) hx hb dX12_layMatch_210 (by decide) ?_
              refine lv_ishl hx hb dX12_layMatch_212 ?_
              refine lv_topi (fun x_31071 ex_31071 => ?_)
              obtain rfl : x_31066 = x_31071 := ex_31066.trans ex_31071.symm
              refine lv_iload hx hb dX12_layMatch_213 (lv_at hl 3 rfl) ?_
              refine lv_ior hx hb dX12_layMatch_215 ?_
              refine lv_topi (fun x_31072 ex_31072 => ?_)
              obtain rfl : x_31068 = x_31072 := ex_31068.trans ex_31072.symm
              refine lv_iload hx hb dX12_layMatch_216 (lv_at hl 1 rfl) ?_
              refine va_iast hx hb hKN.1 hP hD hS 3 1 rfl rfl (vp_in_iff.mpr ⟨by omega, by omega⟩) dX12_layMatch_218 (fun H locs hP hD hS => ?_)
              have hP : va_P D vwCl [(h0, .inr (12, [.int m_thrown, .ref m_qworld, .ref m_qimages, .ref m_qhasImage, .ref m_qtape, .int m_taped, .ref m_qfive, .int m_size, .int m_at, .int m_from, .int m_token, .int m_value, .int m_faultKind, .int m_faultPlace, .ref m_qfresh, .int m_startOne, .int m_startOther, .int m_latest, .int m_leftBeats, .int m_signed, .int m_metMany, .ref m_qsums, .ref m_qpairs, .ref m_qgoesWith, .ref m_qsaid, .int m_saidMany, .int m_firstWait, .ref m_qfirstOrder, .int m_bundleFirst, .ref m_qtiredBy, .int m_tiredMany, .ref m_qmany, .ref m_qwidth, .ref m_qnumbers, .ref m_qmoving])), (m_qworld, .inl (cA 1, 122, .inl m_cworld)), (m_qsums, .inl (cA 1, 2304, .inl f_31070)), (m_qpairs, .inl (cA 1, 2304, .inl (upd F2_30537 x_31068.toNatClampNeg L6_31048)))] H := hP
              have hD : va_D A [(h0, .inr (12, [.int m_thrown, .ref m_qworld, .ref m_qimages, .ref m_qhasImage, .ref m_qtape, .int m_taped, .ref m_qfive, .int m_size, .int m_at, .int m_from, .int m_token, .int m_value, .int m_faultKind, .int m_faultPlace, .ref m_qfresh, .int m_startOne, .int m_startOther, .int m_latest, .int m_leftBeats, .int m_signed, .int m_metMany, .ref m_qsums, .ref m_qpairs, .ref m_qgoesWith, .ref m_qsaid, .int m_saidMany, .int m_firstWait, .ref m_qfirstOrder, .int m_bundleFirst, .ref m_qtiredBy, .int m_tiredMany, .ref m_qmany, .ref m_qwidth, .ref m_qnumbers, .ref m_qmoving])), (m_qworld, .inl (cA 1, 122, .inl m_cworld)), (m_qsums, .inl (cA 1, 2304, .inl f_31070)), (m_qpairs, .inl (cA 1, 2304, .inl (upd F2_30537 x_31068.toNatClampNeg L6_31048)))] := hD
              generalize ef_31073 : (upd F2_30537 x_31068.toNatClampNeg L6_31048) = f_31073 at hP hD
              obtain ⟨x_31074, ex_31074⟩ : ∃ y : Int32, L4_30537 + Int32.ofInt 1 = y := ⟨_, rfl⟩
              have k_31075 := ar_add (b := 1) rfl zi_1 ex_31074.symm (by omega) (by omega)
              refine lv_iinc (v := x_31074) (lv' := [(4, .int x_31074), (7, .int L7_31048), (6, .int L6_31048), (5, .int L5_31048), (3, .int L3_23759), (2, .int (m_cworld 4)), (0, .ref h0), (1, .int p0)]) hx hb dX12_layMatch_219 hl (k := 3) rfl ex_31074 (by decide) rfl (fun ls hl => ?_)
              refine lv_goto (tgt := 16) hx hb dX12_layMatch_222 (by decide) ?_
              have hb_31076 : ZQ f_31073 L3_23759.toInt x_31074.toInt (m_cworld 4).toInt.toNat := by
                have kc : x_31068.toNatClampNeg = x_31068.toInt.toNat := rfl
                rw [← ef_31073]; exact ZQ.step k1_30537 (by omega) (by omega) (by omega)
              exact ih_30537 (x_31074, f_31070, f_31073) _ _ _ ⟨(show 0 ≤ x_31074.toInt ∧ x_31074.toInt ≤ 256 from by omega), hb_31076, hP.sub [0, 1, 2, 3] rfl, hD.sub [0, 1, 2, 3] (by decide) rfl, hS, lv_sub hl [0, 4, 5, 6, 7] rfl⟩ (by show (2147483647 - x_31074.toInt).toNat < (2147483647 - L4_30537.toInt).toNat; omega)
            · skip
              have k_31077 := kk_nle rfl rfl c_31064
              refine lv_aload_n hx hb dX12_layMatch_83 rfl (lv_at hl 6 rfl) ?_
              refine lv_iload_n hx hb dX12_layMatch_84 rfl (lv_at hl 4 rfl) ?_
              refine lv_iconst (v := 0) hx hb dX12_layMatch_85 (by decide) ?_
              have z_31078 := zi_0
              refine cpVi (rest := []) ⟨hx, hb, hml, hown, hts⟩ hKN (hP.sub (ws' := [(h0, .inr (12, [.int m_thrown, .ref m_qworld, .ref m_qimages, .ref m_qhasImage, .ref m_qtape, .int m_taped, .ref m_qfive, .int m_size, .int m_at, .int m_from, .int m_token, .int m_value, .int m_faultKind, .int m_faultPlace, .ref m_qfresh, .int m_startOne, .int m_startOther, .int m_latest, .int m_leftBeats, .int m_signed, .int m_metMany, .ref m_qsums, .ref m_qpairs, .ref m_qgoesWith, .ref m_qsaid, .int m_saidMany, .int m_firstWait, .ref m_qfirstOrder, .int m_bundleFirst, .ref m_qtiredBy, .int m_tiredMany, .ref m_qmany, .ref m_qwidth, .ref m_qnumbers, .ref m_qmoving])), (m_qworld, .inl (cA 1, 122, .inl m_cworld))]) [0, 1] rfl) (g_X12_of l D cA h0 m_thrown m_qworld m_qimages m_qhasImage m_qtape m_taped m_qfive m_size m_at m_from m_token m_value m_faultKind m_faultPlace m_qfresh m_startOne m_startOther m_latest m_leftBeats m_signed m_metMany m_qsums m_qpairs m_qgoesWith m_qsaid m_saidMany m_firstWait m_qfirstOrder m_bundleFirst m_qtiredBy m_tiredMany m_qmany m_qwidth m_qnumbers m_qmoving m_cworld L3_23759 0 (by omega) (by omega) (by omega) (by omega) (by omega) (by omega) (by omega) (by decide) a_m_cworld_0) (tb_V tw_1640 tw_1642 tw_50 tw_114 tw_1643) hdX12_of ⟨rfl, rfl, Nat.le_of_ble_eq_true rfl, Nat.le_of_ble_eq_true rfl⟩ ⟨Nat.le_of_ble_eq_true rfl, Nat.le_of_ble_eq_true rfl⟩ rfl rfl rfl hl.1 rfl (Nat.le_of_ble_eq_true rfl) dX12_layMatch_86 (fun r_31079 hr_31079 => ?_)
              obtain ⟨k_31079_0_0, k_31079_0_1⟩ := hr_31079
              refine lv_if_ne (tgt := 185) hx hb dX12_layMatch_89 (by decide) (fun c_31080 => ?_) (fun c_31080 => ?_)
              · skip
                have k_31081 := kk_ne rfl zi_0 c_31080
                obtain ⟨x_31082, ex_31082⟩ : ∃ y : Int32, L7_31048 + Int32.ofInt 1 = y := ⟨_, rfl⟩
                have k_31083 := ar_add (b := 1) rfl zi_1 ex_31082.symm (by omega) (by omega)
                refine lv_iinc (v := x_31082) (lv' := [(7, .int x_31082), (6, .int L6_31048), (5, .int L5_31048), (4, .int L4_30537), (3, .int L3_23759), (2, .int (m_cworld 4)), (0, .ref h0), (1, .int p0)]) hx hb dX12_layMatch_185 hl (k := 0) rfl ex_31082 (by decide) rfl (fun ls hl => ?_)
                refine lv_goto (tgt := 72) hx hb dX12_layMatch_188 (by decide) ?_
                exact ih_31048 (x_31082, L6_31048, L5_31048) _ _ _ ⟨(show 0 ≤ x_31082.toInt ∧ x_31082.toInt ≤ 7 from by omega), (show 0 ≤ L6_31048.toInt ∧ L6_31048.toInt ≤ 0 from by omega), hP.sub [0, 1, 2, 3] rfl, hD.sub [0, 1, 2, 3] (by decide) rfl, hS, lv_sub hl [0, 1, 2, 3, 4, 5, 6, 7] rfl⟩ (by show (2147483647 - x_31082.toInt).toNat < (2147483647 - L7_31048.toInt).toNat; omega)
              · skip
                have k_31084 := kk_eq rfl zi_0 c_31080
                refine lv_aload_n hx hb dX12_layMatch_92 rfl (lv_at hl 6 rfl) ?_
                refine lv_iload hx hb dX12_layMatch_93 (lv_at hl 0 rfl) ?_
                refine lv_iconst (v := 0) hx hb dX12_layMatch_95 (by decide) ?_
                refine cpVi (rest := []) ⟨hx, hb, hml, hown, hts⟩ hKN (hP.sub (ws' := [(h0, .inr (12, [.int m_thrown, .ref m_qworld, .ref m_qimages, .ref m_qhasImage, .ref m_qtape, .int m_taped, .ref m_qfive, .int m_size, .int m_at, .int m_from, .int m_token, .int m_value, .int m_faultKind, .int m_faultPlace, .ref m_qfresh, .int m_startOne, .int m_startOther, .int m_latest, .int m_leftBeats, .int m_signed, .int m_metMany, .ref m_qsums, .ref m_qpairs, .ref m_qgoesWith, .ref m_qsaid, .int m_saidMany, .int m_firstWait, .ref m_qfirstOrder, .int m_bundleFirst, .ref m_qtiredBy, .int m_tiredMany, .ref m_qmany, .ref m_qwidth, .ref m_qnumbers, .ref m_qmoving])), (m_qworld, .inl (cA 1, 122, .inl m_cworld))]) [0, 1] rfl) (g_X12_of l D cA h0 m_thrown m_qworld m_qimages m_qhasImage m_qtape m_taped m_qfive m_size m_at m_from m_token m_value m_faultKind m_faultPlace m_qfresh m_startOne m_startOther m_latest m_leftBeats m_signed m_metMany m_qsums m_qpairs m_qgoesWith m_qsaid m_saidMany m_firstWait m_qfirstOrder m_bundleFirst m_qtiredBy m_tiredMany m_qmany m_qwidth m_qnumbers m_qmoving m_cworld L7_31048 0 (by omega) (by omega) (by omega) (by omega) (by omega) (by omega) (by omega) (by decide) a_m_cworld_0) (tb_V tw_1640 tw_1642 tw_50 tw_114 tw_1643) hdX12_of ⟨rfl, rfl, Nat.le_of_ble_eq_true rfl, Nat.le_of_ble_eq_true rfl⟩ ⟨Nat.le_of_ble_eq_true rfl, Nat.le_of_ble_eq_true rfl⟩ rfl rfl rfl hl.1 rfl (Nat.le_of_ble_eq_true rfl) dX12_layMatch_96 (fun r_31085 hr_31085 => ?_)
                obtain ⟨k_31085_0_0, k_31085_0_1⟩ := hr_31085
                refine lv_iconst (v := 1) hx hb dX12_layMatch_99 (by decide) ?_
                refine lv_icmp_ne (tgt := 185) hx hb dX12_layMatch_100 (by decide) (fun c_31086 => ?_) (fun c_31086 => ?_)
                · skip
                  have k_31087 := kk_ne rfl zi_1 c_31086
                  obtain ⟨x_31088, ex_31088⟩ : ∃ y : Int32, L7_31048 + Int32.ofInt 1 = y := ⟨_, rfl⟩
                  have k_31089 := ar_add (b := 1) rfl zi_1 ex_31088.symm (by omega) (by omega)
                  refine lv_iinc (v := x_31088) (lv' := [(7, .int x_31088), (6, .int L6_31048), (5, .int L5_31048), (4, .int L4_30537), (3, .int L3_23759), (2, .int (m_cworld 4)), (0, .ref h0), (1, .int p0)]) hx hb dX12_layMatch_185 hl (k := 0) rfl ex_31088 (by decide) rfl (fun ls hl => ?_)
                  refine lv_goto (tgt := 72) hx hb dX12_layMatch_188 (by decide) ?_
                  exact ih_31048 (x_31088, L6_31048, L5_31048) _ _ _ ⟨(show 0 ≤ x_31088.toInt ∧ x_31088.toInt ≤ 7 from by omega), (show 0 ≤ L6_31048.toInt ∧ L6_31048.toInt ≤ 0 from by omega), hP.sub [0, 1, 2, 3] rfl, hD.sub [0, 1, 2, 3] (by decide) rfl, hS, lv_sub hl [0, 1, 2, 3, 4, 5, 6, 7] rfl⟩ (by show (2147483647 - x_31088.toInt).toNat < (2147483647 - L7_31048.toInt).toNat; omega)
                · skip
                  have k_31090 := kk_eq rfl zi_1 c_31086
                  refine lv_iload hx hb dX12_layMatch_103 (lv_at hl 3 rfl) ?_
                  refine lv_iload hx hb dX12_layMatch_105 (lv_at hl 0 rfl) ?_
                  refine cpSi (rest := []) ⟨hx, hb, hml, hown, hts⟩ hKN (hP.sub (ws' := []) [] rfl) (g_X12_bit l D cA L4_30537 L7_31048) (tb_S tw_1807 tw_1808 tw_114 tw_1809) hdX12_bit ⟨rfl, rfl, Nat.le_of_ble_eq_true rfl, Nat.le_of_ble_eq_true rfl⟩ ⟨Nat.le_of_ble_eq_true rfl, Nat.le_of_ble_eq_true rfl⟩ rfl hl.1 rfl (Nat.le_of_ble_eq_true rfl) dX12_layMatch_107 (fun r_31091 hr_31091 => ?_)
                  refine lv_iconst (v := 1) hx hb dX12_layMatch_110 (by decide) ?_
                  refine lv_icmp_ne (tgt := 117) hx hb dX12_layMatch_111 (by decide) (fun c_31092 => ?_) (fun c_31092 => ?_)
                  · skip
                    have k_31093 := kk_ne rfl zi_1 c_31092
                    refine lv_iload hx hb dX12_layMatch_117 (lv_at hl 2 rfl) ?_
                    refine lv_aload_n hx hb dX12_layMatch_119 rfl (lv_at hl 6 rfl) ?_
                    refine lv_iload_n hx hb dX12_layMatch_120 rfl (lv_at hl 4 rfl) ?_
                    refine lv_iload hx hb dX12_layMatch_121 (lv_at hl 0 rfl) ?_
                    refine cpVi (rest := [.int L5_31048]) ⟨hx, hb, hml, hown, hts⟩ hKN (hP.sub (ws' := [(h0, .inr (12, [.int m_thrown, .ref m_qworld, .ref m_qimages, .ref m_qhasImage, .ref m_qtape, .int m_taped, .ref m_qfive, .int m_size, .int m_at, .int m_from, .int m_token, .int m_value, .int m_faultKind, .int m_faultPlace, .ref m_qfresh, .int m_startOne, .int m_startOther, .int m_latest, .int m_leftBeats, .int m_signed, .int m_metMany, .ref m_qsums, .ref m_qpairs, .ref m_qgoesWith, .ref m_qsaid, .int m_saidMany, .int m_firstWait, .ref m_qfirstOrder, .int m_bundleFirst, .ref m_qtiredBy, .int m_tiredMany, .ref m_qmany, .ref m_qwidth, .ref m_qnumbers, .ref m_qmoving])), (m_qworld, .inl (cA 1, 122, .inl m_cworld))]) [0, 1] rfl) (g_X12_holdOf_z l D cA h0 m_thrown m_qworld m_qimages m_qhasImage m_qtape m_taped m_qfive m_size m_at m_from m_token m_value m_faultKind m_faultPlace m_qfresh m_startOne m_startOther m_latest m_leftBeats m_signed m_metMany m_qsums m_qpairs m_qgoesWith m_qsaid m_saidMany m_firstWait m_qfirstOrder m_bundleFirst m_qtiredBy m_tiredMany m_qmany m_qwidth m_qnumbers m_qmoving m_cworld L3_23759 L7_31048 (by omega) (by omega) (by omega) (by omega) (by omega) (by omega) (by omega) (by omega) a_m_cworld_0) (tb_V tw_1700 tw_1702 tw_63 tw_114 tw_1703) hdX12_holdOf ⟨rfl, rfl, Nat.le_of_ble_eq_true rfl, Nat.le_of_ble_eq_true rfl⟩ ⟨Nat.le_of_ble_eq_true rfl, Nat.le_of_ble_eq_true rfl⟩ rfl rfl rfl hl.1 rfl (Nat.le_of_ble_eq_true rfl) dX12_layMatch_123 (fun r_31094 hr_31094 => ?_)
                    refine lv_aload_n hx hb dX12_layMatch_126 rfl (lv_at hl 6 rfl) ?_
                    refine lv_iload_n hx hb dX12_layMatch_127 rfl (lv_at hl 4 rfl) ?_
                    refine lv_iconst (v := 1) hx hb dX12_layMatch_128 (by decide) ?_
                    refine lv_iadd hx hb dX12_layMatch_129 ?_
                    refine lv_topi (fun x_31095 ex_31095 => ?_)
                    obtain rfl : x_30551 = x_31095 := ex_30551.trans ex_31095.symm
                    refine lv_iload hx hb dX12_layMatch_130 (lv_at hl 3 rfl) ?_
                    refine lv_iconst (v := 1) hx hb dX12_layMatch_132 (by decide) ?_
                    refine lv_iload hx hb dX12_layMatch_133 (lv_at hl 0 rfl) ?_
                    refine lv_ishl hx hb dX12_layMatch_135 ?_
                    refine lv_topi (fun x_31096 ex_31096 => ?_)
                    have k_31097 := ar_shl1 ex_31096 (by omega) (by omega)
                    refine lv_ior hx hb dX12_layMatch_136 ?_
                    refine lv_topi (fun x_31098 ex_31098 => ?_)
                    have k_31099 := ar_or (n := 8) (M := 256) rfl rfl ex_31098 (by decide) (by decide) (by omega) (by omega)
                    refine cpVi (rest := [.int r_31094, .int L5_31048]) ⟨hx, hb, hml, hown, hts⟩ hKN (hP.sub (ws' := [(h0, .inr (12, [.int m_thrown, .ref m_qworld, .ref m_qimages, .ref m_qhasImage, .ref m_qtape, .int m_taped, .ref m_qfive, .int m_size, .int m_at, .int m_from, .int m_token, .int m_value, .int m_faultKind, .int m_faultPlace, .ref m_qfresh, .int m_startOne, .int m_startOther, .int m_latest, .int m_leftBeats, .int m_signed, .int m_metMany, .ref m_qsums, .ref m_qpairs, .ref m_qgoesWith, .ref m_qsaid, .int m_saidMany, .int m_firstWait, .ref m_qfirstOrder, .int m_bundleFirst, .ref m_qtiredBy, .int m_tiredMany, .ref m_qmany, .ref m_qwidth, .ref m_qnumbers, .ref m_qmoving])), (m_qsums, .inl (cA 1, 2304, .inl F1_30537))]) [0, 2] rfl) (g_X12_sumFrom l D cA h0 m_thrown m_qworld m_qimages m_qhasImage m_qtape m_taped m_qfive m_size m_at m_from m_token m_value m_faultKind m_faultPlace m_qfresh m_startOne m_startOther m_latest m_leftBeats m_signed m_metMany m_qsums m_qpairs m_qgoesWith m_qsaid m_saidMany m_firstWait m_qfirstOrder m_bundleFirst m_qtiredBy m_tiredMany m_qmany m_qwidth m_qnumbers m_qmoving F1_30537 x_30551 x_31098 (by omega) (by omega) (by omega) (by omega) (by omega) (by omega) (by omega) (by omega)) (tb_V tw_1803 tw_1805 tw_71 tw_114 tw_1806) hdX12_sumFrom ⟨rfl, rfl, Nat.le_of_ble_eq_true rfl, Nat.le_of_ble_eq_true rfl⟩ ⟨Nat.le_of_ble_eq_true rfl, Nat.le_of_ble_eq_true rfl⟩ rfl rfl rfl hl.1 rfl (Nat.le_of_ble_eq_true rfl) dX12_layMatch_137 (fun r_31100 hr_31100 => ?_)
                    refine lv_iadd hx hb dX12_layMatch_140 ?_
                    refine lv_topi (fun x_31101 ex_31101 => ?_)
                    refine cpSi (rest := []) ⟨hx, hb, hml, hown, hts⟩ hKN (hP.sub (ws' := []) [] rfl) (g_J9_max_7cf53 l D cA L5_31048 x_31101) (tb_S tw_1735 tw_779 tw_115 tw_780) hdJ9_max_7cf53 ⟨rfl, rfl, Nat.le_of_ble_eq_true rfl, Nat.le_of_ble_eq_true rfl⟩ ⟨Nat.le_of_ble_eq_true rfl, Nat.le_of_ble_eq_true rfl⟩ rfl hl.1 rfl (Nat.le_of_ble_eq_true rfl) dX12_layMatch_141 (fun r_31103 hr_31103 => ?_)
                    obtain ⟨k_31103_0_0, k_31103_0_1, k_31103_0_2⟩ := hr_31103
                    refine lv_istore (lv' := [(5, .int r_31103), (7, .int L7_31048), (6, .int L6_31048), (4, .int L4_30537), (3, .int L3_23759), (2, .int (m_cworld 4)), (0, .ref h0), (1, .int p0)]) hx hb dX12_layMatch_144 hl (by decide) rfl (fun ls hl => ?_)
                    refine lv_aload_n hx hb dX12_layMatch_146 rfl (lv_at hl 6 rfl) ?_
                    refine lv_iload_n hx hb dX12_layMatch_147 rfl (lv_at hl 4 rfl) ?_
                    refine lv_iload hx hb dX12_layMatch_148 (lv_at hl 1 rfl) ?_
                    refine cpVi (rest := []) ⟨hx, hb, hml, hown, hts⟩ hKN (hP.sub (ws' := [(h0, .inr (12, [.int m_thrown, .ref m_qworld, .ref m_qimages, .ref m_qhasImage, .ref m_qtape, .int m_taped, .ref m_qfive, .int m_size, .int m_at, .int m_from, .int m_token, .int m_value, .int m_faultKind, .int m_faultPlace, .ref m_qfresh, .int m_startOne, .int m_startOther, .int m_latest, .int m_leftBeats, .int m_signed, .int m_metMany, .ref m_qsums, .ref m_qpairs, .ref m_qgoesWith, .ref m_qsaid, .int m_saidMany, .int m_firstWait, .ref m_qfirstOrder, .int m_bundleFirst, .ref m_qtiredBy, .int m_tiredMany, .ref m_qmany, .ref m_qwidth, .ref m_qnumbers, .ref m_qmoving])), (m_qworld, .inl (cA 1, 122, .inl m_cworld))]) [0, 1] rfl) (g_X12_holdOf_z l D cA h0 m_thrown m_qworld m_qimages m_qhasImage m_qtape m_taped m_qfive m_size m_at m_from m_token m_value m_faultKind m_faultPlace m_qfresh m_startOne m_startOther m_latest m_leftBeats m_signed m_metMany m_qsums m_qpairs m_qgoesWith m_qsaid m_saidMany m_firstWait m_qfirstOrder m_bundleFirst m_qtiredBy m_tiredMany m_qmany m_qwidth m_qnumbers m_qmoving m_cworld L3_23759 L7_31048 (by omega) (by omega) (by omega) (by omega) (by omega) (by omega) (by omega) (by omega) a_m_cworld_0) (tb_V tw_1700 tw_1702 tw_63 tw_114 tw_1703) hdX12_holdOf ⟨rfl, rfl, Nat.le_of_ble_eq_true rfl, Nat.le_of_ble_eq_true rfl⟩ ⟨Nat.le_of_ble_eq_true rfl, Nat.le_of_ble_eq_true rfl⟩ rfl rfl rfl hl.1 rfl (Nat.le_of_ble_eq_true rfl) dX12_layMatch_150 (fun r_31104 hr_31104 => ?_)
                    refine lv_iload_n hx hb dX12_layMatch_153 rfl (lv_at hl 7 rfl) ?_
                    refine lv_icmp_lt (tgt := 185) hx hb dX12_layMatch_154 (by decide) (fun c_31105 => ?_) (fun c_31105 => ?_)
                    · skip
                      have k_31106 := kk_lt rfl rfl c_31105
                      obtain ⟨x_31107, ex_31107⟩ : ∃ y : Int32, L7_31048 + Int32.ofInt 1 = y := ⟨_, rfl⟩
                      have k_31108 := ar_add (b := 1) rfl zi_1 ex_31107.symm (by omega) (by omega)
                      refine lv_iinc (v := x_31107) (lv' := [(7, .int x_31107), (5, .int r_31103), (6, .int L6_31048), (4, .int L4_30537), (3, .int L3_23759), (2, .int (m_cworld 4)), (0, .ref h0), (1, .int p0)]) hx hb dX12_layMatch_185 hl (k := 1) rfl ex_31107 (by decide) rfl (fun ls hl => ?_)
                      refine lv_goto (tgt := 72) hx hb dX12_layMatch_188 (by decide) ?_
                      exact ih_31048 (x_31107, L6_31048, r_31103) _ _ _ ⟨(show 0 ≤ x_31107.toInt ∧ x_31107.toInt ≤ 7 from by omega), (show 0 ≤ L6_31048.toInt ∧ L6_31048.toInt ≤ 0 from by omega), hP.sub [0, 1, 2, 3] rfl, hD.sub [0, 1, 2, 3] (by decide) rfl, hS, lv_sub hl [0, 2, 1, 3, 4, 5, 6, 7] rfl⟩ (by show (2147483647 - x_31107.toInt).toNat < (2147483647 - L7_31048.toInt).toNat; omega)
                    · skip
                      have k_31109 := kk_nlt rfl rfl c_31105
                      exfalso; omega
                  · skip
                    have k_31110 := kk_eq rfl zi_1 c_31092
                    refine lv_goto (tgt := 185) hx hb dX12_layMatch_114 (by decide) ?_
                    obtain ⟨x_31111, ex_31111⟩ : ∃ y : Int32, L7_31048 + Int32.ofInt 1 = y := ⟨_, rfl⟩
                    have k_31112 := ar_add (b := 1) rfl zi_1 ex_31111.symm (by omega) (by omega)
                    refine lv_iinc (v := x_31111) (lv' := [(7, .int x_31111), (6, .int L6_31048), (5, .int L5_31048), (4, .int L4_30537), (3, .int L3_23759), (2, .int (m_cworld 4)), (0, .ref h0), (1, .int p0)]) hx hb dX12_layMatch_185 hl (k := 0) rfl ex_31111 (by decide) rfl (fun ls hl => ?_)
                    refine lv_goto (tgt := 72) hx hb dX12_layMatch_188 (by decide) ?_
                    exact ih_31048 (x_31111, L6_31048, L5_31048) _ _ _ ⟨(show 0 ≤ x_31111.toInt ∧ x_31111.toInt ≤ 7 from by omega), (show 0 ≤ L6_31048.toInt ∧ L6_31048.toInt ≤ 0 from by omega), hP.sub [0, 1, 2, 3] rfl, hD.sub [0, 1, 2, 3] (by decide) rfl, hS, lv_sub hl [0, 1, 2, 3, 4, 5, 6, 7] rfl⟩ (by show (2147483647 - x_31111.toInt).toNat < (2147483647 - L7_31048.toInt).toNat; omega)
      · skip
        have k_31113 := kk_eq rfl rfl c_30549
        refine lv_iconst (v := 0) hx hb dX12_layMatch_29 (by decide) ?_
        refine lv_goto (tgt := 42) hx hb dX12_layMatch_30 (by decide) ?_
        refine lv_istore (lv' := [(5, .int 0), (4, .int L4_30537), (3, .int L3_23759), (2, .int (m_cworld 4)), (0, .ref h0), (1, .int p0)]) hx hb dX12_layMatch_42 hl (by decide) rfl (fun ls hl => ?_)
        refine lv_iload_n hx hb dX12_layMatch_44 rfl (lv_at hl 2 rfl) ?_
        refine lv_iload_n hx hb dX12_layMatch_45 rfl (lv_at hl 3 rfl) ?_
        refine lv_icmp_ne (tgt := 53) hx hb dX12_layMatch_46 (by decide) (fun c_31114 => ?_) (fun c_31114 => ?_)
        · skip
          have k_31115 := kk_ne rfl rfl c_31114
          refine lv_aload_n hx hb dX12_layMatch_53 rfl (lv_at hl 4 rfl) ?_
          refine va_get (D := D) (ci := 12) (v := .ref m_qpairs) (C := RX12) (T := TX12) (N := 35) hx hb hts inX12 hown hKN.1 hP 0 rfl rfl 22 (by decide) (hts _ tw_1441) (fun _ h9 => h9) rfl dX12_layMatch_54 ?_
          refine lv_iload_n hx hb dX12_layMatch_57 rfl (lv_at hl 2 rfl) ?_
          refine lv_iconst (v := 1) hx hb dX12_layMatch_58 (by decide) ?_
          refine lv_iadd hx hb dX12_layMatch_59 ?_
          refine lv_topi (fun x_31116 ex_31116 => ?_)
          have k_31117 := ar_add rfl zi_1 ex_31116 (by omega) (by omega)
          refine lv_bipush (v := 8) hx hb dX12_layMatch_60 (by decide) ?_
          refine lv_ishl hx hb dX12_layMatch_62 ?_
          refine lv_topi (fun x_31118 ex_31118 => ?_)
          have k_31119 := ar_shl8 ex_31118 (by omega) (by omega)
          refine lv_iload hx hb dX12_layMatch_63 (lv_at hl 1 rfl) ?_
          refine lv_ior hx hb dX12_layMatch_65 ?_
          refine lv_topi (fun x_31120 ex_31120 => ?_)
          have k_31121 := ar_or8 rfl rfl ex_31120 (by omega) (by omega) (by omega)
          refine va_iald hx hb hKN.1 hP 3 1 rfl rfl (vp_in_iff.mpr ⟨by omega, by omega⟩) dX12_layMatch_66 ?_
          refine lv_topi (fun x_31122 ex_31122 => ?_)
          have kz_x_31122 : x_31122.toInt = 0 := by
            have kc : x_31120.toNatClampNeg = x_31120.toInt.toNat := rfl
            rw [ex_31122]
            exact k1_30537 _ (Or.inl ⟨by omega, by omega, by omega⟩)
          refine lv_istore (lv' := [(6, .int x_31122), (5, .int 0), (4, .int L4_30537), (3, .int L3_23759), (2, .int (m_cworld 4)), (0, .ref h0), (1, .int p0)]) hx hb dX12_layMatch_67 hl (by decide) rfl (fun ls hl => ?_)
          refine lv_iconst (v := 0) hx hb dX12_layMatch_69 (by decide) ?_
          refine lv_istore (lv' := [(7, .int 0), (6, .int x_31122), (5, .int 0), (4, .int L4_30537), (3, .int L3_23759), (2, .int (m_cworld 4)), (0, .ref h0), (1, .int p0)]) hx hb dX12_layMatch_70 hl (by decide) rfl (fun ls hl => ?_)
          refine loopW (σ := Int32 × Int32 × Int32) (fun _ => []) (fun ⟨L7_31333, L6_31333, L5_31333⟩ H locs ls => (0 ≤ L7_31333.toInt ∧ L7_31333.toInt ≤ 8) ∧ (0 ≤ L6_31333.toInt ∧ L6_31333.toInt ≤ 0) ∧ (0 ≤ L5_31333.toInt) ∧ va_P D vwCl [(h0, .inr (12, [.int m_thrown, .ref m_qworld, .ref m_qimages, .ref m_qhasImage, .ref m_qtape, .int m_taped, .ref m_qfive, .int m_size, .int m_at, .int m_from, .int m_token, .int m_value, .int m_faultKind, .int m_faultPlace, .ref m_qfresh, .int m_startOne, .int m_startOther, .int m_latest, .int m_leftBeats, .int m_signed, .int m_metMany, .ref m_qsums, .ref m_qpairs, .ref m_qgoesWith, .ref m_qsaid, .int m_saidMany, .int m_firstWait, .ref m_qfirstOrder, .int m_bundleFirst, .ref m_qtiredBy, .int m_tiredMany, .ref m_qmany, .ref m_qwidth, .ref m_qnumbers, .ref m_qmoving])), (m_qworld, .inl (cA 1, 122, .inl m_cworld)), (m_qsums, .inl (cA 1, 2304, .inl F1_30537)), (m_qpairs, .inl (cA 1, 2304, .inl F2_30537))] H ∧ va_D A [(h0, .inr (12, [.int m_thrown, .ref m_qworld, .ref m_qimages, .ref m_qhasImage, .ref m_qtape, .int m_taped, .ref m_qfive, .int m_size, .int m_at, .int m_from, .int m_token, .int m_value, .int m_faultKind, .int m_faultPlace, .ref m_qfresh, .int m_startOne, .int m_startOther, .int m_latest, .int m_leftBeats, .int m_signed, .int m_metMany, .ref m_qsums, .ref m_qpairs, .ref m_qgoesWith, .ref m_qsaid, .int m_saidMany, .int m_firstWait, .ref m_qfirstOrder, .int m_bundleFirst, .ref m_qtiredBy, .int m_tiredMany, .ref m_qmany, .ref m_qwidth, .ref m_qnumbers, .ref m_qmoving])), (m_qworld, .inl (cA 1, 122, .inl m_cworld)), (m_qsums, .inl (cA 1, 2304, .inl F1_30537)), (m_qpairs, .inl (cA 1, 2304, .inl F2_30537))] ∧ va_S A s.heap H locs ∧ lv_has ls 8 [(7, .int L7_31333), (6, .int L6_31333), (5, .int L5_31333), (4, .int L4_30537), (3, .int L3_23759), (2, .int (m_cworld 4)), (0, .ref h0), (1, .int p0)]) (fun ⟨L7_31333, L6_31333, L5_31333⟩ => (2147483647 - L7_31333.toInt).toNat) ?_ ((0, x_31122, 0) : Int32 × Int32 × Int32) ⟨(by decide), (show 0 ≤ x_31122.toInt ∧ x_31122.toInt ≤ 0 from by omega), (by decide), hP, hD, hS, hl⟩
          intro x_31333 H locs ls hI_31333 ih_31333
          obtain ⟨L7_31333, L6_31333, L5_31333⟩ := x_31333
          obtain ⟨k0_31333, k1_31333, k2_31333, hP, hD, hS, hl⟩ := hI_31333
          have hP : va_P D vwCl [(h0, .inr (12, [.int m_thrown, .ref m_qworld, .ref m_qimages, .ref m_qhasImage, .ref m_qtape, .int m_taped, .ref m_qfive, .int m_size, .int m_at, .int m_from, .int m_token, .int m_value, .int m_faultKind, .int m_faultPlace, .ref m_qfresh, .int m_startOne, .int m_startOther, .int m_latest, .int m_leftBeats, .int m_signed, .int m_metMany, .ref m_qsums, .ref m_qpairs, .ref m_qgoesWith, .ref m_qsaid, .int m_saidMany, .int m_firstWait, .ref m_qfirstOrder, .int m_bundleFirst, .ref m_qtiredBy, .int m_tiredMany, .ref m_qmany, .ref m_qwidth, .ref m_qnumbers, .ref m_qmoving])), (m_qworld, .inl (cA 1, 122, .inl m_cworld)), (m_qsums, .inl (cA 1, 2304, .inl F1_30537)), (m_qpairs, .inl (cA 1, 2304, .inl F2_30537))] H := hP
          have hD : va_D A [(h0, .inr (12, [.int m_thrown, .ref m_qworld, .ref m_qimages, .ref m_qhasImage, .ref m_qtape, .int m_taped, .ref m_qfive, .int m_size, .int m_at, .int m_from, .int m_token, .int m_value, .int m_faultKind, .int m_faultPlace, .ref m_qfresh, .int m_startOne, .int m_startOther, .int m_latest, .int m_leftBeats, .int m_signed, .int m_metMany, .ref m_qsums, .ref m_qpairs, .ref m_qgoesWith, .ref m_qsaid, .int m_saidMany, .int m_firstWait, .ref m_qfirstOrder, .int m_bundleFirst, .ref m_qtiredBy, .int m_tiredMany, .ref m_qmany, .ref m_qwidth, .ref m_qnumbers, .ref m_qmoving])), (m_qworld, .inl (cA 1, 122, .inl m_cworld)), (m_qsums, .inl (cA 1, 2304, .inl F1_30537)), (m_qpairs, .inl (cA 1, 2304, .inl F2_30537))] := hD
          have hl : lv_has ls 8 [(7, .int L7_31333), (6, .int L6_31333), (5, .int L5_31333), (4, .int L4_30537), (3, .int L3_23759), (2, .int (m_cworld 4)), (0, .ref h0), (1, .int p0)] := hl
          refine lv_iload hx hb dX12_layMatch_72 (lv_at hl 0 rfl) ?_
          refine lv_iload_n hx hb dX12_layMatch_74 rfl (lv_at hl 5 rfl) ?_
          refine lv_icmp_ge (tgt := 191) hx hb dX12_layMatch_75 (by decide) (fun c_31334 => ?_) (fun c_31334 => ?_)
          · skip
            have k_31335 := kk_le rfl rfl c_31334
            refine lv_aload_n hx hb dX12_layMatch_191 rfl (lv_at hl 6 rfl) ?_
            refine va_get (D := D) (ci := 12) (v := .ref m_qsums) (C := RX12) (T := TX12) (N := 35) hx hb hts inX12 hown hKN.1 hP 0 rfl rfl 21 (by decide) (hts _ tw_1440) (fun _ h9 => h9) rfl dX12_layMatch_192 ?_
            refine lv_iload_n hx hb dX12_layMatch_195 rfl (lv_at hl 4 rfl) ?_
            refine lv_bipush (v := 8) hx hb dX12_layMatch_196 (by decide) ?_
            refine lv_ishl hx hb dX12_layMatch_198 ?_
            refine lv_topi (fun x_31336 ex_31336 => ?_)
            have k_31337 := ar_shl8 ex_31336 (by omega) (by omega)
            refine lv_iload hx hb dX12_layMatch_199 (lv_at hl 3 rfl) ?_
            refine lv_ior hx hb dX12_layMatch_201 ?_
            refine lv_topi (fun x_31338 ex_31338 => ?_)
            have k_31339 := ar_or8 rfl rfl ex_31338 (by omega) (by omega) (by omega)
            refine lv_iload hx hb dX12_layMatch_202 (lv_at hl 2 rfl) ?_
            refine va_iast hx hb hKN.1 hP hD hS 2 1 rfl rfl (vp_in_iff.mpr ⟨by omega, by omega⟩) dX12_layMatch_204 (fun H locs hP hD hS => ?_)
            have hP : va_P D vwCl [(h0, .inr (12, [.int m_thrown, .ref m_qworld, .ref m_qimages, .ref m_qhasImage, .ref m_qtape, .int m_taped, .ref m_qfive, .int m_size, .int m_at, .int m_from, .int m_token, .int m_value, .int m_faultKind, .int m_faultPlace, .ref m_qfresh, .int m_startOne, .int m_startOther, .int m_latest, .int m_leftBeats, .int m_signed, .int m_metMany, .ref m_qsums, .ref m_qpairs, .ref m_qgoesWith, .ref m_qsaid, .int m_saidMany, .int m_firstWait, .ref m_qfirstOrder, .int m_bundleFirst, .ref m_qtiredBy, .int m_tiredMany, .ref m_qmany, .ref m_qwidth, .ref m_qnumbers, .ref m_qmoving])), (m_qworld, .inl (cA 1, 122, .inl m_cworld)), (m_qsums, .inl (cA 1, 2304, .inl (upd F1_30537 x_31338.toNatClampNeg L5_31333))), (m_qpairs, .inl (cA 1, 2304, .inl F2_30537))] H := hP
            have hD : va_D A [(h0, .inr (12, [.int m_thrown, .ref m_qworld, .ref m_qimages, .ref m_qhasImage, .ref m_qtape, .int m_taped, .ref m_qfive, .int m_size, .int m_at, .int m_from, .int m_token, .int m_value, .int m_faultKind, .int m_faultPlace, .ref m_qfresh, .int m_startOne, .int m_startOther, .int m_latest, .int m_leftBeats, .int m_signed, .int m_metMany, .ref m_qsums, .ref m_qpairs, .ref m_qgoesWith, .ref m_qsaid, .int m_saidMany, .int m_firstWait, .ref m_qfirstOrder, .int m_bundleFirst, .ref m_qtiredBy, .int m_tiredMany, .ref m_qmany, .ref m_qwidth, .ref m_qnumbers, .ref m_qmoving])), (m_qworld, .inl (cA 1, 122, .inl m_cworld)), (m_qsums, .inl (cA 1, 2304, .inl (upd F1_30537 x_31338.toNatClampNeg L5_31333))), (m_qpairs, .inl (cA 1, 2304, .inl F2_30537))] := hD
            generalize ef_31340 : (upd F1_30537 x_31338.toNatClampNeg L5_31333) = f_31340 at hP hD
            refine lv_aload_n hx hb dX12_layMatch_205 rfl (lv_at hl 6 rfl) ?_
            refine va_get (D := D) (ci := 12) (v := .ref m_qpairs) (C := RX12) (T := TX12) (N := 35) hx hb hts inX12 hown hKN.1 hP 0 rfl rfl 22 (by decide) (hts _ tw_1441) (fun _ h9 => h9) rfl dX12_layMatch_206 ?_
            refine lv_iload_n hx hb dX12_layMatch_209 rfl (lv_at hl 4 rfl) ?_
            refine lv_bipush (v := 8) hx hb dX12_layMatch_210 (by decide) ?_
            refine lv_ishl hx hb dX12_layMatch_212 ?_
            refine lv_topi (fun x_31341 ex_31341 => ?_)
            obtain rfl : x_31336 = x_31341 := ex_31336.trans ex_31341.symm
            refine lv_iload hx hb dX12_layMatch_213 (lv_at hl 3 rfl) ?_
            refine lv_ior hx hb dX12_layMatch_215 ?_
            refine lv_topi (fun x_31342 ex_31342 => ?_)
            obtain rfl : x_31338 = x_31342 := ex_31338.trans ex_31342.symm
            refine lv_iload hx hb dX12_layMatch_216 (lv_at hl 1 rfl) ?_
            refine va_iast hx hb hKN.1 hP hD hS 3 1 rfl rfl (vp_in_iff.mpr ⟨by omega, by omega⟩) dX12_layMatch_218 (fun H locs hP hD hS => ?_)
            have hP : va_P D vwCl [(h0, .inr (12, [.int m_thrown, .ref m_qworld, .ref m_qimages, .ref m_qhasImage, .ref m_qtape, .int m_taped, .ref m_qfive, .int m_size, .int m_at, .int m_from, .int m_token, .int m_value, .int m_faultKind, .int m_faultPlace, .ref m_qfresh, .int m_startOne, .int m_startOther, .int m_latest, .int m_leftBeats, .int m_signed, .int m_metMany, .ref m_qsums, .ref m_qpairs, .ref m_qgoesWith, .ref m_qsaid, .int m_saidMany, .int m_firstWait, .ref m_qfirstOrder, .int m_bundleFirst, .ref m_qtiredBy, .int m_tiredMany, .ref m_qmany, .ref m_qwidth, .ref m_qnumbers, .ref m_qmoving])), (m_qworld, .inl (cA 1, 122, .inl m_cworld)), (m_qsums, .inl (cA 1, 2304, .inl f_31340)), (m_qpairs, .inl (cA 1, 2304, .inl (upd F2_30537 x_31338.toNatClampNeg L6_31333)))] H := hP
            have hD : va_D A [(h0, .inr (12, [.int m_thrown, .ref m_qworld, .ref m_qimages, .ref m_qhasImage, .ref m_qtape, .int m_taped, .ref m_qfive, .int m_size, .int m_at, .int m_from, .int m_token, .int m_value, .int m_faultKind, .int m_faultPlace, .ref m_qfresh, .int m_startOne, .int m_startOther, .int m_latest, .int m_leftBeats, .int m_signed, .int m_metMany, .ref m_qsums, .ref m_qpairs, .ref m_qgoesWith, .ref m_qsaid, .int m_saidMany, .int m_firstWait, .ref m_qfirstOrder, .int m_bundleFirst, .ref m_qtiredBy, .int m_tiredMany, .ref m_qmany, .ref m_qwidth, .ref m_qnumbers, .ref m_qmoving])), (m_qworld, .inl (cA 1, 122, .inl m_cworld)), (m_qsums, .inl (cA 1, 2304, .inl f_31340)), (m_qpairs, .inl (cA 1, 2304, .inl (upd F2_30537 x_31338.toNatClampNeg L6_31333)))] := hD
            generalize ef_31343 : (upd F2_30537 x_31338.toNatClampNeg L6_31333) = f_31343 at hP hD
            obtain ⟨x_31344, ex_31344⟩ : ∃ y : Int32, L4_30537 + Int32.ofInt 1 = y := ⟨_, rfl⟩
            have k_31345 := ar_add (b := 1) rfl zi_1 ex_31344.symm (by omega) (by omega)
            refine lv_iinc (v := x_31344) (lv' := [(4, .int x_31344), (7, .int L7_31333), (6, .int L6_31333), (5, .int L5_31333), (3, .int L3_23759), (2, .int (m_cworld 4)), (0, .ref h0), (1, .int p0)]) hx hb dX12_layMatch_219 hl (k := 3) rfl ex_31344 (by decide) rfl (fun ls hl => ?_)
            refine lv_goto (tgt := 16) hx hb dX12_layMatch_222 (by decide) ?_
            have hb_31346 : ZQ f_31343 L3_23759.toInt x_31344.toInt (m_cworld 4).toInt.toNat := by
              have kc : x_31338.toNatClampNeg = x_31338.toInt.toNat := rfl
              rw [← ef_31343]; exact ZQ.step k1_30537 (by omega) (by omega) (by omega)
            exact ih_30537 (x_31344, f_31340, f_31343) _ _ _ ⟨(show 0 ≤ x_31344.toInt ∧ x_31344.toInt ≤ 256 from by omega), hb_31346, hP.sub [0, 1, 2, 3] rfl, hD.sub [0, 1, 2, 3] (by decide) rfl, hS, lv_sub hl [0, 4, 5, 6, 7] rfl⟩ (by show (2147483647 - x_31344.toInt).toNat < (2147483647 - L4_30537.toInt).toNat; omega)
          · skip
            have k_31347 := kk_nle rfl rfl c_31334
            refine lv_iload_n hx hb dX12_layMatch_78 rfl (lv_at hl 4 rfl) ?_
            refine lv_iload_n hx hb dX12_layMatch_79 rfl (lv_at hl 5 rfl) ?_
            refine lv_icmp_ge (tgt := 191) hx hb dX12_layMatch_80 (by decide) (fun c_31348 => ?_) (fun c_31348 => ?_)
            · skip
              have k_31349 := kk_le rfl rfl c_31348
              refine lv_aload_n hx hb dX12_layMatch_191 rfl (lv_at hl 6 rfl) ?_
              refine va_get (D := D) (ci := 12) (v := .ref m_qsums) (C := RX12) (T := TX12) (N := 35) hx hb hts inX12 hown hKN.1 hP 0 rfl rfl 21 (by decide) (hts _ tw_1440) (fun _ h9 => h9) rfl dX12_layMatch_192 ?_
              refine lv_iload_n hx hb dX12_layMatch_195 rfl (lv_at hl 4 rfl) ?_
              refine lv_bipush (v := 8) hx hb dX12_layMatch_196 (by decide) ?_
              refine lv_ishl hx hb dX12_layMatch_198 ?_
              refine lv_topi (fun x_31350 ex_31350 => ?_)
              have k_31351 := ar_shl8 ex_31350 (by omega) (by omega)
              refine lv_iload hx hb dX12_layMatch_199 (lv_at hl 3 rfl) ?_
              refine lv_ior hx hb dX12_layMatch_201 ?_
              refine lv_topi (fun x_31352 ex_31352 => ?_)
              have k_31353 := ar_or8 rfl rfl ex_31352 (by omega) (by omega) (by omega)
              refine lv_iload hx hb dX12_layMatch_202 (lv_at hl 2 rfl) ?_
              refine va_iast hx hb hKN.1 hP hD hS 2 1 rfl rfl (vp_in_iff.mpr ⟨by omega, by omega⟩) dX12_layMatch_204 (fun H locs hP hD hS => ?_)
              have hP : va_P D vwCl [(h0, .inr (12, [.int m_thrown, .ref m_qworld, .ref m_qimages, .ref m_qhasImage, .ref m_qtape, .int m_taped, .ref m_qfive, .int m_size, .int m_at, .int m_from, .int m_token, .int m_value, .int m_faultKind, .int m_faultPlace, .ref m_qfresh, .int m_startOne, .int m_startOther, .int m_latest, .int m_leftBeats, .int m_signed, .int m_metMany, .ref m_qsums, .ref m_qpairs, .ref m_qgoesWith, .ref m_qsaid, .int m_saidMany, .int m_firstWait, .ref m_qfirstOrder, .int m_bundleFirst, .ref m_qtiredBy, .int m_tiredMany, .ref m_qmany, .ref m_qwidth, .ref m_qnumbers, .ref m_qmoving])), (m_qworld, .inl (cA 1, 122, .inl m_cworld)), (m_qsums, .inl (cA 1, 2304, .inl (upd F1_30537 x_31352.toNatClampNeg L5_31333))), (m_qpairs, .inl (cA 1, 2304, .inl F2_30537))] H := hP
              have hD : va_D A [(h0, .inr (12, [.int m_thrown, .ref m_qworld, .ref m_qimages, .ref m_qhasImage, .ref m_qtape, .int m_taped, .ref m_qfive, .int m_size, .int m_at, .int m_from, .int m_token, .int m_value, .int m_faultKind, .int m_faultPlace, .ref m_qfresh, .int m_startOne, .int m_startOther, .int m_latest, .int m_leftBeats, .int m_signed, .int m_metMany, .ref m_qsums, .ref m_qpairs, .ref m_qgoesWith, .ref m_qsaid, .int m_saidMany, .int m_firstWait, .ref m_qfirstOrder, .int m_bundleFirst, .ref m_qtiredBy, .int m_tiredMany, .ref m_qmany, .ref m_qwidth, .ref m_qnumbers, .ref m_qmoving])), (m_qworld, .inl (cA 1, 122, .inl m_cworld)), (m_qsums, .inl (cA 1, 2304, .inl (upd F1_30537 x_31352.toNatClampNeg L5_31333))), (m_qpairs, .inl (cA 1, 2304, .inl F2_30537))] := hD
              generalize ef_31354 : (upd F1_30537 x_31352.toNatClampNeg L5_31333) = f_31354 at hP hD
              refine lv_aload_n hx hb dX12_layMatch_205 rfl (lv_at hl 6 rfl) ?_
              refine va_get (D := D) (ci := 12) (v := .ref m_qpairs) (C := RX12) (T := TX12) (N := 35) hx hb hts inX12 hown hKN.1 hP 0 rfl rfl 22 (by decide) (hts _ tw_1441) (fun _ h9 => h9) rfl dX12_layMatch_206 ?_
              refine lv_iload_n hx hb dX12_layMatch_209 rfl (lv_at hl 4 rfl) ?_
              refine lv_bipush (v := 8) hx hb dX12_layMatch_210 (by decide) ?_
              refine lv_ishl hx hb dX12_layMatch_212 ?_
              refine lv_topi (fun x_31355 ex_31355 => ?_)
              obtain rfl : x_31350 = x_31355 := ex_31350.trans ex_31355.symm
              refine lv_iload hx hb dX12_layMatch_213 (lv_at hl 3 rfl) ?_
              refine lv_ior hx hb dX12_layMatch_215 ?_
              refine lv_topi (fun x_31356 ex_31356 => ?_)
              obtain rfl : x_31352 = x_31356 := ex_31352.trans ex_31356.symm
              refine lv_iload hx hb dX12_layMatch_216 (lv_at hl 1 rfl) ?_
              refine va_iast hx hb hKN.1 hP hD hS 3 1 rfl rfl (vp_in_iff.mpr ⟨by omega, by omega⟩) dX12_layMatch_218 (fun H locs hP hD hS => ?_)
              have hP : va_P D vwCl [(h0, .inr (12, [.int m_thrown, .ref m_qworld, .ref m_qimages, .ref m_qhasImage, .ref m_qtape, .int m_taped, .ref m_qfive, .int m_size, .int m_at, .int m_from, .int m_token, .int m_value, .int m_faultKind, .int m_faultPlace, .ref m_qfresh, .int m_startOne, .int m_startOther, .int m_latest, .int m_leftBeats, .int m_signed, .int m_metMany, .ref m_qsums, .ref m_qpairs, .ref m_qgoesWith, .ref m_qsaid, .int m_saidMany, .int m_firstWait, .ref m_qfirstOrder, .int m_bundleFirst, .ref m_qtiredBy, .int m_tiredMany, .ref m_qmany, .ref m_qwidth, .ref m_qnumbers, .ref m_qmoving])), (m_qworld, .inl (cA 1, 122, .inl m_cworld)), (m_qsums, .inl (cA 1, 2304, .inl f_31354)), (m_qpairs, .inl (cA 1, 2304, .inl (upd F2_30537 x_31352.toNatClampNeg L6_31333)))] H := hP
              have hD : va_D A [(h0, .inr (12, [.int m_thrown, .ref m_qworld, .ref m_qimages, .ref m_qhasImage, .ref m_qtape, .int m_taped, .ref m_qfive, .int m_size, .int m_at, .int m_from, .int m_token, .int m_value, .int m_faultKind, .int m_faultPlace, .ref m_qfresh, .int m_startOne, .int m_startOther, .int m_latest, .int m_leftBeats, .int m_signed, .int m_metMany, .ref m_qsums, .ref m_qpairs, .ref m_qgoesWith, .ref m_qsaid, .int m_saidMany, .int m_firstWait, .ref m_qfirstOrder, .int m_bundleFirst, .ref m_qtiredBy, .int m_tiredMany, .ref m_qmany, .ref m_qwidth, .ref m_qnumbers, .ref m_qmoving])), (m_qworld, .inl (cA 1, 122, .inl m_cworld)), (m_qsums, .inl (cA 1, 2304, .inl f_31354)), (m_qpairs, .inl (cA 1, 2304, .inl (upd F2_30537 x_31352.toNatClampNeg L6_31333)))] := hD
              generalize ef_31357 : (upd F2_30537 x_31352.toNatClampNeg L6_31333) = f_31357 at hP hD
              obtain ⟨x_31358, ex_31358⟩ : ∃ y : Int32, L4_30537 + Int32.ofInt 1 = y := ⟨_, rfl⟩
              have k_31359 := ar_add (b := 1) rfl zi_1 ex_31358.symm (by omega) (by omega)
              refine lv_iinc (v := x_31358) (lv' := [(4, .int x_31358), (7, .int L7_31333), (6, .int L6_31333), (5, .int L5_31333), (3, .int L3_23759), (2, .int (m_cworld 4)), (0, .ref h0), (1, .int p0)]) hx hb dX12_layMatch_219 hl (k := 3) rfl ex_31358 (by decide) rfl (fun ls hl => ?_)
              refine lv_goto (tgt := 16) hx hb dX12_layMatch_222 (by decide) ?_
              have hb_31360 : ZQ f_31357 L3_23759.toInt x_31358.toInt (m_cworld 4).toInt.toNat := by
                have kc : x_31352.toNatClampNeg = x_31352.toInt.toNat := rfl
                rw [← ef_31357]; exact ZQ.step k1_30537 (by omega) (by omega) (by omega)
              exact ih_30537 (x_31358, f_31354, f_31357) _ _ _ ⟨(show 0 ≤ x_31358.toInt ∧ x_31358.toInt ≤ 256 from by omega), hb_31360, hP.sub [0, 1, 2, 3] rfl, hD.sub [0, 1, 2, 3] (by decide) rfl, hS, lv_sub hl [0, 4, 5, 6, 7] rfl⟩ (by show (2147483647 - x_31358.toInt).toNat < (2147483647 - L4_30537.toInt).toNat; omega)
            · skip
              have k_31361 := kk_nle rfl rfl c_31348
              refine lv_aload_n hx hb dX12_layMatch_83 rfl (lv_at hl 6 rfl) ?_
              refine lv_iload_n hx hb dX12_layMatch_84 rfl (lv_at hl 4 rfl) ?_
              refine lv_iconst (v := 0) hx hb dX12_layMatch_85 (by decide) ?_
              have z_31362 := zi_0
              refine cpVi (rest := []) ⟨hx, hb, hml, hown, hts⟩ hKN (hP.sub (ws' := [(h0, .inr (12, [.int m_thrown, .ref m_qworld, .ref m_qimages, .ref m_qhasImage, .ref m_qtape, .int m_taped, .ref m_qfive, .int m_size, .int m_at, .int m_from, .int m_token, .int m_value, .int m_faultKind, .int m_faultPlace, .ref m_qfresh, .int m_startOne, .int m_startOther, .int m_latest, .int m_leftBeats, .int m_signed, .int m_metMany, .ref m_qsums, .ref m_qpairs, .ref m_qgoesWith, .ref m_qsaid, .int m_saidMany, .int m_firstWait, .ref m_qfirstOrder, .int m_bundleFirst, .ref m_qtiredBy, .int m_tiredMany, .ref m_qmany, .ref m_qwidth, .ref m_qnumbers, .ref m_qmoving])), (m_qworld, .inl (cA 1, 122, .inl m_cworld))]) [0, 1] rfl) (g_X12_of l D cA h0 m_thrown m_qworld m_qimages m_qhasImage m_qtape m_taped m_qfive m_size m_at m_from m_token m_value m_faultKind m_faultPlace m_qfresh m_startOne m_startOther m_latest m_leftBeats m_signed m_metMany m_qsums m_qpairs m_qgoesWith m_qsaid m_saidMany m_firstWait m_qfirstOrder m_bundleFirst m_qtiredBy m_tiredMany m_qmany m_qwidth m_qnumbers m_qmoving m_cworld L3_23759 0 (by omega) (by omega) (by omega) (by omega) (by omega) (by omega) (by omega) (by decide) a_m_cworld_0) (tb_V tw_1640 tw_1642 tw_50 tw_114 tw_1643) hdX12_of ⟨rfl, rfl, Nat.le_of_ble_eq_true rfl, Nat.le_of_ble_eq_true rfl⟩ ⟨Nat.le_of_ble_eq_true rfl, Nat.le_of_ble_eq_true rfl⟩ rfl rfl rfl hl.1 rfl (Nat.le_of_ble_eq_true rfl) dX12_layMatch_86 (fun r_31363 hr_31363 => ?_)
              obtain ⟨k_31363_0_0, k_31363_0_1⟩ := hr_31363
              refine lv_if_ne (tgt := 185) hx hb dX12_layMatch_89 (by decide) (fun c_31364 => ?_) (fun c_31364 => ?_)
              · skip
                have k_31365 := kk_ne rfl zi_0 c_31364
                obtain ⟨x_31366, ex_31366⟩ : ∃ y : Int32, L7_31333 + Int32.ofInt 1 = y := ⟨_, rfl⟩
                have k_31367 := ar_add (b := 1) rfl zi_1 ex_31366.symm (by omega) (by omega)
                refine lv_iinc (v := x_31366) (lv' := [(7, .int x_31366), (6, .int L6_31333), (5, .int L5_31333), (4, .int L4_30537), (3, .int L3_23759), (2, .int (m_cworld 4)), (0, .ref h0), (1, .int p0)]) hx hb dX12_layMatch_185 hl (k := 0) rfl ex_31366 (by decide) rfl (fun ls hl => ?_)
                refine lv_goto (tgt := 72) hx hb dX12_layMatch_188 (by decide) ?_
                exact ih_31333 (x_31366, L6_31333, L5_31333) _ _ _ ⟨(show 0 ≤ x_31366.toInt ∧ x_31366.toInt ≤ 8 from by omega), (show 0 ≤ L6_31333.toInt ∧ L6_31333.toInt ≤ 0 from by omega), (show 0 ≤ L5_31333.toInt from by omega), hP.sub [0, 1, 2, 3] rfl, hD.sub [0, 1, 2, 3] (by decide) rfl, hS, lv_sub hl [0, 1, 2, 3, 4, 5, 6, 7] rfl⟩ (by show (2147483647 - x_31366.toInt).toNat < (2147483647 - L7_31333.toInt).toNat; omega)
              · skip
                have k_31368 := kk_eq rfl zi_0 c_31364
                refine lv_aload_n hx hb dX12_layMatch_92 rfl (lv_at hl 6 rfl) ?_
                refine lv_iload hx hb dX12_layMatch_93 (lv_at hl 0 rfl) ?_
                refine lv_iconst (v := 0) hx hb dX12_layMatch_95 (by decide) ?_
                refine cpVi (rest := []) ⟨hx, hb, hml, hown, hts⟩ hKN (hP.sub (ws' := [(h0, .inr (12, [.int m_thrown, .ref m_qworld, .ref m_qimages, .ref m_qhasImage, .ref m_qtape, .int m_taped, .ref m_qfive, .int m_size, .int m_at, .int m_from, .int m_token, .int m_value, .int m_faultKind, .int m_faultPlace, .ref m_qfresh, .int m_startOne, .int m_startOther, .int m_latest, .int m_leftBeats, .int m_signed, .int m_metMany, .ref m_qsums, .ref m_qpairs, .ref m_qgoesWith, .ref m_qsaid, .int m_saidMany, .int m_firstWait, .ref m_qfirstOrder, .int m_bundleFirst, .ref m_qtiredBy, .int m_tiredMany, .ref m_qmany, .ref m_qwidth, .ref m_qnumbers, .ref m_qmoving])), (m_qworld, .inl (cA 1, 122, .inl m_cworld))]) [0, 1] rfl) (g_X12_of l D cA h0 m_thrown m_qworld m_qimages m_qhasImage m_qtape m_taped m_qfive m_size m_at m_from m_token m_value m_faultKind m_faultPlace m_qfresh m_startOne m_startOther m_latest m_leftBeats m_signed m_metMany m_qsums m_qpairs m_qgoesWith m_qsaid m_saidMany m_firstWait m_qfirstOrder m_bundleFirst m_qtiredBy m_tiredMany m_qmany m_qwidth m_qnumbers m_qmoving m_cworld L7_31333 0 (by omega) (by omega) (by omega) (by omega) (by omega) (by omega) (by omega) (by decide) a_m_cworld_0) (tb_V tw_1640 tw_1642 tw_50 tw_114 tw_1643) hdX12_of ⟨rfl, rfl, Nat.le_of_ble_eq_true rfl, Nat.le_of_ble_eq_true rfl⟩ ⟨Nat.le_of_ble_eq_true rfl, Nat.le_of_ble_eq_true rfl⟩ rfl rfl rfl hl.1 rfl (Nat.le_of_ble_eq_true rfl) dX12_layMatch_96 (fun r_31369 hr_31369 => ?_)
                obtain ⟨k_31369_0_0, k_31369_0_1⟩ := hr_31369
                refine lv_iconst (v := 1) hx hb dX12_layMatch_99 (by decide) ?_
                refine lv_icmp_ne (tgt := 185) hx hb dX12_layMatch_100 (by decide) (fun c_31370 => ?_) (fun c_31370 => ?_)
                · skip
                  have k_31371 := kk_ne rfl zi_1 c_31370
                  obtain ⟨x_31372, ex_31372⟩ : ∃ y : Int32, L7_31333 + Int32.ofInt 1 = y := ⟨_, rfl⟩
                  have k_31373 := ar_add (b := 1) rfl zi_1 ex_31372.symm (by omega) (by omega)
                  refine lv_iinc (v := x_31372) (lv' := [(7, .int x_31372), (6, .int L6_31333), (5, .int L5_31333), (4, .int L4_30537), (3, .int L3_23759), (2, .int (m_cworld 4)), (0, .ref h0), (1, .int p0)]) hx hb dX12_layMatch_185 hl (k := 0) rfl ex_31372 (by decide) rfl (fun ls hl => ?_)
                  refine lv_goto (tgt := 72) hx hb dX12_layMatch_188 (by decide) ?_
                  exact ih_31333 (x_31372, L6_31333, L5_31333) _ _ _ ⟨(show 0 ≤ x_31372.toInt ∧ x_31372.toInt ≤ 8 from by omega), (show 0 ≤ L6_31333.toInt ∧ L6_31333.toInt ≤ 0 from by omega), (show 0 ≤ L5_31333.toInt from by omega), hP.sub [0, 1, 2, 3] rfl, hD.sub [0, 1, 2, 3] (by decide) rfl, hS, lv_sub hl [0, 1, 2, 3, 4, 5, 6, 7] rfl⟩ (by show (2147483647 - x_31372.toInt).toNat < (2147483647 - L7_31333.toInt).toNat; omega)
                · skip
                  have k_31374 := kk_eq rfl zi_1 c_31370
                  refine lv_iload hx hb dX12_layMatch_103 (lv_at hl 3 rfl) ?_
                  refine lv_iload hx hb dX12_layMatch_105 (lv_at hl 0 rfl) ?_
                  refine cpSi (rest := []) ⟨hx, hb, hml, hown, hts⟩ hKN (hP.sub (ws' := []) [] rfl) (g_X12_bit l D cA L4_30537 L7_31333) (tb_S tw_1807 tw_1808 tw_114 tw_1809) hdX12_bit ⟨rfl, rfl, Nat.le_of_ble_eq_true rfl, Nat.le_of_ble_eq_true rfl⟩ ⟨Nat.le_of_ble_eq_true rfl, Nat.le_of_ble_eq_true rfl⟩ rfl hl.1 rfl (Nat.le_of_ble_eq_true rfl) dX12_layMatch_107 (fun r_31375 hr_31375 => ?_)
                  refine lv_iconst (v := 1) hx hb dX12_layMatch_110 (by decide) ?_
                  refine lv_icmp_ne (tgt := 117) hx hb dX12_layMatch_111 (by decide) (fun c_31376 => ?_) (fun c_31376 => ?_)
                  · skip
                    have k_31377 := kk_ne rfl zi_1 c_31376
                    refine lv_iload hx hb dX12_layMatch_117 (lv_at hl 2 rfl) ?_
                    refine lv_aload_n hx hb dX12_layMatch_119 rfl (lv_at hl 6 rfl) ?_
                    refine lv_iload_n hx hb dX12_layMatch_120 rfl (lv_at hl 4 rfl) ?_
                    refine lv_iload hx hb dX12_layMatch_121 (lv_at hl 0 rfl) ?_
                    refine cpVi (rest := [.int L5_31333]) ⟨hx, hb, hml, hown, hts⟩ hKN (hP.sub (ws' := [(h0, .inr (12, [.int m_thrown, .ref m_qworld, .ref m_qimages, .ref m_qhasImage, .ref m_qtape, .int m_taped, .ref m_qfive, .int m_size, .int m_at, .int m_from, .int m_token, .int m_value, .int m_faultKind, .int m_faultPlace, .ref m_qfresh, .int m_startOne, .int m_startOther, .int m_latest, .int m_leftBeats, .int m_signed, .int m_metMany, .ref m_qsums, .ref m_qpairs, .ref m_qgoesWith, .ref m_qsaid, .int m_saidMany, .int m_firstWait, .ref m_qfirstOrder, .int m_bundleFirst, .ref m_qtiredBy, .int m_tiredMany, .ref m_qmany, .ref m_qwidth, .ref m_qnumbers, .ref m_qmoving])), (m_qworld, .inl (cA 1, 122, .inl m_cworld))]) [0, 1] rfl) (g_X12_holdOf_z l D cA h0 m_thrown m_qworld m_qimages m_qhasImage m_qtape m_taped m_qfive m_size m_at m_from m_token m_value m_faultKind m_faultPlace m_qfresh m_startOne m_startOther m_latest m_leftBeats m_signed m_metMany m_qsums m_qpairs m_qgoesWith m_qsaid m_saidMany m_firstWait m_qfirstOrder m_bundleFirst m_qtiredBy m_tiredMany m_qmany m_qwidth m_qnumbers m_qmoving m_cworld L3_23759 L7_31333 (by omega) (by omega) (by omega) (by omega) (by omega) (by omega) (by omega) (by omega) a_m_cworld_0) (tb_V tw_1700 tw_1702 tw_63 tw_114 tw_1703) hdX12_holdOf ⟨rfl, rfl, Nat.le_of_ble_eq_true rfl, Nat.le_of_ble_eq_true rfl⟩ ⟨Nat.le_of_ble_eq_true rfl, Nat.le_of_ble_eq_true rfl⟩ rfl rfl rfl hl.1 rfl (Nat.le_of_ble_eq_true rfl) dX12_layMatch_123 (fun r_31378 hr_31378 => ?_)
                    refine lv_aload_n hx hb dX12_layMatch_126 rfl (lv_at hl 6 rfl) ?_
                    refine lv_iload_n hx hb dX12_layMatch_127 rfl (lv_at hl 4 rfl) ?_
                    refine lv_iconst (v := 1) hx hb dX12_layMatch_128 (by decide) ?_
                    refine lv_iadd hx hb dX12_layMatch_129 ?_
                    refine lv_topi (fun x_31379 ex_31379 => ?_)
                    obtain rfl : x_31116 = x_31379 := ex_31116.trans ex_31379.symm
                    refine lv_iload hx hb dX12_layMatch_130 (lv_at hl 3 rfl) ?_
                    refine lv_iconst (v := 1) hx hb dX12_layMatch_132 (by decide) ?_
                    refine lv_iload hx hb dX12_layMatch_133 (lv_at hl 0 rfl) ?_
                    refine lv_ishl hx hb dX12_layMatch_135 ?_
                    refine lv_topi (fun x_31380 ex_31380 => ?_)
                    have k_31381 := ar_shl1 ex_31380 (by omega) (by omega)
                    refine lv_ior hx hb dX12_layMatch_136 ?_
                    refine lv_topi (fun x_31382 ex_31382 => ?_)
                    have k_31383 := ar_or (n := 8) (M := 256) rfl rfl ex_31382 (by decide) (by decide) (by omega) (by omega)
                    refine cpVi (rest := [.int r_31378, .int L5_31333]) ⟨hx, hb, hml, hown, hts⟩ hKN (hP.sub (ws' := [(h0, .inr (12, [.int m_thrown, .ref m_qworld, .ref m_qimages, .ref m_qhasImage, .ref m_qtape, .int m_taped, .ref m_qfive, .int m_size, .int m_at, .int m_from, .int m_token, .int m_value, .int m_faultKind, .int m_faultPlace, .ref m_qfresh, .int m_startOne, .int m_startOther, .int m_latest, .int m_leftBeats, .int m_signed, .int m_metMany, .ref m_qsums, .ref m_qpairs, .ref m_qgoesWith, .ref m_qsaid, .int m_saidMany, .int m_firstWait, .ref m_qfirstOrder, .int m_bundleFirst, .ref m_qtiredBy, .int m_tiredMany, .ref m_qmany, .ref m_qwidth, .ref m_qnumbers, .ref m_qmoving])), (m_qsums, .inl (cA 1, 2304, .inl F1_30537))]) [0, 2] rfl) (g_X12_sumFrom l D cA h0 m_thrown m_qworld m_qimages m_qhasImage m_qtape m_taped m_qfive m_size m_at m_from m_token m_value m_faultKind m_faultPlace m_qfresh m_startOne m_startOther m_latest m_leftBeats m_signed m_metMany m_qsums m_qpairs m_qgoesWith m_qsaid m_saidMany m_firstWait m_qfirstOrder m_bundleFirst m_qtiredBy m_tiredMany m_qmany m_qwidth m_qnumbers m_qmoving F1_30537 x_31116 x_31382 (by omega) (by omega) (by omega) (by omega) (by omega) (by omega) (by omega) (by omega)) (tb_V tw_1803 tw_1805 tw_71 tw_114 tw_1806) hdX12_sumFrom ⟨rfl, rfl, Nat.le_of_ble_eq_true rfl, Nat.le_of_ble_eq_true rfl⟩ ⟨Nat.le_of_ble_eq_true rfl, Nat.le_of_ble_eq_true rfl⟩ rfl rfl rfl hl.1 rfl (Nat.le_of_ble_eq_true rfl) dX12_layMatch_137 (fun r_31384 hr_31384 => ?_)
                    refine lv_iadd hx hb dX12_layMatch_140 ?_
                    refine lv_topi (fun x_31385 ex_31385 => ?_)
                    refine cpSi (rest := []) ⟨hx, hb, hml, hown, hts⟩ hKN (hP.sub (ws' := []) [] rfl) (g_J9_max_7cf53 l D cA L5_31333 x_31385) (tb_S tw_1735 tw_779 tw_115 tw_780) hdJ9_max_7cf53 ⟨rfl, rfl, Nat.le_of_ble_eq_true rfl, Nat.le_of_ble_eq_true rfl⟩ ⟨Nat.le_of_ble_eq_true rfl, Nat.le_of_ble_eq_true rfl⟩ rfl hl.1 rfl (Nat.le_of_ble_eq_true rfl) dX12_layMatch_141 (fun r_31387 hr_31387 => ?_)
                    obtain ⟨k_31387_0_0, k_31387_0_1, k_31387_0_2⟩ := hr_31387
                    refine lv_istore (lv' := [(5, .int r_31387), (7, .int L7_31333), (6, .int L6_31333), (4, .int L4_30537), (3, .int L3_23759), (2, .int (m_cworld 4)), (0, .ref h0), (1, .int p0)]) hx hb dX12_layMatch_144 hl (by decide) rfl (fun ls hl => ?_)
                    refine lv_aload_n hx hb dX12_layMatch_146 rfl (lv_at hl 6 rfl) ?_
                    refine lv_iload_n hx hb dX12_layMatch_147 rfl (lv_at hl 4 rfl) ?_
                    refine lv_iload hx hb dX12_layMatch_148 (lv_at hl 1 rfl) ?_
                    refine cpVi (rest := []) ⟨hx, hb, hml, hown, hts⟩ hKN (hP.sub (ws' := [(h0, .inr (12, [.int m_thrown, .ref m_qworld, .ref m_qimages, .ref m_qhasImage, .ref m_qtape, .int m_taped, .ref m_qfive, .int m_size, .int m_at, .int m_from, .int m_token, .int m_value, .int m_faultKind, .int m_faultPlace, .ref m_qfresh, .int m_startOne, .int m_startOther, .int m_latest, .int m_leftBeats, .int m_signed, .int m_metMany, .ref m_qsums, .ref m_qpairs, .ref m_qgoesWith, .ref m_qsaid, .int m_saidMany, .int m_firstWait, .ref m_qfirstOrder, .int m_bundleFirst, .ref m_qtiredBy, .int m_tiredMany, .ref m_qmany, .ref m_qwidth, .ref m_qnumbers, .ref m_qmoving])), (m_qworld, .inl (cA 1, 122, .inl m_cworld))]) [0, 1] rfl) (g_X12_holdOf_z l D cA h0 m_thrown m_qworld m_qimages m_qhasImage m_qtape m_taped m_qfive m_size m_at m_from m_token m_value m_faultKind m_faultPlace m_qfresh m_startOne m_startOther m_latest m_leftBeats m_signed m_metMany m_qsums m_qpairs m_qgoesWith m_qsaid m_saidMany m_firstWait m_qfirstOrder m_bundleFirst m_qtiredBy m_tiredMany m_qmany m_qwidth m_qnumbers m_qmoving m_cworld L3_23759 L7_31333 (by omega) (by omega) (by omega) (by omega) (by omega) (by omega) (by omega) (by omega) a_m_cworld_0) (tb_V tw_1700 tw_1702 tw_63 tw_114 tw_1703) hdX12_holdOf ⟨rfl, rfl, Nat.le_of_ble_eq_true rfl, Nat.le_of_ble_eq_true rfl⟩ ⟨Nat.le_of_ble_eq_true rfl, Nat.le_of_ble_eq_true rfl⟩ rfl rfl rfl hl.1 rfl (Nat.le_of_ble_eq_true rfl) dX12_layMatch_150 (fun r_31388 hr_31388 => ?_)
                    refine lv_iload_n hx hb dX12_layMatch_153 rfl (lv_at hl 7 rfl) ?_
                    refine lv_icmp_lt (tgt := 185) hx hb dX12_layMatch_154 (by decide) (fun c_31389 => ?_) (fun c_31389 => ?_)
                    · skip
                      have k_31390 := kk_lt rfl rfl c_31389
                      obtain ⟨x_31391, ex_31391⟩ : ∃ y : Int32, L7_31333 + Int32.ofInt 1 = y := ⟨_, rfl⟩
                      have k_31392 := ar_add (b := 1) rfl zi_1 ex_31391.symm (by omega) (by omega)
                      refine lv_iinc (v := x_31391) (lv' := [(7, .int x_31391), (5, .int r_31387), (6, .int L6_31333), (4, .int L4_30537), (3, .int L3_23759), (2, .int (m_cworld 4)), (0, .ref h0), (1, .int p0)]) hx hb dX12_layMatch_185 hl (k := 1) rfl ex_31391 (by decide) rfl (fun ls hl => ?_)
                      refine lv_goto (tgt := 72) hx hb dX12_layMatch_188 (by decide) ?_
                      exact ih_31333 (x_31391, L6_31333, r_31387) _ _ _ ⟨(show 0 ≤ x_31391.toInt ∧ x_31391.toInt ≤ 8 from by omega), (show 0 ≤ L6_31333.toInt ∧ L6_31333.toInt ≤ 0 from by omega), (show 0 ≤ r_31387.toInt from by omega), hP.sub [0, 1, 2, 3] rfl, hD.sub [0, 1, 2, 3] (by decide) rfl, hS, lv_sub hl [0, 2, 1, 3, 4, 5, 6, 7] rfl⟩ (by show (2147483647 - x_31391.toInt).toNat < (2147483647 - L7_31333.toInt).toNat; omega)
                    · skip
                      have k_31393 := kk_nlt rfl rfl c_31389
                      exfalso; omega
                  · skip
                    have k_31394 := kk_eq rfl zi_1 c_31376
                    refine lv_goto (tgt := 185) hx hb dX12_layMatch_114 (by decide) ?_
                    obtain ⟨x_31395, ex_31395⟩ : ∃ y : Int32, L7_31333 + Int32.ofInt 1 = y := ⟨_, rfl⟩
                    have k_31396 := ar_add (b := 1) rfl zi_1 ex_31395.symm (by omega) (by omega)
                    refine lv_iinc (v := x_31395) (lv' := [(7, .int x_31395), (6, .int L6_31333), (5, .int L5_31333), (4, .int L4_30537), (3, .int L3_23759), (2, .int (m_cworld 4)), (0, .ref h0), (1, .int p0)]) hx hb dX12_layMatch_185 hl (k := 0) rfl ex_31395 (by decide) rfl (fun ls hl => ?_)
                    refine lv_goto (tgt := 72) hx hb dX12_layMatch_188 (by decide) ?_
                    exact ih_31333 (x_31395, L6_31333, L5_31333) _ _ _ ⟨(show 0 ≤ x_31395.toInt ∧ x_31395.toInt ≤ 8 from by omega), (show 0 ≤ L6_31333.toInt ∧ L6_31333.toInt ≤ 0 from by omega), (show 0 ≤ L5_31333.toInt from by omega), hP.sub [0, 1, 2, 3] rfl, hD.sub [0, 1, 2, 3] (by decide) rfl, hS, lv_sub hl [0, 1, 2, 3, 4, 5, 6, 7] rfl⟩ (by show (2147483647 - x_31395.toInt).toNat < (2147483647 - L7_31333.toInt).toNat; omega)
        · skip
          have k_31397 := kk_eq rfl rfl c_31114
          refine lv_iconst (v := 0) hx hb dX12_layMatch_49 (by decide) ?_
          refine lv_goto (tgt := 67) hx hb dX12_layMatch_50 (by decide) ?_
          refine lv_istore (lv' := [(6, .int 0), (5, .int 0), (4, .int L4_30537), (3, .int L3_23759), (2, .int (m_cworld 4)), (0, .ref h0), (1, .int p0)]) hx hb dX12_layMatch_67 hl (by decide) rfl (fun ls hl => ?_)
          refine lv_iconst (v := 0) hx hb dX12_layMatch_69 (by decide) ?_
          refine lv_istore (lv' := [(7, .int 0), (6, .int 0), (5, .int 0), (4, .int L4_30537), (3, .int L3_23759), (2, .int (m_cworld 4)), (0, .ref h0), (1, .int p0)]) hx hb dX12_layMatch_70 hl (by decide) rfl (fun ls hl => ?_)
          refine loopW (σ := Int32 × Int32 × Int32) (fun _ => []) (fun ⟨L7_31613, L6_31613, L5_31613⟩ H locs ls => (0 ≤ L7_31613.toInt ∧ L7_31613.toInt ≤ 8) ∧ (0 ≤ L6_31613.toInt ∧ L6_31613.toInt ≤ 0) ∧ (0 ≤ L5_31613.toInt) ∧ va_P D vwCl [(h0, .inr (12, [.int m_thrown, .ref m_qworld, .ref m_qimages, .ref m_qhasImage, .ref m_qtape, .int m_taped, .ref m_qfive, .int m_size, .int m_at, .int m_from, .int m_token, .int m_value, .int m_faultKind, .int m_faultPlace, .ref m_qfresh, .int m_startOne, .int m_startOther, .int m_latest, .int m_leftBeats, .int m_signed, .int m_metMany, .ref m_qsums, .ref m_qpairs, .ref m_qgoesWith, .ref m_qsaid, .int m_saidMany, .int m_firstWait, .ref m_qfirstOrder, .int m_bundleFirst, .ref m_qtiredBy, .int m_tiredMany, .ref m_qmany, .ref m_qwidth, .ref m_qnumbers, .ref m_qmoving])), (m_qworld, .inl (cA 1, 122, .inl m_cworld)), (m_qsums, .inl (cA 1, 2304, .inl F1_30537)), (m_qpairs, .inl (cA 1, 2304, .inl F2_30537))] H ∧ va_D A [(h0, .inr (12, [.int m_thrown, .ref m_qworld, .ref m_qimages, .ref m_qhasImage, .ref m_qtape, .int m_taped, .ref m_qfive, .int m_size, .int m_at, .int m_from, .int m_token, .int m_value, .int m_faultKind, .int m_faultPlace, .ref m_qfresh, .int m_startOne, .int m_startOther, .int m_latest, .int m_leftBeats, .int m_signed, .int m_metMany, .ref m_qsums, .ref m_qpairs, .ref m_qgoesWith, .ref m_qsaid, .int m_saidMany, .int m_firstWait, .ref m_qfirstOrder, .int m_bundleFirst, .ref m_qtiredBy, .int m_tiredMany, .ref m_qmany, .ref m_qwidth, .ref m_qnumbers, .ref m_qmoving])), (m_qworld, .inl (cA 1, 122, .inl m_cworld)), (m_qsums, .inl (cA 1, 2304, .inl F1_30537)), (m_qpairs, .inl (cA 1, 2304, .inl F2_30537))] ∧ va_S A s.heap H locs ∧ lv_has ls 8 [(7, .int L7_31613), (6, .int L6_31613), (5, .int L5_31613), (4, .int L4_30537), (3, .int L3_23759), (2, .int (m_cworld 4)), (0, .ref h0), (1, .int p0)]) (fun ⟨L7_31613, L6_31613, L5_31613⟩ => (2147483647 - L7_31613.toInt).toNat) ?_ ((0, 0, 0) : Int32 × Int32 × Int32) ⟨(by decide), (by decide), (by decide), hP, hD, hS, hl⟩
          intro x_31613 H locs ls hI_31613 ih_31613
          obtain ⟨L7_31613, L6_31613, L5_31613⟩ := x_31613
          obtain ⟨k0_31613, k1_31613, k2_31613, hP, hD, hS, hl⟩ := hI_31613
          have hP : va_P D vwCl [(h0, .inr (12, [.int m_thrown, .ref m_qworld, .ref m_qimages, .ref m_qhasImage, .ref m_qtape, .int m_taped, .ref m_qfive, .int m_size, .int m_at, .int m_from, .int m_token, .int m_value, .int m_faultKind, .int m_faultPlace, .ref m_qfresh, .int m_startOne, .int m_startOther, .int m_latest, .int m_leftBeats, .int m_signed, .int m_metMany, .ref m_qsums, .ref m_qpairs, .ref m_qgoesWith, .ref m_qsaid, .int m_saidMany, .int m_firstWait, .ref m_qfirstOrder, .int m_bundleFirst, .ref m_qtiredBy, .int m_tiredMany, .ref m_qmany, .ref m_qwidth, .ref m_qnumbers, .ref m_qmoving])), (m_qworld, .inl (cA 1, 122, .inl m_cworld)), (m_qsums, .inl (cA 1, 2304, .inl F1_30537)), (m_qpairs, .inl (cA 1, 2304, .inl F2_30537))] H := hP
          have hD : va_D A [(h0, .inr (12, [.int m_thrown, .ref m_qworld, .ref m_qimages, .ref m_qhasImage, .ref m_qtape, .int m_taped, .ref m_qfive, .int m_size, .int m_at, .int m_from, .int m_token, .int m_value, .int m_faultKind, .int m_faultPlace, .ref m_qfresh, .int m_startOne, .int m_startOther, .int m_latest, .int m_leftBeats, .int m_signed, .int m_metMany, .ref m_qsums, .ref m_qpairs, .ref m_qgoesWith, .ref m_qsaid, .int m_saidMany, .int m_firstWait, .ref m_qfirstOrder, .int m_bundleFirst, .ref m_qtiredBy, .int m_tiredMany, .ref m_qmany, .ref m_qwidth, .ref m_qnumbers, .ref m_qmoving])), (m_qworld, .inl (cA 1, 122, .inl m_cworld)), (m_qsums, .inl (cA 1, 2304, .inl F1_30537)), (m_qpairs, .inl (cA 1, 2304, .inl F2_30537))] := hD
          have hl : lv_has ls 8 [(7, .int L7_31613), (6, .int L6_31613), (5, .int L5_31613), (4, .int L4_30537), (3, .int L3_23759), (2, .int (m_cworld 4)), (0, .ref h0), (1, .int p0)] := hl
          refine lv_iload hx hb dX12_layMatch_72 (lv_at hl 0 rfl) ?_
          refine lv_iload_n hx hb dX12_layMatch_74 rfl (lv_at hl 5 rfl) ?_
          refine lv_icmp_ge (tgt := 191) hx hb dX12_layMatch_75 (by decide) (fun c_31614 => ?_) (fun c_31614 => ?_)
          · skip
            have k_31615 := kk_le rfl rfl c_31614
            refine lv_aload_n hx hb dX12_layMatch_191 rfl (lv_at hl 6 rfl) ?_
            refine va_get (D := D) (ci := 12) (v := .ref m_qsums) (C := RX12) (T := TX12) (N := 35) hx hb hts inX12 hown hKN.1 hP 0 rfl rfl 21 (by decide) (hts _ tw_1440) (fun _ h9 => h9) rfl dX12_layMatch_192 ?_
            refine lv_iload_n hx hb dX12_layMatch_195 rfl (lv_at hl 4 rfl) ?_
            refine lv_bipush (v := 8) hx hb dX12_layMatch_196 (by decide) ?_
            refine lv_ishl hx hb dX12_layMatch_198 ?_
            refine lv_topi (fun x_31616 ex_31616 => ?_)
            have k_31617 := ar_shl8 ex_31616 (by omega) (by omega)
            refine lv_iload hx hb dX12_layMatch_199 (lv_at hl 3 rfl) ?_
            refine lv_ior hx hb dX12_layMatch_201 ?_
            refine lv_topi (fun x_31618 ex_31618 => ?_)
            have k_31619 := ar_or8 rfl rfl ex_31618 (by omega) (by omega) (by omega)
            refine lv_iload hx hb dX12_layMatch_202 (lv_at hl 2 rfl) ?_
            refine va_iast hx hb hKN.1 hP hD hS 2 1 rfl rfl (vp_in_iff.mpr ⟨by omega, by omega⟩) dX12_layMatch_204 (fun H locs hP hD hS => ?_)
            have hP : va_P D vwCl [(h0, .inr (12, [.int m_thrown, .ref m_qworld, .ref m_qimages, .ref m_qhasImage, .ref m_qtape, .int m_taped, .ref m_qfive, .int m_size, .int m_at, .int m_from, .int m_token, .int m_value, .int m_faultKind, .int m_faultPlace, .ref m_qfresh, .int m_startOne, .int m_startOther, .int m_latest, .int m_leftBeats, .int m_signed, .int m_metMany, .ref m_qsums, .ref m_qpairs, .ref m_qgoesWith, .ref m_qsaid, .int m_saidMany, .int m_firstWait, .ref m_qfirstOrder, .int m_bundleFirst, .ref m_qtiredBy, .int m_tiredMany, .ref m_qmany, .ref m_qwidth, .ref m_qnumbers, .ref m_qmoving])), (m_qworld, .inl (cA 1, 122, .inl m_cworld)), (m_qsums, .inl (cA 1, 2304, .inl (upd F1_30537 x_31618.toNatClampNeg L5_31613))), (m_qpairs, .inl (cA 1, 2304, .inl F2_30537))] H := hP
            have hD : va_D A [(h0, .inr (12, [.int m_thrown, .ref m_qworld, .ref m_qimages, .ref m_qhasImage, .ref m_qtape, .int m_taped, .ref m_qfive, .int m_size, .int m_at, .int m_from, .int m_token, .int m_value, .int m_faultKind, .int m_faultPlace, .ref m_qfresh, .int m_startOne, .int m_startOther, .int m_latest, .int m_leftBeats, .int m_signed, .int m_metMany, .ref m_qsums, .ref m_qpairs, .ref m_qgoesWith, .ref m_qsaid, .int m_saidMany, .int m_firstWait, .ref m_qfirstOrder, .int m_bundleFirst, .ref m_qtiredBy, .int m_tiredMany, .ref m_qmany, .ref m_qwidth, .ref m_qnumbers, .ref m_qmoving])), (m_qworld, .inl (cA 1, 122, .inl m_cworld)), (m_qsums, .inl (cA 1, 2304, .inl (upd F1_30537 x_31618.toNatClampNeg L5_31613))), (m_qpairs, .inl (cA 1, 2304, .inl F2_30537))] := hD
            generalize ef_31620 : (upd F1_30537 x_31618.toNatClampNeg L5_31613) = f_31620 at hP hD
            refine lv_aload_n hx hb dX12_layMatch_205 rfl (lv_at hl 6 rfl) ?_
            refine va_get (D := D) (ci := 12) (v := .ref m_qpairs) (C := RX12) (T := TX12) (N := 35) hx hb hts inX12 hown hKN.1 hP 0 rfl rfl 22 (by decide) (hts _ tw_1441) (fun _ h9 => h9) rfl dX12_layMatch_206 ?_
            refine lv_iload_n hx hb dX12_layMatch_209 rfl (lv_at hl 4 rfl) ?_
            refine lv_bipush (v := 8) hx hb dX12_layMatch_210 (by decide) ?_
            refine lv_ishl hx hb dX12_layMatch_212 ?_
            refine lv_topi (fun x_31621 ex_31621 => ?_)
            obtain rfl : x_31616 = x_31621 := ex_31616.trans ex_31621.symm
            refine lv_iload hx hb dX12_layMatch_213 (lv_at hl 3 rfl) ?_
            refine lv_ior hx hb dX12_layMatch_215 ?_
            refine lv_topi (fun x_31622 ex_31622 => ?_)
            obtain rfl : x_31618 = x_31622 := ex_31618.trans ex_31622.symm
            refine lv_iload hx hb dX12_layMatch_216 (lv_at hl 1 rfl) ?_
            refine va_iast hx hb hKN.1 hP hD hS 3 1 rfl rfl (vp_in_iff.mpr ⟨by omega, by omega⟩) dX12_layMatch_218 (fun H locs hP hD hS => ?_)
            have hP : va_P D vwCl [(h0, .inr (12, [.int m_thrown, .ref m_qworld, .ref m_qimages, .ref m_qhasImage, .ref m_qtape, .int m_taped, .ref m_qfive, .int m_size, .int m_at, .int m_from, .int m_token, .int m_value, .int m_faultKind, .int m_faultPlace, .ref m_qfresh, .int m_startOne, .int m_startOther, .int m_latest, .int m_leftBeats, .int m_signed, .int m_metMany, .ref m_qsums, .ref m_qpairs, .ref m_qgoesWith, .ref m_qsaid, .int m_saidMany, .int m_firstWait, .ref m_qfirstOrder, .int m_bundleFirst, .ref m_qtiredBy, .int m_tiredMany, .ref m_qmany, .ref m_qwidth, .ref m_qnumbers, .ref m_qmoving])), (m_qworld, .inl (cA 1, 122, .inl m_cworld)), (m_qsums, .inl (cA 1, 2304, .inl f_31620)), (m_qpairs, .inl (cA 1, 2304, .inl (upd F2_30537 x_31618.toNatClampNeg L6_31613)))] H := hP
            have hD : va_D A [(h0, .inr (12, [.int m_thrown, .ref m_qworld, .ref m_qimages, .ref m_qhasImage, .ref m_qtape, .int m_taped, .ref m_qfive, .int m_size, .int m_at, .int m_from, .int m_token, .int m_value, .int m_faultKind, .int m_faultPlace, .ref m_qfresh, .int m_startOne, .int m_startOther, .int m_latest, .int m_leftBeats, .int m_signed, .int m_metMany, .ref m_qsums, .ref m_qpairs, .ref m_qgoesWith, .ref m_qsaid, .int m_saidMany, .int m_firstWait, .ref m_qfirstOrder, .int m_bundleFirst, .ref m_qtiredBy, .int m_tiredMany, .ref m_qmany, .ref m_qwidth, .ref m_qnumbers, .ref m_qmoving])), (m_qworld, .inl (cA 1, 122, .inl m_cworld)), (m_qsums, .inl (cA 1, 2304, .inl f_31620)), (m_qpairs, .inl (cA 1, 2304, .inl (upd F2_30537 x_31618.toNatClampNeg L6_31613)))] := hD
            generalize ef_31623 : (upd F2_30537 x_31618.toNatClampNeg L6_31613) = f_31623 at hP hD
            obtain ⟨x_31624, ex_31624⟩ : ∃ y : Int32, L4_30537 + Int32.ofInt 1 = y := ⟨_, rfl⟩
            have k_31625 := ar_add (b := 1) rfl zi_1 ex_31624.symm (by omega) (by omega)
            refine lv_iinc (v := x_31624) (lv' := [(4, .int x_31624), (7, .int L7_31613), (6, .int L6_31613), (5, .int L5_31613), (3, .int L3_23759), (2, .int (m_cworld 4)), (0, .ref h0), (1, .int p0)]) hx hb dX12_layMatch_219 hl (k := 3) rfl ex_31624 (by decide) rfl (fun ls hl => ?_)
            refine lv_goto (tgt := 16) hx hb dX12_layMatch_222 (by decide) ?_
            have hb_31626 : ZQ f_31623 L3_23759.toInt x_31624.toInt (m_cworld 4).toInt.toNat := by
              have kc : x_31618.toNatClampNeg = x_31618.toInt.toNat := rfl
              rw [← ef_31623]; exact ZQ.step k1_30537 (by omega) (by omega) (by omega)
            exact ih_30537 (x_31624, f_31620, f_31623) _ _ _ ⟨(show 0 ≤ x_31624.toInt ∧ x_31624.toInt ≤ 256 from by omega), hb_31626, hP.sub [0, 1, 2, 3] rfl, hD.sub [0, 1, 2, 3] (by decide) rfl, hS, lv_sub hl [0, 4, 5, 6, 7] rfl⟩ (by show (2147483647 - x_31624.toInt).toNat < (2147483647 - L4_30537.toInt).toNat; omega)
          · skip
            have k_31627 := kk_nle rfl rfl c_31614
            refine lv_iload_n hx hb dX12_layMatch_78 rfl (lv_at hl 4 rfl) ?_
            refine lv_iload_n hx hb dX12_layMatch_79 rfl (lv_at hl 5 rfl) ?_
            refine lv_icmp_ge (tgt := 191) hx hb dX12_layMatch_80 (by decide) (fun c_31628 => ?_) (fun c_31628 => ?_)
            · skip
              have k_31629 := kk_le rfl rfl c_31628
              refine lv_aload_n hx hb dX12_layMatch_191 rfl (lv_at hl 6 rfl) ?_
              refine va_get (D := D) (ci := 12) (v := .ref m_qsums) (C := RX12) (T := TX12) (N := 35) hx hb hts inX12 hown hKN.1 hP 0 rfl rfl 21 (by decide) (hts _ tw_1440) (fun _ h9 => h9) rfl dX12_layMatch_192 ?_
              refine lv_iload_n hx hb dX12_layMatch_195 rfl (lv_at hl 4 rfl) ?_
              refine lv_bipush (v := 8) hx hb dX12_layMatch_196 (by decide) ?_
              refine lv_ishl hx hb dX12_layMatch_198 ?_
              refine lv_topi (fun x_31630 ex_31630 => ?_)
              have k_31631 := ar_shl8 ex_31630 (by omega) (by omega)
              refine lv_iload hx hb dX12_layMatch_199 (lv_at hl 3 rfl) ?_
              refine lv_ior hx hb dX12_layMatch_201 ?_
              refine lv_topi (fun x_31632 ex_31632 => ?_)
              have k_31633 := ar_or8 rfl rfl ex_31632 (by omega) (by omega) (by omega)
              refine lv_iload hx hb dX12_layMatch_202 (lv_at hl 2 rfl) ?_
              refine va_iast hx hb hKN.1 hP hD hS 2 1 rfl rfl (vp_in_iff.mpr ⟨by omega, by omega⟩) dX12_layMatch_204 (fun H locs hP hD hS => ?_)
              have hP : va_P D vwCl [(h0, .inr (12, [.int m_thrown, .ref m_qworld, .ref m_qimages, .ref m_qhasImage, .ref m_qtape, .int m_taped, .ref m_qfive, .int m_size, .int m_at, .int m_from, .int m_token, .int m_value, .int m_faultKind, .int m_faultPlace, .ref m_qfresh, .int m_startOne, .int m_startOther, .int m_latest, .int m_leftBeats, .int m_signed, .int m_metMany, .ref m_qsums, .ref m_qpairs, .ref m_qgoesWith, .ref m_qsaid, .int m_saidMany, .int m_firstWait, .ref m_qfirstOrder, .int m_bundleFirst, .ref m_qtiredBy, .int m_tiredMany, .ref m_qmany, .ref m_qwidth, .ref m_qnumbers, .ref m_qmoving])), (m_qworld, .inl (cA 1, 122, .inl m_cworld)), (m_qsums, .inl (cA 1, 2304, .inl (upd F1_30537 x_31632.toNatClampNeg L5_31613))), (m_qpairs, .inl (cA 1, 2304, .inl F2_30537))] H := hP
              have hD : va_D A [(h0, .inr (12, [.int m_thrown, .ref m_qworld, .ref m_qimages, .ref m_qhasImage, .ref m_qtape, .int m_taped, .ref m_qfive, .int m_size, .int m_at, .int m_from, .int m_token, .int m_value, .int m_faultKind, .int m_faultPlace, .ref m_qfresh, .int m_startOne, .int m_startOther, .int m_latest, .int m_leftBeats, .int m_signed, .int m_metMany, .ref m_qsums, .ref m_qpairs, .ref m_qgoesWith, .ref m_qsaid, .int m_saidMany, .int m_firstWait, .ref m_qfirstOrder, .int m_bundleFirst, .ref m_qtiredBy, .int m_tiredMany, .ref m_qmany, .ref m_qwidth, .ref m_qnumbers, .ref m_qmoving])), (m_qworld, .inl (cA 1, 122, .inl m_cworld)), (m_qsums, .inl (cA 1, 2304, .inl (upd F1_30537 x_31632.toNatClampNeg L5_31613))), (m_qpairs, .inl (cA 1, 2304, .inl F2_30537))] := hD
              generalize ef_31634 : (upd F1_30537 x_31632.toNatClampNeg L5_31613) = f_31634 at hP hD
              refine lv_aload_n hx hb dX12_layMatch_205 rfl (lv_at hl 6 rfl) ?_
              refine va_get (D := D) (ci := 12) (v := .ref m_qpairs) (C := RX12) (T := TX12) (N := 35) hx hb hts inX12 hown hKN.1 hP 0 rfl rfl 22 (by decide) (hts _ tw_1441) (fun _ h9 => h9) rfl dX12_layMatch_206 ?_
              refine lv_iload_n hx hb dX12_layMatch_209 rfl (lv_at hl 4 rfl) ?_
              refine lv_bipush (v := 8) hx hb dX12_layMatch_210 (by decide) ?_
              refine lv_ishl hx hb dX12_layMatch_212 ?_
              refine lv_topi (fun x_31635 ex_31635 => ?_)
              obtain rfl : x_31630 = x_31635 := ex_31630.trans ex_31635.symm
              refine lv_iload hx hb dX12_layMatch_213 (lv_at hl 3 rfl) ?_
              refine lv_ior hx hb dX12_layMatch_215 ?_
              refine lv_topi (fun x_31636 ex_31636 => ?_)
              obtain rfl : x_31632 = x_31636 := ex_31632.trans ex_31636.symm
              refine lv_iload hx hb dX12_layMatch_216 (lv_at hl 1 rfl) ?_
              refine va_iast hx hb hKN.1 hP hD hS 3 1 rfl rfl (vp_in_iff.mpr ⟨by omega, by omega⟩) dX12_layMatch_218 (fun H locs hP hD hS => ?_)
              have hP : va_P D vwCl [(h0, .inr (12, [.int m_thrown, .ref m_qworld, .ref m_qimages, .ref m_qhasImage, .ref m_qtape, .int m_taped, .ref m_qfive, .int m_size, .int m_at, .int m_from, .int m_token, .int m_value, .int m_faultKind, .int m_faultPlace, .ref m_qfresh, .int m_startOne, .int m_startOther, .int m_latest, .int m_leftBeats, .int m_signed, .int m_metMany, .ref m_qsums, .ref m_qpairs, .ref m_qgoesWith, .ref m_qsaid, .int m_saidMany, .int m_firstWait, .ref m_qfirstOrder, .int m_bundleFirst, .ref m_qtiredBy, .int m_tiredMany, .ref m_qmany, .ref m_qwidth, .ref m_qnumbers, .ref m_qmoving])), (m_qworld, .inl (cA 1, 122, .inl m_cworld)), (m_qsums, .inl (cA 1, 2304, .inl f_31634)), (m_qpairs, .inl (cA 1, 2304, .inl (upd F2_30537 x_31632.toNatClampNeg L6_31613)))] H := hP
              have hD : va_D A [(h0, .inr (12, [.int m_thrown, .ref m_qworld, .ref m_qimages, .ref m_qhasImage, .ref m_qtape, .int m_taped, .ref m_qfive, .int m_size, .int m_at, .int m_from, .int m_token, .int m_value, .int m_faultKind, .int m_faultPlace, .ref m_qfresh, .int m_startOne, .int m_startOther, .int m_latest, .int m_leftBeats, .int m_signed, .int m_metMany, .ref m_qsums, .ref m_qpairs, .ref m_qgoesWith, .ref m_qsaid, .int m_saidMany, .int m_firstWait, .ref m_qfirstOrder, .int m_bundleFirst, .ref m_qtiredBy, .int m_tiredMany, .ref m_qmany, .ref m_qwidth, .ref m_qnumbers, .ref m_qmoving])), (m_qworld, .inl (cA 1, 122, .inl m_cworld)), (m_qsums, .inl (cA 1, 2304, .inl f_31634)), (m_qpairs, .inl (cA 1, 2304, .inl (upd F2_30537 x_31632.toNatClampNeg L6_31613)))] := hD
              generalize ef_31637 : (upd F2_30537 x_31632.toNatClampNeg L6_31613) = f_31637 at hP hD
              obtain ⟨x_31638, ex_31638⟩ : ∃ y : Int32, L4_30537 + Int32.ofInt 1 = y := ⟨_, rfl⟩
              have k_31639 := ar_add (b := 1) rfl zi_1 ex_31638.symm (by omega) (by omega)
              refine lv_iinc (v := x_31638) (lv' := [(4, .int x_31638), (7, .int L7_31613), (6, .int L6_31613), (5, .int L5_31613), (3, .int L3_23759), (2, .int (m_cworld 4)), (0, .ref h0), (1, .int p0)]) hx hb dX12_layMatch_219 hl (k := 3) rfl ex_31638 (by decide) rfl (fun ls hl => ?_)
              refine lv_goto (tgt := 16) hx hb dX12_layMatch_222 (by decide) ?_
              have hb_31640 : ZQ f_31637 L3_23759.toInt x_31638.toInt (m_cworld 4).toInt.toNat := by
                have kc : x_31632.toNatClampNeg = x_31632.toInt.toNat := rfl
                rw [← ef_31637]; exact ZQ.step k1_30537 (by omega) (by omega) (by omega)
              exact ih_30537 (x_31638, f_31634, f_31637) _ _ _ ⟨(show 0 ≤ x_31638.toInt ∧ x_31638.toInt ≤ 256 from by omega), hb_31640, hP.sub [0, 1, 2, 3] rfl, hD.sub [0, 1, 2, 3] (by decide) rfl, hS, lv_sub hl [0, 4, 5, 6, 7] rfl⟩ (by show (2147483647 - x_31638.toInt).toNat < (2147483647 - L4_30537.toInt).toNat; omega)
            · skip
              have k_31641 := kk_nle rfl rfl c_31628
              refine lv_aload_n hx hb dX12_layMatch_83 rfl (lv_at hl 6 rfl) ?_
              refine lv_iload_n hx hb dX12_layMatch_84 rfl (lv_at hl 4 rfl) ?_
              refine lv_iconst (v := 0) hx hb dX12_layMatch_85 (by decide) ?_
              have z_31642 := zi_0
              refine cpVi (rest := []) ⟨hx, hb, hml, hown, hts⟩ hKN (hP.sub (ws' := [(h0, .inr (12, [.int m_thrown, .ref m_qworld, .ref m_qimages, .ref m_qhasImage, .ref m_qtape, .int m_taped, .ref m_qfive, .int m_size, .int m_at, .int m_from, .int m_token, .int m_value, .int m_faultKind, .int m_faultPlace, .ref m_qfresh, .int m_startOne, .int m_startOther, .int m_latest, .int m_leftBeats, .int m_signed, .int m_metMany, .ref m_qsums, .ref m_qpairs, .ref m_qgoesWith, .ref m_qsaid, .int m_saidMany, .int m_firstWait, .ref m_qfirstOrder, .int m_bundleFirst, .ref m_qtiredBy, .int m_tiredMany, .ref m_qmany, .ref m_qwidth, .ref m_qnumbers, .ref m_qmoving])), (m_qworld, .inl (cA 1, 122, .inl m_cworld))]) [0, 1] rfl) (g_X12_of l D cA h0 m_thrown m_qworld m_qimages m_qhasImage m_qtape m_taped m_qfive m_size m_at m_from m_token m_value m_faultKind m_faultPlace m_qfresh m_startOne m_startOther m_latest m_leftBeats m_signed m_metMany m_qsums m_qpairs m_qgoesWith m_qsaid m_saidMany m_firstWait m_qfirstOrder m_bundleFirst m_qtiredBy m_tiredMany m_qmany m_qwidth m_qnumbers m_qmoving m_cworld L3_23759 0 (by omega) (by omega) (by omega) (by omega) (by omega) (by omega) (by omega) (by decide) a_m_cworld_0) (tb_V tw_1640 tw_1642 tw_50 tw_114 tw_1643) hdX12_of ⟨rfl, rfl, Nat.le_of_ble_eq_true rfl, Nat.le_of_ble_eq_true rfl⟩ ⟨Nat.le_of_ble_eq_true rfl, Nat.le_of_ble_eq_true rfl⟩ rfl rfl rfl hl.1 rfl (Nat.le_of_ble_eq_true rfl) dX12_layMatch_86 (fun r_31643 hr_31643 => ?_)
              obtain ⟨k_31643_0_0, k_31643_0_1⟩ := hr_31643
              refine lv_if_ne (tgt := 185) hx hb dX12_layMatch_89 (by decide) (fun c_31644 => ?_) (fun c_31644 => ?_)
              · skip
                have k_31645 := kk_ne rfl zi_0 c_31644
                obtain ⟨x_31646, ex_31646⟩ : ∃ y : Int32, L7_31613 + Int32.ofInt 1 = y := ⟨_, rfl⟩
                have k_31647 := ar_add (b := 1) rfl zi_1 ex_31646.symm (by omega) (by omega)
                refine lv_iinc (v := x_31646) (lv' := [(7, .int x_31646), (6, .int L6_31613), (5, .int L5_31613), (4, .int L4_30537), (3, .int L3_23759), (2, .int (m_cworld 4)), (0, .ref h0), (1, .int p0)]) hx hb dX12_layMatch_185 hl (k := 0) rfl ex_31646 (by decide) rfl (fun ls hl => ?_)
                refine lv_goto (tgt := 72) hx hb dX12_layMatch_188 (by decide) ?_
                exact ih_31613 (x_31646, L6_31613, L5_31613) _ _ _ ⟨(show 0 ≤ x_31646.toInt ∧ x_31646.toInt ≤ 8 from by omega), (show 0 ≤ L6_31613.toInt ∧ L6_31613.toInt ≤ 0 from by omega), (show 0 ≤ L5_31613.toInt from by omega), hP.sub [0, 1, 2, 3] rfl, hD.sub [0, 1, 2, 3] (by decide) rfl, hS, lv_sub hl [0, 1, 2, 3, 4, 5, 6, 7] rfl⟩ (by show (2147483647 - x_31646.toInt).toNat < (2147483647 - L7_31613.toInt).toNat; omega)
              · skip
                have k_31648 := kk_eq rfl zi_0 c_31644
                refine lv_aload_n hx hb dX12_layMatch_92 rfl (lv_at hl 6 rfl) ?_
                refine lv_iload hx hb dX12_layMatch_93 (lv_at hl 0 rfl) ?_
                refine lv_iconst (v := 0) hx hb dX12_layMatch_95 (by decide) ?_
                refine cpVi (rest := []) ⟨hx, hb, hml, hown, hts⟩ hKN (hP.sub (ws' := [(h0, .inr (12, [.int m_thrown, .ref m_qworld, .ref m_qimages, .ref m_qhasImage, .ref m_qtape, .int m_taped, .ref m_qfive, .int m_size, .int m_at, .int m_from, .int m_token, .int m_value, .int m_faultKind, .int m_faultPlace, .ref m_qfresh, .int m_startOne, .int m_startOther, .int m_latest, .int m_leftBeats, .int m_signed, .int m_metMany, .ref m_qsums, .ref m_qpairs, .ref m_qgoesWith, .ref m_qsaid, .int m_saidMany, .int m_firstWait, .ref m_qfirstOrder, .int m_bundleFirst, .ref m_qtiredBy, .int m_tiredMany, .ref m_qmany, .ref m_qwidth, .ref m_qnumbers, .ref m_qmoving])), (m_qworld, .inl (cA 1, 122, .inl m_cworld))]) [0, 1] rfl) (g_X12_of l D cA h0 m_thrown m_qworld m_qimages m_qhasImage m_qtape m_taped m_qfive m_size m_at m_from m_token m_value m_faultKind m_faultPlace m_qfresh m_startOne m_startOther m_latest m_leftBeats m_signed m_metMany m_qsums m_qpairs m_qgoesWith m_qsaid m_saidMany m_firstWait m_qfirstOrder m_bundleFirst m_qtiredBy m_tiredMany m_qmany m_qwidth m_qnumbers m_qmoving m_cworld L7_31613 0 (by omega) (by omega) (by omega) (by omega) (by omega) (by omega) (by omega) (by decide) a_m_cworld_0) (tb_V tw_1640 tw_1642 tw_50 tw_114 tw_1643) hdX12_of ⟨rfl, rfl, Nat.le_of_ble_eq_true rfl, Nat.le_of_ble_eq_true rfl⟩ ⟨Nat.le_of_ble_eq_true rfl, Nat.le_of_ble_eq_true rfl⟩ rfl rfl rfl hl.1 rfl (Nat.le_of_ble_eq_true rfl) dX12_layMatch_96 (fun r_31649 hr_31649 => ?_)
                obtain ⟨k_31649_0_0, k_31649_0_1⟩ := hr_31649
                refine lv_iconst (v := 1) hx hb dX12_layMatch_99 (by decide) ?_
                refine lv_icmp_ne (tgt := 185) hx hb dX12_layMatch_100 (by decide) (fun c_31650 => ?_) (fun c_31650 => ?_)
                · skip
                  have k_31651 := kk_ne rfl zi_1 c_31650
                  obtain ⟨x_31652, ex_31652⟩ : ∃ y : Int32, L7_31613 + Int32.ofInt 1 = y := ⟨_, rfl⟩
                  have k_31653 := ar_add (b := 1) rfl zi_1 ex_31652.symm (by omega) (by omega)
                  refine lv_iinc (v := x_31652) (lv' := [(7, .int x_31652), (6, .int L6_31613), (5, .int L5_31613), (4, .int L4_30537), (3, .int L3_23759), (2, .int (m_cworld 4)), (0, .ref h0), (1, .int p0)]) hx hb dX12_layMatch_185 hl (k := 0) rfl ex_31652 (by decide) rfl (fun ls hl => ?_)
                  refine lv_goto (tgt := 72) hx hb dX12_layMatch_188 (by decide) ?_
                  exact ih_31613 (x_31652, L6_31613, L5_31613) _ _ _ ⟨(show 0 ≤ x_31652.toInt ∧ x_31652.toInt ≤ 8 from by omega), (show 0 ≤ L6_31613.toInt ∧ L6_31613.toInt ≤ 0 from by omega), (show 0 ≤ L5_31613.toInt from by omega), hP.sub [0, 1, 2, 3] rfl, hD.sub [0, 1, 2, 3] (by decide) rfl, hS, lv_sub hl [0, 1, 2, 3, 4, 5, 6, 7] rfl⟩ (by show (2147483647 - x_31652.toInt).toNat < (2147483647 - L7_31613.toInt).toNat; omega)
                · skip
                  have k_31654 := kk_eq rfl zi_1 c_31650
                  refine lv_iload hx hb dX12_layMatch_103 (lv_at hl 3 rfl) ?_
                  refine lv_iload hx hb dX12_layMatch_105 (lv_at hl 0 rfl) ?_
                  refine cpSi (rest := []) ⟨hx, hb, hml, hown, hts⟩ hKN (hP.sub (ws' := []) [] rfl) (g_X12_bit l D cA L4_30537 L7_31613) (tb_S tw_1807 tw_1808 tw_114 tw_1809) hdX12_bit ⟨rfl, rfl, Nat.le_of_ble_eq_true rfl, Nat.le_of_ble_eq_true rfl⟩ ⟨Nat.le_of_ble_eq_true rfl, Nat.le_of_ble_eq_true rfl⟩ rfl hl.1 rfl (Nat.le_of_ble_eq_true rfl) dX12_layMatch_107 (fun r_31655 hr_31655 => ?_)
                  refine lv_iconst (v := 1) hx hb dX12_layMatch_110 (by decide) ?_
                  refine lv_icmp_ne (tgt := 117) hx hb dX12_layMatch_111 (by decide) (fun c_31656 => ?_) (fun c_31656 => ?_)
                  · skip
                    have k_31657 := kk_ne rfl zi_1 c_31656
                    refine lv_iload hx hb dX12_layMatch_117 (lv_at hl 2 rfl) ?_
                    refine lv_aload_n hx hb dX12_layMatch_119 rfl (lv_at hl 6 rfl) ?_
                    refine lv_iload_n hx hb dX12_layMatch_120 rfl (lv_at hl 4 rfl) ?_
                    refine lv_iload hx hb dX12_layMatch_121 (lv_at hl 0 rfl) ?_
                    refine cpVi (rest := [.int L5_31613]) ⟨hx, hb, hml, hown, hts⟩ hKN (hP.sub (ws' := [(h0, .inr (12, [.int m_thrown, .ref m_qworld, .ref m_qimages, .ref m_qhasImage, .ref m_qtape, .int m_taped, .ref m_qfive, .int m_size, .int m_at, .int m_from, .int m_token, .int m_value, .int m_faultKind, .int m_faultPlace, .ref m_qfresh, .int m_startOne, .int m_startOther, .int m_latest, .int m_leftBeats, .int m_signed, .int m_metMany, .ref m_qsums, .ref m_qpairs, .ref m_qgoesWith, .ref m_qsaid, .int m_saidMany, .int m_firstWait, .ref m_qfirstOrder, .int m_bundleFirst, .ref m_qtiredBy, .int m_tiredMany, .ref m_qmany, .ref m_qwidth, .ref m_qnumbers, .ref m_qmoving])), (m_qworld, .inl (cA 1, 122, .inl m_cworld))]) [0, 1] rfl) (g_X12_holdOf_z l D cA h0 m_thrown m_qworld m_qimages m_qhasImage m_qtape m_taped m_qfive m_size m_at m_from m_token m_value m_faultKind m_faultPlace m_qfresh m_startOne m_startOther m_latest m_leftBeats m_signed m_metMany m_qsums m_qpairs m_qgoesWith m_qsaid m_saidMany m_firstWait m_qfirstOrder m_bundleFirst m_qtiredBy m_tiredMany m_qmany m_qwidth m_qnumbers m_qmoving m_cworld L3_23759 L7_31613 (by omega) (by omega) (by omega) (by omega) (by omega) (by omega) (by omega) (by omega) a_m_cworld_0) (tb_V tw_1700 tw_1702 tw_63 tw_114 tw_1703) hdX12_holdOf ⟨rfl, rfl, Nat.le_of_ble_eq_true rfl, Nat.le_of_ble_eq_true rfl⟩ ⟨Nat.le_of_ble_eq_true rfl, Nat.le_of_ble_eq_true rfl⟩ rfl rfl rfl hl.1 rfl (Nat.le_of_ble_eq_true rfl) dX12_layMatch_123 (fun r_31658 hr_31658 => ?_)
                    refine lv_aload_n hx hb dX12_layMatch_126 rfl (lv_at hl 6 rfl) ?_
                    refine lv_iload_n hx hb dX12_layMatch_127 rfl (lv_at hl 4 rfl) ?_
                    refine lv_iconst (v := 1) hx hb dX12_layMatch_128 (by decide) ?_
                    refine lv_iadd hx hb dX12_layMatch_129 ?_
                    refine lv_topi (fun x_31659 ex_31659 => ?_)
                    have k_31660 := ar_add rfl zi_1 ex_31659 (by omega) (by omega)
                    refine lv_iload hx hb dX12_layMatch_130 (lv_at hl 3 rfl) ?_
                    refine lv_iconst (v := 1) hx hb dX12_layMatch_132 (by decide) ?_
                    refine lv_iload hx hb dX12_layMatch_133 (lv_at hl 0 rfl) ?_
                    refine lv_ishl hx hb dX12_layMatch_135 ?_
                    refine lv_topi (fun x_31661 ex_31661 => ?_)
                    have k_31662 := ar_shl1 ex_31661 (by omega) (by omega)
                    refine lv_ior hx hb dX12_layMatch_136 ?_
                    refine lv_topi (fun x_31663 ex_31663 => ?_)
                    have k_31664 := ar_or (n := 8) (M := 256) rfl rfl ex_31663 (by decide) (by decide) (by omega) (by omega)
                    refine cpVi (rest := [.int r_31658, .int L5_31613]) ⟨hx, hb, hml, hown, hts⟩ hKN (hP.sub (ws' := [(h0, .inr (12, [.int m_thrown, .ref m_qworld, .ref m_qimages, .ref m_qhasImage, .ref m_qtape, .int m_taped, .ref m_qfive, .int m_size, .int m_at, .int m_from, .int m_token, .int m_value, .int m_faultKind, .int m_faultPlace, .ref m_qfresh, .int m_startOne, .int m_startOther, .int m_latest, .int m_leftBeats, .int m_signed, .int m_metMany, .ref m_qsums, .ref m_qpairs, .ref m_qgoesWith, .ref m_qsaid, .int m_saidMany, .int m_firstWait, .ref m_qfirstOrder, .int m_bundleFirst, .ref m_qtiredBy, .int m_tiredMany, .ref m_qmany, .ref m_qwidth, .ref m_qnumbers, .ref m_qmoving])), (m_qsums, .inl (cA 1, 2304, .inl F1_30537))]) [0, 2] rfl) (g_X12_sumFrom l D cA h0 m_thrown m_qworld m_qimages m_qhasImage m_qtape m_taped m_qfive m_size m_at m_from m_token m_value m_faultKind m_faultPlace m_qfresh m_startOne m_startOther m_latest m_leftBeats m_signed m_metMany m_qsums m_qpairs m_qgoesWith m_qsaid m_saidMany m_firstWait m_qfirstOrder m_bundleFirst m_qtiredBy m_tiredMany m_qmany m_qwidth m_qnumbers m_qmoving F1_30537 x_31659 x_31663 (by omega) (by omega) (by omega) (by omega) (by omega) (by omega) (by omega) (by omega)) (tb_V tw_1803 tw_1805 tw_71 tw_114 tw_1806) hdX12_sumFrom ⟨rfl, rfl, Nat.le_of_ble_eq_true rfl, Nat.le_of_ble_eq_true rfl⟩ ⟨Nat.le_of_ble_eq_true rfl, Nat.le_of_ble_eq_true rfl⟩ rfl rfl rfl hl.1 rfl (Nat.le_of_ble_eq_true rfl) dX12_layMatch_137 (fun r_31665 hr_31665 => ?_)
                    refine lv_iadd hx hb dX12_layMatch_140 ?_
                    refine lv_topi (fun x_31666 ex_31666 => ?_)
                    refine cpSi (rest := []) ⟨hx, hb, hml, hown, hts⟩ hKN (hP.sub (ws' := []) [] rfl) (g_J9_max_7cf53 l D cA L5_31613 x_31666) (tb_S tw_1735 tw_779 tw_115 tw_780) hdJ9_max_7cf53 ⟨rfl, rfl, Nat.le_of_ble_eq_true rfl, Nat.le_of_ble_eq_true rfl⟩ ⟨Nat.le_of_ble_eq_true rfl, Nat.le_of_ble_eq_true rfl⟩ rfl hl.1 rfl (Nat.le_of_ble_eq_true rfl) dX12_layMatch_141 (fun r_31668 hr_31668 => ?_)
                    obtain ⟨k_31668_0_0, k_31668_0_1, k_31668_0_2⟩ := hr_31668
                    refine lv_istore (lv' := [(5, .int r_31668), (7, .int L7_31613), (6, .int L6_31613), (4, .int L4_30537), (3, .int L3_23759), (2, .int (m_cworld 4)), (0, .ref h0), (1, .int p0)]) hx hb dX12_layMatch_144 hl (by decide) rfl (fun ls hl => ?_)
                    refine lv_aload_n hx hb dX12_layMatch_146 rfl (lv_at hl 6 rfl) ?_
                    refine lv_iload_n hx hb dX12_layMatch_147 rfl (lv_at hl 4 rfl) ?_
                    refine lv_iload hx hb dX12_layMatch_148 (lv_at hl 1 rfl) ?_
                    refine cpVi (rest := []) ⟨hx, hb, hml, hown, hts⟩ hKN (hP.sub (ws' := [(h0, .inr (12, [.int m_thrown, .ref m_qworld, .ref m_qimages, .ref m_qhasImage, .ref m_qtape, .int m_taped, .ref m_qfive, .int m_size, .int m_at, .int m_from, .int m_token, .int m_value, .int m_faultKind, .int m_faultPlace, .ref m_qfresh, .int m_startOne, .int m_startOther, .int m_latest, .int m_leftBeats, .int m_signed, .int m_metMany, .ref m_qsums, .ref m_qpairs, .ref m_qgoesWith, .ref m_qsaid, .int m_saidMany, .int m_firstWait, .ref m_qfirstOrder, .int m_bundleFirst, .ref m_qtiredBy, .int m_tiredMany, .ref m_qmany, .ref m_qwidth, .ref m_qnumbers, .ref m_qmoving])), (m_qworld, .inl (cA 1, 122, .inl m_cworld))]) [0, 1] rfl) (g_X12_holdOf_z l D cA h0 m_thrown m_qworld m_qimages m_qhasImage m_qtape m_taped m_qfive m_size m_at m_from m_token m_value m_faultKind m_faultPlace m_qfresh m_startOne m_startOther m_latest m_leftBeats m_signed m_metMany m_qsums m_qpairs m_qgoesWith m_qsaid m_saidMany m_firstWait m_qfirstOrder m_bundleFirst m_qtiredBy m_tiredMany m_qmany m_qwidth m_qnumbers m_qmoving m_cworld L3_23759 L7_31613 (by omega) (by omega) (by omega) (by omega) (by omega) (by omega) (by omega) (by omega) a_m_cworld_0) (tb_V tw_1700 tw_1702 tw_63 tw_114 tw_1703) hdX12_holdOf ⟨rfl, rfl, Nat.le_of_ble_eq_true rfl, Nat.le_of_ble_eq_true rfl⟩ ⟨Nat.le_of_ble_eq_true rfl, Nat.le_of_ble_eq_true rfl⟩ rfl rfl rfl hl.1 rfl (Nat.le_of_ble_eq_true rfl) dX12_layMatch_150 (fun r_31669 hr_31669 => ?_)
                    refine lv_iload_n hx hb dX12_layMatch_153 rfl (lv_at hl 7 rfl) ?_
                    refine lv_icmp_lt (tgt := 185) hx hb dX12_layMatch_154 (by decide) (fun c_31670 => ?_) (fun c_31670 => ?_)
                    · skip
                      have k_31671 := kk_lt rfl rfl c_31670
                      obtain ⟨x_31672, ex_31672⟩ : ∃ y : Int32, L7_31613 + Int32.ofInt 1 = y := ⟨_, rfl⟩
                      have k_31673 := ar_add (b := 1) rfl zi_1 ex_31672.symm (by omega) (by omega)
                      refine lv_iinc (v := x_31672) (lv' := [(7, .int x_31672), (5, .int r_31668), (6, .int L6_31613), (4, .int L4_30537), (3, .int L3_23759), (2, .int (m_cworld 4)), (0, .ref h0), (1, .int p0)]) hx hb dX12_layMatch_185 hl (k := 1) rfl ex_31672 (by decide) rfl (fun ls hl => ?_)
                      refine lv_goto (tgt := 72) hx hb dX12_layMatch_188 (by decide) ?_
                      exact ih_31613 (x_31672, L6_31613, r_31668) _ _ _ ⟨(show 0 ≤ x_31672.toInt ∧ x_31672.toInt ≤ 8 from by omega), (show 0 ≤ L6_31613.toInt ∧ L6_31613.toInt ≤ 0 from by omega), (show 0 ≤ r_31668.toInt from by omega), hP.sub [0, 1, 2, 3] rfl, hD.sub [0, 1, 2, 3] (by decide) rfl, hS, lv_sub hl [0, 2, 1, 3, 4, 5, 6, 7] rfl⟩ (by show (2147483647 - x_31672.toInt).toNat < (2147483647 - L7_31613.toInt).toNat; omega)
                    · skip
                      have k_31674 := kk_nlt rfl rfl c_31670
                      exfalso; omega
                  · skip
                    have k_31675 := kk_eq rfl zi_1 c_31656
                    refine lv_goto (tgt := 185) hx hb dX12_layMatch_114 (by decide) ?_
                    obtain ⟨x_31676, ex_31676⟩ : ∃ y : Int32, L7_31613 + Int32.ofInt 1 = y := ⟨_, rfl⟩
                    have k_31677 := ar_add (b := 1) rfl zi_1 ex_31676.symm (by omega) (by omega)
                    refine lv_iinc (v := x_31676) (lv' := [(7, .int x_31676), (6, .int L6_31613), (5, .int L5_31613), (4, .int L4_30537), (3, .int L3_23759), (2, .int (m_cworld 4)), (0, .ref h0), (1, .int p0)]) hx hb dX12_layMatch_185 hl (k := 0) rfl ex_31676 (by decide) rfl (fun ls hl => ?_)
                    refine lv_goto (tgt := 72) hx hb dX12_layMatch_188 (by decide) ?_
                    exact ih_31613 (x_31676, L6_31613, L5_31613) _ _ _ ⟨(show 0 ≤ x_31676.toInt ∧ x_31676.toInt ≤ 8 from by omega), (show 0 ≤ L6_31613.toInt ∧ L6_31613.toInt ≤ 0 from by omega), (show 0 ≤ L5_31613.toInt from by omega), hP.sub [0, 1, 2, 3] rfl, hD.sub [0, 1, 2, 3] (by decide) rfl, hS, lv_sub hl [0, 1, 2, 3, 4, 5, 6, 7] rfl⟩ (by show (2147483647 - x_31676.toInt).toNat < (2147483647 - L7_31613.toInt).toNat; omega)
set_option maxHeartbeats 8000000 in
set_option maxRecDepth 100000 in
theorem g_X12_fair (l : Launch) (D : va_G) (cA : Nat → ClassId) (sz : Nat) (h0 : Nat) (m_thrown : Int32) (m_qworld : Nat) (m_qimages : Nat) (m_qhasImage : Nat) (m_qtape : Nat) (m_taped : Int32) (m_qfive : Nat) (m_size : Int32) (m_at : Int32) (m_from : Int32) (m_token : Int32) (m_value : Int32) (m_faultKind : Int32) (m_faultPlace : Int32) (m_qfresh : Nat) (m_startOne : Int32) (m_startOther : Int32) (m_latest : Int32) (m_leftBeats : Int32) (m_signed : Int32) (m_metMany : Int32) (m_qsums : Nat) (m_qpairs : Nat) (m_qgoesWith : Nat) (m_qsaid : Nat) (m_saidMany : Int32) (m_firstWait : Int32) (m_qfirstOrder : Nat) (m_bundleFirst : Int32) (m_qtiredBy : Nat) (m_tiredMany : Int32) (m_qmany : Nat) (m_qwidth : Nat) (m_qnumbers : Nat) (m_qmoving : Nat) (m_cworld : Nat → Int32) (m_csums : Nat → Int32) (m_cpairs : Nat → Int32) (h_m_taped : 0 ≤ (m_taped : Int32).toInt ∧ (m_taped : Int32).toInt ≤ 800) (h_m_size : 0 ≤ (m_size : Int32).toInt ∧ (m_size : Int32).toInt ≤ 800) (h_m_at : 0 ≤ (m_at : Int32).toInt ∧ (m_at : Int32).toInt ≤ 800) (h_m_from : 0 ≤ (m_from : Int32).toInt ∧ (m_from : Int32).toInt ≤ 800) (h_m_saidMany : 0 ≤ (m_saidMany : Int32).toInt ∧ (m_saidMany : Int32).toInt ≤ 60) (h_m_tiredMany : 0 ≤ (m_tiredMany : Int32).toInt ∧ (m_tiredMany : Int32).toInt ≤ 240) (a_m_cworld_0 : WI m_cworld) : Met l yX12_fair (Cond.code yX12_fair cX12_fair 3 (some .int) :: TB) (rmd 5 0 0) (PM D cA sz [(h0, .inr (12, [.int m_thrown, .ref m_qworld, .ref m_qimages, .ref m_qhasImage, .ref m_qtape, .int m_taped, .ref m_qfive, .int m_size, .int m_at, .int m_from, .int m_token, .int m_value, .int m_faultKind, .int m_faultPlace, .ref m_qfresh, .int m_startOne, .int m_startOther, .int m_latest, .int m_leftBeats, .int m_signed, .int m_metMany, .ref m_qsums, .ref m_qpairs, .ref m_qgoesWith, .ref m_qsaid, .int m_saidMany, .int m_firstWait, .ref m_qfirstOrder, .int m_bundleFirst, .ref m_qtiredBy, .int m_tiredMany, .ref m_qmany, .ref m_qwidth, .ref m_qnumbers, .ref m_qmoving])), (m_qworld, .inl (cA 1, 122, .inl m_cworld)), (m_qsums, .inl (cA 1, 2304, .inl m_csums)), (m_qpairs, .inl (cA 1, 2304, .inl m_cpairs))] [.ref h0]) (va_Qi (fun r (u : SU) => (-2 ≤ r.toInt ∧ r.toInt ≤ 60)) (fun u t => va_P D vwCl [(h0, .inr (12, [.int m_thrown, .ref m_qworld, .ref m_qimages, .ref m_qhasImage, .ref m_qtape, .int m_taped, .ref m_qfive, .int m_size, .int m_at, .int m_from, .int m_token, .int m_value, .int m_faultKind, .int m_faultPlace, .ref m_qfresh, .int m_startOne, .int m_startOther, .int m_latest, .int m_leftBeats, .int m_signed, .int m_metMany, .ref m_qsums, .ref m_qpairs, .ref m_qgoesWith, .ref m_qsaid, .int m_saidMany, .int m_firstWait, .ref m_qfirstOrder, .int m_bundleFirst, .ref m_qtiredBy, .int m_tiredMany, .ref m_qmany, .ref m_qwidth, .ref m_qnumbers, .ref m_qmoving])), (m_qworld, .inl (cA 1, 122, .inl m_cworld)), (m_qsums, .inl (cA 1, 2304, .inl (u.2.2.1 0))), (m_qpairs, .inl (cA 1, 2304, .inl (u.2.2.1 1)))] t.heap ∧ va_D (va_A [(h0, .inr (12, [.int m_thrown, .ref m_qworld, .ref m_qimages, .ref m_qhasImage, .ref m_qtape, .int m_taped, .ref m_qfive, .int m_size, .int m_at, .int m_from, .int m_token, .int m_value, .int m_faultKind, .int m_faultPlace, .ref m_qfresh, .int m_startOne, .int m_startOther, .int m_latest, .int m_leftBeats, .int m_signed, .int m_metMany, .ref m_qsums, .ref m_qpairs, .ref m_qgoesWith, .ref m_qsaid, .int m_saidMany, .int m_firstWait, .ref m_qfirstOrder, .int m_bundleFirst, .ref m_qtiredBy, .int m_tiredMany, .ref m_qmany, .ref m_qwidth, .ref m_qnumbers, .ref m_qmoving])), (m_qworld, .inl (cA 1, 122, .inl m_cworld)), (m_qsums, .inl (cA 1, 2304, .inl m_csums)), (m_qpairs, .inl (cA 1, 2304, .inl m_cpairs))] sz) [(h0, .inr (12, [.int m_thrown, .ref m_qworld, .ref m_qimages, .ref m_qhasImage, .ref m_qtape, .int m_taped, .ref m_qfive, .int m_size, .int m_at, .int m_from, .int m_token, .int m_value, .int m_faultKind, .int m_faultPlace, .ref m_qfresh, .int m_startOne, .int m_startOther, .int m_latest, .int m_leftBeats, .int m_signed, .int m_metMany, .ref m_qsums, .ref m_qpairs, .ref m_qgoesWith, .ref m_qsaid, .int m_saidMany, .int m_firstWait, .ref m_qfirstOrder, .int m_bundleFirst, .ref m_qtiredBy, .int m_tiredMany, .ref m_qmany, .ref m_qwidth, .ref m_qnumbers, .ref m_qmoving])), (m_qworld, .inl (cA 1, 122, .inl m_cworld)), (m_qsums, .inl (cA 1, 2304, .inl (u.2.2.1 0))), (m_qpairs, .inl (cA 1, 2304, .inl (u.2.2.1 1)))]) (va_A [(h0, .inr (12, [.int m_thrown, .ref m_qworld, .ref m_qimages, .ref m_qhasImage, .ref m_qtape, .int m_taped, .ref m_qfive, .int m_size, .int m_at, .int m_from, .int m_token, .int m_value, .int m_faultKind, .int m_faultPlace, .ref m_qfresh, .int m_startOne, .int m_startOther, .int m_latest, .int m_leftBeats, .int m_signed, .int m_metMany, .ref m_qsums, .ref m_qpairs, .ref m_qgoesWith, .ref m_qsaid, .int m_saidMany, .int m_firstWait, .ref m_qfirstOrder, .int m_bundleFirst, .ref m_qtiredBy, .int m_tiredMany, .ref m_qmany, .ref m_qwidth, .ref m_qnumbers, .ref m_qmoving])), (m_qworld, .inl (cA 1, 122, .inl m_cworld)), (m_qsums, .inl (cA 1, 2304, .inl m_csums)), (m_qpairs, .inl (cA 1, 2304, .inl m_cpairs))] sz)) 0 0 (va_A [(h0, .inr (12, [.int m_thrown, .ref m_qworld, .ref m_qimages, .ref m_qhasImage, .ref m_qtape, .int m_taped, .ref m_qfive, .int m_size, .int m_at, .int m_from, .int m_token, .int m_value, .int m_faultKind, .int m_faultPlace, .ref m_qfresh, .int m_startOne, .int m_startOther, .int m_latest, .int m_leftBeats, .int m_signed, .int m_metMany, .ref m_qsums, .ref m_qpairs, .ref m_qgoesWith, .ref m_qsaid, .int m_saidMany, .int m_firstWait, .ref m_qfirstOrder, .int m_bundleFirst, .ref m_qtiredBy, .int m_tiredMany, .ref m_qmany, .ref m_qwidth, .ref m_qnumbers, .ref m_qmoving])), (m_qworld, .inl (cA 1, 122, .inl m_cworld)), (m_qsums, .inl (cA 1, 2304, .inl m_csums)), (m_qpairs, .inl (cA 1, 2304, .inl m_cpairs))] sz) := by
  refine Met.ofW (cc := cX12_fair) (maxL := 3) (ret := (some .int)) (by decide) rfl ?_
  intro p e s m args below meth c s₁ B hml hv
  obtain ⟨rfl, hsz, hP, hKN, hD0⟩ := hv
  have hx := B.exec
  have hb := B.bytes
  have hr := B.returns
  have hts : ∀ w ∈ TB, w.before _ s = true := fun w h => atoms_spec B.pre w (List.mem_cons_of_mem _ h)
  have hown : s.vm.findClass RX12 = some m.cls := findClass_of_methodNamed B.named
  have hlocks := B.notSynchronized
  subst hsz
  have hD := hD0.self (sz := s.heap.size)
  generalize hAe : va_A [(h0, .inr (12, [.int m_thrown, .ref m_qworld, .ref m_qimages, .ref m_qhasImage, .ref m_qtape, .int m_taped, .ref m_qfive, .int m_size, .int m_at, .int m_from, .int m_token, .int m_value, .int m_faultKind, .int m_faultPlace, .ref m_qfresh, .int m_startOne, .int m_startOther, .int m_latest, .int m_leftBeats, .int m_signed, .int m_metMany, .ref m_qsums, .ref m_qpairs, .ref m_qgoesWith, .ref m_qsaid, .int m_saidMany, .int m_firstWait, .ref m_qfirstOrder, .int m_bundleFirst, .ref m_qtiredBy, .int m_tiredMany, .ref m_qmany, .ref m_qwidth, .ref m_qnumbers, .ref m_qmoving])), (m_qworld, .inl (cA 1, 122, .inl m_cworld)), (m_qsums, .inl (cA 1, 2304, .inl m_csums)), (m_qpairs, .inl (cA 1, 2304, .inl m_cpairs))] s.heap.size = A at hD ⊢
  have hA : ∀ q : Nat, s.heap.size ≤ q → A q := fun q h => by rw [← hAe]; exact Or.inr h
  have hS : va_S A s.heap s.heap [] := va_S.rf
  have hl := lv_entry ([.ref h0]) (n := 3) (Nat.le_of_ble_eq_true rfl)
  rw [lg_entry_eq]
  generalize (lg_sl ([.ref h0]) ++ List.replicate (3 - (lg_sl ([.ref h0])).length) Slot.unset).toArray = ls at hl ⊢
  have hl : lv_has ls 3 [(0, .ref h0)] := hl
  refine lv_aload_n hx hb dX12_fair_0 rfl (lv_at hl 0 rfl) ?_
  refine cpVi (rest := []) ⟨hx, hb, hml, hown, hts⟩ hKN (hP.sub (ws' := [(h0, .inr (12, [.int m_thrown, .ref m_qworld, .ref m_qimages, .ref m_qhasImage, .ref m_qtape, .int m_taped, .ref m_qfive, .int m_size, .int m_at, .int m_from, .int m_token, .int m_value, .int m_faultKind, .int m_faultPlace, .ref m_qfresh, .int m_startOne, .int m_startOther, .int m_latest, .int m_leftBeats, .int m_signed, .int m_metMany, .ref m_qsums, .ref m_qpairs, .ref m_qgoesWith, .ref m_qsaid, .int m_saidMany, .int m_firstWait, .ref m_qfirstOrder, .int m_bundleFirst, .ref m_qtiredBy, .int m_tiredMany, .ref m_qmany, .ref m_qwidth, .ref m_qnumbers, .ref m_qmoving])), (m_qworld, .inl (cA 1, 122, .inl m_cworld))]) [0, 1] rfl) (g_X12_isGorge l D cA h0 m_thrown m_qworld m_qimages m_qhasImage m_qtape m_taped m_qfive m_size m_at m_from m_token m_value m_faultKind m_faultPlace m_qfresh m_startOne m_startOther m_latest m_leftBeats m_signed m_metMany m_qsums m_qpairs m_qgoesWith m_qsaid m_saidMany m_firstWait m_qfirstOrder m_bundleFirst m_qtiredBy m_tiredMany m_qmany m_qwidth m_qnumbers m_qmoving m_cworld (by omega) (by omega) (by omega) (by omega) (by omega) (by omega) a_m_cworld_0) (tb_V tw_1664 tw_1666 tw_54 tw_114 tw_1667) hdX12_isGorge ⟨rfl, rfl, Nat.le_of_ble_eq_true rfl, Nat.le_of_ble_eq_true rfl⟩ ⟨Nat.le_of_ble_eq_true rfl, Nat.le_of_ble_eq_true rfl⟩ rfl rfl rfl hl.1 rfl (Nat.le_of_ble_eq_true rfl) dX12_fair_1 (fun r_1 hr_1 => ?_)
  rcases hr_1 with ⟨k_1_0_0, k_1_0_1, k_1_0_2, k_1_0_3, rfl⟩ | rfl
  · skip
    refine lv_if_ne (tgt := 10) hx hb dX12_fair_4 (by decide) (fun c_2 => ?_) (fun c_2 => absurd c_2 (by decide))
    refine lv_aload_n hx hb dX12_fair_10 rfl (lv_at hl 0 rfl) ?_
    refine lv_iconst (v := 0) hx hb dX12_fair_11 (by decide) ?_
    have z_3 := zi_0
    refine cmVv (rest := []) (wsC := [(h0, .inr (12, [.int m_thrown, .ref m_qworld, .ref m_qimages, .ref m_qhasImage, .ref m_qtape, .int m_taped, .ref m_qfive, .int m_size, .int m_at, .int m_from, .int m_token, .int m_value, .int m_faultKind, .int m_faultPlace, .ref m_qfresh, .int m_startOne, .int m_startOther, .int m_latest, .int m_leftBeats, .int m_signed, .int m_metMany, .ref m_qsums, .ref m_qpairs, .ref m_qgoesWith, .ref m_qsaid, .int m_saidMany, .int m_firstWait, .ref m_qfirstOrder, .int m_bundleFirst, .ref m_qtiredBy, .int m_tiredMany, .ref m_qmany, .ref m_qwidth, .ref m_qnumbers, .ref m_qmoving])), (m_qworld, .inl (cA 1, 122, .inl m_cworld)), (m_qsums, .inl (cA 1, 2304, .inl m_csums)), (m_qpairs, .inl (cA 1, 2304, .inl m_cpairs))]) (wr := []) ⟨hx, hb, hml, hown, hts⟩ hKN hP hD hS hA [0, 1, 2, 3] [] rfl rfl (by decide) (by decide) (by decide) (g_X12_layMatch l D cA _ h0 m_thrown m_qworld m_qimages m_qhasImage m_qtape m_taped m_qfive m_size m_at m_from m_token m_value m_faultKind m_faultPlace m_qfresh m_startOne m_startOther m_latest m_leftBeats m_signed m_metMany m_qsums m_qpairs m_qgoesWith m_qsaid m_saidMany m_firstWait m_qfirstOrder m_bundleFirst m_qtiredBy m_tiredMany m_qmany m_qwidth m_qnumbers m_qmoving m_cworld m_csums m_cpairs 0 (by omega) (by omega) (by omega) (by omega) (by omega) (by omega) a_m_cworld_0) (tb_V tw_1799 tw_1801 tw_70 tw_114 tw_1802) hdX12_layMatch ⟨rfl, rfl, Nat.le_of_ble_eq_true rfl, Nat.le_of_ble_eq_true rfl⟩ ⟨Nat.le_of_ble_eq_true rfl, Nat.le_of_ble_eq_true rfl⟩ rfl rfl rfl hl.1 rfl (Nat.le_of_ble_eq_true rfl) dX12_fair_12 (fun u_4 H locs hr_4 hP hD hS => ?_)
    have hP : va_P D vwCl [(h0, .inr (12, [.int m_thrown, .ref m_qworld, .ref m_qimages, .ref m_qhasImage, .ref m_qtape, .int m_taped, .ref m_qfive, .int m_size, .int m_at, .int m_from, .int m_token, .int m_value, .int m_faultKind, .int m_faultPlace, .ref m_qfresh, .int m_startOne, .int m_startOther, .int m_latest, .int m_leftBeats, .int m_signed, .int m_metMany, .ref m_qsums, .ref m_qpairs, .ref m_qgoesWith, .ref m_qsaid, .int m_saidMany, .int m_firstWait, .ref m_qfirstOrder, .int m_bundleFirst, .ref m_qtiredBy, .int m_tiredMany, .ref m_qmany, .ref m_qwidth, .ref m_qnumbers, .ref m_qmoving])), (m_qworld, .inl (cA 1, 122, .inl m_cworld)), (m_qsums, .inl (cA 1, 2304, .inl (u_4.2.2.1 0))), (m_qpairs, .inl (cA 1, 2304, .inl (u_4.2.2.1 1)))] H := hP
    have hD : va_D A [(h0, .inr (12, [.int m_thrown, .ref m_qworld, .ref m_qimages, .ref m_qhasImage, .ref m_qtape, .int m_taped, .ref m_qfive, .int m_size, .int m_at, .int m_from, .int m_token, .int m_value, .int m_faultKind, .int m_faultPlace, .ref m_qfresh, .int m_startOne, .int m_startOther, .int m_latest, .int m_leftBeats, .int m_signed, .int m_metMany, .ref m_qsums, .ref m_qpairs, .ref m_qgoesWith, .ref m_qsaid, .int m_saidMany, .int m_firstWait, .ref m_qfirstOrder, .int m_bundleFirst, .ref m_qtiredBy, .int m_tiredMany, .ref m_qmany, .ref m_qwidth, .ref m_qnumbers, .ref m_qmoving])), (m_qworld, .inl (cA 1, 122, .inl m_cworld)), (m_qsums, .inl (cA 1, 2304, .inl (u_4.2.2.1 0))), (m_qpairs, .inl (cA 1, 2304, .inl (u_4.2.2.1 1)))] := hD
    refine lv_aload_n hx hb dX12_fair_15 rfl (lv_at hl 0 rfl) ?_
    refine va_get (D := D) (ci := 12) (v := .ref m_qpairs) (C := RX12) (T := TX12) (N := 35) hx hb hts inX12 hown hKN.1 hP 0 rfl rfl 22 (by decide) (hts _ tw_1441) (fun _ h9 => h9) rfl dX12_fair_16 ?_
    refine lv_iconst (v := 0) hx hb dX12_fair_19 (by decide) ?_
    refine va_iald hx hb hKN.1 hP 3 1 rfl rfl (by unfold vp_in; decide) dX12_fair_20 ?_
    refine W.eq (g2 := F0 m 21 ls [.int ((u_4.2.2.1 1) 0)]) rfl ?_
    refine lv_istore_n (lv' := [(1, .int ((u_4.2.2.1 1) 0)), (0, .ref h0)]) hx hb dX12_fair_21 rfl hl (by decide) rfl (fun ls hl => ?_)
    refine lv_iload_n hx hb dX12_fair_22 rfl (lv_at hl 0 rfl) ?_
    refine lv_if_ne (tgt := 28) hx hb dX12_fair_23 (by decide) (fun c_5 => ?_) (fun c_5 => ?_)
    · skip
      have b_7 := i32_bd ((u_4.2.2.1 1) 0)
      have k_6 := kk_ne rfl zi_0 c_5
      refine lv_iconst (v := 0) hx hb dX12_fair_28 (by decide) ?_
      refine lv_istore_n (lv' := [(2, .int 0), (1, .int ((u_4.2.2.1 1) 0)), (0, .ref h0)]) hx hb dX12_fair_29 rfl hl (by decide) rfl (fun ls hl => ?_)
      have z_27 := zi_0
      refine loopW (σ := Int32 × (Nat → Int32) × (Nat → Int32)) (fun _ => []) (fun ⟨L2_26, F1_26, F2_26⟩ H locs ls => (0 ≤ L2_26.toInt ∧ L2_26.toInt ≤ 61) ∧ ((F2_26 0).toInt = 0 ∨ L2_26.toInt ≤ 60) ∧ va_P D vwCl [(h0, .inr (12, [.int m_thrown, .ref m_qworld, .ref m_qimages, .ref m_qhasImage, .ref m_qtape, .int m_taped, .ref m_qfive, .int m_size, .int m_at, .int m_from, .int m_token, .int m_value, .int m_faultKind, .int m_faultPlace, .ref m_qfresh, .int m_startOne, .int m_startOther, .int m_latest, .int m_leftBeats, .int m_signed, .int m_metMany, .ref m_qsums, .ref m_qpairs, .ref m_qgoesWith, .ref m_qsaid, .int m_saidMany, .int m_firstWait, .ref m_qfirstOrder, .int m_bundleFirst, .ref m_qtiredBy, .int m_tiredMany, .ref m_qmany, .ref m_qwidth, .ref m_qnumbers, .ref m_qmoving])), (m_qworld, .inl (cA 1, 122, .inl m_cworld)), (m_qsums, .inl (cA 1, 2304, .inl F1_26)), (m_qpairs, .inl (cA 1, 2304, .inl F2_26))] H ∧ va_D A [(h0, .inr (12, [.int m_thrown, .ref m_qworld, .ref m_qimages, .ref m_qhasImage, .ref m_qtape, .int m_taped, .ref m_qfive, .int m_size, .int m_at, .int m_from, .int m_token, .int m_value, .int m_faultKind, .int m_faultPlace, .ref m_qfresh, .int m_startOne, .int m_startOther, .int m_latest, .int m_leftBeats, .int m_signed, .int m_metMany, .ref m_qsums, .ref m_qpairs, .ref m_qgoesWith, .ref m_qsaid, .int m_saidMany, .int m_firstWait, .ref m_qfirstOrder, .int m_bundleFirst, .ref m_qtiredBy, .int m_tiredMany, .ref m_qmany, .ref m_qwidth, .ref m_qnumbers, .ref m_qmoving])), (m_qworld, .inl (cA 1, 122, .inl m_cworld)), (m_qsums, .inl (cA 1, 2304, .inl F1_26)), (m_qpairs, .inl (cA 1, 2304, .inl F2_26))] ∧ va_S A s.heap H locs ∧ lv_has ls 3 [(2, .int L2_26), (1, .int ((u_4.2.2.1 1) 0)), (0, .ref h0)]) (fun ⟨L2_26, F1_26, F2_26⟩ => (2147483647 - L2_26.toInt).toNat) ?_ ((0, (u_4.2.2.1 0), (u_4.2.2.1 1)) : Int32 × (Nat → Int32) × (Nat → Int32)) ⟨(by decide), (show ((u_4.2.2.1 1) 0).toInt = 0 ∨ (0 : Int32).toInt ≤ 60 from by first | omega | decide), hP, hD, hS, hl⟩
      intro x_26 H locs ls hI_26 ih_26
      obtain ⟨L2_26, F1_26, F2_26⟩ := x_26
      obtain ⟨k0_26, k1_26, hP, hD, hS, hl⟩ := hI_26
      have hP : va_P D vwCl [(h0, .inr (12, [.int m_thrown, .ref m_qworld, .ref m_qimages, .ref m_qhasImage, .ref m_qtape, .int m_taped, .ref m_qfive, .int m_size, .int m_at, .int m_from, .int m_token, .int m_value, .int m_faultKind, .int m_faultPlace, .ref m_qfresh, .int m_startOne, .int m_startOther, .int m_latest, .int m_leftBeats, .int m_signed, .int m_metMany, .ref m_qsums, .ref m_qpairs, .ref m_qgoesWith, .ref m_qsaid, .int m_saidMany, .int m_firstWait, .ref m_qfirstOrder, .int m_bundleFirst, .ref m_qtiredBy, .int m_tiredMany, .ref m_qmany, .ref m_qwidth, .ref m_qnumbers, .ref m_qmoving])), (m_qworld, .inl (cA 1, 122, .inl m_cworld)), (m_qsums, .inl (cA 1, 2304, .inl F1_26)), (m_qpairs, .inl (cA 1, 2304, .inl F2_26))] H := hP
      have hD : va_D A [(h0, .inr (12, [.int m_thrown, .ref m_qworld, .ref m_qimages, .ref m_qhasImage, .ref m_qtape, .int m_taped, .ref m_qfive, .int m_size, .int m_at, .int m_from, .int m_token, .int m_value, .int m_faultKind, .int m_faultPlace, .ref m_qfresh, .int m_startOne, .int m_startOther, .int m_latest, .int m_leftBeats, .int m_signed, .int m_metMany, .ref m_qsums, .ref m_qpairs, .ref m_qgoesWith, .ref m_qsaid, .int m_saidMany, .int m_firstWait, .ref m_qfirstOrder, .int m_bundleFirst, .ref m_qtiredBy, .int m_tiredMany, .ref m_qmany, .ref m_qwidth, .ref m_qnumbers, .ref m_qmoving])), (m_qworld, .inl (cA 1, 122, .inl m_cworld)), (m_qsums, .inl (cA 1, 2304, .inl F1_26)), (m_qpairs, .inl (cA 1, 2304, .inl F2_26))] := hD
      have hl : lv_has ls 3 [(2, .int L2_26), (1, .int ((u_4.2.2.1 1) 0)), (0, .ref h0)] := hl
      refine lv_aload_n hx hb dX12_fair_30 rfl (lv_at hl 2 rfl) ?_
      refine va_get (D := D) (ci := 12) (v := .ref m_qpairs) (C := RX12) (T := TX12) (N := 35) hx hb hts inX12 hown hKN.1 hP 0 rfl rfl 22 (by decide) (hts _ tw_1441) (fun _ h9 => h9) rfl dX12_fair_31 ?_
      refine lv_iconst (v := 0) hx hb dX12_fair_34 (by decide) ?_
      refine va_iald hx hb hKN.1 hP 3 1 rfl rfl (by unfold vp_in; decide) dX12_fair_35 ?_
      refine W.eq (g2 := F0 m 36 ls [.int (F2_26 0)]) rfl ?_
      refine lv_iload_n hx hb dX12_fair_36 rfl (lv_at hl 1 rfl) ?_
      refine lv_icmp_ne (tgt := 51) hx hb dX12_fair_37 (by decide) (fun c_28 => ?_) (fun c_28 => ?_)
      · skip
        have b_30 := i32_bd (F2_26 0)
        have k_29 := kk_ne rfl rfl c_28
        refine lv_iload_n hx hb dX12_fair_51 rfl (lv_at hl 0 rfl) ?_
        refine lv_iconst (v := 1) hx hb dX12_fair_52 (by decide) ?_
        refine lv_isub hx hb dX12_fair_53 ?_
        refine lv_topi (fun x_31 ex_31 => ?_)
        have k_32 := ar_sub rfl zi_1 ex_31 (by omega) (by omega)
        have hP9 := hP.sub (ws' := [(h0, .inr (12, [.int m_thrown, .ref m_qworld, .ref m_qimages, .ref m_qhasImage, .ref m_qtape, .int m_taped, .ref m_qfive, .int m_size, .int m_at, .int m_from, .int m_token, .int m_value, .int m_faultKind, .int m_faultPlace, .ref m_qfresh, .int m_startOne, .int m_startOther, .int m_latest, .int m_leftBeats, .int m_signed, .int m_metMany, .ref m_qsums, .ref m_qpairs, .ref m_qgoesWith, .ref m_qsaid, .int m_saidMany, .int m_firstWait, .ref m_qfirstOrder, .int m_bundleFirst, .ref m_qtiredBy, .int m_tiredMany, .ref m_qmany, .ref m_qwidth, .ref m_qnumbers, .ref m_qmoving])), (m_qworld, .inl (cA 1, 122, .inl m_cworld)), (m_qsums, .inl (cA 1, 2304, .inl F1_26)), (m_qpairs, .inl (cA 1, 2304, .inl F2_26))]) [0, 1, 2, 3] rfl
        have hD9 := hD.sub (ws' := [(h0, .inr (12, [.int m_thrown, .ref m_qworld, .ref m_qimages, .ref m_qhasImage, .ref m_qtape, .int m_taped, .ref m_qfive, .int m_size, .int m_at, .int m_from, .int m_token, .int m_value, .int m_faultKind, .int m_faultPlace, .ref m_qfresh, .int m_startOne, .int m_startOther, .int m_latest, .int m_leftBeats, .int m_signed, .int m_metMany, .ref m_qsums, .ref m_qpairs, .ref m_qgoesWith, .ref m_qsaid, .int m_saidMany, .int m_firstWait, .ref m_qfirstOrder, .int m_bundleFirst, .ref m_qtiredBy, .int m_tiredMany, .ref m_qmany, .ref m_qwidth, .ref m_qnumbers, .ref m_qmoving])), (m_qworld, .inl (cA 1, 122, .inl m_cworld)), (m_qsums, .inl (cA 1, 2304, .inl F1_26)), (m_qpairs, .inl (cA 1, 2304, .inl F2_26))]) [0, 1, 2, 3] (by decide) rfl
        exact W.iret (v := x_31) hx hb hr (fun t ht hW => ⟨⟨x_31, ((fun _ => 0), (fun _ => 0), (selF [F1_26, F2_26]), (fun _ _ => 0)), rfl, (show -2 ≤ x_31.toInt ∧ x_31.toInt ≤ 60 from by omega), by rw [ht]; exact hP9, hD9⟩, hS.F ht⟩) hS.2.2 dX12_fair_54
      · skip
        have b_34 := i32_bd (F2_26 0)
        have k_33 := kk_eq rfl rfl c_28
        obtain ⟨x_35, ex_35⟩ : ∃ y : Int32, L2_26 + Int32.ofInt 1 = y := ⟨_, rfl⟩
        have k_36 := ar_add (b := 1) rfl zi_1 ex_35.symm (by omega) (by omega)
        refine lv_iinc (v := x_35) (lv' := [(2, .int x_35), (1, .int ((u_4.2.2.1 1) 0)), (0, .ref h0)]) hx hb dX12_fair_40 hl (k := 0) rfl ex_35 (by decide) rfl (fun ls hl => ?_)
        rcases (by omega : x_35.toInt ≤ 60 ∨ 60 < x_35.toInt) with k_rs | k_rs
        · skip
          refine lv_aload_n hx hb dX12_fair_43 rfl (lv_at hl 2 rfl) ?_
          refine lv_iload_n hx hb dX12_fair_44 rfl (lv_at hl 0 rfl) ?_
          refine cmVv (rest := []) (wsC := [(h0, .inr (12, [.int m_thrown, .ref m_qworld, .ref m_qimages, .ref m_qhasImage, .ref m_qtape, .int m_taped, .ref m_qfive, .int m_size, .int m_at, .int m_from, .int m_token, .int m_value, .int m_faultKind, .int m_faultPlace, .ref m_qfresh, .int m_startOne, .int m_startOther, .int m_latest, .int m_leftBeats, .int m_signed, .int m_metMany, .ref m_qsums, .ref m_qpairs, .ref m_qgoesWith, .ref m_qsaid, .int m_saidMany, .int m_firstWait, .ref m_qfirstOrder, .int m_bundleFirst, .ref m_qtiredBy, .int m_tiredMany, .ref m_qmany, .ref m_qwidth, .ref m_qnumbers, .ref m_qmoving])), (m_qworld, .inl (cA 1, 122, .inl m_cworld)), (m_qsums, .inl (cA 1, 2304, .inl F1_26)), (m_qpairs, .inl (cA 1, 2304, .inl F2_26))]) (wr := []) ⟨hx, hb, hml, hown, hts⟩ hKN hP hD hS hA [0, 1, 2, 3] [] rfl rfl (by decide) (by decide) (by decide) (g_X12_layMatch l D cA _ h0 m_thrown m_qworld m_qimages m_qhasImage m_qtape m_taped m_qfive m_size m_at m_from m_token m_value m_faultKind m_faultPlace m_qfresh m_startOne m_startOther m_latest m_leftBeats m_signed m_metMany m_qsums m_qpairs m_qgoesWith m_qsaid m_saidMany m_firstWait m_qfirstOrder m_bundleFirst m_qtiredBy m_tiredMany m_qmany m_qwidth m_qnumbers m_qmoving m_cworld F1_26 F2_26 x_35 (by omega) (by omega) (by omega) (by omega) (by omega) (by omega) a_m_cworld_0) (tb_V tw_1799 tw_1801 tw_70 tw_114 tw_1802) hdX12_layMatch ⟨rfl, rfl, Nat.le_of_ble_eq_true rfl, Nat.le_of_ble_eq_true rfl⟩ ⟨Nat.le_of_ble_eq_true rfl, Nat.le_of_ble_eq_true rfl⟩ rfl rfl rfl hl.1 rfl (Nat.le_of_ble_eq_true rfl) dX12_fair_45 (fun u_37 H locs hr_37 hP hD hS => ?_)
          have hP : va_P D vwCl [(h0, .inr (12, [.int m_thrown, .ref m_qworld, .ref m_qimages, .ref m_qhasImage, .ref m_qtape, .int m_taped, .ref m_qfive, .int m_size, .int m_at, .int m_from, .int m_token, .int m_value, .int m_faultKind, .int m_faultPlace, .ref m_qfresh, .int m_startOne, .int m_startOther, .int m_latest, .int m_leftBeats, .int m_signed, .int m_metMany, .ref m_qsums, .ref m_qpairs, .ref m_qgoesWith, .ref m_qsaid, .int m_saidMany, .int m_firstWait, .ref m_qfirstOrder, .int m_bundleFirst, .ref m_qtiredBy, .int m_tiredMany, .ref m_qmany, .ref m_qwidth, .ref m_qnumbers, .ref m_qmoving])), (m_qworld, .inl (cA 1, 122, .inl m_cworld)), (m_qsums, .inl (cA 1, 2304, .inl (u_37.2.2.1 0))), (m_qpairs, .inl (cA 1, 2304, .inl (u_37.2.2.1 1)))] H := hP
          have hD : va_D A [(h0, .inr (12, [.int m_thrown, .ref m_qworld, .ref m_qimages, .ref m_qhasImage, .ref m_qtape, .int m_taped, .ref m_qfive, .int m_size, .int m_at, .int m_from, .int m_token, .int m_value, .int m_faultKind, .int m_faultPlace, .ref m_qfresh, .int m_startOne, .int m_startOther, .int m_latest, .int m_leftBeats, .int m_signed, .int m_metMany, .ref m_qsums, .ref m_qpairs, .ref m_qgoesWith, .ref m_qsaid, .int m_saidMany, .int m_firstWait, .ref m_qfirstOrder, .int m_bundleFirst, .ref m_qtiredBy, .int m_tiredMany, .ref m_qmany, .ref m_qwidth, .ref m_qnumbers, .ref m_qmoving])), (m_qworld, .inl (cA 1, 122, .inl m_cworld)), (m_qsums, .inl (cA 1, 2304, .inl (u_37.2.2.1 0))), (m_qpairs, .inl (cA 1, 2304, .inl (u_37.2.2.1 1)))] := hD
          refine lv_goto (tgt := 30) hx hb dX12_fair_48 (by decide) ?_
          exact ih_26 (x_35, (u_37.2.2.1 0), (u_37.2.2.1 1)) _ _ _ ⟨(show 0 ≤ x_35.toInt ∧ x_35.toInt ≤ 61 from by omega), (show ((u_37.2.2.1 1) 0).toInt = 0 ∨ x_35.toInt ≤ 60 from by first | omega | decide), hP.sub [0, 1, 2, 3] rfl, hD.sub [0, 1, 2, 3] (by decide) rfl, hS, lv_sub hl [0, 1, 2] rfl⟩ (by show (2147483647 - x_35.toInt).toNat < (2147483647 - L2_26.toInt).toNat; omega)
        · skip
          refine lv_aload_n hx hb dX12_fair_43 rfl (lv_at hl 2 rfl) ?_
          refine lv_iload_n hx hb dX12_fair_44 rfl (lv_at hl 0 rfl) ?_
          refine cmVv (rest := []) (wsC := [(h0, .inr (12, [.int m_thrown, .ref m_qworld, .ref m_qimages, .ref m_qhasImage, .ref m_qtape, .int m_taped, .ref m_qfive, .int m_size, .int m_at, .int m_from, .int m_token, .int m_value, .int m_faultKind, .int m_faultPlace, .ref m_qfresh, .int m_startOne, .int m_startOther, .int m_latest, .int m_leftBeats, .int m_signed, .int m_metMany, .ref m_qsums, .ref m_qpairs, .ref m_qgoesWith, .ref m_qsaid, .int m_saidMany, .int m_firstWait, .ref m_qfirstOrder, .int m_bundleFirst, .ref m_qtiredBy, .int m_tiredMany, .ref m_qmany, .ref m_qwidth, .ref m_qnumbers, .ref m_qmoving])), (m_qworld, .inl (cA 1, 122, .inl m_cworld)), (m_qsums, .inl (cA 1, 2304, .inl F1_26)), (m_qpairs, .inl (cA 1, 2304, .inl F2_26))]) (wr := []) ⟨hx, hb, hml, hown, hts⟩ hKN hP hD hS hA [0, 1, 2, 3] [] rfl rfl (by decide) (by decide) (by decide) (g_X12_layMatch_h l D cA _ h0 m_thrown m_qworld m_qimages m_qhasImage m_qtape m_taped m_qfive m_size m_at m_from m_token m_value m_faultKind m_faultPlace m_qfresh m_startOne m_startOther m_latest m_leftBeats m_signed m_metMany m_qsums m_qpairs m_qgoesWith m_qsaid m_saidMany m_firstWait m_qfirstOrder m_bundleFirst m_qtiredBy m_tiredMany m_qmany m_qwidth m_qnumbers m_qmoving m_cworld F1_26 F2_26 x_35 (by omega) (by omega) (by omega) (by omega) (by omega) (by omega) (by omega) a_m_cworld_0) (tb_V tw_1799 tw_1801 tw_70 tw_114 tw_1802) hdX12_layMatch ⟨rfl, rfl, Nat.le_of_ble_eq_true rfl, Nat.le_of_ble_eq_true rfl⟩ ⟨Nat.le_of_ble_eq_true rfl, Nat.le_of_ble_eq_true rfl⟩ rfl rfl rfl hl.1 rfl (Nat.le_of_ble_eq_true rfl) dX12_fair_45 (fun u_38 H locs hr_38 hP hD hS => ?_)
          have hP : va_P D vwCl [(h0, .inr (12, [.int m_thrown, .ref m_qworld, .ref m_qimages, .ref m_qhasImage, .ref m_qtape, .int m_taped, .ref m_qfive, .int m_size, .int m_at, .int m_from, .int m_token, .int m_value, .int m_faultKind, .int m_faultPlace, .ref m_qfresh, .int m_startOne, .int m_startOther, .int m_latest, .int m_leftBeats, .int m_signed, .int m_metMany, .ref m_qsums, .ref m_qpairs, .ref m_qgoesWith, .ref m_qsaid, .int m_saidMany, .int m_firstWait, .ref m_qfirstOrder, .int m_bundleFirst, .ref m_qtiredBy, .int m_tiredMany, .ref m_qmany, .ref m_qwidth, .ref m_qnumbers, .ref m_qmoving])), (m_qworld, .inl (cA 1, 122, .inl m_cworld)), (m_qsums, .inl (cA 1, 2304, .inl (u_38.2.2.1 0))), (m_qpairs, .inl (cA 1, 2304, .inl (u_38.2.2.1 1)))] H := hP
          have hD : va_D A [(h0, .inr (12, [.int m_thrown, .ref m_qworld, .ref m_qimages, .ref m_qhasImage, .ref m_qtape, .int m_taped, .ref m_qfive, .int m_size, .int m_at, .int m_from, .int m_token, .int m_value, .int m_faultKind, .int m_faultPlace, .ref m_qfresh, .int m_startOne, .int m_startOther, .int m_latest, .int m_leftBeats, .int m_signed, .int m_metMany, .ref m_qsums, .ref m_qpairs, .ref m_qgoesWith, .ref m_qsaid, .int m_saidMany, .int m_firstWait, .ref m_qfirstOrder, .int m_bundleFirst, .ref m_qtiredBy, .int m_tiredMany, .ref m_qmany, .ref m_qwidth, .ref m_qnumbers, .ref m_qmoving])), (m_qworld, .inl (cA 1, 122, .inl m_cworld)), (m_qsums, .inl (cA 1, 2304, .inl (u_38.2.2.1 0))), (m_qpairs, .inl (cA 1, 2304, .inl (u_38.2.2.1 1)))] := hD
          have hr_38_0 := hr_38
          refine lv_goto (tgt := 30) hx hb dX12_fair_48 (by decide) ?_
          exact ih_26 (x_35, (u_38.2.2.1 0), (u_38.2.2.1 1)) _ _ _ ⟨(show 0 ≤ x_35.toInt ∧ x_35.toInt ≤ 61 from by omega), (show ((u_38.2.2.1 1) 0).toInt = 0 ∨ x_35.toInt ≤ 60 from by first | omega | decide), hP.sub [0, 1, 2, 3] rfl, hD.sub [0, 1, 2, 3] (by decide) rfl, hS, lv_sub hl [0, 1, 2] rfl⟩ (by show (2147483647 - x_35.toInt).toNat < (2147483647 - L2_26.toInt).toNat; omega)
    · skip
      have b_40 := i32_bd ((u_4.2.2.1 1) 0)
      have k_39 := kk_eq rfl zi_0 c_5
      refine lv_iconst (v := 0) hx hb dX12_fair_26 (by decide) ?_
      have hP9 := hP.sub (ws' := [(h0, .inr (12, [.int m_thrown, .ref m_qworld, .ref m_qimages, .ref m_qhasImage, .ref m_qtape, .int m_taped, .ref m_qfive, .int m_size, .int m_at, .int m_from, .int m_token, .int m_value, .int m_faultKind, .int m_faultPlace, .ref m_qfresh, .int m_startOne, .int m_startOther, .int m_latest, .int m_leftBeats, .int m_signed, .int m_metMany, .ref m_qsums, .ref m_qpairs, .ref m_qgoesWith, .ref m_qsaid, .int m_saidMany, .int m_firstWait, .ref m_qfirstOrder, .int m_bundleFirst, .ref m_qtiredBy, .int m_tiredMany, .ref m_qmany, .ref m_qwidth, .ref m_qnumbers, .ref m_qmoving])), (m_qworld, .inl (cA 1, 122, .inl m_cworld)), (m_qsums, .inl (cA 1, 2304, .inl (u_4.2.2.1 0))), (m_qpairs, .inl (cA 1, 2304, .inl (u_4.2.2.1 1)))]) [0, 1, 2, 3] rfl
      have hD9 := hD.sub (ws' := [(h0, .inr (12, [.int m_thrown, .ref m_qworld, .ref m_qimages, .ref m_qhasImage, .ref m_qtape, .int m_taped, .ref m_qfive, .int m_size, .int m_at, .int m_from, .int m_token, .int m_value, .int m_faultKind, .int m_faultPlace, .ref m_qfresh, .int m_startOne, .int m_startOther, .int m_latest, .int m_leftBeats, .int m_signed, .int m_metMany, .ref m_qsums, .ref m_qpairs, .ref m_qgoesWith, .ref m_qsaid, .int m_saidMany, .int m_firstWait, .ref m_qfirstOrder, .int m_bundleFirst, .ref m_qtiredBy, .int m_tiredMany, .ref m_qmany, .ref m_qwidth, .ref m_qnumbers, .ref m_qmoving])), (m_qworld, .inl (cA 1, 122, .inl m_cworld)), (m_qsums, .inl (cA 1, 2304, .inl (u_4.2.2.1 0))), (m_qpairs, .inl (cA 1, 2304, .inl (u_4.2.2.1 1)))]) [0, 1, 2, 3] (by decide) rfl
      exact W.iret (v := 0) hx hb hr (fun t ht hW => ⟨⟨0, ((fun _ => 0), (fun _ => 0), (selF [(u_4.2.2.1 0), (u_4.2.2.1 1)]), (fun _ _ => 0)), rfl, (show -2 ≤ (0 : Int32).toInt ∧ (0 : Int32).toInt ≤ 60 from by decide), by rw [ht]; exact hP9, hD9⟩, hS.F ht⟩) hS.2.2 dX12_fair_27
  · skip
    refine lv_if_ne (tgt := 10) hx hb dX12_fair_4 (by decide) (fun c_41 => absurd (by decide) c_41) (fun c_41 => ?_)
    refine lv_bipush (v := (-2)) hx hb dX12_fair_7 (by decide) ?_
    have hP9 := hP.sub (ws' := [(h0, .inr (12, [.int m_thrown, .ref m_qworld, .ref m_qimages, .ref m_qhasImage, .ref m_qtape, .int m_taped, .ref m_qfive, .int m_size, .int m_at, .int m_from, .int m_token, .int m_value, .int m_faultKind, .int m_faultPlace, .ref m_qfresh, .int m_startOne, .int m_startOther, .int m_latest, .int m_leftBeats, .int m_signed, .int m_metMany, .ref m_qsums, .ref m_qpairs, .ref m_qgoesWith, .ref m_qsaid, .int m_saidMany, .int m_firstWait, .ref m_qfirstOrder, .int m_bundleFirst, .ref m_qtiredBy, .int m_tiredMany, .ref m_qmany, .ref m_qwidth, .ref m_qnumbers, .ref m_qmoving])), (m_qworld, .inl (cA 1, 122, .inl m_cworld)), (m_qsums, .inl (cA 1, 2304, .inl m_csums)), (m_qpairs, .inl (cA 1, 2304, .inl m_cpairs))]) [0, 1, 2, 3] rfl
    have hD9 := hD.sub (ws' := [(h0, .inr (12, [.int m_thrown, .ref m_qworld, .ref m_qimages, .ref m_qhasImage, .ref m_qtape, .int m_taped, .ref m_qfive, .int m_size, .int m_at, .int m_from, .int m_token, .int m_value, .int m_faultKind, .int m_faultPlace, .ref m_qfresh, .int m_startOne, .int m_startOther, .int m_latest, .int m_leftBeats, .int m_signed, .int m_metMany, .ref m_qsums, .ref m_qpairs, .ref m_qgoesWith, .ref m_qsaid, .int m_saidMany, .int m_firstWait, .ref m_qfirstOrder, .int m_bundleFirst, .ref m_qtiredBy, .int m_tiredMany, .ref m_qmany, .ref m_qwidth, .ref m_qnumbers, .ref m_qmoving])), (m_qworld, .inl (cA 1, 122, .inl m_cworld)), (m_qsums, .inl (cA 1, 2304, .inl m_csums)), (m_qpairs, .inl (cA 1, 2304, .inl m_cpairs))]) [0, 1, 2, 3] (by decide) rfl
    exact W.iret (v := (-2)) hx hb hr (fun t ht hW => ⟨⟨(-2), ((fun _ => 0), (fun _ => 0), (selF [m_csums, m_cpairs]), (fun _ _ => 0)), rfl, (show -2 ≤ ((-2) : Int32).toInt ∧ ((-2) : Int32).toInt ≤ 60 from by decide), by rw [ht]; exact hP9, hD9⟩, hS.F ht⟩) hS.2.2 dX12_fair_9

set_option maxHeartbeats 8000000 in
set_option maxRecDepth 100000 in
theorem g_X12_resinOf_f (l : Launch) (D : va_G) (cA : Nat → ClassId) (h0 : Nat) (m_thrown : Int32) (m_qworld : Nat) (m_qimages : Nat) (m_qhasImage : Nat) (m_qtape : Nat) (m_taped : Int32) (m_qfive : Nat) (m_size : Int32) (m_at : Int32) (m_from : Int32) (m_token : Int32) (m_value : Int32) (m_faultKind : Int32) (m_faultPlace : Int32) (m_qfresh : Nat) (m_startOne : Int32) (m_startOther : Int32) (m_latest : Int32) (m_leftBeats : Int32) (m_signed : Int32) (m_metMany : Int32) (m_qsums : Nat) (m_qpairs : Nat) (m_qgoesWith : Nat) (m_qsaid : Nat) (m_saidMany : Int32) (m_firstWait : Int32) (m_qfirstOrder : Nat) (m_bundleFirst : Int32) (m_qtiredBy : Nat) (m_tiredMany : Int32) (m_qmany : Nat) (m_qwidth : Nat) (m_qnumbers : Nat) (m_qmoving : Nat) (m_cworld : Nat → Int32) (p0 : Int32) (p1 : Int32) (p2 : Int32) (h_m_taped : 0 ≤ (m_taped : Int32).toInt ∧ (m_taped : Int32).toInt ≤ 800) (h_m_size : 0 ≤ (m_size : Int32).toInt ∧ (m_size : Int32).toInt ≤ 800) (h_m_at : 0 ≤ (m_at : Int32).toInt ∧ (m_at : Int32).toInt ≤ 800) (h_m_from : 0 ≤ (m_from : Int32).toInt ∧ (m_from : Int32).toInt ≤ 800) (h_m_saidMany : 0 ≤ (m_saidMany : Int32).toInt ∧ (m_saidMany : Int32).toInt ≤ 60) (h_m_tiredMany : 0 ≤ (m_tiredMany : Int32).toInt ∧ (m_tiredMany : Int32).toInt ≤ 240) (h_p0 : 0 ≤ (p0 : Int32).toInt ∧ (p0 : Int32).toInt ≤ 7) (h_p1 : 0 ≤ (p1 : Int32).toInt ∧ (p1 : Int32).toInt ≤ 7) (h_p2 : 0 ≤ (p2 : Int32).toInt ∧ (p2 : Int32).toInt ≤ 20) (a_m_cworld_0 : WI m_cworld) : Met l yX12_resinOf (Cond.code yX12_resinOf cX12_resinOf 6 (some .int) :: TB) (rmd 1 0 0) (PP D cA [(h0, .inr (12, [.int m_thrown, .ref m_qworld, .ref m_qimages, .ref m_qhasImage, .ref m_qtape, .int m_taped, .ref m_qfive, .int m_size, .int m_at, .int m_from, .int m_token, .int m_value, .int m_faultKind, .int m_faultPlace, .ref m_qfresh, .int m_startOne, .int m_startOther, .int m_latest, .int m_leftBeats, .int m_signed, .int m_metMany, .ref m_qsums, .ref m_qpairs, .ref m_qgoesWith, .ref m_qsaid, .int m_saidMany, .int m_firstWait, .ref m_qfirstOrder, .int m_bundleFirst, .ref m_qtiredBy, .int m_tiredMany, .ref m_qmany, .ref m_qwidth, .ref m_qnumbers, .ref m_qmoving])), (m_qworld, .inl (cA 1, 122, .inl m_cworld))] [.ref h0, .int p0, .int p1, .int p2]) (vp_Si (fun r => (0 ≤ r.toInt ∧ r.toInt ≤ 100) ∧ ((r : Int32).toInt = RBi ((m_cworld (9 + 3 * (p0 : Int32).toInt.toNat + (1 : Int32).toInt.toNat)).toInt) ((m_cworld (9 + 3 * (p1 : Int32).toInt.toNat + (1 : Int32).toInt.toNat)).toInt) (p2 : Int32).toInt ((p2 : Int32).toInt + 1).toNat + min ((m_cworld (9 + 3 * (p0 : Int32).toInt.toNat + (2 : Int32).toInt.toNat)).toInt) ((m_cworld (9 + 3 * (p1 : Int32).toInt.toNat + (2 : Int32).toInt.toNat)).toInt)))) 0 0 (fun _ => False) := by
  refine Met.ofW (cc := cX12_resinOf) (maxL := 6) (ret := (some .int)) (by decide) rfl ?_
  intro p e s m args below meth c s₁ B hml hv
  obtain ⟨rfl, hP, hKN⟩ := hv
  have hx := B.exec
  have hb := B.bytes
  have hr := B.returns
  have hts : ∀ w ∈ TB, w.before _ s = true := fun w h => atoms_spec B.pre w (List.mem_cons_of_mem _ h)
  have hown : s.vm.findClass RX12 = some m.cls := findClass_of_methodNamed B.named
  have hlocks := B.notSynchronized
  have hl := lv_entry ([.ref h0, .int p0, .int p1, .int p2]) (n := 6) (Nat.le_of_ble_eq_true rfl)
  rw [lg_entry_eq]
  generalize (lg_sl ([.ref h0, .int p0, .int p1, .int p2]) ++ List.replicate (6 - (lg_sl ([.ref h0, .int p0, .int p1, .int p2])).length) Slot.unset).toArray = ls at hl ⊢
  have hl : lv_has ls 6 [(0, .ref h0), (1, .int p0), (2, .int p1), (3, .int p2)] := hl
  refine lv_iconst (v := 0) hx hb dX12_resinOf_0 (by decide) ?_
  refine lv_istore (lv' := [(4, .int 0), (0, .ref h0), (1, .int p0), (2, .int p1), (3, .int p2)]) hx hb dX12_resinOf_1 hl (by decide) rfl (fun ls hl => ?_)
  refine lv_iconst (v := 0) hx hb dX12_resinOf_3 (by decide) ?_
  refine lv_istore (lv' := [(5, .int 0), (4, .int 0), (0, .ref h0), (1, .int p0), (2, .int p1), (3, .int p2)]) hx hb dX12_resinOf_4 hl (by decide) rfl (fun ls hl => ?_)
  have hb_128 : (0 : Int32).toInt = RBi ((m_cworld (9 + 3 * (p0 : Int32).toInt.toNat + (1 : Int32).toInt.toNat)).toInt) ((m_cworld (9 + 3 * (p1 : Int32).toInt.toNat + (1 : Int32).toInt.toNat)).toInt) (p2 : Int32).toInt (0 : Int32).toInt.toNat := by
    have z : (0 : Int32).toInt.toNat = 0 := by decide
    rw [z]; exact zi_0
  refine loopW (σ := Int32 × Int32) (fun _ => []) (fun ⟨L5_127, L4_127⟩ H locs ls => (0 ≤ L5_127.toInt ∧ L5_127.toInt ≤ 21) ∧ (0 ≤ L4_127.toInt ∧ L4_127.toInt ≤ 70) ∧ (L5_127.toInt ≤ p2.toInt + 1) ∧ (L4_127.toInt = RBi ((m_cworld (9 + 3 * (p0 : Int32).toInt.toNat + (1 : Int32).toInt.toNat)).toInt) ((m_cworld (9 + 3 * (p1 : Int32).toInt.toNat + (1 : Int32).toInt.toNat)).toInt) (p2 : Int32).toInt L5_127.toInt.toNat) ∧ H = s.heap ∧ locs = [] ∧ lv_has ls 6 [(5, .int L5_127), (4, .int L4_127), (0, .ref h0), (1, .int p0), (2, .int p1), (3, .int p2)]) (fun ⟨L5_127, L4_127⟩ => (2147483647 - L5_127.toInt).toNat) ?_ ((0, 0) : Int32 × Int32) ⟨(by decide), (by decide), (show (0 : Int32).toInt ≤ p2.toInt + 1 from by first | omega | decide), hb_128, rfl, rfl, hl⟩
  intro x_127 H locs ls hI_127 ih_127
  obtain ⟨L5_127, L4_127⟩ := x_127
  obtain ⟨k0_127, k1_127, k2_127, k3_127, rfl, rfl, hl⟩ := hI_127
  have hl : lv_has ls 6 [(5, .int L5_127), (4, .int L4_127), (0, .ref h0), (1, .int p0), (2, .int p1), (3, .int p2)] := hl
  refine lv_iload hx hb dX12_resinOf_6 (lv_at hl 0 rfl) ?_
  refine lv_iload_n hx hb dX12_resinOf_8 rfl (lv_at hl 5 rfl) ?_
  refine lv_icmp_gt (tgt := 52) hx hb dX12_resinOf_9 (by decide) (fun c_129 => ?_) (fun c_129 => ?_)
  · skip
    have k_130 := kk_lt rfl rfl c_129
    refine lv_iload hx hb dX12_resinOf_52 (lv_at hl 1 rfl) ?_
    refine lv_aload_n hx hb dX12_resinOf_54 rfl (lv_at hl 2 rfl) ?_
    refine lv_iload_n hx hb dX12_resinOf_55 rfl (lv_at hl 3 rfl) ?_
    refine lv_iconst (v := 2) hx hb dX12_resinOf_56 (by decide) ?_
    have z_131 := zi_2
    refine cpVi (rest := [.int L4_127]) ⟨hx, hb, hml, hown, hts⟩ hKN (hP.sub (ws' := [(h0, .inr (12, [.int m_thrown, .ref m_qworld, .ref m_qimages, .ref m_qhasImage, .ref m_qtape, .int m_taped, .ref m_qfive, .int m_size, .int m_at, .int m_from, .int m_token, .int m_value, .int m_faultKind, .int m_faultPlace, .ref m_qfresh, .int m_startOne, .int m_startOther, .int m_latest, .int m_leftBeats, .int m_signed, .int m_metMany, .ref m_qsums, .ref m_qpairs, .ref m_qgoesWith, .ref m_qsaid, .int m_saidMany, .int m_firstWait, .ref m_qfirstOrder, .int m_bundleFirst, .ref m_qtiredBy, .int m_tiredMany, .ref m_qmany, .ref m_qwidth, .ref m_qnumbers, .ref m_qmoving])), (m_qworld, .inl (cA 1, 122, .inl m_cworld))]) [0, 1] rfl) (g_X12_of l D cA h0 m_thrown m_qworld m_qimages m_qhasImage m_qtape m_taped m_qfive m_size m_at m_from m_token m_value m_faultKind m_faultPlace m_qfresh m_startOne m_startOther m_latest m_leftBeats m_signed m_metMany m_qsums m_qpairs m_qgoesWith m_qsaid m_saidMany m_firstWait m_qfirstOrder m_bundleFirst m_qtiredBy m_tiredMany m_qmany m_qwidth m_qnumbers m_qmoving m_cworld p0 2 (by omega) (by omega) (by omega) (by omega) (by omega) (by omega) (by omega) (by decide) a_m_cworld_0) (tb_V tw_1640 tw_1642 tw_50 tw_114 tw_1643) hdX12_of ⟨rfl, rfl, Nat.le_of_ble_eq_true rfl, Nat.le_of_ble_eq_true rfl⟩ ⟨Nat.le_of_ble_eq_true rfl, Nat.le_of_ble_eq_true rfl⟩ rfl rfl rfl hl.1 rfl (Nat.le_of_ble_eq_true rfl) dX12_resinOf_57 (fun r_132 hr_132 => ?_)
    obtain ⟨k_132_0_0, k_132_0_1⟩ := hr_132
    refine lv_aload_n hx hb dX12_resinOf_60 rfl (lv_at hl 2 rfl) ?_
    refine lv_iload_n hx hb dX12_resinOf_61 rfl (lv_at hl 4 rfl) ?_
    refine lv_iconst (v := 2) hx hb dX12_resinOf_62 (by decide) ?_
    refine cpVi (rest := [.int r_132, .int L4_127]) ⟨hx, hb, hml, hown, hts⟩ hKN (hP.sub (ws' := [(h0, .inr (12, [.int m_thrown, .ref m_qworld, .ref m_qimages, .ref m_qhasImage, .ref m_qtape, .int m_taped, .ref m_qfive, .int m_size, .int m_at, .int m_from, .int m_token, .int m_value, .int m_faultKind, .int m_faultPlace, .ref m_qfresh, .int m_startOne, .int m_startOther, .int m_latest, .int m_leftBeats, .int m_signed, .int m_metMany, .ref m_qsums, .ref m_qpairs, .ref m_qgoesWith, .ref m_qsaid, .int m_saidMany, .int m_firstWait, .ref m_qfirstOrder, .int m_bundleFirst, .ref m_qtiredBy, .int m_tiredMany, .ref m_qmany, .ref m_qwidth, .ref m_qnumbers, .ref m_qmoving])), (m_qworld, .inl (cA 1, 122, .inl m_cworld))]) [0, 1] rfl) (g_X12_of l D cA h0 m_thrown m_qworld m_qimages m_qhasImage m_qtape m_taped m_qfive m_size m_at m_from m_token m_value m_faultKind m_faultPlace m_qfresh m_startOne m_startOther m_latest m_leftBeats m_signed m_metMany m_qsums m_qpairs m_qgoesWith m_qsaid m_saidMany m_firstWait m_qfirstOrder m_bundleFirst m_qtiredBy m_tiredMany m_qmany m_qwidth m_qnumbers m_qmoving m_cworld p1 2 (by omega) (by omega) (by omega) (by omega) (by omega) (by omega) (by omega) (by decide) a_m_cworld_0) (tb_V tw_1640 tw_1642 tw_50 tw_114 tw_1643) hdX12_of ⟨rfl, rfl, Nat.le_of_ble_eq_true rfl, Nat.le_of_ble_eq_true rfl⟩ ⟨Nat.le_of_ble_eq_true rfl, Nat.le_of_ble_eq_true rfl⟩ rfl rfl rfl hl.1 rfl (Nat.le_of_ble_eq_true rfl) dX12_resinOf_63 (fun r_133 hr_133 => ?_)
    obtain ⟨k_133_0_0, k_133_0_1⟩ := hr_133
    refine cpSi (rest := [.int L4_127]) ⟨hx, hb, hml, hown, hts⟩ hKN (hP.sub (ws' := []) [] rfl) (g_J9_min_7cf53 l D cA r_132 r_133) (tb_S tw_1566 tw_555 tw_115 tw_556) hdJ9_min_7cf53 ⟨rfl, rfl, Nat.le_of_ble_eq_true rfl, Nat.le_of_ble_eq_true rfl⟩ ⟨Nat.le_of_ble_eq_true rfl, Nat.le_of_ble_eq_true rfl⟩ rfl hl.1 rfl (Nat.le_of_ble_eq_true rfl) dX12_resinOf_66 (fun r_134 hr_134 => ?_)
    obtain ⟨k_134_0_0, k_134_0_1, k_134_0_2⟩ := hr_134
    refine lv_iadd hx hb dX12_resinOf_69 ?_
    refine lv_topi (fun x_135 ex_135 => ?_)
    have k_136 := ar_add rfl rfl ex_135 (by omega) (by omega)
    have hb_137 : (x_135 : Int32).toInt = RBi ((m_cworld (9 + 3 * (p0 : Int32).toInt.toNat + (1 : Int32).toInt.toNat)).toInt) ((m_cworld (9 + 3 * (p1 : Int32).toInt.toNat + (1 : Int32).toInt.toNat)).toInt) (p2 : Int32).toInt ((p2 : Int32).toInt + 1).toNat + min ((m_cworld (9 + 3 * (p0 : Int32).toInt.toNat + (2 : Int32).toInt.toNat)).toInt) ((m_cworld (9 + 3 * (p1 : Int32).toInt.toNat + (2 : Int32).toInt.toNat)).toInt) := by
      have e_RC := congrArg Int32.toInt k_132_0_1
      have e_RD := congrArg Int32.toInt k_133_0_1
      rw [show ((p2 : Int32).toInt + 1).toNat = L5_127.toInt.toNat from by omega, ← k3_127]; omega
    exact W.iret (v := x_135) hx hb hr (fun t ht hW => ⟨x_135, rfl, (⟨(show 0 ≤ x_135.toInt ∧ x_135.toInt ≤ 100 from by omega), hb_137⟩), ht⟩) (fun _ h => by cases h) dX12_resinOf_70
  · skip
    have k_138 := kk_nlt rfl rfl c_129
    refine lv_iload hx hb dX12_resinOf_12 (lv_at hl 1 rfl) ?_
    refine lv_aload_n hx hb dX12_resinOf_14 rfl (lv_at hl 2 rfl) ?_
    refine lv_iload_n hx hb dX12_resinOf_15 rfl (lv_at hl 3 rfl) ?_
    refine lv_iconst (v := 1) hx hb dX12_resinOf_16 (by decide) ?_
    have z_139 := zi_1
    refine cpVi (rest := [.int L4_127]) ⟨hx, hb, hml, hown, hts⟩ hKN (hP.sub (ws' := [(h0, .inr (12, [.int m_thrown, .ref m_qworld, .ref m_qimages, .ref m_qhasImage, .ref m_qtape, .int m_taped, .ref m_qfive, .int m_size, .int m_at, .int m_from, .int m_token, .int m_value, .int m_faultKind, .int m_faultPlace, .ref m_qfresh, .int m_startOne, .int m_startOther, .int m_latest, .int m_leftBeats, .int m_signed, .int m_metMany, .ref m_qsums, .ref m_qpairs, .ref m_qgoesWith, .ref m_qsaid, .int m_saidMany, .int m_firstWait, .ref m_qfirstOrder, .int m_bundleFirst, .ref m_qtiredBy, .int m_tiredMany, .ref m_qmany, .ref m_qwidth, .ref m_qnumbers, .ref m_qmoving])), (m_qworld, .inl (cA 1, 122, .inl m_cworld))]) [0, 1] rfl) (g_X12_of l D cA h0 m_thrown m_qworld m_qimages m_qhasImage m_qtape m_taped m_qfive m_size m_at m_from m_token m_value m_faultKind m_faultPlace m_qfresh m_startOne m_startOther m_latest m_leftBeats m_signed m_metMany m_qsums m_qpairs m_qgoesWith m_qsaid m_saidMany m_firstWait m_qfirstOrder m_bundleFirst m_qtiredBy m_tiredMany m_qmany m_qwidth m_qnumbers m_qmoving m_cworld p0 1 (by omega) (by omega) (by omega) (by omega) (by omega) (by omega) (by omega) (by decide) a_m_cworld_0) (tb_V tw_1640 tw_1642 tw_50 tw_114 tw_1643) hdX12_of ⟨rfl, rfl, Nat.le_of_ble_eq_true rfl, Nat.le_of_ble_eq_true rfl⟩ ⟨Nat.le_of_ble_eq_true rfl, Nat.le_of_ble_eq_true rfl⟩ rfl rfl rfl hl.1 rfl (Nat.le_of_ble_eq_true rfl) dX12_resinOf_17 (fun r_140 hr_140 => ?_)
    obtain ⟨k_140_0_0, k_140_0_1⟩ := hr_140
    refine lv_iconst (v := 2) hx hb dX12_resinOf_20 (by decide) ?_
    refine lv_iload hx hb dX12_resinOf_21 (lv_at hl 0 rfl) ?_
    refine lv_imul hx hb dX12_resinOf_23 ?_
    refine lv_topi (fun x_141 ex_141 => ?_)
    have k_142 := ar_mul zi_2 rfl ex_141 (by omega) (by omega)
    refine lv_iadd hx hb dX12_resinOf_24 ?_
    refine lv_topi (fun x_143 ex_143 => ?_)
    have k_144 := ar_add rfl rfl ex_143 (by omega) (by omega)
    refine lv_aload_n hx hb dX12_resinOf_25 rfl (lv_at hl 2 rfl) ?_
    refine lv_iload_n hx hb dX12_resinOf_26 rfl (lv_at hl 4 rfl) ?_
    refine lv_iconst (v := 1) hx hb dX12_resinOf_27 (by decide) ?_
    refine cpVi (rest := [.int x_143, .int L4_127]) ⟨hx, hb, hml, hown, hts⟩ hKN (hP.sub (ws' := [(h0, .inr (12, [.int m_thrown, .ref m_qworld, .ref m_qimages, .ref m_qhasImage, .ref m_qtape, .int m_taped, .ref m_qfive, .int m_size, .int m_at, .int m_from, .int m_token, .int m_value, .int m_faultKind, .int m_faultPlace, .ref m_qfresh, .int m_startOne, .int m_startOther, .int m_latest, .int m_leftBeats, .int m_signed, .int m_metMany, .ref m_qsums, .ref m_qpairs, .ref m_qgoesWith, .ref m_qsaid, .int m_saidMany, .int m_firstWait, .ref m_qfirstOrder, .int m_bundleFirst, .ref m_qtiredBy, .int m_tiredMany, .ref m_qmany, .ref m_qwidth, .ref m_qnumbers, .ref m_qmoving])), (m_qworld, .inl (cA 1, 122, .inl m_cworld))]) [0, 1] rfl) (g_X12_of l D cA h0 m_thrown m_qworld m_qimages m_qhasImage m_qtape m_taped m_qfive m_size m_at m_from m_token m_value m_faultKind m_faultPlace m_qfresh m_startOne m_startOther m_latest m_leftBeats m_signed m_metMany m_qsums m_qpairs m_qgoesWith m_qsaid m_saidMany m_firstWait m_qfirstOrder m_bundleFirst m_qtiredBy m_tiredMany m_qmany m_qwidth m_qnumbers m_qmoving m_cworld p1 1 (by omega) (by omega) (by omega) (by omega) (by omega) (by omega) (by omega) (by decide) a_m_cworld_0) (tb_V tw_1640 tw_1642 tw_50 tw_114 tw_1643) hdX12_of ⟨rfl, rfl, Nat.le_of_ble_eq_true rfl, Nat.le_of_ble_eq_true rfl⟩ ⟨Nat.le_of_ble_eq_true rfl, Nat.le_of_ble_eq_true rfl⟩ rfl rfl rfl hl.1 rfl (Nat.le_of_ble_eq_true rfl) dX12_resinOf_28 (fun r_145 hr_145 => ?_)
    obtain ⟨k_145_0_0, k_145_0_1⟩ := hr_145
    refine lv_iconst (v := 2) hx hb dX12_resinOf_31 (by decide) ?_
    refine lv_iload_n hx hb dX12_resinOf_32 rfl (lv_at hl 5 rfl) ?_
    refine lv_iload hx hb dX12_resinOf_33 (lv_at hl 0 rfl) ?_
    refine lv_isub hx hb dX12_resinOf_35 ?_
    refine lv_topi (fun x_146 ex_146 => ?_)
    have k_147 := ar_sub rfl rfl ex_146 (by omega) (by omega)
    refine lv_imul hx hb dX12_resinOf_36 ?_
    refine lv_topi (fun x_148 ex_148 => ?_)
    have k_149 := ar_mul zi_2 rfl ex_148 (by omega) (by omega)
    refine lv_iadd hx hb dX12_resinOf_37 ?_
    refine lv_topi (fun x_150 ex_150 => ?_)
    have k_151 := ar_add rfl rfl ex_150 (by omega) (by omega)
    refine cpSi (rest := [.int L4_127]) ⟨hx, hb, hml, hown, hts⟩ hKN (hP.sub (ws' := []) [] rfl) (g_J9_min_7cf53 l D cA x_143 x_150) (tb_S tw_1566 tw_555 tw_115 tw_556) hdJ9_min_7cf53 ⟨rfl, rfl, Nat.le_of_ble_eq_true rfl, Nat.le_of_ble_eq_true rfl⟩ ⟨Nat.le_of_ble_eq_true rfl, Nat.le_of_ble_eq_true rfl⟩ rfl hl.1 rfl (Nat.le_of_ble_eq_true rfl) dX12_resinOf_38 (fun r_152 hr_152 => ?_)
    obtain ⟨k_152_0_0, k_152_0_1, k_152_0_2⟩ := hr_152
    refine cpSi (rest := []) ⟨hx, hb, hml, hown, hts⟩ hKN (hP.sub (ws' := []) [] rfl) (g_J9_max_7cf53 l D cA L4_127 r_152) (tb_S tw_1735 tw_779 tw_115 tw_780) hdJ9_max_7cf53 ⟨rfl, rfl, Nat.le_of_ble_eq_true rfl, Nat.le_of_ble_eq_true rfl⟩ ⟨Nat.le_of_ble_eq_true rfl, Nat.le_of_ble_eq_true rfl⟩ rfl hl.1 rfl (Nat.le_of_ble_eq_true rfl) dX12_resinOf_41 (fun r_153 hr_153 => ?_)
    obtain ⟨k_153_0_0, k_153_0_1, k_153_0_2⟩ := hr_153
    refine lv_istore (lv' := [(4, .int r_153), (5, .int L5_127), (0, .ref h0), (1, .int p0), (2, .int p1), (3, .int p2)]) hx hb dX12_resinOf_44 hl (by decide) rfl (fun ls hl => ?_)
    obtain ⟨x_154, ex_154⟩ : ∃ y : Int32, L5_127 + Int32.ofInt 1 = y := ⟨_, rfl⟩
    have k_155 := ar_add (b := 1) rfl zi_1 ex_154.symm (by omega) (by omega)
    refine lv_iinc (v := x_154) (lv' := [(5, .int x_154), (4, .int r_153), (0, .ref h0), (1, .int p0), (2, .int p1), (3, .int p2)]) hx hb dX12_resinOf_46 hl (k := 1) rfl ex_154 (by decide) rfl (fun ls hl => ?_)
    refine lv_goto (tgt := 6) hx hb dX12_resinOf_49 (by decide) ?_
    have hb_156 : r_153.toInt = RBi ((m_cworld (9 + 3 * (p0 : Int32).toInt.toNat + (1 : Int32).toInt.toNat)).toInt) ((m_cworld (9 + 3 * (p1 : Int32).toInt.toNat + (1 : Int32).toInt.toNat)).toInt) (p2 : Int32).toInt x_154.toInt.toNat := by
      have e_RA := congrArg Int32.toInt k_140_0_1
      have e_RB := congrArg Int32.toInt k_145_0_1
      rw [show x_154.toInt.toNat = L5_127.toInt.toNat + 1 from by omega]
      show _ = max (RBi ((m_cworld (9 + 3 * (p0 : Int32).toInt.toNat + (1 : Int32).toInt.toNat)).toInt) ((m_cworld (9 + 3 * (p1 : Int32).toInt.toNat + (1 : Int32).toInt.toNat)).toInt) (p2 : Int32).toInt L5_127.toInt.toNat) (min ((m_cworld (9 + 3 * (p0 : Int32).toInt.toNat + (1 : Int32).toInt.toNat)).toInt + 2 * (L5_127.toInt.toNat : Int)) ((m_cworld (9 + 3 * (p1 : Int32).toInt.toNat + (1 : Int32).toInt.toNat)).toInt + 2 * (p2.toInt - (L5_127.toInt.toNat : Int))))
      rw [← k3_127]; omega
    exact ih_127 (x_154, r_153) _ _ _ ⟨(show 0 ≤ x_154.toInt ∧ x_154.toInt ≤ 21 from by omega), (show 0 ≤ r_153.toInt ∧ r_153.toInt ≤ 70 from by omega), (show x_154.toInt ≤ p2.toInt + 1 from by first | omega | decide), hb_156, rfl, rfl, lv_sub hl [0, 1, 2, 3, 4, 5] rfl⟩ (by show (2147483647 - x_154.toInt).toNat < (2147483647 - L5_127.toInt).toNat; omega)
set_option maxHeartbeats 8000000 in
set_option maxRecDepth 100000 in
theorem g_X12_spare (l : Launch) (D : va_G) (cA : Nat → ClassId) (h0 : Nat) (m_thrown : Int32) (m_qworld : Nat) (m_qimages : Nat) (m_qhasImage : Nat) (m_qtape : Nat) (m_taped : Int32) (m_qfive : Nat) (m_size : Int32) (m_at : Int32) (m_from : Int32) (m_token : Int32) (m_value : Int32) (m_faultKind : Int32) (m_faultPlace : Int32) (m_qfresh : Nat) (m_startOne : Int32) (m_startOther : Int32) (m_latest : Int32) (m_leftBeats : Int32) (m_signed : Int32) (m_metMany : Int32) (m_qsums : Nat) (m_qpairs : Nat) (m_qgoesWith : Nat) (m_qsaid : Nat) (m_saidMany : Int32) (m_firstWait : Int32) (m_qfirstOrder : Nat) (m_bundleFirst : Int32) (m_qtiredBy : Nat) (m_tiredMany : Int32) (m_qmany : Nat) (m_qwidth : Nat) (m_qnumbers : Nat) (m_qmoving : Nat) (m_cworld : Nat → Int32) (p0 : Int32) (p1 : Int32) (h_m_taped : 0 ≤ (m_taped : Int32).toInt ∧ (m_taped : Int32).toInt ≤ 800) (h_m_size : 0 ≤ (m_size : Int32).toInt ∧ (m_size : Int32).toInt ≤ 800) (h_m_at : 0 ≤ (m_at : Int32).toInt ∧ (m_at : Int32).toInt ≤ 800) (h_m_from : 0 ≤ (m_from : Int32).toInt ∧ (m_from : Int32).toInt ≤ 800) (h_m_saidMany : 0 ≤ (m_saidMany : Int32).toInt ∧ (m_saidMany : Int32).toInt ≤ 60) (h_m_tiredMany : 0 ≤ (m_tiredMany : Int32).toInt ∧ (m_tiredMany : Int32).toInt ≤ 240) (a_m_cworld_0 : WI m_cworld) : Met l yX12_spare (Cond.code yX12_spare cX12_spare 4 (some .int) :: TB) (rmd 3 0 0) (PP D cA [(h0, .inr (12, [.int m_thrown, .ref m_qworld, .ref m_qimages, .ref m_qhasImage, .ref m_qtape, .int m_taped, .ref m_qfive, .int m_size, .int m_at, .int m_from, .int m_token, .int m_value, .int m_faultKind, .int m_faultPlace, .ref m_qfresh, .int m_startOne, .int m_startOther, .int m_latest, .int m_leftBeats, .int m_signed, .int m_metMany, .ref m_qsums, .ref m_qpairs, .ref m_qgoesWith, .ref m_qsaid, .int m_saidMany, .int m_firstWait, .ref m_qfirstOrder, .int m_bundleFirst, .ref m_qtiredBy, .int m_tiredMany, .ref m_qmany, .ref m_qwidth, .ref m_qnumbers, .ref m_qmoving])), (m_qworld, .inl (cA 1, 122, .inl m_cworld))] [.ref h0, .int p0, .int p1]) (vp_Si (fun r => -2 ≤ r.toInt ∧ r.toInt ≤ 20)) 0 0 (fun _ => False) := by
  refine Met.ofW (cc := cX12_spare) (maxL := 4) (ret := (some .int)) (by decide) rfl ?_
  intro p e s m args below meth c s₁ B hml hv
  obtain ⟨rfl, hP, hKN⟩ := hv
  have hx := B.exec
  have hb := B.bytes
  have hr := B.returns
  have hts : ∀ w ∈ TB, w.before _ s = true := fun w h => atoms_spec B.pre w (List.mem_cons_of_mem _ h)
  have hown : s.vm.findClass RX12 = some m.cls := findClass_of_methodNamed B.named
  have hlocks := B.notSynchronized
  have hl := lv_entry ([.ref h0, .int p0, .int p1]) (n := 4) (Nat.le_of_ble_eq_true rfl)
  rw [lg_entry_eq]
  generalize (lg_sl ([.ref h0, .int p0, .int p1]) ++ List.replicate (4 - (lg_sl ([.ref h0, .int p0, .int p1])).length) Slot.unset).toArray = ls at hl ⊢
  have hl : lv_has ls 4 [(0, .ref h0), (1, .int p0), (2, .int p1)] := hl
  refine lv_aload_n hx hb dX12_spare_0 rfl (lv_at hl 0 rfl) ?_
  refine lv_iload_n hx hb dX12_spare_1 rfl (lv_at hl 1 rfl) ?_
  refine lv_iload_n hx hb dX12_spare_2 rfl (lv_at hl 2 rfl) ?_
  refine cpVi (rest := []) ⟨hx, hb, hml, hown, hts⟩ hKN (hP.sub (ws' := [(h0, .inr (12, [.int m_thrown, .ref m_qworld, .ref m_qimages, .ref m_qhasImage, .ref m_qtape, .int m_taped, .ref m_qfive, .int m_size, .int m_at, .int m_from, .int m_token, .int m_value, .int m_faultKind, .int m_faultPlace, .ref m_qfresh, .int m_startOne, .int m_startOther, .int m_latest, .int m_leftBeats, .int m_signed, .int m_metMany, .ref m_qsums, .ref m_qpairs, .ref m_qgoesWith, .ref m_qsaid, .int m_saidMany, .int m_firstWait, .ref m_qfirstOrder, .int m_bundleFirst, .ref m_qtiredBy, .int m_tiredMany, .ref m_qmany, .ref m_qwidth, .ref m_qnumbers, .ref m_qmoving])), (m_qworld, .inl (cA 1, 122, .inl m_cworld))]) [0, 1] rfl) (g_X12_areMen l D cA h0 m_thrown m_qworld m_qimages m_qhasImage m_qtape m_taped m_qfive m_size m_at m_from m_token m_value m_faultKind m_faultPlace m_qfresh m_startOne m_startOther m_latest m_leftBeats m_signed m_metMany m_qsums m_qpairs m_qgoesWith m_qsaid m_saidMany m_firstWait m_qfirstOrder m_bundleFirst m_qtiredBy m_tiredMany m_qmany m_qwidth m_qnumbers m_qmoving m_cworld p0 p1 (by omega) (by omega) (by omega) (by omega) (by omega) (by omega) a_m_cworld_0) (tb_V tw_1771 tw_1773 tw_68 tw_114 tw_1774) hdX12_areMen ⟨rfl, rfl, Nat.le_of_ble_eq_true rfl, Nat.le_of_ble_eq_true rfl⟩ ⟨Nat.le_of_ble_eq_true rfl, Nat.le_of_ble_eq_true rfl⟩ rfl rfl rfl hl.1 rfl (Nat.le_of_ble_eq_true rfl) dX12_spare_3 (fun r_1 hr_1 => ?_)
  rcases hr_1 with ⟨k_1_0_0, k_1_0_1, k_1_0_2, k_1_0_3, k_1_0_4, k_1_0_5, k_1_0_6, k_1_0_7, rfl⟩ | rfl
  · skip
    refine lv_if_ne (tgt := 12) hx hb dX12_spare_6 (by decide) (fun c_2 => ?_) (fun c_2 => absurd c_2 (by decide))
    refine lv_aload_n hx hb dX12_spare_12 rfl (lv_at hl 0 rfl) ?_
    refine lv_iload_n hx hb dX12_spare_13 rfl (lv_at hl 1 rfl) ?_
    refine lv_iload_n hx hb dX12_spare_14 rfl (lv_at hl 2 rfl) ?_
    refine cpVi (rest := []) ⟨hx, hb, hml, hown, hts⟩ hKN (hP.sub (ws' := [(h0, .inr (12, [.int m_thrown, .ref m_qworld, .ref m_qimages, .ref m_qhasImage, .ref m_qtape, .int m_taped, .ref m_qfive, .int m_size, .int m_at, .int m_from, .int m_token, .int m_value, .int m_faultKind, .int m_faultPlace, .ref m_qfresh, .int m_startOne, .int m_startOther, .int m_latest, .int m_leftBeats, .int m_signed, .int m_metMany, .ref m_qsums, .ref m_qpairs, .ref m_qgoesWith, .ref m_qsaid, .int m_saidMany, .int m_firstWait, .ref m_qfirstOrder, .int m_bundleFirst, .ref m_qtiredBy, .int m_tiredMany, .ref m_qmany, .ref m_qwidth, .ref m_qnumbers, .ref m_qmoving])), (m_qworld, .inl (cA 1, 122, .inl m_cworld))]) [0, 1] rfl) (g_X12_isPair l D cA h0 m_thrown m_qworld m_qimages m_qhasImage m_qtape m_taped m_qfive m_size m_at m_from m_token m_value m_faultKind m_faultPlace m_qfresh m_startOne m_startOther m_latest m_leftBeats m_signed m_metMany m_qsums m_qpairs m_qgoesWith m_qsaid m_saidMany m_firstWait m_qfirstOrder m_bundleFirst m_qtiredBy m_tiredMany m_qmany m_qwidth m_qnumbers m_qmoving m_cworld p0 p1 (by omega) (by omega) (by omega) (by omega) (by omega) (by omega) (by omega) (by omega) a_m_cworld_0) (tb_V tw_1775 tw_1777 tw_69 tw_114 tw_1778) hdX12_isPair ⟨rfl, rfl, Nat.le_of_ble_eq_true rfl, Nat.le_of_ble_eq_true rfl⟩ ⟨Nat.le_of_ble_eq_true rfl, Nat.le_of_ble_eq_true rfl⟩ rfl rfl rfl hl.1 rfl (Nat.le_of_ble_eq_true rfl) dX12_spare_15 (fun r_3 hr_3 => ?_)
    refine lv_if_ne (tgt := 23) hx hb dX12_spare_18 (by decide) (fun c_4 => ?_) (fun c_4 => ?_)
    · skip
      have k_5 := kk_ne rfl zi_0 c_4
      refine lv_iconst (v := 0) hx hb dX12_spare_23 (by decide) ?_
      refine lv_istore_n (lv' := [(3, .int 0), (0, .ref h0), (1, .int p0), (2, .int p1)]) hx hb dX12_spare_24 rfl hl (by decide) rfl (fun ls hl => ?_)
      refine loopW (σ := Int32) (fun _ => []) (fun L3_15 H locs ls => (0 ≤ L3_15.toInt ∧ L3_15.toInt ≤ 20) ∧ (L3_15.toInt ≤ (m_cworld 3).toInt) ∧ H = s.heap ∧ locs = [] ∧ lv_has ls 4 [(3, .int L3_15), (0, .ref h0), (1, .int p0), (2, .int p1)]) (fun L3_15 => (2147483647 - L3_15.toInt).toNat) ?_ (0 : Int32) ⟨(by decide), (show (0 : Int32).toInt ≤ (m_cworld 3).toInt from by first | omega | decide), rfl, rfl, hl⟩
      intro x_15 H locs ls hI_15 ih_15
      obtain ⟨L3_15, rfl⟩ : ∃ z, z = x_15 := ⟨_, rfl⟩
      obtain ⟨k0_15, k1_15, rfl, rfl, hl⟩ := hI_15
      have hl : lv_has ls 4 [(3, .int L3_15), (0, .ref h0), (1, .int p0), (2, .int p1)] := hl
      refine lv_aload_n hx hb dX12_spare_25 rfl (lv_at hl 1 rfl) ?_
      refine lv_iload_n hx hb dX12_spare_26 rfl (lv_at hl 2 rfl) ?_
      refine lv_iload_n hx hb dX12_spare_27 rfl (lv_at hl 3 rfl) ?_
      refine lv_iload_n hx hb dX12_spare_28 rfl (lv_at hl 0 rfl) ?_
      refine cpVi (rest := []) ⟨hx, hb, hml, hown, hts⟩ hKN (hP.sub (ws' := [(h0, .inr (12, [.int m_thrown, .ref m_qworld, .ref m_qimages, .ref m_qhasImage, .ref m_qtape, .int m_taped, .ref m_qfive, .int m_size, .int m_at, .int m_from, .int m_token, .int m_value, .int m_faultKind, .int m_faultPlace, .ref m_qfresh, .int m_startOne, .int m_startOther, .int m_latest, .int m_leftBeats, .int m_signed, .int m_metMany, .ref m_qsums, .ref m_qpairs, .ref m_qgoesWith, .ref m_qsaid, .int m_saidMany, .int m_firstWait, .ref m_qfirstOrder, .int m_bundleFirst, .ref m_qtiredBy, .int m_tiredMany, .ref m_qmany, .ref m_qwidth, .ref m_qnumbers, .ref m_qmoving])), (m_qworld, .inl (cA 1, 122, .inl m_cworld))]) [0, 1] rfl) (g_X12_resinOf_f l D cA h0 m_thrown m_qworld m_qimages m_qhasImage m_qtape m_taped m_qfive m_size m_at m_from m_token m_value m_faultKind m_faultPlace m_qfresh m_startOne m_startOther m_latest m_leftBeats m_signed m_metMany m_qsums m_qpairs m_qgoesWith m_qsaid m_saidMany m_firstWait m_qfirstOrder m_bundleFirst m_qtiredBy m_tiredMany m_qmany m_qwidth m_qnumbers m_qmoving m_cworld p0 p1 L3_15 (by omega) (by omega) (by omega) (by omega) (by omega) (by omega) (by omega) (by omega) (by omega) a_m_cworld_0) (tb_V tw_1830 tw_1832 tw_73 tw_114 tw_1833) hdX12_resinOf ⟨rfl, rfl, Nat.le_of_ble_eq_true rfl, Nat.le_of_ble_eq_true rfl⟩ ⟨Nat.le_of_ble_eq_true rfl, Nat.le_of_ble_eq_true rfl⟩ rfl rfl rfl hl.1 rfl (Nat.le_of_ble_eq_true rfl) dX12_spare_29 (fun r_16 hr_16 => ?_)
      obtain ⟨k_16_0_0, k_16_0_1⟩ := hr_16
      refine lv_aload_n hx hb dX12_spare_32 rfl (lv_at hl 1 rfl) ?_
      refine lv_iload_n hx hb dX12_spare_33 rfl (lv_at hl 2 rfl) ?_
      refine lv_iload_n hx hb dX12_spare_34 rfl (lv_at hl 3 rfl) ?_
      refine lv_aload_n hx hb dX12_spare_35 rfl (lv_at hl 1 rfl) ?_
      refine va_get (D := D) (ci := 12) (v := .ref m_qworld) (C := RX12) (T := TX12) (N := 35) hx hb hts inX12 hown hKN.1 hP 0 rfl rfl 1 (by decide) (hts _ tw_1420) (fun _ h9 => h9) rfl dX12_spare_36 ?_
      refine lv_iconst (v := 3) hx hb dX12_spare_39 (by decide) ?_
      refine va_iald hx hb hKN.1 hP 1 1 rfl rfl (by unfold vp_in; decide) dX12_spare_40 ?_
      refine W.eq (g2 := F0 m 41 ls [.int (m_cworld 3), .int p1, .int p0, .ref h0, .int r_16]) rfl ?_
      have k_17 := a_m_cworld_0.1.1.2.2.1 (3) (by decide) (by decide)
      refine cpVi (rest := [.int r_16]) ⟨hx, hb, hml, hown, hts⟩ hKN (hP.sub (ws' := [(h0, .inr (12, [.int m_thrown, .ref m_qworld, .ref m_qimages, .ref m_qhasImage, .ref m_qtape, .int m_taped, .ref m_qfive, .int m_size, .int m_at, .int m_from, .int m_token, .int m_value, .int m_faultKind, .int m_faultPlace, .ref m_qfresh, .int m_startOne, .int m_startOther, .int m_latest, .int m_leftBeats, .int m_signed, .int m_metMany, .ref m_qsums, .ref m_qpairs, .ref m_qgoesWith, .ref m_qsaid, .int m_saidMany, .int m_firstWait, .ref m_qfirstOrder, .int m_bundleFirst, .ref m_qtiredBy, .int m_tiredMany, .ref m_qmany, .ref m_qwidth, .ref m_qnumbers, .ref m_qmoving])), (m_qworld, .inl (cA 1, 122, .inl m_cworld))]) [0, 1] rfl) (g_X12_resinOf_f l D cA h0 m_thrown m_qworld m_qimages m_qhasImage m_qtape m_taped m_qfive m_size m_at m_from m_token m_value m_faultKind m_faultPlace m_qfresh m_startOne m_startOther m_latest m_leftBeats m_signed m_metMany m_qsums m_qpairs m_qgoesWith m_qsaid m_saidMany m_firstWait m_qfirstOrder m_bundleFirst m_qtiredBy m_tiredMany m_qmany m_qwidth m_qnumbers m_qmoving m_cworld p0 p1 (m_cworld 3) (by omega) (by omega) (by omega) (by omega) (by omega) (by omega) (by omega) (by omega) (by omega) a_m_cworld_0) (tb_V tw_1830 tw_1832 tw_73 tw_114 tw_1833) hdX12_resinOf ⟨rfl, rfl, Nat.le_of_ble_eq_true rfl, Nat.le_of_ble_eq_true rfl⟩ ⟨Nat.le_of_ble_eq_true rfl, Nat.le_of_ble_eq_true rfl⟩ rfl rfl rfl hl.1 rfl (Nat.le_of_ble_eq_true rfl) dX12_spare_41 (fun r_18 hr_18 => ?_)
      obtain ⟨k_18_0_0, k_18_0_1⟩ := hr_18
      refine lv_icmp_ge (tgt := 53) hx hb dX12_spare_44 (by decide) (fun c_19 => ?_) (fun c_19 => ?_)
      · skip
        have k_20 := kk_le rfl rfl c_19
        refine lv_iload_n hx hb dX12_spare_53 rfl (lv_at hl 0 rfl) ?_
        exact W.iret (v := L3_15) hx hb hr (fun t ht hW => ⟨L3_15, rfl, (show -2 ≤ L3_15.toInt ∧ L3_15.toInt ≤ 20 from by omega), ht⟩) (fun _ h => by cases h) dX12_spare_54
      · skip
        have k_21 := kk_nle rfl rfl c_19
        have hne : L3_15.toInt ≠ (m_cworld 3).toInt := fun h => by
          have e1 := k_16_0_1
          have e2 := k_18_0_1
          rw [h] at e1
          omega
        obtain ⟨x_22, ex_22⟩ : ∃ y : Int32, L3_15 + Int32.ofInt 1 = y := ⟨_, rfl⟩
        have k_23 := ar_add (b := 1) rfl zi_1 ex_22.symm (by omega) (by omega)
        refine lv_iinc (v := x_22) (lv' := [(3, .int x_22), (0, .ref h0), (1, .int p0), (2, .int p1)]) hx hb dX12_spare_47 hl (k := 0) rfl ex_22 (by decide) rfl (fun ls hl => ?_)
        refine lv_goto (tgt := 25) hx hb dX12_spare_50 (by decide) ?_
        exact ih_15 (x_22) _ _ _ ⟨(show 0 ≤ x_22.toInt ∧ x_22.toInt ≤ 20 from by omega), (show x_22.toInt ≤ (m_cworld 3).toInt from by first | omega | decide), rfl, rfl, lv_sub hl [0, 1, 2, 3] rfl⟩ (by show (2147483647 - x_22.toInt).toNat < (2147483647 - L3_15.toInt).toNat; omega)
    · skip
      have k_24 := kk_eq rfl zi_0 c_4
      refine lv_iconst (v := (-1)) hx hb dX12_spare_21 (by decide) ?_
      exact W.iret (v := (-1)) hx hb hr (fun t ht hW => ⟨(-1), rfl, (show -2 ≤ ((-1) : Int32).toInt ∧ ((-1) : Int32).toInt ≤ 20 from by decide), ht⟩) (fun _ h => by cases h) dX12_spare_22
  · skip
    refine lv_if_ne (tgt := 12) hx hb dX12_spare_6 (by decide) (fun c_25 => absurd (by decide) c_25) (fun c_25 => ?_)
    refine lv_bipush (v := (-2)) hx hb dX12_spare_9 (by decide) ?_
    exact W.iret (v := (-2)) hx hb hr (fun t ht hW => ⟨(-2), rfl, (show -2 ≤ ((-2) : Int32).toInt ∧ ((-2) : Int32).toInt ≤ 20 from by decide), ht⟩) (fun _ h => by cases h) dX12_spare_11
set_option maxHeartbeats 8000000 in
set_option maxRecDepth 100000 in
theorem g_X12_gripLess_z (l : Launch) (D : va_G) (cA : Nat → ClassId) (h0 : Nat) (m_thrown : Int32) (m_qworld : Nat) (m_qimages : Nat) (m_qhasImage : Nat) (m_qtape : Nat) (m_taped : Int32) (m_qfive : Nat) (m_size : Int32) (m_at : Int32) (m_from : Int32) (m_token : Int32) (m_value : Int32) (m_faultKind : Int32) (m_faultPlace : Int32) (m_qfresh : Nat) (m_startOne : Int32) (m_startOther : Int32) (m_latest : Int32) (m_leftBeats : Int32) (m_signed : Int32) (m_metMany : Int32) (m_qsums : Nat) (m_qpairs : Nat) (m_qgoesWith : Nat) (m_qsaid : Nat) (m_saidMany : Int32) (m_firstWait : Int32) (m_qfirstOrder : Nat) (m_bundleFirst : Int32) (m_qtiredBy : Nat) (m_tiredMany : Int32) (m_qmany : Nat) (m_qwidth : Nat) (m_qnumbers : Nat) (m_qmoving : Nat) (m_cworld : Nat → Int32) (p0 : Int32) (p1 : Int32) (p2 : Int32) (h_m_taped : 0 ≤ (m_taped : Int32).toInt ∧ (m_taped : Int32).toInt ≤ 800) (h_m_size : 0 ≤ (m_size : Int32).toInt ∧ (m_size : Int32).toInt ≤ 800) (h_m_at : 0 ≤ (m_at : Int32).toInt ∧ (m_at : Int32).toInt ≤ 800) (h_m_from : 0 ≤ (m_from : Int32).toInt ∧ (m_from : Int32).toInt ≤ 800) (h_m_saidMany : 0 ≤ (m_saidMany : Int32).toInt ∧ (m_saidMany : Int32).toInt ≤ 60) (h_m_tiredMany : 0 ≤ (m_tiredMany : Int32).toInt ∧ (m_tiredMany : Int32).toInt ≤ 240) (h_p0 : 0 ≤ (p0 : Int32).toInt ∧ (p0 : Int32).toInt ≤ 7) (h_p2 : 0 ≤ (p2 : Int32).toInt ∧ (p2 : Int32).toInt ≤ 0) (a_m_cworld_0 : WI m_cworld) : Met l yX12_gripLess (Cond.code yX12_gripLess cX12_gripLess 4 (some .int) :: TB) (rmd 1 0 0) (PP D cA [(h0, .inr (12, [.int m_thrown, .ref m_qworld, .ref m_qimages, .ref m_qhasImage, .ref m_qtape, .int m_taped, .ref m_qfive, .int m_size, .int m_at, .int m_from, .int m_token, .int m_value, .int m_faultKind, .int m_faultPlace, .ref m_qfresh, .int m_startOne, .int m_startOther, .int m_latest, .int m_leftBeats, .int m_signed, .int m_metMany, .ref m_qsums, .ref m_qpairs, .ref m_qgoesWith, .ref m_qsaid, .int m_saidMany, .int m_firstWait, .ref m_qfirstOrder, .int m_bundleFirst, .ref m_qtiredBy, .int m_tiredMany, .ref m_qmany, .ref m_qwidth, .ref m_qnumbers, .ref m_qmoving])), (m_qworld, .inl (cA 1, 122, .inl m_cworld))] [.ref h0, .int p0, .int p1, .int p2]) (vp_Si (fun r => 0 ≤ r.toInt ∧ r.toInt ≤ 30)) 0 0 (fun _ => False) := by
  refine Met.ofW (cc := cX12_gripLess) (maxL := 4) (ret := (some .int)) (by decide) rfl ?_
  intro p e s m args below meth c s₁ B hml hv
  obtain ⟨rfl, hP, hKN⟩ := hv
  have hx := B.exec
  have hb := B.bytes
  have hr := B.returns
  have hts : ∀ w ∈ TB, w.before _ s = true := fun w h => atoms_spec B.pre w (List.mem_cons_of_mem _ h)
  have hown : s.vm.findClass RX12 = some m.cls := findClass_of_methodNamed B.named
  have hlocks := B.notSynchronized
  have hl := lv_entry ([.ref h0, .int p0, .int p1, .int p2]) (n := 4) (Nat.le_of_ble_eq_true rfl)
  rw [lg_entry_eq]
  generalize (lg_sl ([.ref h0, .int p0, .int p1, .int p2]) ++ List.replicate (4 - (lg_sl ([.ref h0, .int p0, .int p1, .int p2])).length) Slot.unset).toArray = ls at hl ⊢
  have hl : lv_has ls 4 [(0, .ref h0), (1, .int p0), (2, .int p1), (3, .int p2)] := hl
  refine lv_aload_n hx hb dX12_gripLess_0 rfl (lv_at hl 0 rfl) ?_
  refine lv_iload_n hx hb dX12_gripLess_1 rfl (lv_at hl 1 rfl) ?_
  refine lv_iconst (v := 1) hx hb dX12_gripLess_2 (by decide) ?_
  have z_1 := zi_1
  refine cpVi (rest := []) ⟨hx, hb, hml, hown, hts⟩ hKN (hP.sub (ws' := [(h0, .inr (12, [.int m_thrown, .ref m_qworld, .ref m_qimages, .ref m_qhasImage, .ref m_qtape, .int m_taped, .ref m_qfive, .int m_size, .int m_at, .int m_from, .int m_token, .int m_value, .int m_faultKind, .int m_faultPlace, .ref m_qfresh, .int m_startOne, .int m_startOther, .int m_latest, .int m_leftBeats, .int m_signed, .int m_metMany, .ref m_qsums, .ref m_qpairs, .ref m_qgoesWith, .ref m_qsaid, .int m_saidMany, .int m_firstWait, .ref m_qfirstOrder, .int m_bundleFirst, .ref m_qtiredBy, .int m_tiredMany, .ref m_qmany, .ref m_qwidth, .ref m_qnumbers, .ref m_qmoving])), (m_qworld, .inl (cA 1, 122, .inl m_cworld))]) [0, 1] rfl) (g_X12_of l D cA h0 m_thrown m_qworld m_qimages m_qhasImage m_qtape m_taped m_qfive m_size m_at m_from m_token m_value m_faultKind m_faultPlace m_qfresh m_startOne m_startOther m_latest m_leftBeats m_signed m_metMany m_qsums m_qpairs m_qgoesWith m_qsaid m_saidMany m_firstWait m_qfirstOrder m_bundleFirst m_qtiredBy m_tiredMany m_qmany m_qwidth m_qnumbers m_qmoving m_cworld p0 1 (by omega) (by omega) (by omega) (by omega) (by omega) (by omega) (by omega) (by decide) a_m_cworld_0) (tb_V tw_1640 tw_1642 tw_50 tw_114 tw_1643) hdX12_of ⟨rfl, rfl, Nat.le_of_ble_eq_true rfl, Nat.le_of_ble_eq_true rfl⟩ ⟨Nat.le_of_ble_eq_true rfl, Nat.le_of_ble_eq_true rfl⟩ rfl rfl rfl hl.1 rfl (Nat.le_of_ble_eq_true rfl) dX12_gripLess_3 (fun r_2 hr_2 => ?_)
  obtain ⟨k_2_0_0, k_2_0_1⟩ := hr_2
  refine lv_iload_n hx hb dX12_gripLess_6 rfl (lv_at hl 1 rfl) ?_
  refine lv_iload_n hx hb dX12_gripLess_7 rfl (lv_at hl 2 rfl) ?_
  refine lv_icmp_ne (tgt := 15) hx hb dX12_gripLess_8 (by decide) (fun c_3 => ?_) (fun c_3 => ?_)
  · skip
    have b_5 := i32_bd p1
    have k_4 := kk_ne rfl rfl c_3
    refine lv_iconst (v := 0) hx hb dX12_gripLess_15 (by decide) ?_
    refine lv_isub hx hb dX12_gripLess_16 ?_
    refine lv_topi (fun x_6 ex_6 => ?_)
    have k_7 := ar_sub rfl zi_0 ex_6 (by omega) (by omega)
    exact W.iret (v := x_6) hx hb hr (fun t ht hW => ⟨x_6, rfl, (show 0 ≤ x_6.toInt ∧ x_6.toInt ≤ 30 from by omega), ht⟩) (fun _ h => by cases h) dX12_gripLess_17
  · skip
    have b_9 := i32_bd p1
    have k_8 := kk_eq rfl rfl c_3
    refine lv_iload_n hx hb dX12_gripLess_11 rfl (lv_at hl 3 rfl) ?_
    refine lv_goto (tgt := 16) hx hb dX12_gripLess_12 (by decide) ?_
    refine lv_isub hx hb dX12_gripLess_16 ?_
    refine lv_topi (fun x_10 ex_10 => ?_)
    have k_11 := ar_sub rfl rfl ex_10 (by omega) (by omega)
    exact W.iret (v := x_10) hx hb hr (fun t ht hW => ⟨x_10, rfl, (show 0 ≤ x_10.toInt ∧ x_10.toInt ≤ 30 from by omega), ht⟩) (fun _ h => by cases h) dX12_gripLess_17
set_option maxHeartbeats 8000000 in
set_option maxRecDepth 100000 in
theorem g_X12_holdBy_z (l : Launch) (D : va_G) (cA : Nat → ClassId) (h0 : Nat) (m_thrown : Int32) (m_qworld : Nat) (m_qimages : Nat) (m_qhasImage : Nat) (m_qtape : Nat) (m_taped : Int32) (m_qfive : Nat) (m_size : Int32) (m_at : Int32) (m_from : Int32) (m_token : Int32) (m_value : Int32) (m_faultKind : Int32) (m_faultPlace : Int32) (m_qfresh : Nat) (m_startOne : Int32) (m_startOther : Int32) (m_latest : Int32) (m_leftBeats : Int32) (m_signed : Int32) (m_metMany : Int32) (m_qsums : Nat) (m_qpairs : Nat) (m_qgoesWith : Nat) (m_qsaid : Nat) (m_saidMany : Int32) (m_firstWait : Int32) (m_qfirstOrder : Nat) (m_bundleFirst : Int32) (m_qtiredBy : Nat) (m_tiredMany : Int32) (m_qmany : Nat) (m_qwidth : Nat) (m_qnumbers : Nat) (m_qmoving : Nat) (m_cworld : Nat → Int32) (p0 : Int32) (p1 : Int32) (p2 : Int32) (p3 : Int32) (h_m_taped : 0 ≤ (m_taped : Int32).toInt ∧ (m_taped : Int32).toInt ≤ 800) (h_m_size : 0 ≤ (m_size : Int32).toInt ∧ (m_size : Int32).toInt ≤ 800) (h_m_at : 0 ≤ (m_at : Int32).toInt ∧ (m_at : Int32).toInt ≤ 800) (h_m_from : 0 ≤ (m_from : Int32).toInt ∧ (m_from : Int32).toInt ≤ 800) (h_m_saidMany : 0 ≤ (m_saidMany : Int32).toInt ∧ (m_saidMany : Int32).toInt ≤ 60) (h_m_tiredMany : 0 ≤ (m_tiredMany : Int32).toInt ∧ (m_tiredMany : Int32).toInt ≤ 240) (h_p0 : 0 ≤ (p0 : Int32).toInt ∧ (p0 : Int32).toInt ≤ 7) (h_p1 : 0 ≤ (p1 : Int32).toInt ∧ (p1 : Int32).toInt ≤ 7) (h_p3 : 0 ≤ (p3 : Int32).toInt ∧ (p3 : Int32).toInt ≤ 0) (a_m_cworld_0 : WI m_cworld) : Met l yX12_holdBy (Cond.code yX12_holdBy cX12_holdBy 5 (some .int) :: TB) (rmd 2 0 0) (PP D cA [(h0, .inr (12, [.int m_thrown, .ref m_qworld, .ref m_qimages, .ref m_qhasImage, .ref m_qtape, .int m_taped, .ref m_qfive, .int m_size, .int m_at, .int m_from, .int m_token, .int m_value, .int m_faultKind, .int m_faultPlace, .ref m_qfresh, .int m_startOne, .int m_startOther, .int m_latest, .int m_leftBeats, .int m_signed, .int m_metMany, .ref m_qsums, .ref m_qpairs, .ref m_qgoesWith, .ref m_qsaid, .int m_saidMany, .int m_firstWait, .ref m_qfirstOrder, .int m_bundleFirst, .ref m_qtiredBy, .int m_tiredMany, .ref m_qmany, .ref m_qwidth, .ref m_qnumbers, .ref m_qmoving])), (m_qworld, .inl (cA 1, 122, .inl m_cworld))] [.ref h0, .int p0, .int p1, .int p2, .int p3]) (vp_Si (fun r => 0 ≤ r.toInt ∧ r.toInt ≤ 60)) 0 0 (fun _ => False) := by
  refine Met.ofW (cc := cX12_holdBy) (maxL := 5) (ret := (some .int)) (by decide) rfl ?_
  intro p e s m args below meth c s₁ B hml hv
  obtain ⟨rfl, hP, hKN⟩ := hv
  have hx := B.exec
  have hb := B.bytes
  have hr := B.returns
  have hts : ∀ w ∈ TB, w.before _ s = true := fun w h => atoms_spec B.pre w (List.mem_cons_of_mem _ h)
  have hown : s.vm.findClass RX12 = some m.cls := findClass_of_methodNamed B.named
  have hlocks := B.notSynchronized
  have hl := lv_entry ([.ref h0, .int p0, .int p1, .int p2, .int p3]) (n := 5) (Nat.le_of_ble_eq_true rfl)
  rw [lg_entry_eq]
  generalize (lg_sl ([.ref h0, .int p0, .int p1, .int p2, .int p3]) ++ List.replicate (5 - (lg_sl ([.ref h0, .int p0, .int p1, .int p2, .int p3])).length) Slot.unset).toArray = ls at hl ⊢
  have hl : lv_has ls 5 [(0, .ref h0), (1, .int p0), (2, .int p1), (3, .int p2), (4, .int p3)] := hl
  refine lv_aload_n hx hb dX12_holdBy_0 rfl (lv_at hl 0 rfl) ?_
  refine lv_iload_n hx hb dX12_holdBy_1 rfl (lv_at hl 1 rfl) ?_
  refine lv_iload_n hx hb dX12_holdBy_2 rfl (lv_at hl 3 rfl) ?_
  refine lv_iload hx hb dX12_holdBy_3 (lv_at hl 4 rfl) ?_
  refine cpVi (rest := []) ⟨hx, hb, hml, hown, hts⟩ hKN (hP.sub (ws' := [(h0, .inr (12, [.int m_thrown, .ref m_qworld, .ref m_qimages, .ref m_qhasImage, .ref m_qtape, .int m_taped, .ref m_qfive, .int m_size, .int m_at, .int m_from, .int m_token, .int m_value, .int m_faultKind, .int m_faultPlace, .ref m_qfresh, .int m_startOne, .int m_startOther, .int m_latest, .int m_leftBeats, .int m_signed, .int m_metMany, .ref m_qsums, .ref m_qpairs, .ref m_qgoesWith, .ref m_qsaid, .int m_saidMany, .int m_firstWait, .ref m_qfirstOrder, .int m_bundleFirst, .ref m_qtiredBy, .int m_tiredMany, .ref m_qmany, .ref m_qwidth, .ref m_qnumbers, .ref m_qmoving])), (m_qworld, .inl (cA 1, 122, .inl m_cworld))]) [0, 1] rfl) (g_X12_gripLess_z l D cA h0 m_thrown m_qworld m_qimages m_qhasImage m_qtape m_taped m_qfive m_size m_at m_from m_token m_value m_faultKind m_faultPlace m_qfresh m_startOne m_startOther m_latest m_leftBeats m_signed m_metMany m_qsums m_qpairs m_qgoesWith m_qsaid m_saidMany m_firstWait m_qfirstOrder m_bundleFirst m_qtiredBy m_tiredMany m_qmany m_qwidth m_qnumbers m_qmoving m_cworld p0 p2 p3 (by omega) (by omega) (by omega) (by omega) (by omega) (by omega) (by omega) (by omega) a_m_cworld_0) (tb_V tw_1708 tw_1710 tw_65 tw_114 tw_1711) hdX12_gripLess ⟨rfl, rfl, Nat.le_of_ble_eq_true rfl, Nat.le_of_ble_eq_true rfl⟩ ⟨Nat.le_of_ble_eq_true rfl, Nat.le_of_ble_eq_true rfl⟩ rfl rfl rfl hl.1 rfl (Nat.le_of_ble_eq_true rfl) dX12_holdBy_5 (fun r_1 hr_1 => ?_)
  refine lv_aload_n hx hb dX12_holdBy_8 rfl (lv_at hl 0 rfl) ?_
  refine lv_iload_n hx hb dX12_holdBy_9 rfl (lv_at hl 2 rfl) ?_
  refine lv_iload_n hx hb dX12_holdBy_10 rfl (lv_at hl 3 rfl) ?_
  refine lv_iload hx hb dX12_holdBy_11 (lv_at hl 4 rfl) ?_
  refine cpVi (rest := [.int r_1]) ⟨hx, hb, hml, hown, hts⟩ hKN (hP.sub (ws' := [(h0, .inr (12, [.int m_thrown, .ref m_qworld, .ref m_qimages, .ref m_qhasImage, .ref m_qtape, .int m_taped, .ref m_qfive, .int m_size, .int m_at, .int m_from, .int m_token, .int m_value, .int m_faultKind, .int m_faultPlace, .ref m_qfresh, .int m_startOne, .int m_startOther, .int m_latest, .int m_leftBeats, .int m_signed, .int m_metMany, .ref m_qsums, .ref m_qpairs, .ref m_qgoesWith, .ref m_qsaid, .int m_saidMany, .int m_firstWait, .ref m_qfirstOrder, .int m_bundleFirst, .ref m_qtiredBy, .int m_tiredMany, .ref m_qmany, .ref m_qwidth, .ref m_qnumbers, .ref m_qmoving])), (m_qworld, .inl (cA 1, 122, .inl m_cworld))]) [0, 1] rfl) (g_X12_gripLess_z l D cA h0 m_thrown m_qworld m_qimages m_qhasImage m_qtape m_taped m_qfive m_size m_at m_from m_token m_value m_faultKind m_faultPlace m_qfresh m_startOne m_startOther m_latest m_leftBeats m_signed m_metMany m_qsums m_qpairs m_qgoesWith m_qsaid m_saidMany m_firstWait m_qfirstOrder m_bundleFirst m_qtiredBy m_tiredMany m_qmany m_qwidth m_qnumbers m_qmoving m_cworld p1 p2 p3 (by omega) (by omega) (by omega) (by omega) (by omega) (by omega) (by omega) (by omega) a_m_cworld_0) (tb_V tw_1708 tw_1710 tw_65 tw_114 tw_1711) hdX12_gripLess ⟨rfl, rfl, Nat.le_of_ble_eq_true rfl, Nat.le_of_ble_eq_true rfl⟩ ⟨Nat.le_of_ble_eq_true rfl, Nat.le_of_ble_eq_true rfl⟩ rfl rfl rfl hl.1 rfl (Nat.le_of_ble_eq_true rfl) dX12_holdBy_13 (fun r_2 hr_2 => ?_)
  refine cpSi (rest := []) ⟨hx, hb, hml, hown, hts⟩ hKN (hP.sub (ws' := []) [] rfl) (g_J9_min_7cf53 l D cA r_1 r_2) (tb_S tw_1566 tw_555 tw_115 tw_556) hdJ9_min_7cf53 ⟨rfl, rfl, Nat.le_of_ble_eq_true rfl, Nat.le_of_ble_eq_true rfl⟩ ⟨Nat.le_of_ble_eq_true rfl, Nat.le_of_ble_eq_true rfl⟩ rfl hl.1 rfl (Nat.le_of_ble_eq_true rfl) dX12_holdBy_16 (fun r_3 hr_3 => ?_)
  obtain ⟨k_3_0_0, k_3_0_1, k_3_0_2⟩ := hr_3
  refine lv_aload_n hx hb dX12_holdBy_19 rfl (lv_at hl 0 rfl) ?_
  refine lv_iload_n hx hb dX12_holdBy_20 rfl (lv_at hl 1 rfl) ?_
  refine lv_iconst (v := 2) hx hb dX12_holdBy_21 (by decide) ?_
  have z_4 := zi_2
  refine cpVi (rest := [.int r_3]) ⟨hx, hb, hml, hown, hts⟩ hKN (hP.sub (ws' := [(h0, .inr (12, [.int m_thrown, .ref m_qworld, .ref m_qimages, .ref m_qhasImage, .ref m_qtape, .int m_taped, .ref m_qfive, .int m_size, .int m_at, .int m_from, .int m_token, .int m_value, .int m_faultKind, .int m_faultPlace, .ref m_qfresh, .int m_startOne, .int m_startOther, .int m_latest, .int m_leftBeats, .int m_signed, .int m_metMany, .ref m_qsums, .ref m_qpairs, .ref m_qgoesWith, .ref m_qsaid, .int m_saidMany, .int m_firstWait, .ref m_qfirstOrder, .int m_bundleFirst, .ref m_qtiredBy, .int m_tiredMany, .ref m_qmany, .ref m_qwidth, .ref m_qnumbers, .ref m_qmoving])), (m_qworld, .inl (cA 1, 122, .inl m_cworld))]) [0, 1] rfl) (g_X12_of l D cA h0 m_thrown m_qworld m_qimages m_qhasImage m_qtape m_taped m_qfive m_size m_at m_from m_token m_value m_faultKind m_faultPlace m_qfresh m_startOne m_startOther m_latest m_leftBeats m_signed m_metMany m_qsums m_qpairs m_qgoesWith m_qsaid m_saidMany m_firstWait m_qfirstOrder m_bundleFirst m_qtiredBy m_tiredMany m_qmany m_qwidth m_qnumbers m_qmoving m_cworld p0 2 (by omega) (by omega) (by omega) (by omega) (by omega) (by omega) (by omega) (by decide) a_m_cworld_0) (tb_V tw_1640 tw_1642 tw_50 tw_114 tw_1643) hdX12_of ⟨rfl, rfl, Nat.le_of_ble_eq_true rfl, Nat.le_of_ble_eq_true rfl⟩ ⟨Nat.le_of_ble_eq_true rfl, Nat.le_of_ble_eq_true rfl⟩ rfl rfl rfl hl.1 rfl (Nat.le_of_ble_eq_true rfl) dX12_holdBy_22 (fun r_5 hr_5 => ?_)
  obtain ⟨k_5_0_0, k_5_0_1⟩ := hr_5
  refine lv_aload_n hx hb dX12_holdBy_25 rfl (lv_at hl 0 rfl) ?_
  refine lv_iload_n hx hb dX12_holdBy_26 rfl (lv_at hl 2 rfl) ?_
  refine lv_iconst (v := 2) hx hb dX12_holdBy_27 (by decide) ?_
  refine cpVi (rest := [.int r_5, .int r_3]) ⟨hx, hb, hml, hown, hts⟩ hKN (hP.sub (ws' := [(h0, .inr (12, [.int m_thrown, .ref m_qworld, .ref m_qimages, .ref m_qhasImage, .ref m_qtape, .int m_taped, .ref m_qfive, .int m_size, .int m_at, .int m_from, .int m_token, .int m_value, .int m_faultKind, .int m_faultPlace, .ref m_qfresh, .int m_startOne, .int m_startOther, .int m_latest, .int m_leftBeats, .int m_signed, .int m_metMany, .ref m_qsums, .ref m_qpairs, .ref m_qgoesWith, .ref m_qsaid, .int m_saidMany, .int m_firstWait, .ref m_qfirstOrder, .int m_bundleFirst, .ref m_qtiredBy, .int m_tiredMany, .ref m_qmany, .ref m_qwidth, .ref m_qnumbers, .ref m_qmoving])), (m_qworld, .inl (cA 1, 122, .inl m_cworld))]) [0, 1] rfl) (g_X12_of l D cA h0 m_thrown m_qworld m_qimages m_qhasImage m_qtape m_taped m_qfive m_size m_at m_from m_token m_value m_faultKind m_faultPlace m_qfresh m_startOne m_startOther m_latest m_leftBeats m_signed m_metMany m_qsums m_qpairs m_qgoesWith m_qsaid m_saidMany m_firstWait m_qfirstOrder m_bundleFirst m_qtiredBy m_tiredMany m_qmany m_qwidth m_qnumbers m_qmoving m_cworld p1 2 (by omega) (by omega) (by omega) (by omega) (by omega) (by omega) (by omega) (by decide) a_m_cworld_0) (tb_V tw_1640 tw_1642 tw_50 tw_114 tw_1643) hdX12_of ⟨rfl, rfl, Nat.le_of_ble_eq_true rfl, Nat.le_of_ble_eq_true rfl⟩ ⟨Nat.le_of_ble_eq_true rfl, Nat.le_of_ble_eq_true rfl⟩ rfl rfl rfl hl.1 rfl (Nat.le_of_ble_eq_true rfl) dX12_holdBy_28 (fun r_6 hr_6 => ?_)
  obtain ⟨k_6_0_0, k_6_0_1⟩ := hr_6
  refine cpSi (rest := [.int r_3]) ⟨hx, hb, hml, hown, hts⟩ hKN (hP.sub (ws' := []) [] rfl) (g_J9_min_7cf53 l D cA r_5 r_6) (tb_S tw_1566 tw_555 tw_115 tw_556) hdJ9_min_7cf53 ⟨rfl, rfl, Nat.le_of_ble_eq_true rfl, Nat.le_of_ble_eq_true rfl⟩ ⟨Nat.le_of_ble_eq_true rfl, Nat.le_of_ble_eq_true rfl⟩ rfl hl.1 rfl (Nat.le_of_ble_eq_true rfl) dX12_holdBy_31 (fun r_7 hr_7 => ?_)
  obtain ⟨k_7_0_0, k_7_0_1, k_7_0_2⟩ := hr_7
  refine lv_iadd hx hb dX12_holdBy_34 ?_
  refine lv_topi (fun x_8 ex_8 => ?_)
  have k_9 := ar_add rfl rfl ex_8 (by omega) (by omega)
  exact W.iret (v := x_8) hx hb hr (fun t ht hW => ⟨x_8, rfl, (show 0 ≤ x_8.toInt ∧ x_8.toInt ≤ 60 from by omega), ht⟩) (fun _ h => by cases h) dX12_holdBy_35
set_option maxHeartbeats 8000000 in
set_option maxRecDepth 100000 in
theorem g_X12_holdOf_z (l : Launch) (D : va_G) (cA : Nat → ClassId) (h0 : Nat) (m_thrown : Int32) (m_qworld : Nat) (m_qimages : Nat) (m_qhasImage : Nat) (m_qtape : Nat) (m_taped : Int32) (m_qfive : Nat) (m_size : Int32) (m_at : Int32) (m_from : Int32) (m_token : Int32) (m_value : Int32) (m_faultKind : Int32) (m_faultPlace : Int32) (m_qfresh : Nat) (m_startOne : Int32) (m_startOther : Int32) (m_latest : Int32) (m_leftBeats : Int32) (m_signed : Int32) (m_metMany : Int32) (m_qsums : Nat) (m_qpairs : Nat) (m_qgoesWith : Nat) (m_qsaid : Nat) (m_saidMany : Int32) (m_firstWait : Int32) (m_qfirstOrder : Nat) (m_bundleFirst : Int32) (m_qtiredBy : Nat) (m_tiredMany : Int32) (m_qmany : Nat) (m_qwidth : Nat) (m_qnumbers : Nat) (m_qmoving : Nat) (m_cworld : Nat → Int32) (p0 : Int32) (p1 : Int32) (h_m_taped : 0 ≤ (m_taped : Int32).toInt ∧ (m_taped : Int32).toInt ≤ 800) (h_m_size : 0 ≤ (m_size : Int32).toInt ∧ (m_size : Int32).toInt ≤ 800) (h_m_at : 0 ≤ (m_at : Int32).toInt ∧ (m_at : Int32).toInt ≤ 800) (h_m_from : 0 ≤ (m_from : Int32).toInt ∧ (m_from : Int32).toInt ≤ 800) (h_m_saidMany : 0 ≤ (m_saidMany : Int32).toInt ∧ (m_saidMany : Int32).toInt ≤ 60) (h_m_tiredMany : 0 ≤ (m_tiredMany : Int32).toInt ∧ (m_tiredMany : Int32).toInt ≤ 240) (h_p0 : 0 ≤ (p0 : Int32).toInt ∧ (p0 : Int32).toInt ≤ 7) (h_p1 : 0 ≤ (p1 : Int32).toInt ∧ (p1 : Int32).toInt ≤ 7) (a_m_cworld_0 : WI m_cworld) : Met l yX12_holdOf (Cond.code yX12_holdOf cX12_holdOf 3 (some .int) :: TB) (rmd 3 0 0) (PP D cA [(h0, .inr (12, [.int m_thrown, .ref m_qworld, .ref m_qimages, .ref m_qhasImage, .ref m_qtape, .int m_taped, .ref m_qfive, .int m_size, .int m_at, .int m_from, .int m_token, .int m_value, .int m_faultKind, .int m_faultPlace, .ref m_qfresh, .int m_startOne, .int m_startOther, .int m_latest, .int m_leftBeats, .int m_signed, .int m_metMany, .ref m_qsums, .ref m_qpairs, .ref m_qgoesWith, .ref m_qsaid, .int m_saidMany, .int m_firstWait, .ref m_qfirstOrder, .int m_bundleFirst, .ref m_qtiredBy, .int m_tiredMany, .ref m_qmany, .ref m_qwidth, .ref m_qnumbers, .ref m_qmoving])), (m_qworld, .inl (cA 1, 122, .inl m_cworld))] [.ref h0, .int p0, .int p1]) (vp_Si (fun r => 0 ≤ r.toInt ∧ r.toInt ≤ 60)) 0 0 (fun _ => False) := by
  refine Met.ofW (cc := cX12_holdOf) (maxL := 3) (ret := (some .int)) (by decide) rfl ?_
  intro p e s m args below meth c s₁ B hml hv
  obtain ⟨rfl, hP, hKN⟩ := hv
  have hx := B.exec
  have hb := B.bytes
  have hr := B.returns
  have hts : ∀ w ∈ TB, w.before _ s = true := fun w h => atoms_spec B.pre w (List.mem_cons_of_mem _ h)
  have hown : s.vm.findClass RX12 = some m.cls := findClass_of_methodNamed B.named
  have hlocks := B.notSynchronized
  have hl := lv_entry ([.ref h0, .int p0, .int p1]) (n := 3) (Nat.le_of_ble_eq_true rfl)
  rw [lg_entry_eq]
  generalize (lg_sl ([.ref h0, .int p0, .int p1]) ++ List.replicate (3 - (lg_sl ([.ref h0, .int p0, .int p1])).length) Slot.unset).toArray = ls at hl ⊢
  have hl : lv_has ls 3 [(0, .ref h0), (1, .int p0), (2, .int p1)] := hl
  refine lv_aload_n hx hb dX12_holdOf_0 rfl (lv_at hl 0 rfl) ?_
  refine lv_iload_n hx hb dX12_holdOf_1 rfl (lv_at hl 1 rfl) ?_
  refine lv_iload_n hx hb dX12_holdOf_2 rfl (lv_at hl 2 rfl) ?_
  refine lv_iconst (v := (-1)) hx hb dX12_holdOf_3 (by decide) ?_
  refine lv_iconst (v := 0) hx hb dX12_holdOf_4 (by decide) ?_
  have z_1 := zi_m1
  have z_2 := zi_0
  refine cpVi (rest := []) ⟨hx, hb, hml, hown, hts⟩ hKN (hP.sub (ws' := [(h0, .inr (12, [.int m_thrown, .ref m_qworld, .ref m_qimages, .ref m_qhasImage, .ref m_qtape, .int m_taped, .ref m_qfive, .int m_size, .int m_at, .int m_from, .int m_token, .int m_value, .int m_faultKind, .int m_faultPlace, .ref m_qfresh, .int m_startOne, .int m_startOther, .int m_latest, .int m_leftBeats, .int m_signed, .int m_metMany, .ref m_qsums, .ref m_qpairs, .ref m_qgoesWith, .ref m_qsaid, .int m_saidMany, .int m_firstWait, .ref m_qfirstOrder, .int m_bundleFirst, .ref m_qtiredBy, .int m_tiredMany, .ref m_qmany, .ref m_qwidth, .ref m_qnumbers, .ref m_qmoving])), (m_qworld, .inl (cA 1, 122, .inl m_cworld))]) [0, 1] rfl) (g_X12_holdBy_z l D cA h0 m_thrown m_qworld m_qimages m_qhasImage m_qtape m_taped m_qfive m_size m_at m_from m_token m_value m_faultKind m_faultPlace m_qfresh m_startOne m_startOther m_latest m_leftBeats m_signed m_metMany m_qsums m_qpairs m_qgoesWith m_qsaid m_saidMany m_firstWait m_qfirstOrder m_bundleFirst m_qtiredBy m_tiredMany m_qmany m_qwidth m_qnumbers m_qmoving m_cworld p0 p1 (-1) 0 (by omega) (by omega) (by omega) (by omega) (by omega) (by omega) (by omega) (by omega) (by decide) a_m_cworld_0) (tb_V tw_1704 tw_1706 tw_64 tw_114 tw_1707) hdX12_holdBy ⟨rfl, rfl, Nat.le_of_ble_eq_true rfl, Nat.le_of_ble_eq_true rfl⟩ ⟨Nat.le_of_ble_eq_true rfl, Nat.le_of_ble_eq_true rfl⟩ rfl rfl rfl hl.1 rfl (Nat.le_of_ble_eq_true rfl) dX12_holdOf_5 (fun r_3 hr_3 => ?_)
  exact W.iret (v := r_3) hx hb hr (fun t ht hW => ⟨r_3, rfl, (show 0 ≤ r_3.toInt ∧ r_3.toInt ≤ 60 from by omega), ht⟩) (fun _ h => by cases h) dX12_holdOf_8
set_option maxHeartbeats 8000000 in
set_option maxRecDepth 100000 in
theorem g_X12_layMatch_h (l : Launch) (D : va_G) (cA : Nat → ClassId) (sz : Nat) (h0 : Nat) (m_thrown : Int32) (m_qworld : Nat) (m_qimages : Nat) (m_qhasImage : Nat) (m_qtape : Nat) (m_taped : Int32) (m_qfive : Nat) (m_size : Int32) (m_at : Int32) (m_from : Int32) (m_token : Int32) (m_value : Int32) (m_faultKind : Int32) (m_faultPlace : Int32) (m_qfresh : Nat) (m_startOne : Int32) (m_startOther : Int32) (m_latest : Int32) (m_leftBeats : Int32) (m_signed : Int32) (m_metMany : Int32) (m_qsums : Nat) (m_qpairs : Nat) (m_qgoesWith : Nat) (m_qsaid : Nat) (m_saidMany : Int32) (m_firstWait : Int32) (m_qfirstOrder : Nat) (m_bundleFirst : Int32) (m_qtiredBy : Nat) (m_tiredMany : Int32) (m_qmany : Nat) (m_qwidth : Nat) (m_qnumbers : Nat) (m_qmoving : Nat) (m_cworld : Nat → Int32) (m_csums : Nat → Int32) (m_cpairs : Nat → Int32) (p0 : Int32) (h_m_taped : 0 ≤ (m_taped : Int32).toInt ∧ (m_taped : Int32).toInt ≤ 800) (h_m_size : 0 ≤ (m_size : Int32).toInt ∧ (m_size : Int32).toInt ≤ 800) (h_m_at : 0 ≤ (m_at : Int32).toInt ∧ (m_at : Int32).toInt ≤ 800) (h_m_from : 0 ≤ (m_from : Int32).toInt ∧ (m_from : Int32).toInt ≤ 800) (h_m_saidMany : 0 ≤ (m_saidMany : Int32).toInt ∧ (m_saidMany : Int32).toInt ≤ 60) (h_m_tiredMany : 0 ≤ (m_tiredMany : Int32).toInt ∧ (m_tiredMany : Int32).toInt ≤ 240) (h_p0 : 61 ≤ (p0 : Int32).toInt) (a_m_cworld_0 : WI m_cworld) : Met l yX12_layMatch (Cond.code yX12_layMatch cX12_layMatch 8 none :: TB) (rmd 4 0 0) (PM D cA sz [(h0, .inr (12, [.int m_thrown, .ref m_qworld, .ref m_qimages, .ref m_qhasImage, .ref m_qtape, .int m_taped, .ref m_qfive, .int m_size, .int m_at, .int m_from, .int m_token, .int m_value, .int m_faultKind, .int m_faultPlace, .ref m_qfresh, .int m_startOne, .int m_startOther, .int m_latest, .int m_leftBeats, .int m_signed, .int m_metMany, .ref m_qsums, .ref m_qpairs, .ref m_qgoesWith, .ref m_qsaid, .int m_saidMany, .int m_firstWait, .ref m_qfirstOrder, .int m_bundleFirst, .ref m_qtiredBy, .int m_tiredMany, .ref m_qmany, .ref m_qwidth, .ref m_qnumbers, .ref m_qmoving])), (m_qworld, .inl (cA 1, 122, .inl m_cworld)), (m_qsums, .inl (cA 1, 2304, .inl m_csums)), (m_qpairs, .inl (cA 1, 2304, .inl m_cpairs))] [.ref h0, .int p0]) (va_Qv (fun (u : SU) => (((u.2.2.1 1) 0).toInt = 0)) (fun u t => va_P D vwCl [(h0, .inr (12, [.int m_thrown, .ref m_qworld, .ref m_qimages, .ref m_qhasImage, .ref m_qtape, .int m_taped, .ref m_qfive, .int m_size, .int m_at, .int m_from, .int m_token, .int m_value, .int m_faultKind, .int m_faultPlace, .ref m_qfresh, .int m_startOne, .int m_startOther, .int m_latest, .int m_leftBeats, .int m_signed, .int m_metMany, .ref m_qsums, .ref m_qpairs, .ref m_qgoesWith, .ref m_qsaid, .int m_saidMany, .int m_firstWait, .ref m_qfirstOrder, .int m_bundleFirst, .ref m_qtiredBy, .int m_tiredMany, .ref m_qmany, .ref m_qwidth, .ref m_qnumbers, .ref m_qmoving])), (m_qworld, .inl (cA 1, 122, .inl m_cworld)), (m_qsums, .inl (cA 1, 2304, .inl (u.2.2.1 0))), (m_qpairs, .inl (cA 1, 2304, .inl (u.2.2.1 1)))] t.heap ∧ va_D (va_A [(h0, .inr (12, [.int m_thrown, .ref m_qworld, .ref m_qimages, .ref m_qhasImage, .ref m_qtape, .int m_taped, .ref m_qfive, .int m_size, .int m_at, .int m_from, .int m_token, .int m_value, .int m_faultKind, .int m_faultPlace, .ref m_qfresh, .int m_startOne, .int m_startOther, .int m_latest, .int m_leftBeats, .int m_signed, .int m_metMany, .ref m_qsums, .ref m_qpairs, .ref m_qgoesWith, .ref m_qsaid, .int m_saidMany, .int m_firstWait, .ref m_qfirstOrder, .int m_bundleFirst, .ref m_qtiredBy, .int m_tiredMany, .ref m_qmany, .ref m_qwidth, .ref m_qnumbers, .ref m_qmoving])), (m_qworld, .inl (cA 1, 122, .inl m_cworld)), (m_qsums, .inl (cA 1, 2304, .inl m_csums)), (m_qpairs, .inl (cA 1, 2304, .inl m_cpairs))] sz) [(h0, .inr (12, [.int m_thrown, .ref m_qworld, .ref m_qimages, .ref m_qhasImage, .ref m_qtape, .int m_taped, .ref m_qfive, .int m_size, .int m_at, .int m_from, .int m_token, .int m_value, .int m_faultKind, .int m_faultPlace, .ref m_qfresh, .int m_startOne, .int m_startOther, .int m_latest, .int m_leftBeats, .int m_signed, .int m_metMany, .ref m_qsums, .ref m_qpairs, .ref m_qgoesWith, .ref m_qsaid, .int m_saidMany, .int m_firstWait, .ref m_qfirstOrder, .int m_bundleFirst, .ref m_qtiredBy, .int m_tiredMany, .ref m_qmany, .ref m_qwidth, .ref m_qnumbers, .ref m_qmoving])), (m_qworld, .inl (cA 1, 122, .inl m_cworld)), (m_qsums, .inl (cA 1, 2304, .inl (u.2.2.1 0))), (m_qpairs, .inl (cA 1, 2304, .inl (u.2.2.1 1)))]) (va_A [(h0, .inr (12, [.int m_thrown, .ref m_qworld, .ref m_qimages, .ref m_qhasImage, .ref m_qtape, .int m_taped, .ref m_qfive, .int m_size, .int m_at, .int m_from, .int m_token, .int m_value, .int m_faultKind, .int m_faultPlace, .ref m_qfresh, .int m_startOne, .int m_startOther, .int m_latest, .int m_leftBeats, .int m_signed, .int m_metMany, .ref m_qsums, .ref m_qpairs, .ref m_qgoesWith, .ref m_qsaid, .int m_saidMany, .int m_firstWait, .ref m_qfirstOrder, .int m_bundleFirst, .ref m_qtiredBy, .int m_tiredMany, .ref m_qmany, .ref m_qwidth, .ref m_qnumbers, .ref m_qmoving])), (m_qworld, .inl (cA 1, 122, .inl m_cworld)), (m_qsums, .inl (cA 1, 2304, .inl m_csums)), (m_qpairs, .inl (cA 1, 2304, .inl m_cpairs))] sz)) 0 0 (va_A [(h0, .inr (12, [.int m_thrown, .ref m_qworld, .ref m_qimages, .ref m_qhasImage, .ref m_qtape, .int m_taped, .ref m_qfive, .int m_size, .int m_at, .int m_from, .int m_token, .int m_value, .int m_faultKind, .int m_faultPlace, .ref m_qfresh, .int m_startOne, .int m_startOther, .int m_latest, .int m_leftBeats, .int m_signed, .int m_metMany, .ref m_qsums, .ref m_qpairs, .ref m_qgoesWith, .ref m_qsaid, .int m_saidMany, .int m_firstWait, .ref m_qfirstOrder, .int m_bundleFirst, .ref m_qtiredBy, .int m_tiredMany, .ref m_qmany, .ref m_qwidth, .ref m_qnumbers, .ref m_qmoving])), (m_qworld, .inl (cA 1, 122, .inl m_cworld)), (m_qsums, .inl (cA 1, 2304, .inl m_csums)), (m_qpairs, .inl (cA 1, 2304, .inl m_cpairs))] sz) := by
  refine Met.ofW (cc := cX12_layMatch) (maxL := 8) (ret := none) (by decide) rfl ?_
  intro p e s m args below meth c s₁ B hml hv
  obtain ⟨rfl, hsz, hP, hKN, hD0⟩ := hv
  have hx := B.exec
  have hb := B.bytes
  have hr := B.returns
  have hts : ∀ w ∈ TB, w.before _ s = true := fun w h => atoms_spec B.pre w (List.mem_cons_of_mem _ h)
  have hown : s.vm.findClass RX12 = some m.cls := findClass_of_methodNamed B.named
  have hlocks := B.notSynchronized
  subst hsz
  have hD := hD0.self (sz := s.heap.size)
  generalize hAe : va_A [(h0, .inr (12, [.int m_thrown, .ref m_qworld, .ref m_qimages, .ref m_qhasImage, .ref m_qtape, .int m_taped, .ref m_qfive, .int m_size, .int m_at, .int m_from, .int m_token, .int m_value, .int m_faultKind, .int m_faultPlace, .ref m_qfresh, .int m_startOne, .int m_startOther, .int m_latest, .int m_leftBeats, .int m_signed, .int m_metMany, .ref m_qsums, .ref m_qpairs, .ref m_qgoesWith, .ref m_qsaid, .int m_saidMany, .int m_firstWait, .ref m_qfirstOrder, .int m_bundleFirst, .ref m_qtiredBy, .int m_tiredMany, .ref m_qmany, .ref m_qwidth, .ref m_qnumbers, .ref m_qmoving])), (m_qworld, .inl (cA 1, 122, .inl m_cworld)), (m_qsums, .inl (cA 1, 2304, .inl m_csums)), (m_qpairs, .inl (cA 1, 2304, .inl m_cpairs))] s.heap.size = A at hD ⊢
  have hA : ∀ q : Nat, s.heap.size ≤ q → A q := fun q h => by rw [← hAe]; exact Or.inr h
  have hS : va_S A s.heap s.heap [] := va_S.rf
  have hl := lv_entry ([.ref h0, .int p0]) (n := 8) (Nat.le_of_ble_eq_true rfl)
  rw [lg_entry_eq]
  generalize (lg_sl ([.ref h0, .int p0]) ++ List.replicate (8 - (lg_sl ([.ref h0, .int p0])).length) Slot.unset).toArray = ls at hl ⊢
  have hl : lv_has ls 8 [(0, .ref h0), (1, .int p0)] := hl
  refine lv_aload_n hx hb dX12_layMatch_0 rfl (lv_at hl 0 rfl) ?_
  refine va_get (D := D) (ci := 12) (v := .ref m_qworld) (C := RX12) (T := TX12) (N := 35) hx hb hts inX12 hown hKN.1 hP 0 rfl rfl 1 (by decide) (hts _ tw_1420) (fun _ h9 => h9) rfl dX12_layMatch_1 ?_
  refine lv_iconst (v := 4) hx hb dX12_layMatch_4 (by decide) ?_
  refine va_iald hx hb hKN.1 hP 1 1 rfl rfl (by unfold vp_in; decide) dX12_layMatch_5 ?_
  refine W.eq (g2 := F0 m 6 ls [.int (m_cworld 4)]) rfl ?_
  have k_1 := a_m_cworld_0.1.1.2.2.2.1 (4) (by decide) (by decide)
  refine lv_istore_n (lv' := [(2, .int (m_cworld 4)), (0, .ref h0), (1, .int p0)]) hx hb dX12_layMatch_6 rfl hl (by decide) rfl (fun ls hl => ?_)
  refine lv_iload_n hx hb dX12_layMatch_7 rfl (lv_at hl 0 rfl) ?_
  refine lv_istore_n (lv' := [(3, .int (m_cworld 4)), (2, .int (m_cworld 4)), (0, .ref h0), (1, .int p0)]) hx hb dX12_layMatch_8 rfl hl (by decide) rfl (fun ls hl => ?_)
  refine loopW (σ := Int32 × (Nat → Int32) × (Nat → Int32)) (fun _ => []) (fun ⟨L3_23756, F1_23756, F2_23756⟩ H locs ls => (-1 ≤ L3_23756.toInt ∧ L3_23756.toInt ≤ 8) ∧ (ZQ F2_23756 L3_23756.toInt 0 (m_cworld 4).toInt.toNat) ∧ (L3_23756.toInt ≤ (m_cworld 4).toInt) ∧ va_P D vwCl [(h0, .inr (12, [.int m_thrown, .ref m_qworld, .ref m_qimages, .ref m_qhasImage, .ref m_qtape, .int m_taped, .ref m_qfive, .int m_size, .int m_at, .int m_from, .int m_token, .int m_value, .int m_faultKind, .int m_faultPlace, .ref m_qfresh, .int m_startOne, .int m_startOther, .int m_latest, .int m_leftBeats, .int m_signed, .int m_metMany, .ref m_qsums, .ref m_qpairs, .ref m_qgoesWith, .ref m_qsaid, .int m_saidMany, .int m_firstWait, .ref m_qfirstOrder, .int m_bundleFirst, .ref m_qtiredBy, .int m_tiredMany, .ref m_qmany, .ref m_qwidth, .ref m_qnumbers, .ref m_qmoving])), (m_qworld, .inl (cA 1, 122, .inl m_cworld)), (m_qsums, .inl (cA 1, 2304, .inl F1_23756)), (m_qpairs, .inl (cA 1, 2304, .inl F2_23756))] H ∧ va_D A [(h0, .inr (12, [.int m_thrown, .ref m_qworld, .ref m_qimages, .ref m_qhasImage, .ref m_qtape, .int m_taped, .ref m_qfive, .int m_size, .int m_at, .int m_from, .int m_token, .int m_value, .int m_faultKind, .int m_faultPlace, .ref m_qfresh, .int m_startOne, .int m_startOther, .int m_latest, .int m_leftBeats, .int m_signed, .int m_metMany, .ref m_qsums, .ref m_qpairs, .ref m_qgoesWith, .ref m_qsaid, .int m_saidMany, .int m_firstWait, .ref m_qfirstOrder, .int m_bundleFirst, .ref m_qtiredBy, .int m_tiredMany, .ref m_qmany, .ref m_qwidth, .ref m_qnumbers, .ref m_qmoving])), (m_qworld, .inl (cA 1, 122, .inl m_cworld)), (m_qsums, .inl (cA 1, 2304, .inl F1_23756)), (m_qpairs, .inl (cA 1, 2304, .inl F2_23756))] ∧ va_S A s.heap H locs ∧ lv_has ls 8 [(3, .int L3_23756), (2, .int (m_cworld 4)), (0, .ref h0), (1, .int p0)]) (fun ⟨L3_23756, F1_23756, F2_23756⟩ => (L3_23756.toInt + 2147483648).toNat) ?_ (((m_cworld 4), m_csums, m_cpairs) : Int32 × (Nat → Int32) × (Nat → Int32)) ⟨(show -1 ≤ (m_cworld 4).toInt ∧ (m_cworld 4).toInt ≤ 8 from by omega), (show ZQ m_cpairs (m_cworld 4).toInt 0 (m_cworld 4).toInt.toNat from by exact ZQ.start (by omega)), (show (m_cworld 4).toInt ≤ (m_cworld 4).toInt from by first | omega | decide), hP, hD, hS, hl⟩
  intro x_23756 H locs ls hI_23756 ih_23756
  obtain ⟨L3_23756, F1_23756, F2_23756⟩ := x_23756
  obtain ⟨k0_23756, k1_23756, k2_23756, hP, hD, hS, hl⟩ := hI_23756
  have hP : va_P D vwCl [(h0, .inr (12, [.int m_thrown, .ref m_qworld, .ref m_qimages, .ref m_qhasImage, .ref m_qtape, .int m_taped, .ref m_qfive, .int m_size, .int m_at, .int m_from, .int m_token, .int m_value, .int m_faultKind, .int m_faultPlace, .ref m_qfresh, .int m_startOne, .int m_startOther, .int m_latest, .int m_leftBeats, .int m_signed, .int m_metMany, .ref m_qsums, .ref m_qpairs, .ref m_qgoesWith, .ref m_qsaid, .int m_saidMany, .int m_firstWait, .ref m_qfirstOrder, .int m_bundleFirst, .ref m_qtiredBy, .int m_tiredMany, .ref m_qmany, .ref m_qwidth, .ref m_qnumbers, .ref m_qmoving])), (m_qworld, .inl (cA 1, 122, .inl m_cworld)), (m_qsums, .inl (cA 1, 2304, .inl F1_23756)), (m_qpairs, .inl (cA 1, 2304, .inl F2_23756))] H := hP
  have hD : va_D A [(h0, .inr (12, [.int m_thrown, .ref m_qworld, .ref m_qimages, .ref m_qhasImage, .ref m_qtape, .int m_taped, .ref m_qfive, .int m_size, .int m_at, .int m_from, .int m_token, .int m_value, .int m_faultKind, .int m_faultPlace, .ref m_qfresh, .int m_startOne, .int m_startOther, .int m_latest, .int m_leftBeats, .int m_signed, .int m_metMany, .ref m_qsums, .ref m_qpairs, .ref m_qgoesWith, .ref m_qsaid, .int m_saidMany, .int m_firstWait, .ref m_qfirstOrder, .int m_bundleFirst, .ref m_qtiredBy, .int m_tiredMany, .ref m_qmany, .ref m_qwidth, .ref m_qnumbers, .ref m_qmoving])), (m_qworld, .inl (cA 1, 122, .inl m_cworld)), (m_qsums, .inl (cA 1, 2304, .inl F1_23756)), (m_qpairs, .inl (cA 1, 2304, .inl F2_23756))] := hD
  have hl : lv_has ls 8 [(3, .int L3_23756), (2, .int (m_cworld 4)), (0, .ref h0), (1, .int p0)] := hl
  refine lv_iload_n hx hb dX12_layMatch_9 rfl (lv_at hl 0 rfl) ?_
  refine lv_if_lt (tgt := 231) hx hb dX12_layMatch_10 (by decide) (fun c_23757 => ?_) (fun c_23757 => ?_)
  · skip
    have k_23758 := kk_lt rfl zi_0 c_23757
    have hP9 := hP.sub (ws' := [(h0, .inr (12, [.int m_thrown, .ref m_qworld, .ref m_qimages, .ref m_qhasImage, .ref m_qtape, .int m_taped, .ref m_qfive, .int m_size, .int m_at, .int m_from, .int m_token, .int m_value, .int m_faultKind, .int m_faultPlace, .ref m_qfresh, .int m_startOne, .int m_startOther, .int m_latest, .int m_leftBeats, .int m_signed, .int m_metMany, .ref m_qsums, .ref m_qpairs, .ref m_qgoesWith, .ref m_qsaid, .int m_saidMany, .int m_firstWait, .ref m_qfirstOrder, .int m_bundleFirst, .ref m_qtiredBy, .int m_tiredMany, .ref m_qmany, .ref m_qwidth, .ref m_qnumbers, .ref m_qmoving])), (m_qworld, .inl (cA 1, 122, .inl m_cworld)), (m_qsums, .inl (cA 1, 2304, .inl F1_23756)), (m_qpairs, .inl (cA 1, 2304, .inl F2_23756))]) [0, 1, 2, 3] rfl
    have hD9 := hD.sub (ws' := [(h0, .inr (12, [.int m_thrown, .ref m_qworld, .ref m_qimages, .ref m_qhasImage, .ref m_qtape, .int m_taped, .ref m_qfive, .int m_size, .int m_at, .int m_from, .int m_token, .int m_value, .int m_faultKind, .int m_faultPlace, .ref m_qfresh, .int m_startOne, .int m_startOther, .int m_latest, .int m_leftBeats, .int m_signed, .int m_metMany, .ref m_qsums, .ref m_qpairs, .ref m_qgoesWith, .ref m_qsaid, .int m_saidMany, .int m_firstWait, .ref m_qfirstOrder, .int m_bundleFirst, .ref m_qtiredBy, .int m_tiredMany, .ref m_qmany, .ref m_qwidth, .ref m_qnumbers, .ref m_qmoving])), (m_qworld, .inl (cA 1, 122, .inl m_cworld)), (m_qsums, .inl (cA 1, 2304, .inl F1_23756)), (m_qpairs, .inl (cA 1, 2304, .inl F2_23756))]) [0, 1, 2, 3] (by decide) rfl
    exact W.vret hx hb hr (fun t ht hW => ⟨⟨((fun _ => 0), (fun _ => 0), (selF [F1_23756, F2_23756]), (fun _ _ => 0)), rfl, (show (F2_23756 0).toInt = 0 from by exact k1_23756 0 (Or.inl ⟨by omega, by omega, by have := Nat.two_pow_pos (m_cworld 4).toInt.toNat; omega⟩)), by rw [ht]; exact hP9, hD9⟩, hS.F ht⟩) hS.2.2 dX12_layMatch_231
  · skip
    have k_23759 := kk_nlt rfl zi_0 c_23757
    refine lv_iconst (v := 0) hx hb dX12_layMatch_13 (by decide) ?_
    refine lv_istore (lv' := [(4, .int 0), (3, .int L3_23756), (2, .int (m_cworld 4)), (0, .ref h0), (1, .int p0)]) hx hb dX12_layMatch_14 hl (by decide) rfl (fun ls hl => ?_)
    have hb_30535 : ZQ F2_23756 L3_23756.toInt (0 : Int32).toInt (m_cworld 4).toInt.toNat := by
      have z : (0 : Int32).toInt = 0 := by decide
      rw [z]; exact k1_23756
    refine loopW (σ := Int32 × (Nat → Int32) × (Nat → Int32)) (fun _ => []) (fun ⟨L4_30534, F1_30534, F2_30534⟩ H locs ls => (0 ≤ L4_30534.toInt ∧ L4_30534.toInt ≤ 256) ∧ (ZQ F2_30534 L3_23756.toInt L4_30534.toInt (m_cworld 4).toInt.toNat) ∧ va_P D vwCl [(h0, .inr (12, [.int m_thrown, .ref m_qworld, .ref m_qimages, .ref m_qhasImage, .ref m_qtape, .int m_taped, .ref m_qfive, .int m_size, .int m_at, .int m_from, .int m_token, .int m_value, .int m_faultKind, .int m_faultPlace, .ref m_qfresh, .int m_startOne, .int m_startOther, .int m_latest, .int m_leftBeats, .int m_signed, .int m_metMany, .ref m_qsums, .ref m_qpairs, .ref m_qgoesWith, .ref m_qsaid, .int m_saidMany, .int m_firstWait, .ref m_qfirstOrder, .int m_bundleFirst, .ref m_qtiredBy, .int m_tiredMany, .ref m_qmany, .ref m_qwidth, .ref m_qnumbers, .ref m_qmoving])), (m_qworld, .inl (cA 1, 122, .inl m_cworld)), (m_qsums, .inl (cA 1, 2304, .inl F1_30534)), (m_qpairs, .inl (cA 1, 2304, .inl F2_30534))] H ∧ va_D A [(h0, .inr (12, [.int m_thrown, .ref m_qworld, .ref m_qimages, .ref m_qhasImage, .ref m_qtape, .int m_taped, .ref m_qfive, .int m_size, .int m_at, .int m_from, .int m_token, .int m_value, .int m_faultKind, .int m_faultPlace, .ref m_qfresh, .int m_startOne, .int m_startOther, .int m_latest, .int m_leftBeats, .int m_signed, .int m_metMany, .ref m_qsums, .ref m_qpairs, .ref m_qgoesWith, .ref m_qsaid, .int m_saidMany, .int m_firstWait, .ref m_qfirstOrder, .int m_bundleFirst, .ref m_qtiredBy, .int m_tiredMany, .ref m_qmany, .ref m_qwidth, .ref m_qnumbers, .ref m_qmoving])), (m_qworld, .inl (cA 1, 122, .inl m_cworld)), (m_qsums, .inl (cA 1, 2304, .inl F1_30534)), (m_qpairs, .inl (cA 1, 2304, .inl F2_30534))] ∧ va_S A s.heap H locs ∧ lv_has ls 8 [(4, .int L4_30534), (3, .int L3_23756), (2, .int (m_cworld 4)), (0, .ref h0), (1, .int p0)]) (fun ⟨L4_30534, F1_30534, F2_30534⟩ => (2147483647 - L4_30534.toInt).toNat) ?_ ((0, F1_23756, F2_23756) : Int32 × (Nat → Int32) × (Nat → Int32)) ⟨(by decide), hb_30535, hP, hD, hS, hl⟩
    intro x_30534 H locs ls hI_30534 ih_30534
    obtain ⟨L4_30534, F1_30534, F2_30534⟩ := x_30534
    obtain ⟨k0_30534, k1_30534, hP, hD, hS, hl⟩ := hI_30534
    have hP : va_P D vwCl [(h0, .inr (12, [.int m_thrown, .ref m_qworld, .ref m_qimages, .ref m_qhasImage, .ref m_qtape, .int m_taped, .ref m_qfive, .int m_size, .int m_at, .int m_from, .int m_token, .int m_value, .int m_faultKind, .int m_faultPlace, .ref m_qfresh, .int m_startOne, .int m_startOther, .int m_latest, .int m_leftBeats, .int m_signed, .int m_metMany, .ref m_qsums, .ref m_qpairs, .ref m_qgoesWith, .ref m_qsaid, .int m_saidMany, .int m_firstWait, .ref m_qfirstOrder, .int m_bundleFirst, .ref m_qtiredBy, .int m_tiredMany, .ref m_qmany, .ref m_qwidth, .ref m_qnumbers, .ref m_qmoving])), (m_qworld, .inl (cA 1, 122, .inl m_cworld)), (m_qsums, .inl (cA 1, 2304, .inl F1_30534)), (m_qpairs, .inl (cA 1, 2304, .inl F2_30534))] H := hP
    have hD : va_D A [(h0, .inr (12, [.int m_thrown, .ref m_qworld, .ref m_qimages, .ref m_qhasImage, .ref m_qtape, .int m_taped, .ref m_qfive, .int m_size, .int m_at, .int m_from, .int m_token, .int m_value, .int m_faultKind, .int m_faultPlace, .ref m_qfresh, .int m_startOne, .int m_startOther, .int m_latest, .int m_leftBeats, .int m_signed, .int m_metMany, .ref m_qsums, .ref m_qpairs, .ref m_qgoesWith, .ref m_qsaid, .int m_saidMany, .int m_firstWait, .ref m_qfirstOrder, .int m_bundleFirst, .ref m_qtiredBy, .int m_tiredMany, .ref m_qmany, .ref m_qwidth, .ref m_qnumbers, .ref m_qmoving])), (m_qworld, .inl (cA 1, 122, .inl m_cworld)), (m_qsums, .inl (cA 1, 2304, .inl F1_30534)), (m_qpairs, .inl (cA 1, 2304, .inl F2_30534))] := hD
    have hl : lv_has ls 8 [(4, .int L4_30534), (3, .int L3_23756), (2, .int (m_cworld 4)), (0, .ref h0), (1, .int p0)] := hl
    refine lv_iload hx hb dX12_layMatch_16 (lv_at hl 0 rfl) ?_
    refine lv_iconst (v := 1) hx hb dX12_layMatch_18 (by decide) ?_
    refine lv_iload_n hx hb dX12_layMatch_19 rfl (lv_at hl 2 rfl) ?_
    refine lv_ishl hx hb dX12_layMatch_20 ?_
    refine lv_topi (fun x_30536 ex_30536 => ?_)
    have k_30537 := ar_shl1 ex_30536 (by omega) (by omega)
    have k_30538 := ar_shl1p ex_30536 (by omega) (by omega)
    have k_30539 := two_le (n := (m_cworld 4).toInt.toNat) (by omega)
    refine lv_icmp_ge (tgt := 225) hx hb dX12_layMatch_21 (by decide) (fun c_30540 => ?_) (fun c_30540 => ?_)
    · skip
      have k_30541 := kk_le rfl rfl c_30540
      obtain ⟨x_30542, ex_30542⟩ : ∃ y : Int32, L3_23756 + Int32.ofInt (-1) = y := ⟨_, rfl⟩
      have k_30543 := ar_add (b := (-1)) rfl zi_m1 ex_30542.symm (by omega) (by omega)
      refine lv_iinc (v := x_30542) (lv' := [(3, .int x_30542), (4, .int L4_30534), (2, .int (m_cworld 4)), (0, .ref h0), (1, .int p0)]) hx hb dX12_layMatch_225 hl (k := 1) rfl ex_30542 (by decide) rfl (fun ls hl => ?_)
      refine lv_goto (tgt := 9) hx hb dX12_layMatch_228 (by decide) ?_
      exact ih_23756 (x_30542, F1_30534, F2_30534) _ _ _ ⟨(show -1 ≤ x_30542.toInt ∧ x_30542.toInt ≤ 8 from by omega), (show ZQ F2_30534 x_30542.toInt 0 (m_cworld 4).toInt.toNat from by exact ZQ.next k1_30534 (by omega) (by omega) (by omega)), (show x_30542.toInt ≤ (m_cworld 4).toInt from by first | omega | decide), hP.sub [0, 1, 2, 3] rfl, hD.sub [0, 1, 2, 3] (by decide) rfl, hS, lv_sub hl [0, 2, 3, 4] rfl⟩ (by show (x_30542.toInt + 2147483648).toNat < (L3_23756.toInt + 2147483648).toNat; omega)
    · skip
      have k_30544 := kk_nle rfl rfl c_30540
      refine lv_iload_n hx hb dX12_layMatch_24 rfl (lv_at hl 1 rfl) ?_
      refine lv_iload_n hx hb dX12_layMatch_25 rfl (lv_at hl 2 rfl) ?_
      refine lv_icmp_ne (tgt := 33) hx hb dX12_layMatch_26 (by decide) (fun c_30545 => ?_) (fun c_30545 => ?_)
      · skip
        have k_30546 := kk_ne rfl rfl c_30545
        refine lv_aload_n hx hb dX12_layMatch_33 rfl (lv_at hl 3 rfl) ?_
        refine lv_iload_n hx hb dX12_layMatch_34 rfl (lv_at hl 1 rfl) ?_
        refine lv_iconst (v := 1) hx hb dX12_layMatch_35 (by decide) ?_
        refine lv_iadd hx hb dX12_layMatch_36 ?_
        refine lv_topi (fun x_30547 ex_30547 => ?_)
        have k_30548 := ar_add rfl zi_1 ex_30547 (by omega) (by omega)
        refine lv_iload hx hb dX12_layMatch_37 (lv_at hl 0 rfl) ?_
        refine cpVi (rest := []) ⟨hx, hb, hml, hown, hts⟩ hKN (hP.sub (ws' := [(h0, .inr (12, [.int m_thrown, .ref m_qworld, .ref m_qimages, .ref m_qhasImage, .ref m_qtape, .int m_taped, .ref m_qfive, .int m_size, .int m_at, .int m_from, .int m_token, .int m_value, .int m_faultKind, .int m_faultPlace, .ref m_qfresh, .int m_startOne, .int m_startOther, .int m_latest, .int m_leftBeats, .int m_signed, .int m_metMany, .ref m_qsums, .ref m_qpairs, .ref m_qgoesWith, .ref m_qsaid, .int m_saidMany, .int m_firstWait, .ref m_qfirstOrder, .int m_bundleFirst, .ref m_qtiredBy, .int m_tiredMany, .ref m_qmany, .ref m_qwidth, .ref m_qnumbers, .ref m_qmoving])), (m_qsums, .inl (cA 1, 2304, .inl F1_30534))]) [0, 2] rfl) (g_X12_sumFrom l D cA h0 m_thrown m_qworld m_qimages m_qhasImage m_qtape m_taped m_qfive m_size m_at m_from m_token m_value m_faultKind m_faultPlace m_qfresh m_startOne m_startOther m_latest m_leftBeats m_signed m_metMany m_qsums m_qpairs m_qgoesWith m_qsaid m_saidMany m_firstWait m_qfirstOrder m_bundleFirst m_qtiredBy m_tiredMany m_qmany m_qwidth m_qnumbers m_qmoving F1_30534 x_30547 L4_30534 (by omega) (by omega) (by omega) (by omega) (by omega) (by omega) (by omega) (by omega)) (tb_V tw_1803 tw_1805 tw_71 tw_114 tw_1806) hdX12_sumFrom ⟨rfl, rfl, Nat.le_of_ble_eq_true rfl, Nat.le_of_ble_eq_true rfl⟩ ⟨Nat.le_of_ble_eq_true rfl, Nat.le_of_ble_eq_true rfl⟩ rfl rfl rfl hl.1 rfl (Nat.le_of_ble_eq_true rfl) dX12_layMatch_39 (fun r_30549 hr_30549 => ?_)
        refine lv_istore (lv' := [(5, .int r_30549), (4, .int L4_30534), (3, .int L3_23756), (2, .int (m_cworld 4)), (0, .ref h0), (1, .int p0)]) hx hb dX12_layMatch_42 hl (by decide) rfl (fun ls hl => ?_)
        refine lv_iload_n hx hb dX12_layMatch_44 rfl (lv_at hl 2 rfl) ?_
        refine lv_iload_n hx hb dX12_layMatch_45 rfl (lv_at hl 3 rfl) ?_
        refine lv_icmp_ne (tgt := 53) hx hb dX12_layMatch_46 (by decide) (fun c_30550 => ?_) (fun c_30550 => ?_)
        · skip
          have k_30551 := kk_ne rfl rfl c_30550
          refine lv_aload_n hx hb dX12_layMatch_53 rfl (lv_at hl 4 rfl) ?_
          refine va_get (D := D) (ci := 12) (v := .ref m_qpairs) (C := RX12) (T := TX12) (N := 35) hx hb hts inX12 hown hKN.1 hP 0 rfl rfl 22 (by decide) (hts _ tw_1441) (fun _ h9 => h9) rfl dX12_layMatch_54 ?_
          refine lv_iload_n hx hb dX12_layMatch_57 rfl (lv_at hl 2 rfl) ?_
          refine lv_iconst (v := 1) hx hb dX12_layMatch_58 (by decide) ?_
          refine lv_iadd hx hb dX12_layMatch_59 ?_
          refine lv_topi (fun x_30552 ex_30552 => ?_)
          obtain rfl : x_30547 = x_30552 := ex_30547.trans ex_30552.symm
          refine lv_bipush (v := 8) hx hb dX12_layMatch_60 (by decide) ?_
          refine lv_ishl hx hb dX12_layMatch_62 ?_
          refine lv_topi (fun x_30553 ex_30553 => ?_)
          have k_30554 := ar_shl8 ex_30553 (by omega) (by omega)
          refine lv_iload hx hb dX12_layMatch_63 (lv_at hl 1 rfl) ?_
          refine lv_ior hx hb dX12_layMatch_65 ?_
          refine lv_topi (fun x_30555 ex_30555 => ?_)
          have k_30556 := ar_or8 rfl rfl ex_30555 (by omega) (by omega) (by omega)
          refine va_iald hx hb hKN.1 hP 3 1 rfl rfl (vp_in_iff.mpr ⟨by omega, by omega⟩) dX12_layMatch_66 ?_
          refine lv_topi (fun x_30557 ex_30557 => ?_)
          have kz_x_30557 : x_30557.toInt = 0 := by
            have kc : x_30555.toNatClampNeg = x_30555.toInt.toNat := rfl
            rw [ex_30557]
            exact k1_30534 _ (Or.inl ⟨by omega, by omega, by omega⟩)
          refine lv_istore (lv' := [(6, .int x_30557), (5, .int r_30549), (4, .int L4_30534), (3, .int L3_23756), (2, .int (m_cworld 4)), (0, .ref h0), (1, .int p0)]) hx hb dX12_layMatch_67 hl (by decide) rfl (fun ls hl => ?_)
          refine lv_iconst (v := 0) hx hb dX12_layMatch_69 (by decide) ?_
          refine lv_istore (lv' := [(7, .int 0), (6, .int x_30557), (5, .int r_30549), (4, .int L4_30534), (3, .int L3_23756), (2, .int (m_cworld 4)), (0, .ref h0), (1, .int p0)]) hx hb dX12_layMatch_70 hl (by decide) rfl (fun ls hl => ?_)
          have b_30769 := i32_bd r_30549
          refine loopW (σ := Int32 × Int32 × Int32) (fun _ => []) (fun ⟨L7_30768, L6_30768, L5_30768⟩ H locs ls => (0 ≤ L7_30768.toInt ∧ L7_30768.toInt ≤ 8) ∧ (0 ≤ L6_30768.toInt ∧ L6_30768.toInt ≤ 0) ∧ va_P D vwCl [(h0, .inr (12, [.int m_thrown, .ref m_qworld, .ref m_qimages, .ref m_qhasImage, .ref m_qtape, .int m_taped, .ref m_qfive, .int m_size, .int m_at, .int m_from, .int m_token, .int m_value, .int m_faultKind, .int m_faultPlace, .ref m_qfresh, .int m_startOne, .int m_startOther, .int m_latest, .int m_leftBeats, .int m_signed, .int m_metMany, .ref m_qsums, .ref m_qpairs, .ref m_qgoesWith, .ref m_qsaid, .int m_saidMany, .int m_firstWait, .ref m_qfirstOrder, .int m_bundleFirst, .ref m_qtiredBy, .int m_tiredMany, .ref m_qmany, .ref m_qwidth, .ref m_qnumbers, .ref m_qmoving])), (m_qworld, .inl (cA 1, 122, .inl m_cworld)), (m_qsums, .inl (cA 1, 2304, .inl F1_30534)), (m_qpairs, .inl (cA 1, 2304, .inl F2_30534))] H ∧ va_D A [(h0, .inr (12, [.int m_thrown, .ref m_qworld, .ref m_qimages, .ref m_qhasImage, .ref m_qtape, .int m_taped, .ref m_qfive, .int m_size, .int m_at, .int m_from, .int m_token, .int m_value, .int m_faultKind, .int m_faultPlace, .ref m_qfresh, .int m_startOne, .int m_startOther, .int m_latest, .int m_leftBeats, .int m_signed, .int m_metMany, .ref m_qsums, .ref m_qpairs, .ref m_qgoesWith, .ref m_qsaid, .int m_saidMany, .int m_firstWait, .ref m_qfirstOrder, .int m_bundleFirst, .ref m_qtiredBy, .int m_tiredMany, .ref m_qmany, .ref m_qwidth, .ref m_qnumbers, .ref m_qmoving])), (m_qworld, .inl (cA 1, 122, .inl m_cworld)), (m_qsums, .inl (cA 1, 2304, .inl F1_30534)), (m_qpairs, .inl (cA 1, 2304, .inl F2_30534))] ∧ va_S A s.heap H locs ∧ lv_has ls 8 [(7, .int L7_30768), (6, .int L6_30768), (5, .int L5_30768), (4, .int L4_30534), (3, .int L3_23756), (2, .int (m_cworld 4)), (0, .ref h0), (1, .int p0)]) (fun ⟨L7_30768, L6_30768, L5_30768⟩ => (2147483647 - L7_30768.toInt).toNat) ?_ ((0, x_30557, r_30549) : Int32 × Int32 × Int32) ⟨(by decide), (show 0 ≤ x_30557.toInt ∧ x_30557.toInt ≤ 0 from by omega), hP, hD, hS, hl⟩
          intro x_30768 H locs ls hI_30768 ih_30768
          obtain ⟨L7_30768, L6_30768, L5_30768⟩ := x_30768
          obtain ⟨k0_30768, k1_30768, hP, hD, hS, hl⟩ := hI_30768
          have hP : va_P D vwCl [(h0, .inr (12, [.int m_thrown, .ref m_qworld, .ref m_qimages, .ref m_qhasImage, .ref m_qtape, .int m_taped, .ref m_qfive, .int m_size, .int m_at, .int m_from, .int m_token, .int m_value, .int m_faultKind, .int m_faultPlace, .ref m_qfresh, .int m_startOne, .int m_startOther, .int m_latest, .int m_leftBeats, .int m_signed, .int m_metMany, .ref m_qsums, .ref m_qpairs, .ref m_qgoesWith, .ref m_qsaid, .int m_saidMany, .int m_firstWait, .ref m_qfirstOrder, .int m_bundleFirst, .ref m_qtiredBy, .int m_tiredMany, .ref m_qmany, .ref m_qwidth, .ref m_qnumbers, .ref m_qmoving])), (m_qworld, .inl (cA 1, 122, .inl m_cworld)), (m_qsums, .inl (cA 1, 2304, .inl F1_30534)), (m_qpairs, .inl (cA 1, 2304, .inl F2_30534))] H := hP
          have hD : va_D A [(h0, .inr (12, [.int m_thrown, .ref m_qworld, .ref m_qimages, .ref m_qhasImage, .ref m_qtape, .int m_taped, .ref m_qfive, .int m_size, .int m_at, .int m_from, .int m_token, .int m_value, .int m_faultKind, .int m_faultPlace, .ref m_qfresh, .int m_startOne, .int m_startOther, .int m_latest, .int m_leftBeats, .int m_signed, .int m_metMany, .ref m_qsums, .ref m_qpairs, .ref m_qgoesWith, .ref m_qsaid, .int m_saidMany, .int m_firstWait, .ref m_qfirstOrder, .int m_bundleFirst, .ref m_qtiredBy, .int m_tiredMany, .ref m_qmany, .ref m_qwidth, .ref m_qnumbers, .ref m_qmoving])), (m_qworld, .inl (cA 1, 122, .inl m_cworld)), (m_qsums, .inl (cA 1, 2304, .inl F1_30534)), (m_qpairs, .inl (cA 1, 2304, .inl F2_30534))] := hD
          have hl : lv_has ls 8 [(7, .int L7_30768), (6, .int L6_30768), (5, .int L5_30768), (4, .int L4_30534), (3, .int L3_23756), (2, .int (m_cworld 4)), (0, .ref h0), (1, .int p0)] := hl
          refine lv_iload hx hb dX12_layMatch_72 (lv_at hl 0 rfl) ?_
          refine lv_iload_n hx hb dX12_layMatch_74 rfl (lv_at hl 5 rfl) ?_
          refine lv_icmp_ge (tgt := 191) hx hb dX12_layMatch_75 (by decide) (fun c_30770 => ?_) (fun c_30770 => ?_)
          · skip
            have k_30771 := kk_le rfl rfl c_30770
            refine lv_aload_n hx hb dX12_layMatch_191 rfl (lv_at hl 6 rfl) ?_
            refine va_get (D := D) (ci := 12) (v := .ref m_qsums) (C := RX12) (T := TX12) (N := 35) hx hb hts inX12 hown hKN.1 hP 0 rfl rfl 21 (by decide) (hts _ tw_1440) (fun _ h9 => h9) rfl dX12_layMatch_192 ?_
            refine lv_iload_n hx hb dX12_layMatch_195 rfl (lv_at hl 4 rfl) ?_
            refine lv_bipush (v := 8) hx hb dX12_layMatch_196 (by decide) ?_
            refine lv_ishl hx hb dX12_layMatch_198 ?_
            refine lv_topi (fun x_30772 ex_30772 => ?_)
            have k_30773 := ar_shl8 ex_30772 (by omega) (by omega)
            refine lv_iload hx hb dX12_layMatch_199 (lv_at hl 3 rfl) ?_
            refine lv_ior hx hb dX12_layMatch_201 ?_
            refine lv_topi (fun x_30774 ex_30774 => ?_)
            have k_30775 := ar_or8 rfl rfl ex_30774 (by omega) (by omega) (by omega)
            refine lv_iload hx hb dX12_layMatch_202 (lv_at hl 2 rfl) ?_
            refine va_iast hx hb hKN.1 hP hD hS 2 1 rfl rfl (vp_in_iff.mpr ⟨by omega, by omega⟩) dX12_layMatch_204 (fun H locs hP hD hS => ?_)
            have hP : va_P D vwCl [(h0, .inr (12, [.int m_thrown, .ref m_qworld, .ref m_qimages, .ref m_qhasImage, .ref m_qtape, .int m_taped, .ref m_qfive, .int m_size, .int m_at, .int m_from, .int m_token, .int m_value, .int m_faultKind, .int m_faultPlace, .ref m_qfresh, .int m_startOne, .int m_startOther, .int m_latest, .int m_leftBeats, .int m_signed, .int m_metMany, .ref m_qsums, .ref m_qpairs, .ref m_qgoesWith, .ref m_qsaid, .int m_saidMany, .int m_firstWait, .ref m_qfirstOrder, .int m_bundleFirst, .ref m_qtiredBy, .int m_tiredMany, .ref m_qmany, .ref m_qwidth, .ref m_qnumbers, .ref m_qmoving])), (m_qworld, .inl (cA 1, 122, .inl m_cworld)), (m_qsums, .inl (cA 1, 2304, .inl (upd F1_30534 x_30774.toNatClampNeg L5_30768))), (m_qpairs, .inl (cA 1, 2304, .inl F2_30534))] H := hP
            have hD : va_D A [(h0, .inr (12, [.int m_thrown, .ref m_qworld, .ref m_qimages, .ref m_qhasImage, .ref m_qtape, .int m_taped, .ref m_qfive, .int m_size, .int m_at, .int m_from, .int m_token, .int m_value, .int m_faultKind, .int m_faultPlace, .ref m_qfresh, .int m_startOne, .int m_startOther, .int m_latest, .int m_leftBeats, .int m_signed, .int m_metMany, .ref m_qsums, .ref m_qpairs, .ref m_qgoesWith, .ref m_qsaid, .int m_saidMany, .int m_firstWait, .ref m_qfirstOrder, .int m_bundleFirst, .ref m_qtiredBy, .int m_tiredMany, .ref m_qmany, .ref m_qwidth, .ref m_qnumbers, .ref m_qmoving])), (m_qworld, .inl (cA 1, 122, .inl m_cworld)), (m_qsums, .inl (cA 1, 2304, .inl (upd F1_30534 x_30774.toNatClampNeg L5_30768))), (m_qpairs, .inl (cA 1, 2304, .inl F2_30534))] := hD
            generalize ef_30776 : (upd F1_30534 x_30774.toNatClampNeg L5_30768) = f_30776 at hP hD
            refine lv_aload_n hx hb dX12_layMatch_205 rfl (lv_at hl 6 rfl) ?_
            refine va_get (D := D) (ci := 12) (v := .ref m_qpairs) (C := RX12) (T := TX12) (N := 35) hx hb hts inX12 hown hKN.1 hP 0 rfl rfl 22 (by decide) (hts _ tw_1441) (fun _ h9 => h9) rfl dX12_layMatch_206 ?_
            refine lv_iload_n hx hb dX12_layMatch_209 rfl (lv_at hl 4 rfl) ?_
            refine lv_bipush (v := 8) hx hb dX12_layMatch_210 (by decide) ?_
            refine lv_ishl hx hb dX12_layMatch_212 ?_
            refine lv_topi (fun x_30777 ex_30777 => ?_)
            obtain rfl : x_30772 = x_30777 := ex_30772.trans ex_30777.symm
            refine lv_iload hx hb dX12_layMatch_213 (lv_at hl 3 rfl) ?_
            refine lv_ior hx hb dX12_layMatch_215 ?_
            refine lv_topi (fun x_30778 ex_30778 => ?_)
            obtain rfl : x_30774 = x_30778 := ex_30774.trans ex_30778.symm
            refine lv_iload hx hb dX12_layMatch_216 (lv_at hl 1 rfl) ?_
            refine va_iast hx hb hKN.1 hP hD hS 3 1 rfl rfl (vp_in_iff.mpr ⟨by omega, by omega⟩) dX12_layMatch_218 (fun H locs hP hD hS => ?_)
            have hP : va_P D vwCl [(h0, .inr (12, [.int m_thrown, .ref m_qworld, .ref m_qimages, .ref m_qhasImage, .ref m_qtape, .int m_taped, .ref m_qfive, .int m_size, .int m_at, .int m_from, .int m_token, .int m_value, .int m_faultKind, .int m_faultPlace, .ref m_qfresh, .int m_startOne, .int m_startOther, .int m_latest, .int m_leftBeats, .int m_signed, .int m_metMany, .ref m_qsums, .ref m_qpairs, .ref m_qgoesWith, .ref m_qsaid, .int m_saidMany, .int m_firstWait, .ref m_qfirstOrder, .int m_bundleFirst, .ref m_qtiredBy, .int m_tiredMany, .ref m_qmany, .ref m_qwidth, .ref m_qnumbers, .ref m_qmoving])), (m_qworld, .inl (cA 1, 122, .inl m_cworld)), (m_qsums, .inl (cA 1, 2304, .inl f_30776)), (m_qpairs, .inl (cA 1, 2304, .inl (upd F2_30534 x_30774.toNatClampNeg L6_30768)))] H := hP
            have hD : va_D A [(h0, .inr (12, [.int m_thrown, .ref m_qworld, .ref m_qimages, .ref m_qhasImage, .ref m_qtape, .int m_taped, .ref m_qfive, .int m_size, .int m_at, .int m_from, .int m_token, .int m_value, .int m_faultKind, .int m_faultPlace, .ref m_qfresh, .int m_startOne, .int m_startOther, .int m_latest, .int m_leftBeats, .int m_signed, .int m_metMany, .ref m_qsums, .ref m_qpairs, .ref m_qgoesWith, .ref m_qsaid, .int m_saidMany, .int m_firstWait, .ref m_qfirstOrder, .int m_bundleFirst, .ref m_qtiredBy, .int m_tiredMany, .ref m_qmany, .ref m_qwidth, .ref m_qnumbers, .ref m_qmoving])), (m_qworld, .inl (cA 1, 122, .inl m_cworld)), (m_qsums, .inl (cA 1, 2304, .inl f_30776)), (m_qpairs, .inl (cA 1, 2304, .inl (upd F2_30534 x_30774.toNatClampNeg L6_30768)))] := hD
            generalize ef_30779 : (upd F2_30534 x_30774.toNatClampNeg L6_30768) = f_30779 at hP hD
            obtain ⟨x_30780, ex_30780⟩ : ∃ y : Int32, L4_30534 + Int32.ofInt 1 = y := ⟨_, rfl⟩
            have k_30781 := ar_add (b := 1) rfl zi_1 ex_30780.symm (by omega) (by omega)
            refine lv_iinc (v := x_30780) (lv' := [(4, .int x_30780), (7, .int L7_30768), (6, .int L6_30768), (5, .int L5_30768), (3, .int L3_23756), (2, .int (m_cworld 4)), (0, .ref h0), (1, .int p0)]) hx hb dX12_layMatch_219 hl (k := 3) rfl ex_30780 (by decide) rfl (fun ls hl => ?_)
            refine lv_goto (tgt := 16) hx hb dX12_layMatch_222 (by decide) ?_
            have hb_30782 : ZQ f_30779 L3_23756.toInt x_30780.toInt (m_cworld 4).toInt.toNat := by
              have kc : x_30774.toNatClampNeg = x_30774.toInt.toNat := rfl
              rw [← ef_30779]; exact ZQ.step k1_30534 (by omega) (by omega) (by omega)
            exact ih_30534 (x_30780, f_30776, f_30779) _ _ _ ⟨(show 0 ≤ x_30780.toInt ∧ x_30780.toInt ≤ 256 from by omega), hb_30782, hP.sub [0, 1, 2, 3] rfl, hD.sub [0, 1, 2, 3] (by decide) rfl, hS, lv_sub hl [0, 4, 5, 6, 7] rfl⟩ (by show (2147483647 - x_30780.toInt).toNat < (2147483647 - L4_30534.toInt).toNat; omega)
          · skip
            have k_30783 := kk_nle rfl rfl c_30770
            refine lv_iload_n hx hb dX12_layMatch_78 rfl (lv_at hl 4 rfl) ?_
            refine lv_iload_n hx hb dX12_layMatch_79 rfl (lv_at hl 5 rfl) ?_
            refine lv_icmp_ge (tgt := 191) hx hb dX12_layMatch_80 (by decide) (fun c_30784 => ?_) (fun c_30784 => ?_)
            · skip
              have k_30785 := kk_le rfl rfl c_30784
              refine lv_aload_n hx hb dX12_layMatch_191 rfl (lv_at hl 6 rfl) ?_
              refine va_get (D := D) (ci := 12) (v := .ref m_qsums) (C := RX12) (T := TX12) (N := 35) hx hb hts inX12 hown hKN.1 hP 0 rfl rfl 21 (by decide) (hts _ tw_1440) (fun _ h9 => h9) rfl dX12_layMatch_192 ?_
              refine lv_iload_n hx hb dX12_layMatch_195 rfl (lv_at hl 4 rfl) ?_
              refine lv_bipush (v := 8) hx hb dX12_layMatch_196 (by decide) ?_
              refine lv_ishl hx hb dX12_layMatch_198 ?_
              refine lv_topi (fun x_30786 ex_30786 => ?_)
              have k_30787 := ar_shl8 ex_30786 (by omega) (by omega)
              refine lv_iload hx hb dX12_layMatch_199 (lv_at hl 3 rfl) ?_
              refine lv_ior hx hb dX12_layMatch_201 ?_
              refine lv_topi (fun x_30788 ex_30788 => ?_)
              have k_30789 := ar_or8 rfl rfl ex_30788 (by omega) (by omega) (by omega)
              refine lv_iload hx hb dX12_layMatch_202 (lv_at hl 2 rfl) ?_
              refine va_iast hx hb hKN.1 hP hD hS 2 1 rfl rfl (vp_in_iff.mpr ⟨by omega, by omega⟩) dX12_layMatch_204 (fun H locs hP hD hS => ?_)
              have hP : va_P D vwCl [(h0, .inr (12, [.int m_thrown, .ref m_qworld, .ref m_qimages, .ref m_qhasImage, .ref m_qtape, .int m_taped, .ref m_qfive, .int m_size, .int m_at, .int m_from, .int m_token, .int m_value, .int m_faultKind, .int m_faultPlace, .ref m_qfresh, .int m_startOne, .int m_startOther, .int m_latest, .int m_leftBeats, .int m_signed, .int m_metMany, .ref m_qsums, .ref m_qpairs, .ref m_qgoesWith, .ref m_qsaid, .int m_saidMany, .int m_firstWait, .ref m_qfirstOrder, .int m_bundleFirst, .ref m_qtiredBy, .int m_tiredMany, .ref m_qmany, .ref m_qwidth, .ref m_qnumbers, .ref m_qmoving])), (m_qworld, .inl (cA 1, 122, .inl m_cworld)), (m_qsums, .inl (cA 1, 2304, .inl (upd F1_30534 x_30788.toNatClampNeg L5_30768))), (m_qpairs, .inl (cA 1, 2304, .inl F2_30534))] H := hP
              have hD : va_D A [(h0, .inr (12, [.int m_thrown, .ref m_qworld, .ref m_qimages, .ref m_qhasImage, .ref m_qtape, .int m_taped, .ref m_qfive, .int m_size, .int m_at, .int m_from, .int m_token, .int m_value, .int m_faultKind, .int m_faultPlace, .ref m_qfresh, .int m_startOne, .int m_startOther, .int m_latest, .int m_leftBeats, .int m_signed, .int m_metMany, .ref m_qsums, .ref m_qpairs, .ref m_qgoesWith, .ref m_qsaid, .int m_saidMany, .int m_firstWait, .ref m_qfirstOrder, .int m_bundleFirst, .ref m_qtiredBy, .int m_tiredMany, .ref m_qmany, .ref m_qwidth, .ref m_qnumbers, .ref m_qmoving])), (m_qworld, .inl (cA 1, 122, .inl m_cworld)), (m_qsums, .inl (cA 1, 2304, .inl (upd F1_30534 x_30788.toNatClampNeg L5_30768))), (m_qpairs, .inl (cA 1, 2304, .inl F2_30534))] := hD
              generalize ef_30790 : (upd F1_30534 x_30788.toNatClampNeg L5_30768) = f_30790 at hP hD
              refine lv_aload_n hx hb dX12_layMatch_205 rfl (lv_at hl 6 rfl) ?_
              refine va_get (D := D) (ci := 12) (v := .ref m_qpairs) (C := RX12) (T := TX12) (N := 35) hx hb hts inX12 hown hKN.1 hP 0 rfl rfl 22 (by decide) (hts _ tw_1441) (fun _ h9 => h9) rfl dX12_layMatch_206 ?_
              refine lv_iload_n hx hb dX12_layMatch_209 rfl (lv_at hl 4 rfl) ?_
              refine lv_bipush (v := 8) hx hb dX12_layMatch_210 (by decide) ?_
              refine lv_ishl hx hb dX12_layMatch_212 ?_
              refine lv_topi (fun x_30791 ex_30791 => ?_)
              obtain rfl : x_30786 = x_30791 := ex_30786.trans ex_30791.symm
              refine lv_iload hx hb dX12_layMatch_213 (lv_at hl 3 rfl) ?_
              refine lv_ior hx hb dX12_layMatch_215 ?_
              refine lv_topi (fun x_30792 ex_30792 => ?_)
              obtain rfl : x_30788 = x_30792 := ex_30788.trans ex_30792.symm
              refine lv_iload hx hb dX12_layMatch_216 (lv_at hl 1 rfl) ?_
              refine va_iast hx hb hKN.1 hP hD hS 3 1 rfl rfl (vp_in_iff.mpr ⟨by omega, by omega⟩) dX12_layMatch_218 (fun H locs hP hD hS => ?_)
              have hP : va_P D vwCl [(h0, .inr (12, [.int m_thrown, .ref m_qworld, .ref m_qimages, .ref m_qhasImage, .ref m_qtape, .int m_taped, .ref m_qfive, .int m_size, .int m_at, .int m_from, .int m_token, .int m_value, .int m_faultKind, .int m_faultPlace, .ref m_qfresh, .int m_startOne, .int m_startOther, .int m_latest, .int m_leftBeats, .int m_signed, .int m_metMany, .ref m_qsums, .ref m_qpairs, .ref m_qgoesWith, .ref m_qsaid, .int m_saidMany, .int m_firstWait, .ref m_qfirstOrder, .int m_bundleFirst, .ref m_qtiredBy, .int m_tiredMany, .ref m_qmany, .ref m_qwidth, .ref m_qnumbers, .ref m_qmoving])), (m_qworld, .inl (cA 1, 122, .inl m_cworld)), (m_qsums, .inl (cA 1, 2304, .inl f_30790)), (m_qpairs, .inl (cA 1, 2304, .inl (upd F2_30534 x_30788.toNatClampNeg L6_30768)))] H := hP
              have hD : va_D A [(h0, .inr (12, [.int m_thrown, .ref m_qworld, .ref m_qimages, .ref m_qhasImage, .ref m_qtape, .int m_taped, .ref m_qfive, .int m_size, .int m_at, .int m_from, .int m_token, .int m_value, .int m_faultKind, .int m_faultPlace, .ref m_qfresh, .int m_startOne, .int m_startOther, .int m_latest, .int m_leftBeats, .int m_signed, .int m_metMany, .ref m_qsums, .ref m_qpairs, .ref m_qgoesWith, .ref m_qsaid, .int m_saidMany, .int m_firstWait, .ref m_qfirstOrder, .int m_bundleFirst, .ref m_qtiredBy, .int m_tiredMany, .ref m_qmany, .ref m_qwidth, .ref m_qnumbers, .ref m_qmoving])), (m_qworld, .inl (cA 1, 122, .inl m_cworld)), (m_qsums, .inl (cA 1, 2304, .inl f_30790)), (m_qpairs, .inl (cA 1, 2304, .inl (upd F2_30534 x_30788.toNatClampNeg L6_30768)))] := hD
              generalize ef_30793 : (upd F2_30534 x_30788.toNatClampNeg L6_30768) = f_30793 at hP hD
              obtain ⟨x_30794, ex_30794⟩ : ∃ y : Int32, L4_30534 + Int32.ofInt 1 = y := ⟨_, rfl⟩
              have k_30795 := ar_add (b := 1) rfl zi_1 ex_30794.symm (by omega) (by omega)
              refine lv_iinc (v := x_30794) (lv' := [(4, .int x_30794), (7, .int L7_30768), (6, .int L6_30768), (5, .int L5_30768), (3, .int L3_23756), (2, .int (m_cworld 4)), (0, .ref h0), (1, .int p0)]) hx hb dX12_layMatch_219 hl (k := 3) rfl ex_30794 (by decide) rfl (fun ls hl => ?_)
              refine lv_goto (tgt := 16) hx hb dX12_layMatch_222 (by decide) ?_
              have hb_30796 : ZQ f_30793 L3_23756.toInt x_30794.toInt (m_cworld 4).toInt.toNat := by
                have kc : x_30788.toNatClampNeg = x_30788.toInt.toNat := rfl
                rw [← ef_30793]; exact ZQ.step k1_30534 (by omega) (by omega) (by omega)
              exact ih_30534 (x_30794, f_30790, f_30793) _ _ _ ⟨(show 0 ≤ x_30794.toInt ∧ x_30794.toInt ≤ 256 from by omega), hb_30796, hP.sub [0, 1, 2, 3] rfl, hD.sub [0, 1, 2, 3] (by decide) rfl, hS, lv_sub hl [0, 4, 5, 6, 7] rfl⟩ (by show (2147483647 - x_30794.toInt).toNat < (2147483647 - L4_30534.toInt).toNat; omega)
            · skip
              have k_30797 := kk_nle rfl rfl c_30784
              refine lv_aload_n hx hb dX12_layMatch_83 rfl (lv_at hl 6 rfl) ?_
              refine lv_iload_n hx hb dX12_layMatch_84 rfl (lv_at hl 4 rfl) ?_
              refine lv_iconst (v := 0) hx hb dX12_layMatch_85 (by decide) ?_
              have z_30798 := zi_0
              refine cpVi (rest := []) ⟨hx, hb, hml, hown, hts⟩ hKN (hP.sub (ws' := [(h0, .inr (12, [.int m_thrown, .ref m_qworld, .ref m_qimages, .ref m_qhasImage, .ref m_qtape, .int m_taped, .ref m_qfive, .int m_size, .int m_at, .int m_from, .int m_token, .int m_value, .int m_faultKind, .int m_faultPlace, .ref m_qfresh, .int m_startOne, .int m_startOther, .int m_latest, .int m_leftBeats, .int m_signed, .int m_metMany, .ref m_qsums, .ref m_qpairs, .ref m_qgoesWith, .ref m_qsaid, .int m_saidMany, .int m_firstWait, .ref m_qfirstOrder, .int m_bundleFirst, .ref m_qtiredBy, .int m_tiredMany, .ref m_qmany, .ref m_qwidth, .ref m_qnumbers, .ref m_qmoving])), (m_qworld, .inl (cA 1, 122, .inl m_cworld))]) [0, 1] rfl) (g_X12_of l D cA h0 m_thrown m_qworld m_qimages m_qhasImage m_qtape m_taped m_qfive m_size m_at m_from m_token m_value m_faultKind m_faultPlace m_qfresh m_startOne m_startOther m_latest m_leftBeats m_signed m_metMany m_qsums m_qpairs m_qgoesWith m_qsaid m_saidMany m_firstWait m_qfirstOrder m_bundleFirst m_qtiredBy m_tiredMany m_qmany m_qwidth m_qnumbers m_qmoving m_cworld L3_23756 0 (by omega) (by omega) (by omega) (by omega) (by omega) (by omega) (by omega) (by decide) a_m_cworld_0) (tb_V tw_1640 tw_1642 tw_50 tw_114 tw_1643) hdX12_of ⟨rfl, rfl, Nat.le_of_ble_eq_true rfl, Nat.le_of_ble_eq_true rfl⟩ ⟨Nat.le_of_ble_eq_true rfl, Nat.le_of_ble_eq_true rfl⟩ rfl rfl rfl hl.1 rfl (Nat.le_of_ble_eq_true rfl) dX12_layMatch_86 (fun r_30799 hr_30799 => ?_)
              obtain ⟨k_30799_0_0, k_30799_0_1⟩ := hr_30799
              refine lv_if_ne (tgt := 185) hx hb dX12_layMatch_89 (by decide) (fun c_30800 => ?_) (fun c_30800 => ?_)
              · skip
                have k_30801 := kk_ne rfl zi_0 c_30800
                obtain ⟨x_30802, ex_30802⟩ : ∃ y : Int32, L7_30768 + Int32.ofInt 1 = y := ⟨_, rfl⟩
                have k_30803 := ar_add (b := 1) rfl zi_1 ex_30802.symm (by omega) (by omega)
                refine lv_iinc (v := x_30802) (lv' := [(7, .int x_30802), (6, .int L6_30768), (5, .int L5_30768), (4, .int L4_30534), (3, .int L3_23756), (2, .int (m_cworld 4)), (0, .ref h0), (1, .int p0)]) hx hb dX12_layMatch_185 hl (k := 0) rfl ex_30802 (by decide) rfl (fun ls hl => ?_)
                refine lv_goto (tgt := 72) hx hb dX12_layMatch_188 (by decide) ?_
                exact ih_30768 (x_30802, L6_30768, L5_30768) _ _ _ ⟨(show 0 ≤ x_30802.toInt ∧ x_30802.toInt ≤ 8 from by omega), (show 0 ≤ L6_30768.toInt ∧ L6_30768.toInt ≤ 0 from by omega), hP.sub [0, 1, 2, 3] rfl, hD.sub [0, 1, 2, 3] (by decide) rfl, hS, lv_sub hl [0, 1, 2, 3, 4, 5, 6, 7] rfl⟩ (by show (2147483647 - x_30802.toInt).toNat < (2147483647 - L7_30768.toInt).toNat; omega)
              · skip
                have k_30804 := kk_eq rfl zi_0 c_30800
                refine lv_aload_n hx hb dX12_layMatch_92 rfl (lv_at hl 6 rfl) ?_
                refine lv_iload hx hb dX12_layMatch_93 (lv_at hl 0 rfl) ?_
                refine lv_iconst (v := 0) hx hb dX12_layMatch_95 (by decide) ?_
                refine cpVi (rest := []) ⟨hx, hb, hml, hown, hts⟩ hKN (hP.sub (ws' := [(h0, .inr (12, [.int m_thrown, .ref m_qworld, .ref m_qimages, .ref m_qhasImage, .ref m_qtape, .int m_taped, .ref m_qfive, .int m_size, .int m_at, .int m_from, .int m_token, .int m_value, .int m_faultKind, .int m_faultPlace, .ref m_qfresh, .int m_startOne, .int m_startOther, .int m_latest, .int m_leftBeats, .int m_signed, .int m_metMany, .ref m_qsums, .ref m_qpairs, .ref m_qgoesWith, .ref m_qsaid, .int m_saidMany, .int m_firstWait, .ref m_qfirstOrder, .int m_bundleFirst, .ref m_qtiredBy, .int m_tiredMany, .ref m_qmany, .ref m_qwidth, .ref m_qnumbers, .ref m_qmoving])), (m_qworld, .inl (cA 1, 122, .inl m_cworld))]) [0, 1] rfl) (g_X12_of l D cA h0 m_thrown m_qworld m_qimages m_qhasImage m_qtape m_taped m_qfive m_size m_at m_from m_token m_value m_faultKind m_faultPlace m_qfresh m_startOne m_startOther m_latest m_leftBeats m_signed m_metMany m_qsums m_qpairs m_qgoesWith m_qsaid m_saidMany m_firstWait m_qfirstOrder m_bundleFirst m_qtiredBy m_tiredMany m_qmany m_qwidth m_qnumbers m_qmoving m_cworld L7_30768 0 (by omega) (by omega) (by omega) (by omega) (by omega) (by omega) (by omega) (by decide) a_m_cworld_0) (tb_V tw_1640 tw_1642 tw_50 tw_114 tw_1643) hdX12_of ⟨rfl, rfl, Nat.le_of_ble_eq_true rfl, Nat.le_of_ble_eq_true rfl⟩ ⟨Nat.le_of_ble_eq_true rfl, Nat.le_of_ble_eq_true rfl⟩ rfl rfl rfl hl.1 rfl (Nat.le_of_ble_eq_true rfl) dX12_layMatch_96 (fun r_30805 hr_30805 => ?_)
                obtain ⟨k_30805_0_0, k_30805_0_1⟩ := hr_30805
                refine lv_iconst (v := 1) hx hb dX12_layMatch_99 (by decide) ?_
                refine lv_icmp_ne (tgt := 185) hx hb dX12_layMatch_100 (by decide) (fun c_30806 => ?_) (fun c_30806 => ?_)
                · skip
                  have k_30807 := kk_ne rfl zi_1 c_30806
                  obtain ⟨x_30808, ex_30808⟩ : ∃ y : Int32, L7_30768 + Int32.ofInt 1 = y := ⟨_, rfl⟩
                  have k_30809 := ar_add (b := 1) rfl zi_1 ex_30808.symm (by omega) (by omega)
                  refine lv_iinc (v := x_30808) (lv' := [(7, .int x_30808), (6, .int L6_30768), (5, .int L5_30768), (4, .int L4_30534), (3, .int L3_23756), (2, .int (m_cworld 4)), (0, .ref h0), (1, .int p0)]) hx hb dX12_layMatch_185 hl (k := 0) rfl ex_30808 (by decide) rfl (fun ls hl => ?_)
                  refine lv_goto (tgt := 72) hx hb dX12_layMatch_188 (by decide) ?_
                  exact ih_30768 (x_30808, L6_30768, L5_30768) _ _ _ ⟨(show 0 ≤ x_30808.toInt ∧ x_30808.toInt ≤ 8 from by omega), (show 0 ≤ L6_30768.toInt ∧ L6_30768.toInt ≤ 0 from by omega), hP.sub [0, 1, 2, 3] rfl, hD.sub [0, 1, 2, 3] (by decide) rfl, hS, lv_sub hl [0, 1, 2, 3, 4, 5, 6, 7] rfl⟩ (by show (2147483647 - x_30808.toInt).toNat < (2147483647 - L7_30768.toInt).toNat; omega)
                · skip
                  have k_30810 := kk_eq rfl zi_1 c_30806
                  refine lv_iload hx hb dX12_layMatch_103 (lv_at hl 3 rfl) ?_
                  refine lv_iload hx hb dX12_layMatch_105 (lv_at hl 0 rfl) ?_
                  refine cpSi (rest := []) ⟨hx, hb, hml, hown, hts⟩ hKN (hP.sub (ws' := []) [] rfl) (g_X12_bit l D cA L4_30534 L7_30768) (tb_S tw_1807 tw_1808 tw_114 tw_1809) hdX12_bit ⟨rfl, rfl, Nat.le_of_ble_eq_true rfl, Nat.le_of_ble_eq_true rfl⟩ ⟨Nat.le_of_ble_eq_true rfl, Nat.le_of_ble_eq_true rfl⟩ rfl hl.1 rfl (Nat.le_of_ble_eq_true rfl) dX12_layMatch_107 (fun r_30811 hr_30811 => ?_)
                  refine lv_iconst (v := 1) hx hb dX12_layMatch_110 (by decide) ?_
                  refine lv_icmp_ne (tgt := 117) hx hb dX12_layMatch_111 (by decide) (fun c_30812 => ?_) (fun c_30812 => ?_)
                  · skip
                    have k_30813 := kk_ne rfl zi_1 c_30812
                    refine lv_iload hx hb dX12_layMatch_117 (lv_at hl 2 rfl) ?_
                    refine lv_aload_n hx hb dX12_layMatch_119 rfl (lv_at hl 6 rfl) ?_
                    refine lv_iload_n hx hb dX12_layMatch_120 rfl (lv_at hl 4 rfl) ?_
                    refine lv_iload hx hb dX12_layMatch_121 (lv_at hl 0 rfl) ?_
                    refine cpVi (rest := [.int L5_30768]) ⟨hx, hb, hml, hown, hts⟩ hKN (hP.sub (ws' := [(h0, .inr (12, [.int m_thrown, .ref m_qworld, .ref m_qimages, .ref m_qhasImage, .ref m_qtape, .int m_taped, .ref m_qfive, .int m_size, .int m_at, .int m_from, .int m_token, .int m_value, .int m_faultKind, .int m_faultPlace, .ref m_qfresh, .int m_startOne, .int m_startOther, .int m_latest, .int m_leftBeats, .int m_signed, .int m_metMany, .ref m_qsums, .ref m_qpairs, .ref m_qgoesWith, .ref m_qsaid, .int m_saidMany, .int m_firstWait, .ref m_qfirstOrder, .int m_bundleFirst, .ref m_qtiredBy, .int m_tiredMany, .ref m_qmany, .ref m_qwidth, .ref m_qnumbers, .ref m_qmoving])), (m_qworld, .inl (cA 1, 122, .inl m_cworld))]) [0, 1] rfl) (g_X12_holdOf_z l D cA h0 m_thrown m_qworld m_qimages m_qhasImage m_qtape m_taped m_qfive m_size m_at m_from m_token m_value m_faultKind m_faultPlace m_qfresh m_startOne m_startOther m_latest m_leftBeats m_signed m_metMany m_qsums m_qpairs m_qgoesWith m_qsaid m_saidMany m_firstWait m_qfirstOrder m_bundleFirst m_qtiredBy m_tiredMany m_qmany m_qwidth m_qnumbers m_qmoving m_cworld L3_23756 L7_30768 (by omega) (by omega) (by omega) (by omega) (by omega) (by omega) (by omega) (by omega) a_m_cworld_0) (tb_V tw_1700 tw_1702 tw_63 tw_114 tw_1703) hdX12_holdOf ⟨rfl, rfl, Nat.le_of_ble_eq_true rfl, Nat.le_of_ble_eq_true rfl⟩ ⟨Nat.le_of_ble_eq_true rfl, Nat.le_of_ble_eq_true rfl⟩ rfl rfl rfl hl.1 rfl (Nat.le_of_ble_eq_true rfl) dX12_layMatch_123 (fun r_30814 hr_30814 => ?_)
                    refine lv_aload_n hx hb dX12_layMatch_126 rfl (lv_at hl 6 rfl) ?_
                    refine lv_iload_n hx hb dX12_layMatch_127 rfl (lv_at hl 4 rfl) ?_
                    refine lv_iconst (v := 1) hx hb dX12_layMatch_128 (by decide) ?_
                    refine lv_iadd hx hb dX12_layMatch_129 ?_
                    refine lv_topi (fun x_30815 ex_30815 => ?_)
                    obtain rfl : x_30547 = x_30815 := ex_30547.trans ex_30815.symm
                    refine lv_iload hx hb dX12_layMatch_130 (lv_at hl 3 rfl) ?_
                    refine lv_iconst (v := 1) hx hb dX12_layMatch_132 (by decide) ?_
                    refine lv_iload hx hb dX12_layMatch_133 (lv_at hl 0 rfl) ?_
                    refine lv_ishl hx hb dX12_layMatch_135 ?_
                    refine lv_topi (fun x_30816 ex_30816 => ?_)
                    have k_30817 := ar_shl1 ex_30816 (by omega) (by omega)
                    refine lv_ior hx hb dX12_layMatch_136 ?_
                    refine lv_topi (fun x_30818 ex_30818 => ?_)
                    have k_30819 := ar_or (n := 8) (M := 256) rfl rfl ex_30818 (by decide) (by decide) (by omega) (by omega)
                    refine cpVi (rest := [.int r_30814, .int L5_30768]) ⟨hx, hb, hml, hown, hts⟩ hKN (hP.sub (ws' := [(h0, .inr (12, [.int m_thrown, .ref m_qworld, .ref m_qimages, .ref m_qhasImage, .ref m_qtape, .int m_taped, .ref m_qfive, .int m_size, .int m_at, .int m_from, .int m_token, .int m_value, .int m_faultKind, .int m_faultPlace, .ref m_qfresh, .int m_startOne, .int m_startOther, .int m_latest, .int m_leftBeats, .int m_signed, .int m_metMany, .ref m_qsums, .ref m_qpairs, .ref m_qgoesWith, .ref m_qsaid, .int m_saidMany, .int m_firstWait, .ref m_qfirstOrder, .int m_bundleFirst, .ref m_qtiredBy, .int m_tiredMany, .ref m_qmany, .ref m_qwidth, .ref m_qnumbers, .ref m_qmoving])), (m_qsums, .inl (cA 1, 2304, .inl F1_30534))]) [0, 2] rfl) (g_X12_sumFrom l D cA h0 m_thrown m_qworld m_qimages m_qhasImage m_qtape m_taped m_qfive m_size m_at m_from m_token m_value m_faultKind m_faultPlace m_qfresh m_startOne m_startOther m_latest m_leftBeats m_signed m_metMany m_qsums m_qpairs m_qgoesWith m_qsaid m_saidMany m_firstWait m_qfirstOrder m_bundleFirst m_qtiredBy m_tiredMany m_qmany m_qwidth m_qnumbers m_qmoving F1_30534 x_30547 x_30818 (by omega) (by omega) (by omega) (by omega) (by omega) (by omega) (by omega) (by omega)) (tb_V tw_1803 tw_1805 tw_71 tw_114 tw_1806) hdX12_sumFrom ⟨rfl, rfl, Nat.le_of_ble_eq_true rfl, Nat.le_of_ble_eq_true rfl⟩ ⟨Nat.le_of_ble_eq_true rfl, Nat.le_of_ble_eq_true rfl⟩ rfl rfl rfl hl.1 rfl (Nat.le_of_ble_eq_true rfl) dX12_layMatch_137 (fun r_30820 hr_30820 => ?_)
                    refine lv_iadd hx hb dX12_layMatch_140 ?_
                    refine lv_topi (fun x_30821 ex_30821 => ?_)
                    refine cpSi (rest := []) ⟨hx, hb, hml, hown, hts⟩ hKN (hP.sub (ws' := []) [] rfl) (g_J9_max_7cf53 l D cA L5_30768 x_30821) (tb_S tw_1735 tw_779 tw_115 tw_780) hdJ9_max_7cf53 ⟨rfl, rfl, Nat.le_of_ble_eq_true rfl, Nat.le_of_ble_eq_true rfl⟩ ⟨Nat.le_of_ble_eq_true rfl, Nat.le_of_ble_eq_true rfl⟩ rfl hl.1 rfl (Nat.le_of_ble_eq_true rfl) dX12_layMatch_141 (fun r_30823 hr_30823 => ?_)
                    obtain ⟨k_30823_0_0, k_30823_0_1, k_30823_0_2⟩ := hr_30823
                    refine lv_istore (lv' := [(5, .int r_30823), (7, .int L7_30768), (6, .int L6_30768), (4, .int L4_30534), (3, .int L3_23756), (2, .int (m_cworld 4)), (0, .ref h0), (1, .int p0)]) hx hb dX12_layMatch_144 hl (by decide) rfl (fun ls hl => ?_)
                    refine lv_aload_n hx hb dX12_layMatch_146 rfl (lv_at hl 6 rfl) ?_
                    refine lv_iload_n hx hb dX12_layMatch_147 rfl (lv_at hl 4 rfl) ?_
                    refine lv_iload hx hb dX12_layMatch_148 (lv_at hl 1 rfl) ?_
                    refine cpVi (rest := []) ⟨hx, hb, hml, hown, hts⟩ hKN (hP.sub (ws' := [(h0, .inr (12, [.int m_thrown, .ref m_qworld, .ref m_qimages, .ref m_qhasImage, .ref m_qtape, .int m_taped, .ref m_qfive, .int m_size, .int m_at, .int m_from, .int m_token, .int m_value, .int m_faultKind, .int m_faultPlace, .ref m_qfresh, .int m_startOne, .int m_startOther, .int m_latest, .int m_leftBeats, .int m_signed, .int m_metMany, .ref m_qsums, .ref m_qpairs, .ref m_qgoesWith, .ref m_qsaid, .int m_saidMany, .int m_firstWait, .ref m_qfirstOrder, .int m_bundleFirst, .ref m_qtiredBy, .int m_tiredMany, .ref m_qmany, .ref m_qwidth, .ref m_qnumbers, .ref m_qmoving])), (m_qworld, .inl (cA 1, 122, .inl m_cworld))]) [0, 1] rfl) (g_X12_holdOf_z l D cA h0 m_thrown m_qworld m_qimages m_qhasImage m_qtape m_taped m_qfive m_size m_at m_from m_token m_value m_faultKind m_faultPlace m_qfresh m_startOne m_startOther m_latest m_leftBeats m_signed m_metMany m_qsums m_qpairs m_qgoesWith m_qsaid m_saidMany m_firstWait m_qfirstOrder m_bundleFirst m_qtiredBy m_tiredMany m_qmany m_qwidth m_qnumbers m_qmoving m_cworld L3_23756 L7_30768 (by omega) (by omega) (by omega) (by omega) (by omega) (by omega) (by omega) (by omega) a_m_cworld_0) (tb_V tw_1700 tw_1702 tw_63 tw_114 tw_1703) hdX12_holdOf ⟨rfl, rfl, Nat.le_of_ble_eq_true rfl, Nat.le_of_ble_eq_true rfl⟩ ⟨Nat.le_of_ble_eq_true rfl, Nat.le_of_ble_eq_true rfl⟩ rfl rfl rfl hl.1 rfl (Nat.le_of_ble_eq_true rfl) dX12_layMatch_150 (fun r_30824 hr_30824 => ?_)
                    refine lv_iload_n hx hb dX12_layMatch_153 rfl (lv_at hl 7 rfl) ?_
                    refine lv_icmp_lt (tgt := 185) hx hb dX12_layMatch_154 (by decide) (fun c_30825 => ?_) (fun c_30825 => ?_)
                    · skip
                      have k_30826 := kk_lt rfl rfl c_30825
                      obtain ⟨x_30827, ex_30827⟩ : ∃ y : Int32, L7_30768 + Int32.ofInt 1 = y := ⟨_, rfl⟩
                      have k_30828 := ar_add (b := 1) rfl zi_1 ex_30827.symm (by omega) (by omega)
                      refine lv_iinc (v := x_30827) (lv' := [(7, .int x_30827), (5, .int r_30823), (6, .int L6_30768), (4, .int L4_30534), (3, .int L3_23756), (2, .int (m_cworld 4)), (0, .ref h0), (1, .int p0)]) hx hb dX12_layMatch_185 hl (k := 1) rfl ex_30827 (by decide) rfl (fun ls hl => ?_)
                      refine lv_goto (tgt := 72) hx hb dX12_layMatch_188 (by decide) ?_
                      exact ih_30768 (x_30827, L6_30768, r_30823) _ _ _ ⟨(show 0 ≤ x_30827.toInt ∧ x_30827.toInt ≤ 8 from by omega), (show 0 ≤ L6_30768.toInt ∧ L6_30768.toInt ≤ 0 from by omega), hP.sub [0, 1, 2, 3] rfl, hD.sub [0, 1, 2, 3] (by decide) rfl, hS, lv_sub hl [0, 2, 1, 3, 4, 5, 6, 7] rfl⟩ (by show (2147483647 - x_30827.toInt).toNat < (2147483647 - L7_30768.toInt).toNat; omega)
                    · skip
                      have k_30829 := kk_nlt rfl rfl c_30825
                      exfalso; omega
                  · skip
                    have k_30830 := kk_eq rfl zi_1 c_30812
                    refine lv_goto (tgt := 185) hx hb dX12_layMatch_114 (by decide) ?_
                    obtain ⟨x_30831, ex_30831⟩ : ∃ y : Int32, L7_30768 + Int32.ofInt 1 = y := ⟨_, rfl⟩
                    have k_30832 := ar_add (b := 1) rfl zi_1 ex_30831.symm (by omega) (by omega)
                    refine lv_iinc (v := x_30831) (lv' := [(7, .int x_30831), (6, .int L6_30768), (5, .int L5_30768), (4, .int L4_30534), (3, .int L3_23756), (2, .int (m_cworld 4)), (0, .ref h0), (1, .int p0)]) hx hb dX12_layMatch_185 hl (k := 0) rfl ex_30831 (by decide) rfl (fun ls hl => ?_)
                    refine lv_goto (tgt := 72) hx hb dX12_layMatch_188 (by decide) ?_
                    exact ih_30768 (x_30831, L6_30768, L5_30768) _ _ _ ⟨(show 0 ≤ x_30831.toInt ∧ x_30831.toInt ≤ 8 from by omega), (show 0 ≤ L6_30768.toInt ∧ L6_30768.toInt ≤ 0 from by omega), hP.sub [0, 1, 2, 3] rfl, hD.sub [0, 1, 2, 3] (by decide) rfl, hS, lv_sub hl [0, 1, 2, 3, 4, 5, 6, 7] rfl⟩ (by show (2147483647 - x_30831.toInt).toNat < (2147483647 - L7_30768.toInt).toNat; omega)
        · skip
          have k_30833 := kk_eq rfl rfl c_30550
          refine lv_iconst (v := 0) hx hb dX12_layMatch_49 (by decide) ?_
          refine lv_goto (tgt := 67) hx hb dX12_layMatch_50 (by decide) ?_
          refine lv_istore (lv' := [(6, .int 0), (5, .int r_30549), (4, .int L4_30534), (3, .int L3_23756), (2, .int (m_cworld 4)), (0, .ref h0), (1, .int p0)]) hx hb dX12_layMatch_67 hl (by decide) rfl (fun ls hl => ?_)
          refine lv_iconst (v := 0) hx hb dX12_layMatch_69 (by decide) ?_
          refine lv_istore (lv' := [(7, .int 0), (6, .int 0), (5, .int r_30549), (4, .int L4_30534), (3, .int L3_23756), (2, .int (m_cworld 4)), (0, .ref h0), (1, .int p0)]) hx hb dX12_layMatch_70 hl (by decide) rfl (fun ls hl => ?_)
          have b_31045 := i32_bd r_30549
          refine loopW (σ := Int32 × Int32 × Int32) (fun _ => []) (fun ⟨L7_31044, L6_31044, L5_31044⟩ H locs ls => (0 ≤ L7_31044.toInt ∧ L7_31044.toInt ≤ 7) ∧ (0 ≤ L6_31044.toInt ∧ L6_31044.toInt ≤ 0) ∧ va_P D vwCl [(h0, .inr (12, [.int m_thrown, .ref m_qworld, .ref m_qimages, .ref m_qhasImage, .ref m_qtape, .int m_taped, .ref m_qfive, .int m_size, .int m_at, .int m_from, .int m_token, .int m_value, .int m_faultKind, .int m_faultPlace, .ref m_qfresh, .int m_startOne, .int m_startOther, .int m_latest, .int m_leftBeats, .int m_signed, .int m_metMany, .ref m_qsums, .ref m_qpairs, .ref m_qgoesWith, .ref m_qsaid, .int m_saidMany, .int m_firstWait, .ref m_qfirstOrder, .int m_bundleFirst, .ref m_qtiredBy, .int m_tiredMany, .ref m_qmany, .ref m_qwidth, .ref m_qnumbers, .ref m_qmoving])), (m_qworld, .inl (cA 1, 122, .inl m_cworld)), (m_qsums, .inl (cA 1, 2304, .inl F1_30534)), (m_qpairs, .inl (cA 1, 2304, .inl F2_30534))] H ∧ va_D A [(h0, .inr (12, [.int m_thrown, .ref m_qworld, .ref m_qimages, .ref m_qhasImage, .ref m_qtape, .int m_taped, .ref m_qfive, .int m_size, .int m_at, .int m_from, .int m_token, .int m_value, .int m_faultKind, .int m_faultPlace, .ref m_qfresh, .int m_startOne, .int m_startOther, .int m_latest, .int m_leftBeats, .int m_signed, .int m_metMany, .ref m_qsums, .ref m_qpairs, .ref m_qgoesWith, .ref m_qsaid, .int m_saidMany, .int m_firstWait, .ref m_qfirstOrder, .int m_bundleFirst, .ref m_qtiredBy, .int m_tiredMany, .ref m_qmany, .ref m_qwidth, .ref m_qnumbers, .ref m_qmoving])), (m_qworld, .inl (cA 1, 122, .inl m_cworld)), (m_qsums, .inl (cA 1, 2304, .inl F1_30534)), (m_qpairs, .inl (cA 1, 2304, .inl F2_30534))] ∧ va_S A s.heap H locs ∧ lv_has ls 8 [(7, .int L7_31044), (6, .int L6_31044), (5, .int L5_31044), (4, .int L4_30534), (3, .int L3_23756), (2, .int (m_cworld 4)), (0, .ref h0), (1, .int p0)]) (fun ⟨L7_31044, L6_31044, L5_31044⟩ => (2147483647 - L7_31044.toInt).toNat) ?_ ((0, 0, r_30549) : Int32 × Int32 × Int32) ⟨(by decide), (by decide), hP, hD, hS, hl⟩
          intro x_31044 H locs ls hI_31044 ih_31044
          obtain ⟨L7_31044, L6_31044, L5_31044⟩ := x_31044
          obtain ⟨k0_31044, k1_31044, hP, hD, hS, hl⟩ := hI_31044
          have hP : va_P D vwCl [(h0, .inr (12, [.int m_thrown, .ref m_qworld, .ref m_qimages, .ref m_qhasImage, .ref m_qtape, .int m_taped, .ref m_qfive, .int m_size, .int m_at, .int m_from, .int m_token, .int m_value, .int m_faultKind, .int m_faultPlace, .ref m_qfresh, .int m_startOne, .int m_startOther, .int m_latest, .int m_leftBeats, .int m_signed, .int m_metMany, .ref m_qsums, .ref m_qpairs, .ref m_qgoesWith, .ref m_qsaid, .int m_saidMany, .int m_firstWait, .ref m_qfirstOrder, .int m_bundleFirst, .ref m_qtiredBy, .int m_tiredMany, .ref m_qmany, .ref m_qwidth, .ref m_qnumbers, .ref m_qmoving])), (m_qworld, .inl (cA 1, 122, .inl m_cworld)), (m_qsums, .inl (cA 1, 2304, .inl F1_30534)), (m_qpairs, .inl (cA 1, 2304, .inl F2_30534))] H := hP
          have hD : va_D A [(h0, .inr (12, [.int m_thrown, .ref m_qworld, .ref m_qimages, .ref m_qhasImage, .ref m_qtape, .int m_taped, .ref m_qfive, .int m_size, .int m_at, .int m_from, .int m_token, .int m_value, .int m_faultKind, .int m_faultPlace, .ref m_qfresh, .int m_startOne, .int m_startOther, .int m_latest, .int m_leftBeats, .int m_signed, .int m_metMany, .ref m_qsums, .ref m_qpairs, .ref m_qgoesWith, .ref m_qsaid, .int m_saidMany, .int m_firstWait, .ref m_qfirstOrder, .int m_bundleFirst, .ref m_qtiredBy, .int m_tiredMany, .ref m_qmany, .ref m_qwidth, .ref m_qnumbers, .ref m_qmoving])), (m_qworld, .inl (cA 1, 122, .inl m_cworld)), (m_qsums, .inl (cA 1, 2304, .inl F1_30534)), (m_qpairs, .inl (cA 1, 2304, .inl F2_30534))] := hD
          have hl : lv_has ls 8 [(7, .int L7_31044), (6, .int L6_31044), (5, .int L5_31044), (4, .int L4_30534), (3, .int L3_23756), (2, .int (m_cworld 4)), (0, .ref h0), (1, .int p0)] := hl
          refine lv_iload hx hb dX12_layMatch_72 (lv_at hl 0 rfl) ?_
          refine lv_iload_n hx hb dX12_layMatch_74 rfl (lv_at hl 5 rfl) ?_
          refine lv_icmp_ge (tgt := 191) hx hb dX12_layMatch_75 (by decide) (fun c_31046 => ?_) (fun c_31046 => ?_)
          · skip
            have k_31047 := kk_le rfl rfl c_31046
            refine lv_aload_n hx hb dX12_layMatch_191 rfl (lv_at hl 6 rfl) ?_
            refine va_get (D := D) (ci := 12) (v := .ref m_qsums) (C := RX12) (T := TX12) (N := 35) hx hb hts inX12 hown hKN.1 hP 0 rfl rfl 21 (by decide) (hts _ tw_1440) (fun _ h9 => h9) rfl dX12_layMatch_192 ?_
            refine lv_iload_n hx hb dX12_layMatch_195 rfl (lv_at hl 4 rfl) ?_
            refine lv_bipush (v := 8) hx hb dX12_layMatch_196 (by decide) ?_
            refine lv_ishl hx hb dX12_layMatch_198 ?_
            refine lv_topi (fun x_31048 ex_31048 => ?_)
            have k_31049 := ar_shl8 ex_31048 (by omega) (by omega)
            refine lv_iload hx hb dX12_layMatch_199 (lv_at hl 3 rfl) ?_
            refine lv_ior hx hb dX12_layMatch_201 ?_
            refine lv_topi (fun x_31050 ex_31050 => ?_)
            have k_31051 := ar_or8 rfl rfl ex_31050 (by omega) (by omega) (by omega)
            refine lv_iload hx hb dX12_layMatch_202 (lv_at hl 2 rfl) ?_
            refine va_iast hx hb hKN.1 hP hD hS 2 1 rfl rfl (vp_in_iff.mpr ⟨by omega, by omega⟩) dX12_layMatch_204 (fun H locs hP hD hS => ?_)
            have hP : va_P D vwCl [(h0, .inr (12, [.int m_thrown, .ref m_qworld, .ref m_qimages, .ref m_qhasImage, .ref m_qtape, .int m_taped, .ref m_qfive, .int m_size, .int m_at, .int m_from, .int m_token, .int m_value, .int m_faultKind, .int m_faultPlace, .ref m_qfresh, .int m_startOne, .int m_startOther, .int m_latest, .int m_leftBeats, .int m_signed, .int m_metMany, .ref m_qsums, .ref m_qpairs, .ref m_qgoesWith, .ref m_qsaid, .int m_saidMany, .int m_firstWait, .ref m_qfirstOrder, .int m_bundleFirst, .ref m_qtiredBy, .int m_tiredMany, .ref m_qmany, .ref m_qwidth, .ref m_qnumbers, .ref m_qmoving])), (m_qworld, .inl (cA 1, 122, .inl m_cworld)), (m_qsums, .inl (cA 1, 2304, .inl (upd F1_30534 x_31050.toNatClampNeg L5_31044))), (m_qpairs, .inl (cA 1, 2304, .inl F2_30534))] H := hP
            have hD : va_D A [(h0, .inr (12, [.int m_thrown, .ref m_qworld, .ref m_qimages, .ref m_qhasImage, .ref m_qtape, .int m_taped, .ref m_qfive, .int m_size, .int m_at, .int m_from, .int m_token, .int m_value, .int m_faultKind, .int m_faultPlace, .ref m_qfresh, .int m_startOne, .int m_startOther, .int m_latest, .int m_leftBeats, .int m_signed, .int m_metMany, .ref m_qsums, .ref m_qpairs, .ref m_qgoesWith, .ref m_qsaid, .int m_saidMany, .int m_firstWait, .ref m_qfirstOrder, .int m_bundleFirst, .ref m_qtiredBy, .int m_tiredMany, .ref m_qmany, .ref m_qwidth, .ref m_qnumbers, .ref m_qmoving])), (m_qworld, .inl (cA 1, 122, .inl m_cworld)), (m_qsums, .inl (cA 1, 2304, .inl (upd F1_30534 x_31050.toNatClampNeg L5_31044))), (m_qpairs, .inl (cA 1, 2304, .inl F2_30534))] := hD
            generalize ef_31052 : (upd F1_30534 x_31050.toNatClampNeg L5_31044) = f_31052 at hP hD
            refine lv_aload_n hx hb dX12_layMatch_205 rfl (lv_at hl 6 rfl) ?_
            refine va_get (D := D) (ci := 12) (v := .ref m_qpairs) (C := RX12) (T := TX12) (N := 35) hx hb hts inX12 hown hKN.1 hP 0 rfl rfl 22 (by decide) (hts _ tw_1441) (fun _ h9 => h9) rfl dX12_layMatch_206 ?_
            refine lv_iload_n hx hb dX12_layMatch_209 rfl (lv_at hl 4 rfl) ?_
            refine lv_bipush (v := 8) hx hb dX12_layMatch_210 (by decide) ?_
            refine lv_ishl hx hb dX12_layMatch_212 ?_
            refine lv_topi (fun x_31053 ex_31053 => ?_)
            obtain rfl : x_31048 = x_31053 := ex_31048.trans ex_31053.symm
            refine lv_iload hx hb dX12_layMatch_213 (lv_at hl 3 rfl) ?_
            refine lv_ior hx hb dX12_layMatch_215 ?_
            refine lv_topi (fun x_31054 ex_31054 => ?_)
            obtain rfl : x_31050 = x_31054 := ex_31050.trans ex_31054.symm
            refine lv_iload hx hb dX12_layMatch_216 (lv_at hl 1 rfl) ?_
            refine va_iast hx hb hKN.1 hP hD hS 3 1 rfl rfl (vp_in_iff.mpr ⟨by omega, by omega⟩) dX12_layMatch_218 (fun H locs hP hD hS => ?_)
            have hP : va_P D vwCl [(h0, .inr (12, [.int m_thrown, .ref m_qworld, .ref m_qimages, .ref m_qhasImage, .ref m_qtape, .int m_taped, .ref m_qfive, .int m_size, .int m_at, .int m_from, .int m_token, .int m_value, .int m_faultKind, .int m_faultPlace, .ref m_qfresh, .int m_startOne, .int m_startOther, .int m_latest, .int m_leftBeats, .int m_signed, .int m_metMany, .ref m_qsums, .ref m_qpairs, .ref m_qgoesWith, .ref m_qsaid, .int m_saidMany, .int m_firstWait, .ref m_qfirstOrder, .int m_bundleFirst, .ref m_qtiredBy, .int m_tiredMany, .ref m_qmany, .ref m_qwidth, .ref m_qnumbers, .ref m_qmoving])), (m_qworld, .inl (cA 1, 122, .inl m_cworld)), (m_qsums, .inl (cA 1, 2304, .inl f_31052)), (m_qpairs, .inl (cA 1, 2304, .inl (upd F2_30534 x_31050.toNatClampNeg L6_31044)))] H := hP
            have hD : va_D A [(h0, .inr (12, [.int m_thrown, .ref m_qworld, .ref m_qimages, .ref m_qhasImage, .ref m_qtape, .int m_taped, .ref m_qfive, .int m_size, .int m_at, .int m_from, .int m_token, .int m_value, .int m_faultKind, .int m_faultPlace, .ref m_qfresh, .int m_startOne, .int m_startOther, .int m_latest, .int m_leftBeats, .int m_signed, .int m_metMany, .ref m_qsums, .ref m_qpairs, .ref m_qgoesWith, .ref m_qsaid, .int m_saidMany, .int m_firstWait, .ref m_qfirstOrder, .int m_bundleFirst, .ref m_qtiredBy, .int m_tiredMany, .ref m_qmany, .ref m_qwidth, .ref m_qnumbers, .ref m_qmoving])), (m_qworld, .inl (cA 1, 122, .inl m_cworld)), (m_qsums, .inl (cA 1, 2304, .inl f_31052)), (m_qpairs, .inl (cA 1, 2304, .inl (upd F2_30534 x_31050.toNatClampNeg L6_31044)))] := hD
            generalize ef_31055 : (upd F2_30534 x_31050.toNatClampNeg L6_31044) = f_31055 at hP hD
            obtain ⟨x_31056, ex_31056⟩ : ∃ y : Int32, L4_30534 + Int32.ofInt 1 = y := ⟨_, rfl⟩
            have k_31057 := ar_add (b := 1) rfl zi_1 ex_31056.symm (by omega) (by omega)
            refine lv_iinc (v := x_31056) (lv' := [(4, .int x_31056), (7, .int L7_31044), (6, .int L6_31044), (5, .int L5_31044), (3, .int L3_23756), (2, .int (m_cworld 4)), (0, .ref h0), (1, .int p0)]) hx hb dX12_layMatch_219 hl (k := 3) rfl ex_31056 (by decide) rfl (fun ls hl => ?_)
            refine lv_goto (tgt := 16) hx hb dX12_layMatch_222 (by decide) ?_
            have hb_31058 : ZQ f_31055 L3_23756.toInt x_31056.toInt (m_cworld 4).toInt.toNat := by
              have kc : x_31050.toNatClampNeg = x_31050.toInt.toNat := rfl
              rw [← ef_31055]; exact ZQ.step k1_30534 (by omega) (by omega) (by omega)
            exact ih_30534 (x_31056, f_31052, f_31055) _ _ _ ⟨(show 0 ≤ x_31056.toInt ∧ x_31056.toInt ≤ 256 from by omega), hb_31058, hP.sub [0, 1, 2, 3] rfl, hD.sub [0, 1, 2, 3] (by decide) rfl, hS, lv_sub hl [0, 4, 5, 6, 7] rfl⟩ (by show (2147483647 - x_31056.toInt).toNat < (2147483647 - L4_30534.toInt).toNat; omega)
          · skip
            have k_31059 := kk_nle rfl rfl c_31046
            refine lv_iload_n hx hb dX12_layMatch_78 rfl (lv_at hl 4 rfl) ?_
            refine lv_iload_n hx hb dX12_layMatch_79 rfl (lv_at hl 5 rfl) ?_
            refine lv_icmp_ge (tgt := 191) hx hb dX12_layMatch_80 (by decide) (fun c_31060 => ?_) (fun c_31060 => ?_)
            · skip
              have k_31061 := kk_le rfl rfl c_31060
              refine lv_aload_n hx hb dX12_layMatch_191 rfl (lv_at hl 6 rfl) ?_
              refine va_get (D := D) (ci := 12) (v := .ref m_qsums) (C := RX12) (T := TX12) (N := 35) hx hb hts inX12 hown hKN.1 hP 0 rfl rfl 21 (by decide) (hts _ tw_1440) (fun _ h9 => h9) rfl dX12_layMatch_192 ?_
              refine lv_iload_n hx hb dX12_layMatch_195 rfl (lv_at hl 4 rfl) ?_
              refine lv_bipush (v := 8) hx hb dX12_layMatch_196 (by decide) ?_
              refine lv_ishl hx hb dX12_layMatch_198 ?_
              refine lv_topi (fun x_31062 ex_31062 => ?_)
              have k_31063 := ar_shl8 ex_31062 (by omega) (by omega)
              refine lv_iload hx hb dX12_layMatch_199 (lv_at hl 3 rfl) ?_
              refine lv_ior hx hb dX12_layMatch_201 ?_
              refine lv_topi (fun x_31064 ex_31064 => ?_)
              have k_31065 := ar_or8 rfl rfl ex_31064 (by omega) (by omega) (by omega)
              refine lv_iload hx hb dX12_layMatch_202 (lv_at hl 2 rfl) ?_
              refine va_iast hx hb hKN.1 hP hD hS 2 1 rfl rfl (vp_in_iff.mpr ⟨by omega, by omega⟩) dX12_layMatch_204 (fun H locs hP hD hS => ?_)
              have hP : va_P D vwCl [(h0, .inr (12, [.int m_thrown, .ref m_qworld, .ref m_qimages, .ref m_qhasImage, .ref m_qtape, .int m_taped, .ref m_qfive, .int m_size, .int m_at, .int m_from, .int m_token, .int m_value, .int m_faultKind, .int m_faultPlace, .ref m_qfresh, .int m_startOne, .int m_startOther, .int m_latest, .int m_leftBeats, .int m_signed, .int m_metMany, .ref m_qsums, .ref m_qpairs, .ref m_qgoesWith, .ref m_qsaid, .int m_saidMany, .int m_firstWait, .ref m_qfirstOrder, .int m_bundleFirst, .ref m_qtiredBy, .int m_tiredMany, .ref m_qmany, .ref m_qwidth, .ref m_qnumbers, .ref m_qmoving])), (m_qworld, .inl (cA 1, 122, .inl m_cworld)), (m_qsums, .inl (cA 1, 2304, .inl (upd F1_30534 x_31064.toNatClampNeg L5_31044))), (m_qpairs, .inl (cA 1, 2304, .inl F2_30534))] H := hP
              have hD : va_D A [(h0, .inr (12, [.int m_thrown, .ref m_qworld, .ref m_qimages, .ref m_qhasImage, .ref m_qtape, .int m_taped, .ref m_qfive, .int m_size, .int m_at, .int m_from, .int m_token, .int m_value, .int m_faultKind, .int m_faultPlace, .ref m_qfresh, .int m_startOne, .int m_startOther, .int m_latest, .int m_leftBeats, .int m_signed, .int m_metMany, .ref m_qsums, .ref m_qpairs, .ref m_qgoesWith, .ref m_qsaid, .int m_saidMany, .int m_firstWait, .ref m_qfirstOrder, .int m_bundleFirst, .ref m_qtiredBy, .int m_tiredMany, .ref m_qmany, .ref m_qwidth, .ref m_qnumbers, .ref m_qmoving])), (m_qworld, .inl (cA 1, 122, .inl m_cworld)), (m_qsums, .inl (cA 1, 2304, .inl (upd F1_30534 x_31064.toNatClampNeg L5_31044))), (m_qpairs, .inl (cA 1, 2304, .inl F2_30534))] := hD
              generalize ef_31066 : (upd F1_30534 x_31064.toNatClampNeg L5_31044) = f_31066 at hP hD
              refine lv_aload_n hx hb dX12_layMatch_205 rfl (lv_at hl 6 rfl) ?_
              refine va_get (D := D) (ci := 12) (v := .ref m_qpairs) (C := RX12) (T := TX12) (N := 35) hx hb hts inX12 hown hKN.1 hP 0 rfl rfl 22 (by decide) (hts _ tw_1441) (fun _ h9 => h9) rfl dX12_layMatch_206 ?_
              refine lv_iload_n hx hb dX12_layMatch_209 rfl (lv_at hl 4 rfl) ?_
              refine lv_bipush (v := 8) hx hb dX12_layMatch_210 (by decide) ?_
              refine lv_ishl hx hb dX12_layMatch_212 ?_
              refine lv_topi (fun x_31067 ex_31067 => ?_)
              obtain rfl : x_31062 = x_31067 := ex_31062.trans ex_31067.symm
              refine lv_iload hx hb dX12_layMatch_213 (lv_at hl 3 rfl) ?_
              refine lv_ior hx hb dX12_layMatch_215 ?_
              refine lv_topi (fun x_31068 ex_31068 => ?_)
              obtain rfl : x_31064 = x_31068 := ex_31064.trans ex_31068.symm
              refine lv_iload hx hb dX12_layMatch_216 (lv_at hl 1 rfl) ?_
              refine va_iast hx hb hKN.1 hP hD hS 3 1 rfl rfl (vp_in_iff.mpr ⟨by omega, by omega⟩) dX12_layMatch_218 (fun H locs hP hD hS => ?_)
              have hP : va_P D vwCl [(h0, .inr (12, [.int m_thrown, .ref m_qworld, .ref m_qimages, .ref m_qhasImage, .ref m_qtape, .int m_taped, .ref m_qfive, .int m_size, .int m_at, .int m_from, .int m_token, .int m_value, .int m_faultKind, .int m_faultPlace, .ref m_qfresh, .int m_startOne, .int m_startOther, .int m_latest, .int m_leftBeats, .int m_signed, .int m_metMany, .ref m_qsums, .ref m_qpairs, .ref m_qgoesWith, .ref m_qsaid, .int m_saidMany, .int m_firstWait, .ref m_qfirstOrder, .int m_bundleFirst, .ref m_qtiredBy, .int m_tiredMany, .ref m_qmany, .ref m_qwidth, .ref m_qnumbers, .ref m_qmoving])), (m_qworld, .inl (cA 1, 122, .inl m_cworld)), (m_qsums, .inl (cA 1, 2304, .inl f_31066)), (m_qpairs, .inl (cA 1, 2304, .inl (upd F2_30534 x_31064.toNatClampNeg L6_31044)))] H := hP
              have hD : va_D A [(h0, .inr (12, [.int m_thrown, .ref m_qworld, .ref m_qimages, .ref m_qhasImage, .ref m_qtape, .int m_taped, .ref m_qfive, .int m_size, .int m_at, .int m_from, .int m_token, .int m_value, .int m_faultKind, .int m_faultPlace, .ref m_qfresh, .int m_startOne, .int m_startOther, .int m_latest, .int m_leftBeats, .int m_signed, .int m_metMany, .ref m_qsums, .ref m_qpairs, .ref m_qgoesWith, .ref m_qsaid, .int m_saidMany, .int m_firstWait, .ref m_qfirstOrder, .int m_bundleFirst, .ref m_qtiredBy, .int m_tiredMany, .ref m_qmany, .ref m_qwidth, .ref m_qnumbers, .ref m_qmoving])), (m_qworld, .inl (cA 1, 122, .inl m_cworld)), (m_qsums, .inl (cA 1, 2304, .inl f_31066)), (m_qpairs, .inl (cA 1, 2304, .inl (upd F2_30534 x_31064.toNatClampNeg L6_31044)))] := hD
              generalize ef_31069 : (upd F2_30534 x_31064.toNatClampNeg L6_31044) = f_31069 at hP hD
              obtain ⟨x_31070, ex_31070⟩ : ∃ y : Int32, L4_30534 + Int32.ofInt 1 = y := ⟨_, rfl⟩
              have k_31071 := ar_add (b := 1) rfl zi_1 ex_31070.symm (by omega) (by omega)
              refine lv_iinc (v := x_31070) (lv' := [(4, .int x_31070), (7, .int L7_31044), (6, .int L6_31044), (5, .int L5_31044), (3, .int L3_23756), (2, .int (m_cworld 4)), (0, .ref h0), (1, .int p0)]) hx hb dX12_layMatch_219 hl (k := 3) rfl ex_31070 (by decide) rfl (fun ls hl => ?_)
              refine lv_goto (tgt := 16) hx hb dX12_layMatch_222 (by decide) ?_
              have hb_31072 : ZQ f_31069 L3_23756.toInt x_31070.toInt (m_cworld 4).toInt.toNat := by
                have kc : x_31064.toNatClampNeg = x_31064.toInt.toNat := rfl
                rw [← ef_31069]; exact ZQ.step k1_30534 (by omega) (by omega) (by omega)
              exact ih_30534 (x_31070, f_31066, f_31069) _ _ _ ⟨(show 0 ≤ x_31070.toInt ∧ x_31070.toInt ≤ 256 from by omega), hb_31072, hP.sub [0, 1, 2, 3] rfl, hD.sub [0, 1, 2, 3] (by decide) rfl, hS, lv_sub hl [0, 4, 5, 6, 7] rfl⟩ (by show (2147483647 - x_31070.toInt).toNat < (2147483647 - L4_30534.toInt).toNat; omega)
            · skip
              have k_31073 := kk_nle rfl rfl c_31060
              refine lv_aload_n hx hb dX12_layMatch_83 rfl (lv_at hl 6 rfl) ?_
              refine lv_iload_n hx hb dX12_layMatch_84 rfl (lv_at hl 4 rfl) ?_
              refine lv_iconst (v := 0) hx hb dX12_layMatch_85 (by decide) ?_
              have z_31074 := zi_0
              refine cpVi (rest := []) ⟨hx, hb, hml, hown, hts⟩ hKN (hP.sub (ws' := [(h0, .inr (12, [.int m_thrown, .ref m_qworld, .ref m_qimages, .ref m_qhasImage, .ref m_qtape, .int m_taped, .ref m_qfive, .int m_size, .int m_at, .int m_from, .int m_token, .int m_value, .int m_faultKind, .int m_faultPlace, .ref m_qfresh, .int m_startOne, .int m_startOther, .int m_latest, .int m_leftBeats, .int m_signed, .int m_metMany, .ref m_qsums, .ref m_qpairs, .ref m_qgoesWith, .ref m_qsaid, .int m_saidMany, .int m_firstWait, .ref m_qfirstOrder, .int m_bundleFirst, .ref m_qtiredBy, .int m_tiredMany, .ref m_qmany, .ref m_qwidth, .ref m_qnumbers, .ref m_qmoving])), (m_qworld, .inl (cA 1, 122, .inl m_cworld))]) [0, 1] rfl) (g_X12_of l D cA h0 m_thrown m_qworld m_qimages m_qhasImage m_qtape m_taped m_qfive m_size m_at m_from m_token m_value m_faultKind m_faultPlace m_qfresh m_startOne m_startOther m_latest m_leftBeats m_signed m_metMany m_qsums m_qpairs m_qgoesWith m_qsaid m_saidMany m_firstWait m_qfirstOrder m_bundleFirst m_qtiredBy m_tiredMany m_qmany m_qwidth m_qnumbers m_qmoving m_cworld L3_23756 0 (by omega) (by omega) (by omega) (by omega) (by omega) (by omega) (by omega) (by decide) a_m_cworld_0) (tb_V tw_1640 tw_1642 tw_50 tw_114 tw_1643) hdX12_of ⟨rfl, rfl, Nat.le_of_ble_eq_true rfl, Nat.le_of_ble_eq_true rfl⟩ ⟨Nat.le_of_ble_eq_true rfl, Nat.le_of_ble_eq_true rfl⟩ rfl rfl rfl hl.1 rfl (Nat.le_of_ble_eq_true rfl) dX12_layMatch_86 (fun r_31075 hr_31075 => ?_)
              obtain ⟨k_31075_0_0, k_31075_0_1⟩ := hr_31075
              refine lv_if_ne (tgt := 185) hx hb dX12_layMatch_89 (by decide) (fun c_31076 => ?_) (fun c_31076 => ?_)
              · skip
                have k_31077 := kk_ne rfl zi_0 c_31076
                obtain ⟨x_31078, ex_31078⟩ : ∃ y : Int32, L7_31044 + Int32.ofInt 1 = y := ⟨_, rfl⟩
                have k_31079 := ar_add (b := 1) rfl zi_1 ex_31078.symm (by omega) (by omega)
                refine lv_iinc (v := x_31078) (lv' := [(7, .int x_31078), (6, .int L6_31044), (5, .int L5_31044), (4, .int L4_30534), (3, .int L3_23756), (2, .int (m_cworld 4)), (0, .ref h0), (1, .int p0)]) hx hb dX12_layMatch_185 hl (k := 0) rfl ex_31078 (by decide) rfl (fun ls hl => ?_)
                refine lv_goto (tgt := 72) hx hb dX12_layMatch_188 (by decide) ?_
                exact ih_31044 (x_31078, L6_31044, L5_31044) _ _ _ ⟨(show 0 ≤ x_31078.toInt ∧ x_31078.toInt ≤ 7 from by omega), (show 0 ≤ L6_31044.toInt ∧ L6_31044.toInt ≤ 0 from by omega), hP.sub [0, 1, 2, 3] rfl, hD.sub [0, 1, 2, 3] (by decide) rfl, hS, lv_sub hl [0, 1, 2, 3, 4, 5, 6, 7] rfl⟩ (by show (2147483647 - x_31078.toInt).toNat < (2147483647 - L7_31044.toInt).toNat; omega)
              · skip
                have k_31080 := kk_eq rfl zi_0 c_31076
                refine lv_aload_n hx hb dX12_layMatch_92 rfl (lv_at hl 6 rfl) ?_
                refine lv_iload hx hb dX12_layMatch_93 (lv_at hl 0 rfl) ?_
                refine lv_iconst (v := 0) hx hb dX12_layMatch_95 (by decide) ?_
                refine cpVi (rest := []) ⟨hx, hb, hml, hown, hts⟩ hKN (hP.sub (ws' := [(h0, .inr (12, [.int m_thrown, .ref m_qworld, .ref m_qimages, .ref m_qhasImage, .ref m_qtape, .int m_taped, .ref m_qfive, .int m_size, .int m_at, .int m_from, .int m_token, .int m_value, .int m_faultKind, .int m_faultPlace, .ref m_qfresh, .int m_startOne, .int m_startOther, .int m_latest, .int m_leftBeats, .int m_signed, .int m_metMany, .ref m_qsums, .ref m_qpairs, .ref m_qgoesWith, .ref m_qsaid, .int m_saidMany, .int m_firstWait, .ref m_qfirstOrder, .int m_bundleFirst, .ref m_qtiredBy, .int m_tiredMany, .ref m_qmany, .ref m_qwidth, .ref m_qnumbers, .ref m_qmoving])), (m_qworld, .inl (cA 1, 122, .inl m_cworld))]) [0, 1] rfl) (g_X12_of l D cA h0 m_thrown m_qworld m_qimages m_qhasImage m_qtape m_taped m_qfive m_size m_at m_from m_token m_value m_faultKind m_faultPlace m_qfresh m_startOne m_startOther m_latest m_leftBeats m_signed m_metMany m_qsums m_qpairs m_qgoesWith m_qsaid m_saidMany m_firstWait m_qfirstOrder m_bundleFirst m_qtiredBy m_tiredMany m_qmany m_qwidth m_qnumbers m_qmoving m_cworld L7_31044 0 (by omega) (by omega) (by omega) (by omega) (by omega) (by omega) (by omega) (by decide) a_m_cworld_0) (tb_V tw_1640 tw_1642 tw_50 tw_114 tw_1643) hdX12_of ⟨rfl, rfl, Nat.le_of_ble_eq_true rfl, Nat.le_of_ble_eq_true rfl⟩ ⟨Nat.le_of_ble_eq_true rfl, Nat.le_of_ble_eq_true rfl⟩ rfl rfl rfl hl.1 rfl (Nat.le_of_ble_eq_true rfl) dX12_layMatch_96 (fun r_31081 hr_31081 => ?_)
                obtain ⟨k_31081_0_0, k_31081_0_1⟩ := hr_31081
                refine lv_iconst (v := 1) hx hb dX12_layMatch_99 (by decide) ?_
                refine lv_icmp_ne (tgt := 185) hx hb dX12_layMatch_100 (by decide) (fun c_31082 => ?_) (fun c_31082 => ?_)
                · skip
                  have k_31083 := kk_ne rfl zi_1 c_31082
                  obtain ⟨x_31084, ex_31084⟩ : ∃ y : Int32, L7_31044 + Int32.ofInt 1 = y := ⟨_, rfl⟩
                  have k_31085 := ar_add (b := 1) rfl zi_1 ex_31084.symm (by omega) (by omega)
                  refine lv_iinc (v := x_31084) (lv' := [(7, .int x_31084), (6, .int L6_31044), (5, .int L5_31044), (4, .int L4_30534), (3, .int L3_23756), (2, .int (m_cworld 4)), (0, .ref h0), (1, .int p0)]) hx hb dX12_layMatch_185 hl (k := 0) rfl ex_31084 (by decide) rfl (fun ls hl => ?_)
                  refine lv_goto (tgt := 72) hx hb dX12_layMatch_188 (by decide) ?_
                  exact ih_31044 (x_31084, L6_31044, L5_31044) _ _ _ ⟨(show 0 ≤ x_31084.toInt ∧ x_31084.toInt ≤ 7 from by omega), (show 0 ≤ L6_31044.toInt ∧ L6_31044.toInt ≤ 0 from by omega), hP.sub [0, 1, 2, 3] rfl, hD.sub [0, 1, 2, 3] (by decide) rfl, hS, lv_sub hl [0, 1, 2, 3, 4, 5, 6, 7] rfl⟩ (by show (2147483647 - x_31084.toInt).toNat < (2147483647 - L7_31044.toInt).toNat; omega)
                · skip
                  have k_31086 := kk_eq rfl zi_1 c_31082
                  refine lv_iload hx hb dX12_layMatch_103 (lv_at hl 3 rfl) ?_
                  refine lv_iload hx hb dX12_layMatch_105 (lv_at hl 0 rfl) ?_
                  refine cpSi (rest := []) ⟨hx, hb, hml, hown, hts⟩ hKN (hP.sub (ws' := []) [] rfl) (g_X12_bit l D cA L4_30534 L7_31044) (tb_S tw_1807 tw_1808 tw_114 tw_1809) hdX12_bit ⟨rfl, rfl, Nat.le_of_ble_eq_true rfl, Nat.le_of_ble_eq_true rfl⟩ ⟨Nat.le_of_ble_eq_true rfl, Nat.le_of_ble_eq_true rfl⟩ rfl hl.1 rfl (Nat.le_of_ble_eq_true rfl) dX12_layMatch_107 (fun r_31087 hr_31087 => ?_)
                  refine lv_iconst (v := 1) hx hb dX12_layMatch_110 (by decide) ?_
                  refine lv_icmp_ne (tgt := 117) hx hb dX12_layMatch_111 (by decide) (fun c_31088 => ?_) (fun c_31088 => ?_)
                  · skip
                    have k_31089 := kk_ne rfl zi_1 c_31088
                    refine lv_iload hx hb dX12_layMatch_117 (lv_at hl 2 rfl) ?_
                    refine lv_aload_n hx hb dX12_layMatch_119 rfl (lv_at hl 6 rfl) ?_
                    refine lv_iload_n hx hb dX12_layMatch_120 rfl (lv_at hl 4 rfl) ?_
                    refine lv_iload hx hb dX12_layMatch_121 (lv_at hl 0 rfl) ?_
                    refine cpVi (rest := [.int L5_31044]) ⟨hx, hb, hml, hown, hts⟩ hKN (hP.sub (ws' := [(h0, .inr (12, [.int m_thrown, .ref m_qworld, .ref m_qimages, .ref m_qhasImage, .ref m_qtape, .int m_taped, .ref m_qfive, .int m_size, .int m_at, .int m_from, .int m_token, .int m_value, .int m_faultKind, .int m_faultPlace, .ref m_qfresh, .int m_startOne, .int m_startOther, .int m_latest, .int m_leftBeats, .int m_signed, .int m_metMany, .ref m_qsums, .ref m_qpairs, .ref m_qgoesWith, .ref m_qsaid, .int m_saidMany, .int m_firstWait, .ref m_qfirstOrder, .int m_bundleFirst, .ref m_qtiredBy, .int m_tiredMany, .ref m_qmany, .ref m_qwidth, .ref m_qnumbers, .ref m_qmoving])), (m_qworld, .inl (cA 1, 122, .inl m_cworld))]) [0, 1] rfl) (g_X12_holdOf_z l D cA h0 m_thrown m_qworld m_qimages m_qhasImage m_qtape m_taped m_qfive m_size m_at m_from m_token m_value m_faultKind m_faultPlace m_qfresh m_startOne m_startOther m_latest m_leftBeats m_signed m_metMany m_qsums m_qpairs m_qgoesWith m_qsaid m_saidMany m_firstWait m_qfirstOrder m_bundleFirst m_qtiredBy m_tiredMany m_qmany m_qwidth m_qnumbers m_qmoving m_cworld L3_23756 L7_31044 (by omega) (by omega) (by omega) (by omega) (by omega) (by omega) (by omega) (by omega) a_m_cworld_0) (tb_V tw_1700 tw_1702 tw_63 tw_114 tw_1703) hdX12_holdOf ⟨rfl, rfl, Nat.le_of_ble_eq_true rfl, Nat.le_of_ble_eq_true rfl⟩ ⟨Nat.le_of_ble_eq_true rfl, Nat.le_of_ble_eq_true rfl⟩ rfl rfl rfl hl.1 rfl (Nat.le_of_ble_eq_true rfl) dX12_layMatch_123 (fun r_31090 hr_31090 => ?_)
                    refine lv_aload_n hx hb dX12_layMatch_126 rfl (lv_at hl 6 rfl) ?_
                    refine lv_iload_n hx hb dX12_layMatch_127 rfl (lv_at hl 4 rfl) ?_
                    refine lv_iconst (v := 1) hx hb dX12_layMatch_128 (by decide) ?_
                    refine lv_iadd hx hb dX12_layMatch_129 ?_
                    refine lv_topi (fun x_31091 ex_31091 => ?_)
                    obtain rfl : x_30547 = x_31091 := ex_30547.trans ex_31091.symm
                    refine lv_iload hx hb dX12_layMatch_130 (lv_at hl 3 rfl) ?_
                    refine lv_iconst (v := 1) hx hb dX12_layMatch_132 (by decide) ?_
                    refine lv_iload hx hb dX12_layMatch_133 (lv_at hl 0 rfl) ?_
                    refine lv_ishl hx hb dX12_layMatch_135 ?_
                    refine lv_topi (fun x_31092 ex_31092 => ?_)
                    have k_31093 := ar_shl1 ex_31092 (by omega) (by omega)
                    refine lv_ior hx hb dX12_layMatch_136 ?_
                    refine lv_topi (fun x_31094 ex_31094 => ?_)
                    have k_31095 := ar_or (n := 8) (M := 256) rfl rfl ex_31094 (by decide) (by decide) (by omega) (by omega)
                    refine cpVi (rest := [.int r_31090, .int L5_31044]) ⟨hx, hb, hml, hown, hts⟩ hKN (hP.sub (ws' := [(h0, .inr (12, [.int m_thrown, .ref m_qworld, .ref m_qimages, .ref m_qhasImage, .ref m_qtape, .int m_taped, .ref m_qfive, .int m_size, .int m_at, .int m_from, .int m_token, .int m_value, .int m_faultKind, .int m_faultPlace, .ref m_qfresh, .int m_startOne, .int m_startOther, .int m_latest, .int m_leftBeats, .int m_signed, .int m_metMany, .ref m_qsums, .ref m_qpairs, .ref m_qgoesWith, .ref m_qsaid, .int m_saidMany, .int m_firstWait, .ref m_qfirstOrder, .int m_bundleFirst, .ref m_qtiredBy, .int m_tiredMany, .ref m_qmany, .ref m_qwidth, .ref m_qnumbers, .ref m_qmoving])), (m_qsums, .inl (cA 1, 2304, .inl F1_30534))]) [0, 2] rfl) (g_X12_sumFrom l D cA h0 m_thrown m_qworld m_qimages m_qhasImage m_qtape m_taped m_qfive m_size m_at m_from m_token m_value m_faultKind m_faultPlace m_qfresh m_startOne m_startOther m_latest m_leftBeats m_signed m_metMany m_qsums m_qpairs m_qgoesWith m_qsaid m_saidMany m_firstWait m_qfirstOrder m_bundleFirst m_qtiredBy m_tiredMany m_qmany m_qwidth m_qnumbers m_qmoving F1_30534 x_30547 x_31094 (by omega) (by omega) (by omega) (by omega) (by omega) (by omega) (by omega) (by omega)) (tb_V tw_1803 tw_1805 tw_71 tw_114 tw_1806) hdX12_sumFrom ⟨rfl, rfl, Nat.le_of_ble_eq_true rfl, Nat.le_of_ble_eq_true rfl⟩ ⟨Nat.le_of_ble_eq_true rfl, Nat.le_of_ble_eq_true rfl⟩ rfl rfl rfl hl.1 rfl (Nat.le_of_ble_eq_true rfl) dX12_layMatch_137 (fun r_31096 hr_31096 => ?_)
                    refine lv_iadd hx hb dX12_layMatch_140 ?_
                    refine lv_topi (fun x_31097 ex_31097 => ?_)
                    refine cpSi (rest := []) ⟨hx, hb, hml, hown, hts⟩ hKN (hP.sub (ws' := []) [] rfl) (g_J9_max_7cf53 l D cA L5_31044 x_31097) (tb_S tw_1735 tw_779 tw_115 tw_780) hdJ9_max_7cf53 ⟨rfl, rfl, Nat.le_of_ble_eq_true rfl, Nat.le_of_ble_eq_true rfl⟩ ⟨Nat.le_of_ble_eq_true rfl, Nat.le_of_ble_eq_true rfl⟩ rfl hl.1 rfl (Nat.le_of_ble_eq_true rfl) dX12_layMatch_141 (fun r_31099 hr_31099 => ?_)
                    obtain ⟨k_31099_0_0, k_31099_0_1, k_31099_0_2⟩ := hr_31099
                    refine lv_istore (lv' := [(5, .int r_31099), (7, .int L7_31044), (6, .int L6_31044), (4, .int L4_30534), (3, .int L3_23756), (2, .int (m_cworld 4)), (0, .ref h0), (1, .int p0)]) hx hb dX12_layMatch_144 hl (by decide) rfl (fun ls hl => ?_)
                    refine lv_aload_n hx hb dX12_layMatch_146 rfl (lv_at hl 6 rfl) ?_
                    refine lv_iload_n hx hb dX12_layMatch_147 rfl (lv_at hl 4 rfl) ?_
                    refine lv_iload hx hb dX12_layMatch_148 (lv_at hl 1 rfl) ?_
                    refine cpVi (rest := []) ⟨hx, hb, hml, hown, hts⟩ hKN (hP.sub (ws' := [(h0, .inr (12, [.int m_thrown, .ref m_qworld, .ref m_qimages, .ref m_qhasImage, .ref m_qtape, .int m_taped, .ref m_qfive, .int m_size, .int m_at, .int m_from, .int m_token, .int m_value, .int m_faultKind, .int m_faultPlace, .ref m_qfresh, .int m_startOne, .int m_startOther, .int m_latest, .int m_leftBeats, .int m_signed, .int m_metMany, .ref m_qsums, .ref m_qpairs, .ref m_qgoesWith, .ref m_qsaid, .int m_saidMany, .int m_firstWait, .ref m_qfirstOrder, .int m_bundleFirst, .ref m_qtiredBy, .int m_tiredMany, .ref m_qmany, .ref m_qwidth, .ref m_qnumbers, .ref m_qmoving])), (m_qworld, .inl (cA 1, 122, .inl m_cworld))]) [0, 1] rfl) (g_X12_holdOf_z l D cA h0 m_thrown m_qworld m_qimages m_qhasImage m_qtape m_taped m_qfive m_size m_at m_from m_token m_value m_faultKind m_faultPlace m_qfresh m_startOne m_startOther m_latest m_leftBeats m_signed m_metMany m_qsums m_qpairs m_qgoesWith m_qsaid m_saidMany m_firstWait m_qfirstOrder m_bundleFirst m_qtiredBy m_tiredMany m_qmany m_qwidth m_qnumbers m_qmoving m_cworld L3_23756 L7_31044 (by omega) (by omega) (by omega) (by omega) (by omega) (by omega) (by omega) (by omega) a_m_cworld_0) (tb_V tw_1700 tw_1702 tw_63 tw_114 tw_1703) hdX12_holdOf ⟨rfl, rfl, Nat.le_of_ble_eq_true rfl, Nat.le_of_ble_eq_true rfl⟩ ⟨Nat.le_of_ble_eq_true rfl, Nat.le_of_ble_eq_true rfl⟩ rfl rfl rfl hl.1 rfl (Nat.le_of_ble_eq_true rfl) dX12_layMatch_150 (fun r_31100 hr_31100 => ?_)
                    refine lv_iload_n hx hb dX12_layMatch_153 rfl (lv_at hl 7 rfl) ?_
                    refine lv_icmp_lt (tgt := 185) hx hb dX12_layMatch_154 (by decide) (fun c_31101 => ?_) (fun c_31101 => ?_)
                    · skip
                      have k_31102 := kk_lt rfl rfl c_31101
                      obtain ⟨x_31103, ex_31103⟩ : ∃ y : Int32, L7_31044 + Int32.ofInt 1 = y := ⟨_, rfl⟩
                      have k_31104 := ar_add (b := 1) rfl zi_1 ex_31103.symm (by omega) (by omega)
                      refine lv_iinc (v := x_31103) (lv' := [(7, .int x_31103), (5, .int r_31099), (6, .int L6_31044), (4, .int L4_30534), (3, .int L3_23756), (2, .int (m_cworld 4)), (0, .ref h0), (1, .int p0)]) hx hb dX12_layMatch_185 hl (k := 1) rfl ex_31103 (by decide) rfl (fun ls hl => ?_)
                      refine lv_goto (tgt := 72) hx hb dX12_layMatch_188 (by decide) ?_
                      exact ih_31044 (x_31103, L6_31044, r_31099) _ _ _ ⟨(show 0 ≤ x_31103.toInt ∧ x_31103.toInt ≤ 7 from by omega), (show 0 ≤ L6_31044.toInt ∧ L6_31044.toInt ≤ 0 from by omega), hP.sub [0, 1, 2, 3] rfl, hD.sub [0, 1, 2, 3] (by decide) rfl, hS, lv_sub hl [0, 2, 1, 3, 4, 5, 6, 7] rfl⟩ (by show (2147483647 - x_31103.toInt).toNat < (2147483647 - L7_31044.toInt).toNat; omega)
                    · skip
                      have k_31105 := kk_nlt rfl rfl c_31101
                      exfalso; omega
                  · skip
                    have k_31106 := kk_eq rfl zi_1 c_31088
                    refine lv_goto (tgt := 185) hx hb dX12_layMatch_114 (by decide) ?_
                    obtain ⟨x_31107, ex_31107⟩ : ∃ y : Int32, L7_31044 + Int32.ofInt 1 = y := ⟨_, rfl⟩
                    have k_31108 := ar_add (b := 1) rfl zi_1 ex_31107.symm (by omega) (by omega)
                    refine lv_iinc (v := x_31107) (lv' := [(7, .int x_31107), (6, .int L6_31044), (5, .int L5_31044), (4, .int L4_30534), (3, .int L3_23756), (2, .int (m_cworld 4)), (0, .ref h0), (1, .int p0)]) hx hb dX12_layMatch_185 hl (k := 0) rfl ex_31107 (by decide) rfl (fun ls hl => ?_)
                    refine lv_goto (tgt := 72) hx hb dX12_layMatch_188 (by decide) ?_
                    exact ih_31044 (x_31107, L6_31044, L5_31044) _ _ _ ⟨(show 0 ≤ x_31107.toInt ∧ x_31107.toInt ≤ 7 from by omega), (show 0 ≤ L6_31044.toInt ∧ L6_31044.toInt ≤ 0 from by omega), hP.sub [0, 1, 2, 3] rfl, hD.sub [0, 1, 2, 3] (by decide) rfl, hS, lv_sub hl [0, 1, 2, 3, 4, 5, 6, 7] rfl⟩ (by show (2147483647 - x_31107.toInt).toNat < (2147483647 - L7_31044.toInt).toNat; omega)
      · skip
        have k_31109 := kk_eq rfl rfl c_30545
        refine lv_iconst (v := 0) hx hb dX12_layMatch_29 (by decide) ?_
        refine lv_goto (tgt := 42) hx hb dX12_layMatch_30 (by decide) ?_
        refine lv_istore (lv' := [(5, .int 0), (4, .int L4_30534), (3, .int L3_23756), (2, .int (m_cworld 4)), (0, .ref h0), (1, .int p0)]) hx hb dX12_layMatch_42 hl (by decide) rfl (fun ls hl => ?_)
        refine lv_iload_n hx hb dX12_layMatch_44 rfl (lv_at hl 2 rfl) ?_
        refine lv_iload_n hx hb dX12_layMatch_45 rfl (lv_at hl 3 rfl) ?_
        refine lv_icmp_ne (tgt := 53) hx hb dX12_layMatch_46 (by decide) (fun c_31110 => ?_) (fun c_31110 => ?_)
        · skip
          have k_31111 := kk_ne rfl rfl c_31110
          refine lv_aload_n hx hb dX12_layMatch_53 rfl (lv_at hl 4 rfl) ?_
          refine va_get (D := D) (ci := 12) (v := .ref m_qpairs) (C := RX12) (T := TX12) (N := 35) hx hb hts inX12 hown hKN.1 hP 0 rfl rfl 22 (by decide) (hts _ tw_1441) (fun _ h9 => h9) rfl dX12_layMatch_54 ?_
          refine lv_iload_n hx hb dX12_layMatch_57 rfl (lv_at hl 2 rfl) ?_
          refine lv_iconst (v := 1) hx hb dX12_layMatch_58 (by decide) ?_
          refine lv_iadd hx hb dX12_layMatch_59 ?_
          refine lv_topi (fun x_31112 ex_31112 => ?_)
          have k_31113 := ar_add rfl zi_1 ex_31112 (by omega) (by omega)
          refine lv_bipush (v := 8) hx hb dX12_layMatch_60 (by decide) ?_
          refine lv_ishl hx hb dX12_layMatch_62 ?_
          refine lv_topi (fun x_31114 ex_31114 => ?_)
          have k_31115 := ar_shl8 ex_31114 (by omega) (by omega)
          refine lv_iload hx hb dX12_layMatch_63 (lv_at hl 1 rfl) ?_
          refine lv_ior hx hb dX12_layMatch_65 ?_
          refine lv_topi (fun x_31116 ex_31116 => ?_)
          have k_31117 := ar_or8 rfl rfl ex_31116 (by omega) (by omega) (by omega)
          refine va_iald hx hb hKN.1 hP 3 1 rfl rfl (vp_in_iff.mpr ⟨by omega, by omega⟩) dX12_layMatch_66 ?_
          refine lv_topi (fun x_31118 ex_31118 => ?_)
          have kz_x_31118 : x_31118.toInt = 0 := by
            have kc : x_31116.toNatClampNeg = x_31116.toInt.toNat := rfl
            rw [ex_31118]
            exact k1_30534 _ (Or.inl ⟨by omega, by omega, by omega⟩)
          refine lv_istore (lv' := [(6, .int x_31118), (5, .int 0), (4, .int L4_30534), (3, .int L3_23756), (2, .int (m_cworld 4)), (0, .ref h0), (1, .int p0)]) hx hb dX12_layMatch_67 hl (by decide) rfl (fun ls hl => ?_)
          refine lv_iconst (v := 0) hx hb dX12_layMatch_69 (by decide) ?_
          refine lv_istore (lv' := [(7, .int 0), (6, .int x_31118), (5, .int 0), (4, .int L4_30534), (3, .int L3_23756), (2, .int (m_cworld 4)), (0, .ref h0), (1, .int p0)]) hx hb dX12_layMatch_70 hl (by decide) rfl (fun ls hl => ?_)
          refine loopW (σ := Int32 × Int32 × Int32) (fun _ => []) (fun ⟨L7_31329, L6_31329, L5_31329⟩ H locs ls => (0 ≤ L7_31329.toInt ∧ L7_31329.toInt ≤ 8) ∧ (0 ≤ L6_31329.toInt ∧ L6_31329.toInt ≤ 0) ∧ (0 ≤ L5_31329.toInt) ∧ va_P D vwCl [(h0, .inr (12, [.int m_thrown, .ref m_qworld, .ref m_qimages, .ref m_qhasImage, .ref m_qtape, .int m_taped, .ref m_qfive, .int m_size, .int m_at, .int m_from, .int m_token, .int m_value, .int m_faultKind, .int m_faultPlace, .ref m_qfresh, .int m_startOne, .int m_startOther, .int m_latest, .int m_leftBeats, .int m_signed, .int m_metMany, .ref m_qsums, .ref m_qpairs, .ref m_qgoesWith, .ref m_qsaid, .int m_saidMany, .int m_firstWait, .ref m_qfirstOrder, .int m_bundleFirst, .ref m_qtiredBy, .int m_tiredMany, .ref m_qmany, .ref m_qwidth, .ref m_qnumbers, .ref m_qmoving])), (m_qworld, .inl (cA 1, 122, .inl m_cworld)), (m_qsums, .inl (cA 1, 2304, .inl F1_30534)), (m_qpairs, .inl (cA 1, 2304, .inl F2_30534))] H ∧ va_D A [(h0, .inr (12, [.int m_thrown, .ref m_qworld, .ref m_qimages, .ref m_qhasImage, .ref m_qtape, .int m_taped, .ref m_qfive, .int m_size, .int m_at, .int m_from, .int m_token, .int m_value, .int m_faultKind, .int m_faultPlace, .ref m_qfresh, .int m_startOne, .int m_startOther, .int m_latest, .int m_leftBeats, .int m_signed, .int m_metMany, .ref m_qsums, .ref m_qpairs, .ref m_qgoesWith, .ref m_qsaid, .int m_saidMany, .int m_firstWait, .ref m_qfirstOrder, .int m_bundleFirst, .ref m_qtiredBy, .int m_tiredMany, .ref m_qmany, .ref m_qwidth, .ref m_qnumbers, .ref m_qmoving])), (m_qworld, .inl (cA 1, 122, .inl m_cworld)), (m_qsums, .inl (cA 1, 2304, .inl F1_30534)), (m_qpairs, .inl (cA 1, 2304, .inl F2_30534))] ∧ va_S A s.heap H locs ∧ lv_has ls 8 [(7, .int L7_31329), (6, .int L6_31329), (5, .int L5_31329), (4, .int L4_30534), (3, .int L3_23756), (2, .int (m_cworld 4)), (0, .ref h0), (1, .int p0)]) (fun ⟨L7_31329, L6_31329, L5_31329⟩ => (2147483647 - L7_31329.toInt).toNat) ?_ ((0, x_31118, 0) : Int32 × Int32 × Int32) ⟨(by decide), (show 0 ≤ x_31118.toInt ∧ x_31118.toInt ≤ 0 from by omega), (by decide), hP, hD, hS, hl⟩
          intro x_31329 H locs ls hI_31329 ih_31329
          obtain ⟨L7_31329, L6_31329, L5_31329⟩ := x_31329
          obtain ⟨k0_31329, k1_31329, k2_31329, hP, hD, hS, hl⟩ := hI_31329
          have hP : va_P D vwCl [(h0, .inr (12, [.int m_thrown, .ref m_qworld, .ref m_qimages, .ref m_qhasImage, .ref m_qtape, .int m_taped, .ref m_qfive, .int m_size, .int m_at, .int m_from, .int m_token, .int m_value, .int m_faultKind, .int m_faultPlace, .ref m_qfresh, .int m_startOne, .int m_startOther, .int m_latest, .int m_leftBeats, .int m_signed, .int m_metMany, .ref m_qsums, .ref m_qpairs, .ref m_qgoesWith, .ref m_qsaid, .int m_saidMany, .int m_firstWait, .ref m_qfirstOrder, .int m_bundleFirst, .ref m_qtiredBy, .int m_tiredMany, .ref m_qmany, .ref m_qwidth, .ref m_qnumbers, .ref m_qmoving])), (m_qworld, .inl (cA 1, 122, .inl m_cworld)), (m_qsums, .inl (cA 1, 2304, .inl F1_30534)), (m_qpairs, .inl (cA 1, 2304, .inl F2_30534))] H := hP
          have hD : va_D A [(h0, .inr (12, [.int m_thrown, .ref m_qworld, .ref m_qimages, .ref m_qhasImage, .ref m_qtape, .int m_taped, .ref m_qfive, .int m_size, .int m_at, .int m_from, .int m_token, .int m_value, .int m_faultKind, .int m_faultPlace, .ref m_qfresh, .int m_startOne, .int m_startOther, .int m_latest, .int m_leftBeats, .int m_signed, .int m_metMany, .ref m_qsums, .ref m_qpairs, .ref m_qgoesWith, .ref m_qsaid, .int m_saidMany, .int m_firstWait, .ref m_qfirstOrder, .int m_bundleFirst, .ref m_qtiredBy, .int m_tiredMany, .ref m_qmany, .ref m_qwidth, .ref m_qnumbers, .ref m_qmoving])), (m_qworld, .inl (cA 1, 122, .inl m_cworld)), (m_qsums, .inl (cA 1, 2304, .inl F1_30534)), (m_qpairs, .inl (cA 1, 2304, .inl F2_30534))] := hD
          have hl : lv_has ls 8 [(7, .int L7_31329), (6, .int L6_31329), (5, .int L5_31329), (4, .int L4_30534), (3, .int L3_23756), (2, .int (m_cworld 4)), (0, .ref h0), (1, .int p0)] := hl
          refine lv_iload hx hb dX12_layMatch_72 (lv_at hl 0 rfl) ?_
          refine lv_iload_n hx hb dX12_layMatch_74 rfl (lv_at hl 5 rfl) ?_
          refine lv_icmp_ge (tgt := 191) hx hb dX12_layMatch_75 (by decide) (fun c_31330 => ?_) (fun c_31330 => ?_)
          · skip
            have k_31331 := kk_le rfl rfl c_31330
            refine lv_aload_n hx hb dX12_layMatch_191 rfl (lv_at hl 6 rfl) ?_
            refine va_get (D := D) (ci := 12) (v := .ref m_qsums) (C := RX12) (T := TX12) (N := 35) hx hb hts inX12 hown hKN.1 hP 0 rfl rfl 21 (by decide) (hts _ tw_1440) (fun _ h9 => h9) rfl dX12_layMatch_192 ?_
            refine lv_iload_n hx hb dX12_layMatch_195 rfl (lv_at hl 4 rfl) ?_
            refine lv_bipush (v := 8) hx hb dX12_layMatch_196 (by decide) ?_
            refine lv_ishl hx hb dX12_layMatch_198 ?_
            refine lv_topi (fun x_31332 ex_31332 => ?_)
            have k_31333 := ar_shl8 ex_31332 (by omega) (by omega)
            refine lv_iload hx hb dX12_layMatch_199 (lv_at hl 3 rfl) ?_
            refine lv_ior hx hb dX12_layMatch_201 ?_
            refine lv_topi (fun x_31334 ex_31334 => ?_)
            have k_31335 := ar_or8 rfl rfl ex_31334 (by omega) (by omega) (by omega)
            refine lv_iload hx hb dX12_layMatch_202 (lv_at hl 2 rfl) ?_
            refine va_iast hx hb hKN.1 hP hD hS 2 1 rfl rfl (vp_in_iff.mpr ⟨by omega, by omega⟩) dX12_layMatch_204 (fun H locs hP hD hS => ?_)
            have hP : va_P D vwCl [(h0, .inr (12, [.int m_thrown, .ref m_qworld, .ref m_qimages, .ref m_qhasImage, .ref m_qtape, .int m_taped, .ref m_qfive, .int m_size, .int m_at, .int m_from, .int m_token, .int m_value, .int m_faultKind, .int m_faultPlace, .ref m_qfresh, .int m_startOne, .int m_startOther, .int m_latest, .int m_leftBeats, .int m_signed, .int m_metMany, .ref m_qsums, .ref m_qpairs, .ref m_qgoesWith, .ref m_qsaid, .int m_saidMany, .int m_firstWait, .ref m_qfirstOrder, .int m_bundleFirst, .ref m_qtiredBy, .int m_tiredMany, .ref m_qmany, .ref m_qwidth, .ref m_qnumbers, .ref m_qmoving])), (m_qworld, .inl (cA 1, 122, .inl m_cworld)), (m_qsums, .inl (cA 1, 2304, .inl (upd F1_30534 x_31334.toNatClampNeg L5_31329))), (m_qpairs, .inl (cA 1, 2304, .inl F2_30534))] H := hP
            have hD : va_D A [(h0, .inr (12, [.int m_thrown, .ref m_qworld, .ref m_qimages, .ref m_qhasImage, .ref m_qtape, .int m_taped, .ref m_qfive, .int m_size, .int m_at, .int m_from, .int m_token, .int m_value, .int m_faultKind, .int m_faultPlace, .ref m_qfresh, .int m_startOne, .int m_startOther, .int m_latest, .int m_leftBeats, .int m_signed, .int m_metMany, .ref m_qsums, .ref m_qpairs, .ref m_qgoesWith, .ref m_qsaid, .int m_saidMany, .int m_firstWait, .ref m_qfirstOrder, .int m_bundleFirst, .ref m_qtiredBy, .int m_tiredMany, .ref m_qmany, .ref m_qwidth, .ref m_qnumbers, .ref m_qmoving])), (m_qworld, .inl (cA 1, 122, .inl m_cworld)), (m_qsums, .inl (cA 1, 2304, .inl (upd F1_30534 x_31334.toNatClampNeg L5_31329))), (m_qpairs, .inl (cA 1, 2304, .inl F2_30534))] := hD
            generalize ef_31336 : (upd F1_30534 x_31334.toNatClampNeg L5_31329) = f_31336 at hP hD
            refine lv_aload_n hx hb dX12_layMatch_205 rfl (lv_at hl 6 rfl) ?_
            refine va_get (D := D) (ci := 12) (v := .ref m_qpairs) (C := RX12) (T := TX12) (N := 35) hx hb hts inX12 hown hKN.1 hP 0 rfl rfl 22 (by decide) (hts _ tw_1441) (fun _ h9 => h9) rfl dX12_layMatch_206 ?_
            refine lv_iload_n hx hb dX12_layMatch_209 rfl (lv_at hl 4 rfl) ?_
            refine lv_bipush (v := 8) hx hb dX12_layMatch_210 (by decide) ?_
            refine lv_ishl hx hb dX12_layMatch_212 ?_
            refine lv_topi (fun x_31337 ex_31337 => ?_)
            obtain rfl : x_31332 = x_31337 := ex_31332.trans ex_31337.symm
            refine lv_iload hx hb dX12_layMatch_213 (lv_at hl 3 rfl) ?_
            refine lv_ior hx hb dX12_layMatch_215 ?_
            refine lv_topi (fun x_31338 ex_31338 => ?_)
            obtain rfl : x_31334 = x_31338 := ex_31334.trans ex_31338.symm
            refine lv_iload hx hb dX12_layMatch_216 (lv_at hl 1 rfl) ?_
            refine va_iast hx hb hKN.1 hP hD hS 3 1 rfl rfl (vp_in_iff.mpr ⟨by omega, by omega⟩) dX12_layMatch_218 (fun H locs hP hD hS => ?_)
            have hP : va_P D vwCl [(h0, .inr (12, [.int m_thrown, .ref m_qworld, .ref m_qimages, .ref m_qhasImage, .ref m_qtape, .int m_taped, .ref m_qfive, .int m_size, .int m_at, .int m_from, .int m_token, .int m_value, .int m_faultKind, .int m_faultPlace, .ref m_qfresh, .int m_startOne, .int m_startOther, .int m_latest, .int m_leftBeats, .int m_signed, .int m_metMany, .ref m_qsums, .ref m_qpairs, .ref m_qgoesWith, .ref m_qsaid, .int m_saidMany, .int m_firstWait, .ref m_qfirstOrder, .int m_bundleFirst, .ref m_qtiredBy, .int m_tiredMany, .ref m_qmany, .ref m_qwidth, .ref m_qnumbers, .ref m_qmoving])), (m_qworld, .inl (cA 1, 122, .inl m_cworld)), (m_qsums, .inl (cA 1, 2304, .inl f_31336)), (m_qpairs, .inl (cA 1, 2304, .inl (upd F2_30534 x_31334.toNatClampNeg L6_31329)))] H := hP
            have hD : va_D A [(h0, .inr (12, [.int m_thrown, .ref m_qworld, .ref m_qimages, .ref m_qhasImage, .ref m_qtape, .int m_taped, .ref m_qfive, .int m_size, .int m_at, .int m_from, .int m_token, .int m_value, .int m_faultKind, .int m_faultPlace, .ref m_qfresh, .int m_startOne, .int m_startOther, .int m_latest, .int m_leftBeats, .int m_signed, .int m_metMany, .ref m_qsums, .ref m_qpairs, .ref m_qgoesWith, .ref m_qsaid, .int m_saidMany, .int m_firstWait, .ref m_qfirstOrder, .int m_bundleFirst, .ref m_qtiredBy, .int m_tiredMany, .ref m_qmany, .ref m_qwidth, .ref m_qnumbers, .ref m_qmoving])), (m_qworld, .inl (cA 1, 122, .inl m_cworld)), (m_qsums, .inl (cA 1, 2304, .inl f_31336)), (m_qpairs, .inl (cA 1, 2304, .inl (upd F2_30534 x_31334.toNatClampNeg L6_31329)))] := hD
            generalize ef_31339 : (upd F2_30534 x_31334.toNatClampNeg L6_31329) = f_31339 at hP hD
            obtain ⟨x_31340, ex_31340⟩ : ∃ y : Int32, L4_30534 + Int32.ofInt 1 = y := ⟨_, rfl⟩
            have k_31341 := ar_add (b := 1) rfl zi_1 ex_31340.symm (by omega) (by omega)
            refine lv_iinc (v := x_31340) (lv' := [(4, .int x_31340), (7, .int L7_31329), (6, .int L6_31329), (5, .int L5_31329), (3, .int L3_23756), (2, .int (m_cworld 4)), (0, .ref h0), (1, .int p0)]) hx hb dX12_layMatch_219 hl (k := 3) rfl ex_31340 (by decide) rfl (fun ls hl => ?_)
            refine lv_goto (tgt := 16) hx hb dX12_layMatch_222 (by decide) ?_
            have hb_31342 : ZQ f_31339 L3_23756.toInt x_31340.toInt (m_cworld 4).toInt.toNat := by
              have kc : x_31334.toNatClampNeg = x_31334.toInt.toNat := rfl
              rw [← ef_31339]; exact ZQ.step k1_30534 (by omega) (by omega) (by omega)
            exact ih_30534 (x_31340, f_31336, f_31339) _ _ _ ⟨(show 0 ≤ x_31340.toInt ∧ x_31340.toInt ≤ 256 from by omega), hb_31342, hP.sub [0, 1, 2, 3] rfl, hD.sub [0, 1, 2, 3] (by decide) rfl, hS, lv_sub hl [0, 4, 5, 6, 7] rfl⟩ (by show (2147483647 - x_31340.toInt).toNat < (2147483647 - L4_30534.toInt).toNat; omega)
          · skip
            have k_31343 := kk_nle rfl rfl c_31330
            refine lv_iload_n hx hb dX12_layMatch_78 rfl (lv_at hl 4 rfl) ?_
            refine lv_iload_n hx hb dX12_layMatch_79 rfl (lv_at hl 5 rfl) ?_
            refine lv_icmp_ge (tgt := 191) hx hb dX12_layMatch_80 (by decide) (fun c_31344 => ?_) (fun c_31344 => ?_)
            · skip
              have k_31345 := kk_le rfl rfl c_31344
              refine lv_aload_n hx hb dX12_layMatch_191 rfl (lv_at hl 6 rfl) ?_
              refine va_get (D := D) (ci := 12) (v := .ref m_qsums) (C := RX12) (T := TX12) (N := 35) hx hb hts inX12 hown hKN.1 hP 0 rfl rfl 21 (by decide) (hts _ tw_1440) (fun _ h9 => h9) rfl dX12_layMatch_192 ?_
              refine lv_iload_n hx hb dX12_layMatch_195 rfl (lv_at hl 4 rfl) ?_
              refine lv_bipush (v := 8) hx hb dX12_layMatch_196 (by decide) ?_
              refine lv_ishl hx hb dX12_layMatch_198 ?_
              refine lv_topi (fun x_31346 ex_31346 => ?_)
              have k_31347 := ar_shl8 ex_31346 (by omega) (by omega)
              refine lv_iload hx hb dX12_layMatch_199 (lv_at hl 3 rfl) ?_
              refine lv_ior hx hb dX12_layMatch_201 ?_
              refine lv_topi (fun x_31348 ex_31348 => ?_)
              have k_31349 := ar_or8 rfl rfl ex_31348 (by omega) (by omega) (by omega)
              refine lv_iload hx hb dX12_layMatch_202 (lv_at hl 2 rfl) ?_
              refine va_iast hx hb hKN.1 hP hD hS 2 1 rfl rfl (vp_in_iff.mpr ⟨by omega, by omega⟩) dX12_layMatch_204 (fun H locs hP hD hS => ?_)
              have hP : va_P D vwCl [(h0, .inr (12, [.int m_thrown, .ref m_qworld, .ref m_qimages, .ref m_qhasImage, .ref m_qtape, .int m_taped, .ref m_qfive, .int m_size, .int m_at, .int m_from, .int m_token, .int m_value, .int m_faultKind, .int m_faultPlace, .ref m_qfresh, .int m_startOne, .int m_startOther, .int m_latest, .int m_leftBeats, .int m_signed, .int m_metMany, .ref m_qsums, .ref m_qpairs, .ref m_qgoesWith, .ref m_qsaid, .int m_saidMany, .int m_firstWait, .ref m_qfirstOrder, .int m_bundleFirst, .ref m_qtiredBy, .int m_tiredMany, .ref m_qmany, .ref m_qwidth, .ref m_qnumbers, .ref m_qmoving])), (m_qworld, .inl (cA 1, 122, .inl m_cworld)), (m_qsums, .inl (cA 1, 2304, .inl (upd F1_30534 x_31348.toNatClampNeg L5_31329))), (m_qpairs, .inl (cA 1, 2304, .inl F2_30534))] H := hP
              have hD : va_D A [(h0, .inr (12, [.int m_thrown, .ref m_qworld, .ref m_qimages, .ref m_qhasImage, .ref m_qtape, .int m_taped, .ref m_qfive, .int m_size, .int m_at, .int m_from, .int m_token, .int m_value, .int m_faultKind, .int m_faultPlace, .ref m_qfresh, .int m_startOne, .int m_startOther, .int m_latest, .int m_leftBeats, .int m_signed, .int m_metMany, .ref m_qsums, .ref m_qpairs, .ref m_qgoesWith, .ref m_qsaid, .int m_saidMany, .int m_firstWait, .ref m_qfirstOrder, .int m_bundleFirst, .ref m_qtiredBy, .int m_tiredMany, .ref m_qmany, .ref m_qwidth, .ref m_qnumbers, .ref m_qmoving])), (m_qworld, .inl (cA 1, 122, .inl m_cworld)), (m_qsums, .inl (cA 1, 2304, .inl (upd F1_30534 x_31348.toNatClampNeg L5_31329))), (m_qpairs, .inl (cA 1, 2304, .inl F2_30534))] := hD
              generalize ef_31350 : (upd F1_30534 x_31348.toNatClampNeg L5_31329) = f_31350 at hP hD
              refine lv_aload_n hx hb dX12_layMatch_205 rfl (lv_at hl 6 rfl) ?_
              refine va_get (D := D) (ci := 12) (v := .ref m_qpairs) (C := RX12) (T := TX12) (N := 35) hx hb hts inX12 hown hKN.1 hP 0 rfl rfl 22 (by decide) (hts _ tw_1441) (fun _ h9 => h9) rfl dX12_layMatch_206 ?_
              refine lv_iload_n hx hb dX12_layMatch_209 rfl (lv_at hl 4 rfl) ?_
              refine lv_bipush (v := 8) hx hb dX12_layMatch_210 (by decide) ?_
              refine lv_ishl hx hb dX12_layMatch_212 ?_
              refine lv_topi (fun x_31351 ex_31351 => ?_)
              obtain rfl : x_31346 = x_31351 := ex_31346.trans ex_31351.symm
              refine lv_iload hx hb dX12_layMatch_213 (lv_at hl 3 rfl) ?_
              refine lv_ior hx hb dX12_layMatch_215 ?_
              refine lv_topi (fun x_31352 ex_31352 => ?_)
              obtain rfl : x_31348 = x_31352 := ex_31348.trans ex_31352.symm
              refine lv_iload hx hb dX12_layMatch_216 (lv_at hl 1 rfl) ?_
              refine va_iast hx hb hKN.1 hP hD hS 3 1 rfl rfl (vp_in_iff.mpr ⟨by omega, by omega⟩) dX12_layMatch_218 (fun H locs hP hD hS => ?_)
              have hP : va_P D vwCl [(h0, .inr (12, [.int m_thrown, .ref m_qworld, .ref m_qimages, .ref m_qhasImage, .ref m_qtape, .int m_taped, .ref m_qfive, .int m_size, .int m_at, .int m_from, .int m_token, .int m_value, .int m_faultKind, .int m_faultPlace, .ref m_qfresh, .int m_startOne, .int m_startOther, .int m_latest, .int m_leftBeats, .int m_signed, .int m_metMany, .ref m_qsums, .ref m_qpairs, .ref m_qgoesWith, .ref m_qsaid, .int m_saidMany, .int m_firstWait, .ref m_qfirstOrder, .int m_bundleFirst, .ref m_qtiredBy, .int m_tiredMany, .ref m_qmany, .ref m_qwidth, .ref m_qnumbers, .ref m_qmoving])), (m_qworld, .inl (cA 1, 122, .inl m_cworld)), (m_qsums, .inl (cA 1, 2304, .inl f_31350)), (m_qpairs, .inl (cA 1, 2304, .inl (upd F2_30534 x_31348.toNatClampNeg L6_31329)))] H := hP
              have hD : va_D A [(h0, .inr (12, [.int m_thrown, .ref m_qworld, .ref m_qimages, .ref m_qhasImage, .ref m_qtape, .int m_taped, .ref m_qfive, .int m_size, .int m_at, .int m_from, .int m_token, .int m_value, .int m_faultKind, .int m_faultPlace, .ref m_qfresh, .int m_startOne, .int m_startOther, .int m_latest, .int m_leftBeats, .int m_signed, .int m_metMany, .ref m_qsums, .ref m_qpairs, .ref m_qgoesWith, .ref m_qsaid, .int m_saidMany, .int m_firstWait, .ref m_qfirstOrder, .int m_bundleFirst, .ref m_qtiredBy, .int m_tiredMany, .ref m_qmany, .ref m_qwidth, .ref m_qnumbers, .ref m_qmoving])), (m_qworld, .inl (cA 1, 122, .inl m_cworld)), (m_qsums, .inl (cA 1, 2304, .inl f_31350)), (m_qpairs, .inl (cA 1, 2304, .inl (upd F2_30534 x_31348.toNatClampNeg L6_31329)))] := hD
              generalize ef_31353 : (upd F2_30534 x_31348.toNatClampNeg L6_31329) = f_31353 at hP hD
              obtain ⟨x_31354, ex_31354⟩ : ∃ y : Int32, L4_30534 + Int32.ofInt 1 = y := ⟨_, rfl⟩
              have k_31355 := ar_add (b := 1) rfl zi_1 ex_31354.symm (by omega) (by omega)
              refine lv_iinc (v := x_31354) (lv' := [(4, .int x_31354), (7, .int L7_31329), (6, .int L6_31329), (5, .int L5_31329), (3, .int L3_23756), (2, .int (m_cworld 4)), (0, .ref h0), (1, .int p0)]) hx hb dX12_layMatch_219 hl (k := 3) rfl ex_31354 (by decide) rfl (fun ls hl => ?_)
              refine lv_goto (tgt := 16) hx hb dX12_layMatch_222 (by decide) ?_
              have hb_31356 : ZQ f_31353 L3_23756.toInt x_31354.toInt (m_cworld 4).toInt.toNat := by
                have kc : x_31348.toNatClampNeg = x_31348.toInt.toNat := rfl
                rw [← ef_31353]; exact ZQ.step k1_30534 (by omega) (by omega) (by omega)
              exact ih_30534 (x_31354, f_31350, f_31353) _ _ _ ⟨(show 0 ≤ x_31354.toInt ∧ x_31354.toInt ≤ 256 from by omega), hb_31356, hP.sub [0, 1, 2, 3] rfl, hD.sub [0, 1, 2, 3] (by decide) rfl, hS, lv_sub hl [0, 4, 5, 6, 7] rfl⟩ (by show (2147483647 - x_31354.toInt).toNat < (2147483647 - L4_30534.toInt).toNat; omega)
            · skip
              have k_31357 := kk_nle rfl rfl c_31344
              refine lv_aload_n hx hb dX12_layMatch_83 rfl (lv_at hl 6 rfl) ?_
              refine lv_iload_n hx hb dX12_layMatch_84 rfl (lv_at hl 4 rfl) ?_
              refine lv_iconst (v := 0) hx hb dX12_layMatch_85 (by decide) ?_
              have z_31358 := zi_0
              refine cpVi (rest := []) ⟨hx, hb, hml, hown, hts⟩ hKN (hP.sub (ws' := [(h0, .inr (12, [.int m_thrown, .ref m_qworld, .ref m_qimages, .ref m_qhasImage, .ref m_qtape, .int m_taped, .ref m_qfive, .int m_size, .int m_at, .int m_from, .int m_token, .int m_value, .int m_faultKind, .int m_faultPlace, .ref m_qfresh, .int m_startOne, .int m_startOther, .int m_latest, .int m_leftBeats, .int m_signed, .int m_metMany, .ref m_qsums, .ref m_qpairs, .ref m_qgoesWith, .ref m_qsaid, .int m_saidMany, .int m_firstWait, .ref m_qfirstOrder, .int m_bundleFirst, .ref m_qtiredBy, .int m_tiredMany, .ref m_qmany, .ref m_qwidth, .ref m_qnumbers, .ref m_qmoving])), (m_qworld, .inl (cA 1, 122, .inl m_cworld))]) [0, 1] rfl) (g_X12_of l D cA h0 m_thrown m_qworld m_qimages m_qhasImage m_qtape m_taped m_qfive m_size m_at m_from m_token m_value m_faultKind m_faultPlace m_qfresh m_startOne m_startOther m_latest m_leftBeats m_signed m_metMany m_qsums m_qpairs m_qgoesWith m_qsaid m_saidMany m_firstWait m_qfirstOrder m_bundleFirst m_qtiredBy m_tiredMany m_qmany m_qwidth m_qnumbers m_qmoving m_cworld L3_23756 0 (by omega) (by omega) (by omega) (by omega) (by omega) (by omega) (by omega) (by decide) a_m_cworld_0) (tb_V tw_1640 tw_1642 tw_50 tw_114 tw_1643) hdX12_of ⟨rfl, rfl, Nat.le_of_ble_eq_true rfl, Nat.le_of_ble_eq_true rfl⟩ ⟨Nat.le_of_ble_eq_true rfl, Nat.le_of_ble_eq_true rfl⟩ rfl rfl rfl hl.1 rfl (Nat.le_of_ble_eq_true rfl) dX12_layMatch_86 (fun r_31359 hr_31359 => ?_)
              obtain ⟨k_31359_0_0, k_31359_0_1⟩ := hr_31359
              refine lv_if_ne (tgt := 185) hx hb dX12_layMatch_89 (by decide) (fun c_31360 => ?_) (fun c_31360 => ?_)
              · skip
                have k_31361 := kk_ne rfl zi_0 c_31360
                obtain ⟨x_31362, ex_31362⟩ : ∃ y : Int32, L7_31329 + Int32.ofInt 1 = y := ⟨_, rfl⟩
                have k_31363 := ar_add (b := 1) rfl zi_1 ex_31362.symm (by omega) (by omega)
                refine lv_iinc (v := x_31362) (lv' := [(7, .int x_31362), (6, .int L6_31329), (5, .int L5_31329), (4, .int L4_30534), (3, .int L3_23756), (2, .int (m_cworld 4)), (0, .ref h0), (1, .int p0)]) hx hb dX12_layMatch_185 hl (k := 0) rfl ex_31362 (by decide) rfl (fun ls hl => ?_)
                refine lv_goto (tgt := 72) hx hb dX12_layMatch_188 (by decide) ?_
                exact ih_31329 (x_31362, L6_31329, L5_31329) _ _ _ ⟨(show 0 ≤ x_31362.toInt ∧ x_31362.toInt ≤ 8 from by omega), (show 0 ≤ L6_31329.toInt ∧ L6_31329.toInt ≤ 0 from by omega), (show 0 ≤ L5_31329.toInt from by omega), hP.sub [0, 1, 2, 3] rfl, hD.sub [0, 1, 2, 3] (by decide) rfl, hS, lv_sub hl [0, 1, 2, 3, 4, 5, 6, 7] rfl⟩ (by show (2147483647 - x_31362.toInt).toNat < (2147483647 - L7_31329.toInt).toNat; omega)
              · skip
                have k_31364 := kk_eq rfl zi_0 c_31360
                refine lv_aload_n hx hb dX12_layMatch_92 rfl (lv_at hl 6 rfl) ?_
                refine lv_iload hx hb dX12_layMatch_93 (lv_at hl 0 rfl) ?_
                refine lv_iconst (v := 0) hx hb dX12_layMatch_95 (by decide) ?_
                refine cpVi (rest := []) ⟨hx, hb, hml, hown, hts⟩ hKN (hP.sub (ws' := [(h0, .inr (12, [.int m_thrown, .ref m_qworld, .ref m_qimages, .ref m_qhasImage, .ref m_qtape, .int m_taped, .ref m_qfive, .int m_size, .int m_at, .int m_from, .int m_token, .int m_value, .int m_faultKind, .int m_faultPlace, .ref m_qfresh, .int m_startOne, .int m_startOther, .int m_latest, .int m_leftBeats, .int m_signed, .int m_metMany, .ref m_qsums, .ref m_qpairs, .ref m_qgoesWith, .ref m_qsaid, .int m_saidMany, .int m_firstWait, .ref m_qfirstOrder, .int m_bundleFirst, .ref m_qtiredBy, .int m_tiredMany, .ref m_qmany, .ref m_qwidth, .ref m_qnumbers, .ref m_qmoving])), (m_qworld, .inl (cA 1, 122, .inl m_cworld))]) [0, 1] rfl) (g_X12_of l D cA h0 m_thrown m_qworld m_qimages m_qhasImage m_qtape m_taped m_qfive m_size m_at m_from m_token m_value m_faultKind m_faultPlace m_qfresh m_startOne m_startOther m_latest m_leftBeats m_signed m_metMany m_qsums m_qpairs m_qgoesWith m_qsaid m_saidMany m_firstWait m_qfirstOrder m_bundleFirst m_qtiredBy m_tiredMany m_qmany m_qwidth m_qnumbers m_qmoving m_cworld L7_31329 0 (by omega) (by omega) (by omega) (by omega) (by omega) (by omega) (by omega) (by decide) a_m_cworld_0) (tb_V tw_1640 tw_1642 tw_50 tw_114 tw_1643) hdX12_of ⟨rfl, rfl, Nat.le_of_ble_eq_true rfl, Nat.le_of_ble_eq_true rfl⟩ ⟨Nat.le_of_ble_eq_true rfl, Nat.le_of_ble_eq_true rfl⟩ rfl rfl rfl hl.1 rfl (Nat.le_of_ble_eq_true rfl) dX12_layMatch_96 (fun r_31365 hr_31365 => ?_)
                obtain ⟨k_31365_0_0, k_31365_0_1⟩ := hr_31365
                refine lv_iconst (v := 1) hx hb dX12_layMatch_99 (by decide) ?_
                refine lv_icmp_ne (tgt := 185) hx hb dX12_layMatch_100 (by decide) (fun c_31366 => ?_) (fun c_31366 => ?_)
                · skip
                  have k_31367 := kk_ne rfl zi_1 c_31366
                  obtain ⟨x_31368, ex_31368⟩ : ∃ y : Int32, L7_31329 + Int32.ofInt 1 = y := ⟨_, rfl⟩
                  have k_31369 := ar_add (b := 1) rfl zi_1 ex_31368.symm (by omega) (by omega)
                  refine lv_iinc (v := x_31368) (lv' := [(7, .int x_31368), (6, .int L6_31329), (5, .int L5_31329), (4, .int L4_30534), (3, .int L3_23756), (2, .int (m_cworld 4)), (0, .ref h0), (1, .int p0)]) hx hb dX12_layMatch_185 hl (k := 0) rfl ex_31368 (by decide) rfl (fun ls hl => ?_)
                  refine lv_goto (tgt := 72) hx hb dX12_layMatch_188 (by decide) ?_
                  exact ih_31329 (x_31368, L6_31329, L5_31329) _ _ _ ⟨(show 0 ≤ x_31368.toInt ∧ x_31368.toInt ≤ 8 from by omega), (show 0 ≤ L6_31329.toInt ∧ L6_31329.toInt ≤ 0 from by omega), (show 0 ≤ L5_31329.toInt from by omega), hP.sub [0, 1, 2, 3] rfl, hD.sub [0, 1, 2, 3] (by decide) rfl, hS, lv_sub hl [0, 1, 2, 3, 4, 5, 6, 7] rfl⟩ (by show (2147483647 - x_31368.toInt).toNat < (2147483647 - L7_31329.toInt).toNat; omega)
                · skip
                  have k_31370 := kk_eq rfl zi_1 c_31366
                  refine lv_iload hx hb dX12_layMatch_103 (lv_at hl 3 rfl) ?_
                  refine lv_iload hx hb dX12_layMatch_105 (lv_at hl 0 rfl) ?_
                  refine cpSi (rest := []) ⟨hx, hb, hml, hown, hts⟩ hKN (hP.sub (ws' := []) [] rfl) (g_X12_bit l D cA L4_30534 L7_31329) (tb_S tw_1807 tw_1808 tw_114 tw_1809) hdX12_bit ⟨rfl, rfl, Nat.le_of_ble_eq_true rfl, Nat.le_of_ble_eq_true rfl⟩ ⟨Nat.le_of_ble_eq_true rfl, Nat.le_of_ble_eq_true rfl⟩ rfl hl.1 rfl (Nat.le_of_ble_eq_true rfl) dX12_layMatch_107 (fun r_31371 hr_31371 => ?_)
                  refine lv_iconst (v := 1) hx hb dX12_layMatch_110 (by decide) ?_
                  refine lv_icmp_ne (tgt := 117) hx hb dX12_layMatch_111 (by decide) (fun c_31372 => ?_) (fun c_31372 => ?_)
                  · skip
                    have k_31373 := kk_ne rfl zi_1 c_31372
                    refine lv_iload hx hb dX12_layMatch_117 (lv_at hl 2 rfl) ?_
                    refine lv_aload_n hx hb dX12_layMatch_119 rfl (lv_at hl 6 rfl) ?_
                    refine lv_iload_n hx hb dX12_layMatch_120 rfl (lv_at hl 4 rfl) ?_
                    refine lv_iload hx hb dX12_layMatch_121 (lv_at hl 0 rfl) ?_
                    refine cpVi (rest := [.int L5_31329]) ⟨hx, hb, hml, hown, hts⟩ hKN (hP.sub (ws' := [(h0, .inr (12, [.int m_thrown, .ref m_qworld, .ref m_qimages, .ref m_qhasImage, .ref m_qtape, .int m_taped, .ref m_qfive, .int m_size, .int m_at, .int m_from, .int m_token, .int m_value, .int m_faultKind, .int m_faultPlace, .ref m_qfresh, .int m_startOne, .int m_startOther, .int m_latest, .int m_leftBeats, .int m_signed, .int m_metMany, .ref m_qsums, .ref m_qpairs, .ref m_qgoesWith, .ref m_qsaid, .int m_saidMany, .int m_firstWait, .ref m_qfirstOrder, .int m_bundleFirst, .ref m_qtiredBy, .int m_tiredMany, .ref m_qmany, .ref m_qwidth, .ref m_qnumbers, .ref m_qmoving])), (m_qworld, .inl (cA 1, 122, .inl m_cworld))]) [0, 1] rfl) (g_X12_holdOf_z l D cA h0 m_thrown m_qworld m_qimages m_qhasImage m_qtape m_taped m_qfive m_size m_at m_from m_token m_value m_faultKind m_faultPlace m_qfresh m_startOne m_startOther m_latest m_leftBeats m_signed m_metMany m_qsums m_qpairs m_qgoesWith m_qsaid m_saidMany m_firstWait m_qfirstOrder m_bundleFirst m_qtiredBy m_tiredMany m_qmany m_qwidth m_qnumbers m_qmoving m_cworld L3_23756 L7_31329 (by omega) (by omega) (by omega) (by omega) (by omega) (by omega) (by omega) (by omega) a_m_cworld_0) (tb_V tw_1700 tw_1702 tw_63 tw_114 tw_1703) hdX12_holdOf ⟨rfl, rfl, Nat.le_of_ble_eq_true rfl, Nat.le_of_ble_eq_true rfl⟩ ⟨Nat.le_of_ble_eq_true rfl, Nat.le_of_ble_eq_true rfl⟩ rfl rfl rfl hl.1 rfl (Nat.le_of_ble_eq_true rfl) dX12_layMatch_123 (fun r_31374 hr_31374 => ?_)
                    refine lv_aload_n hx hb dX12_layMatch_126 rfl (lv_at hl 6 rfl) ?_
                    refine lv_iload_n hx hb dX12_layMatch_127 rfl (lv_at hl 4 rfl) ?_
                    refine lv_iconst (v := 1) hx hb dX12_layMatch_128 (by decide) ?_
                    refine lv_iadd hx hb dX12_layMatch_129 ?_
                    refine lv_topi (fun x_31375 ex_31375 => ?_)
                    obtain rfl : x_31112 = x_31375 := ex_31112.trans ex_31375.symm
                    refine lv_iload hx hb dX12_layMatch_130 (lv_at hl 3 rfl) ?_
                    refine lv_iconst (v := 1) hx hb dX12_layMatch_132 (by decide) ?_
                    refine lv_iload hx hb dX12_layMatch_133 (lv_at hl 0 rfl) ?_
                    refine lv_ishl hx hb dX12_layMatch_135 ?_
                    refine lv_topi (fun x_31376 ex_31376 => ?_)
                    have k_31377 := ar_shl1 ex_31376 (by omega) (by omega)
                    refine lv_ior hx hb dX12_layMatch_136 ?_
                    refine lv_topi (fun x_31378 ex_31378 => ?_)
                    have k_31379 := ar_or (n := 8) (M := 256) rfl rfl ex_31378 (by decide) (by decide) (by omega) (by omega)
                    refine cpVi (rest := [.int r_31374, .int L5_31329]) ⟨hx, hb, hml, hown, hts⟩ hKN (hP.sub (ws' := [(h0, .inr (12, [.int m_thrown, .ref m_qworld, .ref m_qimages, .ref m_qhasImage, .ref m_qtape, .int m_taped, .ref m_qfive, .int m_size, .int m_at, .int m_from, .int m_token, .int m_value, .int m_faultKind, .int m_faultPlace, .ref m_qfresh, .int m_startOne, .int m_startOther, .int m_latest, .int m_leftBeats, .int m_signed, .int m_metMany, .ref m_qsums, .ref m_qpairs, .ref m_qgoesWith, .ref m_qsaid, .int m_saidMany, .int m_firstWait, .ref m_qfirstOrder, .int m_bundleFirst, .ref m_qtiredBy, .int m_tiredMany, .ref m_qmany, .ref m_qwidth, .ref m_qnumbers, .ref m_qmoving])), (m_qsums, .inl (cA 1, 2304, .inl F1_30534))]) [0, 2] rfl) (g_X12_sumFrom l D cA h0 m_thrown m_qworld m_qimages m_qhasImage m_qtape m_taped m_qfive m_size m_at m_from m_token m_value m_faultKind m_faultPlace m_qfresh m_startOne m_startOther m_latest m_leftBeats m_signed m_metMany m_qsums m_qpairs m_qgoesWith m_qsaid m_saidMany m_firstWait m_qfirstOrder m_bundleFirst m_qtiredBy m_tiredMany m_qmany m_qwidth m_qnumbers m_qmoving F1_30534 x_31112 x_31378 (by omega) (by omega) (by omega) (by omega) (by omega) (by omega) (by omega) (by omega)) (tb_V tw_1803 tw_1805 tw_71 tw_114 tw_1806) hdX12_sumFrom ⟨rfl, rfl, Nat.le_of_ble_eq_true rfl, Nat.le_of_ble_eq_true rfl⟩ ⟨Nat.le_of_ble_eq_true rfl, Nat.le_of_ble_eq_true rfl⟩ rfl rfl rfl hl.1 rfl (Nat.le_of_ble_eq_true rfl) dX12_layMatch_137 (fun r_31380 hr_31380 => ?_)
                    refine lv_iadd hx hb dX12_layMatch_140 ?_
                    refine lv_topi (fun x_31381 ex_31381 => ?_)
                    refine cpSi (rest := []) ⟨hx, hb, hml, hown, hts⟩ hKN (hP.sub (ws' := []) [] rfl) (g_J9_max_7cf53 l D cA L5_31329 x_31381) (tb_S tw_1735 tw_779 tw_115 tw_780) hdJ9_max_7cf53 ⟨rfl, rfl, Nat.le_of_ble_eq_true rfl, Nat.le_of_ble_eq_true rfl⟩ ⟨Nat.le_of_ble_eq_true rfl, Nat.le_of_ble_eq_true rfl⟩ rfl hl.1 rfl (Nat.le_of_ble_eq_true rfl) dX12_layMatch_141 (fun r_31383 hr_31383 => ?_)
                    obtain ⟨k_31383_0_0, k_31383_0_1, k_31383_0_2⟩ := hr_31383
                    refine lv_istore (lv' := [(5, .int r_31383), (7, .int L7_31329), (6, .int L6_31329), (4, .int L4_30534), (3, .int L3_23756), (2, .int (m_cworld 4)), (0, .ref h0), (1, .int p0)]) hx hb dX12_layMatch_144 hl (by decide) rfl (fun ls hl => ?_)
                    refine lv_aload_n hx hb dX12_layMatch_146 rfl (lv_at hl 6 rfl) ?_
                    refine lv_iload_n hx hb dX12_layMatch_147 rfl (lv_at hl 4 rfl) ?_
                    refine lv_iload hx hb dX12_layMatch_148 (lv_at hl 1 rfl) ?_
                    refine cpVi (rest := []) ⟨hx, hb, hml, hown, hts⟩ hKN (hP.sub (ws' := [(h0, .inr (12, [.int m_thrown, .ref m_qworld, .ref m_qimages, .ref m_qhasImage, .ref m_qtape, .int m_taped, .ref m_qfive, .int m_size, .int m_at, .int m_from, .int m_token, .int m_value, .int m_faultKind, .int m_faultPlace, .ref m_qfresh, .int m_startOne, .int m_startOther, .int m_latest, .int m_leftBeats, .int m_signed, .int m_metMany, .ref m_qsums, .ref m_qpairs, .ref m_qgoesWith, .ref m_qsaid, .int m_saidMany, .int m_firstWait, .ref m_qfirstOrder, .int m_bundleFirst, .ref m_qtiredBy, .int m_tiredMany, .ref m_qmany, .ref m_qwidth, .ref m_qnumbers, .ref m_qmoving])), (m_qworld, .inl (cA 1, 122, .inl m_cworld))]) [0, 1] rfl) (g_X12_holdOf_z l D cA h0 m_thrown m_qworld m_qimages m_qhasImage m_qtape m_taped m_qfive m_size m_at m_from m_token m_value m_faultKind m_faultPlace m_qfresh m_startOne m_startOther m_latest m_leftBeats m_signed m_metMany m_qsums m_qpairs m_qgoesWith m_qsaid m_saidMany m_firstWait m_qfirstOrder m_bundleFirst m_qtiredBy m_tiredMany m_qmany m_qwidth m_qnumbers m_qmoving m_cworld L3_23756 L7_31329 (by omega) (by omega) (by omega) (by omega) (by omega) (by omega) (by omega) (by omega) a_m_cworld_0) (tb_V tw_1700 tw_1702 tw_63 tw_114 tw_1703) hdX12_holdOf ⟨rfl, rfl, Nat.le_of_ble_eq_true rfl, Nat.le_of_ble_eq_true rfl⟩ ⟨Nat.le_of_ble_eq_true rfl, Nat.le_of_ble_eq_true rfl⟩ rfl rfl rfl hl.1 rfl (Nat.le_of_ble_eq_true rfl) dX12_layMatch_150 (fun r_31384 hr_31384 => ?_)
                    refine lv_iload_n hx hb dX12_layMatch_153 rfl (lv_at hl 7 rfl) ?_
                    refine lv_icmp_lt (tgt := 185) hx hb dX12_layMatch_154 (by decide) (fun c_31385 => ?_) (fun c_31385 => ?_)
                    · skip
                      have k_31386 := kk_lt rfl rfl c_31385
                      obtain ⟨x_31387, ex_31387⟩ : ∃ y : Int32, L7_31329 + Int32.ofInt 1 = y := ⟨_, rfl⟩
                      have k_31388 := ar_add (b := 1) rfl zi_1 ex_31387.symm (by omega) (by omega)
                      refine lv_iinc (v := x_31387) (lv' := [(7, .int x_31387), (5, .int r_31383), (6, .int L6_31329), (4, .int L4_30534), (3, .int L3_23756), (2, .int (m_cworld 4)), (0, .ref h0), (1, .int p0)]) hx hb dX12_layMatch_185 hl (k := 1) rfl ex_31387 (by decide) rfl (fun ls hl => ?_)
                      refine lv_goto (tgt := 72) hx hb dX12_layMatch_188 (by decide) ?_
                      exact ih_31329 (x_31387, L6_31329, r_31383) _ _ _ ⟨(show 0 ≤ x_31387.toInt ∧ x_31387.toInt ≤ 8 from by omega), (show 0 ≤ L6_31329.toInt ∧ L6_31329.toInt ≤ 0 from by omega), (show 0 ≤ r_31383.toInt from by omega), hP.sub [0, 1, 2, 3] rfl, hD.sub [0, 1, 2, 3] (by decide) rfl, hS, lv_sub hl [0, 2, 1, 3, 4, 5, 6, 7] rfl⟩ (by show (2147483647 - x_31387.toInt).toNat < (2147483647 - L7_31329.toInt).toNat; omega)
                    · skip
                      have k_31389 := kk_nlt rfl rfl c_31385
                      exfalso; omega
                  · skip
                    have k_31390 := kk_eq rfl zi_1 c_31372
                    refine lv_goto (tgt := 185) hx hb dX12_layMatch_114 (by decide) ?_
                    obtain ⟨x_31391, ex_31391⟩ : ∃ y : Int32, L7_31329 + Int32.ofInt 1 = y := ⟨_, rfl⟩
                    have k_31392 := ar_add (b := 1) rfl zi_1 ex_31391.symm (by omega) (by omega)
                    refine lv_iinc (v := x_31391) (lv' := [(7, .int x_31391), (6, .int L6_31329), (5, .int L5_31329), (4, .int L4_30534), (3, .int L3_23756), (2, .int (m_cworld 4)), (0, .ref h0), (1, .int p0)]) hx hb dX12_layMatch_185 hl (k := 0) rfl ex_31391 (by decide) rfl (fun ls hl => ?_)
                    refine lv_goto (tgt := 72) hx hb dX12_layMatch_188 (by decide) ?_
                    exact ih_31329 (x_31391, L6_31329, L5_31329) _ _ _ ⟨(show 0 ≤ x_31391.toInt ∧ x_31391.toInt ≤ 8 from by omega), (show 0 ≤ L6_31329.toInt ∧ L6_31329.toInt ≤ 0 from by omega), (show 0 ≤ L5_31329.toInt from by omega), hP.sub [0, 1, 2, 3] rfl, hD.sub [0, 1, 2, 3] (by decide) rfl, hS, lv_sub hl [0, 1, 2, 3, 4, 5, 6, 7] rfl⟩ (by show (2147483647 - x_31391.toInt).toNat < (2147483647 - L7_31329.toInt).toNat; omega)
        · skip
          have k_31393 := kk_eq rfl rfl c_31110
          refine lv_iconst (v := 0) hx hb dX12_layMatch_49 (by decide) ?_
          refine lv_goto (tgt := 67) hx hb dX12_layMatch_50 (by decide) ?_
          refine lv_istore (lv' := [(6, .int 0), (5, .int 0), (4, .int L4_30534), (3, .int L3_23756), (2, .int (m_cworld 4)), (0, .ref h0), (1, .int p0)]) hx hb dX12_layMatch_67 hl (by decide) rfl (fun ls hl => ?_)
          refine lv_iconst (v := 0) hx hb dX12_layMatch_69 (by decide) ?_
          refine lv_istore (lv' := [(7, .int 0), (6, .int 0), (5, .int 0), (4, .int L4_30534), (3, .int L3_23756), (2, .int (m_cworld 4)), (0, .ref h0), (1, .int p0)]) hx hb dX12_layMatch_70 hl (by decide) rfl (fun ls hl => ?_)
          refine loopW (σ := Int32 × Int32 × Int32) (fun _ => []) (fun ⟨L7_31609, L6_31609, L5_31609⟩ H locs ls => (0 ≤ L7_31609.toInt ∧ L7_31609.toInt ≤ 8) ∧ (0 ≤ L6_31609.toInt ∧ L6_31609.toInt ≤ 0) ∧ (0 ≤ L5_31609.toInt) ∧ va_P D vwCl [(h0, .inr (12, [.int m_thrown, .ref m_qworld, .ref m_qimages, .ref m_qhasImage, .ref m_qtape, .int m_taped, .ref m_qfive, .int m_size, .int m_at, .int m_from, .int m_token, .int m_value, .int m_faultKind, .int m_faultPlace, .ref m_qfresh, .int m_startOne, .int m_startOther, .int m_latest, .int m_leftBeats, .int m_signed, .int m_metMany, .ref m_qsums, .ref m_qpairs, .ref m_qgoesWith, .ref m_qsaid, .int m_saidMany, .int m_firstWait, .ref m_qfirstOrder, .int m_bundleFirst, .ref m_qtiredBy, .int m_tiredMany, .ref m_qmany, .ref m_qwidth, .ref m_qnumbers, .ref m_qmoving])), (m_qworld, .inl (cA 1, 122, .inl m_cworld)), (m_qsums, .inl (cA 1, 2304, .inl F1_30534)), (m_qpairs, .inl (cA 1, 2304, .inl F2_30534))] H ∧ va_D A [(h0, .inr (12, [.int m_thrown, .ref m_qworld, .ref m_qimages, .ref m_qhasImage, .ref m_qtape, .int m_taped, .ref m_qfive, .int m_size, .int m_at, .int m_from, .int m_token, .int m_value, .int m_faultKind, .int m_faultPlace, .ref m_qfresh, .int m_startOne, .int m_startOther, .int m_latest, .int m_leftBeats, .int m_signed, .int m_metMany, .ref m_qsums, .ref m_qpairs, .ref m_qgoesWith, .ref m_qsaid, .int m_saidMany, .int m_firstWait, .ref m_qfirstOrder, .int m_bundleFirst, .ref m_qtiredBy, .int m_tiredMany, .ref m_qmany, .ref m_qwidth, .ref m_qnumbers, .ref m_qmoving])), (m_qworld, .inl (cA 1, 122, .inl m_cworld)), (m_qsums, .inl (cA 1, 2304, .inl F1_30534)), (m_qpairs, .inl (cA 1, 2304, .inl F2_30534))] ∧ va_S A s.heap H locs ∧ lv_has ls 8 [(7, .int L7_31609), (6, .int L6_31609), (5, .int L5_31609), (4, .int L4_30534), (3, .int L3_23756), (2, .int (m_cworld 4)), (0, .ref h0), (1, .int p0)]) (fun ⟨L7_31609, L6_31609, L5_31609⟩ => (2147483647 - L7_31609.toInt).toNat) ?_ ((0, 0, 0) : Int32 × Int32 × Int32) ⟨(by decide), (by decide), (by decide), hP, hD, hS, hl⟩
          intro x_31609 H locs ls hI_31609 ih_31609
          obtain ⟨L7_31609, L6_31609, L5_31609⟩ := x_31609
          obtain ⟨k0_31609, k1_31609, k2_31609, hP, hD, hS, hl⟩ := hI_31609
          have hP : va_P D vwCl [(h0, .inr (12, [.int m_thrown, .ref m_qworld, .ref m_qimages, .ref m_qhasImage, .ref m_qtape, .int m_taped, .ref m_qfive, .int m_size, .int m_at, .int m_from, .int m_token, .int m_value, .int m_faultKind, .int m_faultPlace, .ref m_qfresh, .int m_startOne, .int m_startOther, .int m_latest, .int m_leftBeats, .int m_signed, .int m_metMany, .ref m_qsums, .ref m_qpairs, .ref m_qgoesWith, .ref m_qsaid, .int m_saidMany, .int m_firstWait, .ref m_qfirstOrder, .int m_bundleFirst, .ref m_qtiredBy, .int m_tiredMany, .ref m_qmany, .ref m_qwidth, .ref m_qnumbers, .ref m_qmoving])), (m_qworld, .inl (cA 1, 122, .inl m_cworld)), (m_qsums, .inl (cA 1, 2304, .inl F1_30534)), (m_qpairs, .inl (cA 1, 2304, .inl F2_30534))] H := hP
          have hD : va_D A [(h0, .inr (12, [.int m_thrown, .ref m_qworld, .ref m_qimages, .ref m_qhasImage, .ref m_qtape, .int m_taped, .ref m_qfive, .int m_size, .int m_at, .int m_from, .int m_token, .int m_value, .int m_faultKind, .int m_faultPlace, .ref m_qfresh, .int m_startOne, .int m_startOther, .int m_latest, .int m_leftBeats, .int m_signed, .int m_metMany, .ref m_qsums, .ref m_qpairs, .ref m_qgoesWith, .ref m_qsaid, .int m_saidMany, .int m_firstWait, .ref m_qfirstOrder, .int m_bundleFirst, .ref m_qtiredBy, .int m_tiredMany, .ref m_qmany, .ref m_qwidth, .ref m_qnumbers, .ref m_qmoving])), (m_qworld, .inl (cA 1, 122, .inl m_cworld)), (m_qsums, .inl (cA 1, 2304, .inl F1_30534)), (m_qpairs, .inl (cA 1, 2304, .inl F2_30534))] := hD
          have hl : lv_has ls 8 [(7, .int L7_31609), (6, .int L6_31609), (5, .int L5_31609), (4, .int L4_30534), (3, .int L3_23756), (2, .int (m_cworld 4)), (0, .ref h0), (1, .int p0)] := hl
          refine lv_iload hx hb dX12_layMatch_72 (lv_at hl 0 rfl) ?_
          refine lv_iload_n hx hb dX12_layMatch_74 rfl (lv_at hl 5 rfl) ?_
          refine lv_icmp_ge (tgt := 191) hx hb dX12_layMatch_75 (by decide) (fun c_31610 => ?_) (fun c_31610 => ?_)
          · skip
            have k_31611 := kk_le rfl rfl c_31610
            refine lv_aload_n hx hb dX12_layMatch_191 rfl (lv_at hl 6 rfl) ?_
            refine va_get (D := D) (ci := 12) (v := .ref m_qsums) (C := RX12) (T := TX12) (N := 35) hx hb hts inX12 hown hKN.1 hP 0 rfl rfl 21 (by decide) (hts _ tw_1440) (fun _ h9 => h9) rfl dX12_layMatch_192 ?_
            refine lv_iload_n hx hb dX12_layMatch_195 rfl (lv_at hl 4 rfl) ?_
            refine lv_bipush (v := 8) hx hb dX12_layMatch_196 (by decide) ?_
            refine lv_ishl hx hb dX12_layMatch_198 ?_
            refine lv_topi (fun x_31612 ex_31612 => ?_)
            have k_31613 := ar_shl8 ex_31612 (by omega) (by omega)
            refine lv_iload hx hb dX12_layMatch_199 (lv_at hl 3 rfl) ?_
            refine lv_ior hx hb dX12_layMatch_201 ?_
            refine lv_topi (fun x_31614 ex_31614 => ?_)
            have k_31615 := ar_or8 rfl rfl ex_31614 (by omega) (by omega) (by omega)
            refine lv_iload hx hb dX12_layMatch_202 (lv_at hl 2 rfl) ?_
            refine va_iast hx hb hKN.1 hP hD hS 2 1 rfl rfl (vp_in_iff.mpr ⟨by omega, by omega⟩) dX12_layMatch_204 (fun H locs hP hD hS => ?_)
            have hP : va_P D vwCl [(h0, .inr (12, [.int m_thrown, .ref m_qworld, .ref m_qimages, .ref m_qhasImage, .ref m_qtape, .int m_taped, .ref m_qfive, .int m_size, .int m_at, .int m_from, .int m_token, .int m_value, .int m_faultKind, .int m_faultPlace, .ref m_qfresh, .int m_startOne, .int m_startOther, .int m_latest, .int m_leftBeats, .int m_signed, .int m_metMany, .ref m_qsums, .ref m_qpairs, .ref m_qgoesWith, .ref m_qsaid, .int m_saidMany, .int m_firstWait, .ref m_qfirstOrder, .int m_bundleFirst, .ref m_qtiredBy, .int m_tiredMany, .ref m_qmany, .ref m_qwidth, .ref m_qnumbers, .ref m_qmoving])), (m_qworld, .inl (cA 1, 122, .inl m_cworld)), (m_qsums, .inl (cA 1, 2304, .inl (upd F1_30534 x_31614.toNatClampNeg L5_31609))), (m_qpairs, .inl (cA 1, 2304, .inl F2_30534))] H := hP
            have hD : va_D A [(h0, .inr (12, [.int m_thrown, .ref m_qworld, .ref m_qimages, .ref m_qhasImage, .ref m_qtape, .int m_taped, .ref m_qfive, .int m_size, .int m_at, .int m_from, .int m_token, .int m_value, .int m_faultKind, .int m_faultPlace, .ref m_qfresh, .int m_startOne, .int m_startOther, .int m_latest, .int m_leftBeats, .int m_signed, .int m_metMany, .ref m_qsums, .ref m_qpairs, .ref m_qgoesWith, .ref m_qsaid, .int m_saidMany, .int m_firstWait, .ref m_qfirstOrder, .int m_bundleFirst, .ref m_qtiredBy, .int m_tiredMany, .ref m_qmany, .ref m_qwidth, .ref m_qnumbers, .ref m_qmoving])), (m_qworld, .inl (cA 1, 122, .inl m_cworld)), (m_qsums, .inl (cA 1, 2304, .inl (upd F1_30534 x_31614.toNatClampNeg L5_31609))), (m_qpairs, .inl (cA 1, 2304, .inl F2_30534))] := hD
            generalize ef_31616 : (upd F1_30534 x_31614.toNatClampNeg L5_31609) = f_31616 at hP hD
            refine lv_aload_n hx hb dX12_layMatch_205 rfl (lv_at hl 6 rfl) ?_
            refine va_get (D := D) (ci := 12) (v := .ref m_qpairs) (C := RX12) (T := TX12) (N := 35) hx hb hts inX12 hown hKN.1 hP 0 rfl rfl 22 (by decide) (hts _ tw_1441) (fun _ h9 => h9) rfl dX12_layMatch_206 ?_
            refine lv_iload_n hx hb dX12_layMatch_209 rfl (lv_at hl 4 rfl) ?_
            refine lv_bipush (v := 8) hx hb dX12_layMatch_210 (by decide) ?_
            refine lv_ishl hx hb dX12_layMatch_212 ?_
            refine lv_topi (fun x_31617 ex_31617 => ?_)
            obtain rfl : x_31612 = x_31617 := ex_31612.trans ex_31617.symm
            refine lv_iload hx hb dX12_layMatch_213 (lv_at hl 3 rfl) ?_
            refine lv_ior hx hb dX12_layMatch_215 ?_
            refine lv_topi (fun x_31618 ex_31618 => ?_)
            obtain rfl : x_31614 = x_31618 := ex_31614.trans ex_31618.symm
            refine lv_iload hx hb dX12_layMatch_216 (lv_at hl 1 rfl) ?_
            refine va_iast hx hb hKN.1 hP hD hS 3 1 rfl rfl (vp_in_iff.mpr ⟨by omega, by omega⟩) dX12_layMatch_218 (fun H locs hP hD hS => ?_)
            have hP : va_P D vwCl [(h0, .inr (12, [.int m_thrown, .ref m_qworld, .ref m_qimages, .ref m_qhasImage, .ref m_qtape, .int m_taped, .ref m_qfive, .int m_size, .int m_at, .int m_from, .int m_token, .int m_value, .int m_faultKind, .int m_faultPlace, .ref m_qfresh, .int m_startOne, .int m_startOther, .int m_latest, .int m_leftBeats, .int m_signed, .int m_metMany, .ref m_qsums, .ref m_qpairs, .ref m_qgoesWith, .ref m_qsaid, .int m_saidMany, .int m_firstWait, .ref m_qfirstOrder, .int m_bundleFirst, .ref m_qtiredBy, .int m_tiredMany, .ref m_qmany, .ref m_qwidth, .ref m_qnumbers, .ref m_qmoving])), (m_qworld, .inl (cA 1, 122, .inl m_cworld)), (m_qsums, .inl (cA 1, 2304, .inl f_31616)), (m_qpairs, .inl (cA 1, 2304, .inl (upd F2_30534 x_31614.toNatClampNeg L6_31609)))] H := hP
            have hD : va_D A [(h0, .inr (12, [.int m_thrown, .ref m_qworld, .ref m_qimages, .ref m_qhasImage, .ref m_qtape, .int m_taped, .ref m_qfive, .int m_size, .int m_at, .int m_from, .int m_token, .int m_value, .int m_faultKind, .int m_faultPlace, .ref m_qfresh, .int m_startOne, .int m_startOther, .int m_latest, .int m_leftBeats, .int m_signed, .int m_metMany, .ref m_qsums, .ref m_qpairs, .ref m_qgoesWith, .ref m_qsaid, .int m_saidMany, .int m_firstWait, .ref m_qfirstOrder, .int m_bundleFirst, .ref m_qtiredBy, .int m_tiredMany, .ref m_qmany, .ref m_qwidth, .ref m_qnumbers, .ref m_qmoving])), (m_qworld, .inl (cA 1, 122, .inl m_cworld)), (m_qsums, .inl (cA 1, 2304, .inl f_31616)), (m_qpairs, .inl (cA 1, 2304, .inl (upd F2_30534 x_31614.toNatClampNeg L6_31609)))] := hD
            generalize ef_31619 : (upd F2_30534 x_31614.toNatClampNeg L6_31609) = f_31619 at hP hD
            obtain ⟨x_31620, ex_31620⟩ : ∃ y : Int32, L4_30534 + Int32.ofInt 1 = y := ⟨_, rfl⟩
            have k_31621 := ar_add (b := 1) rfl zi_1 ex_31620.symm (by omega) (by omega)
            refine lv_iinc (v := x_31620) (lv' := [(4, .int x_31620), (7, .int L7_31609), (6, .int L6_31609), (5, .int L5_31609), (3, .int L3_23756), (2, .int (m_cworld 4)), (0, .ref h0), (1, .int p0)]) hx hb dX12_layMatch_219 hl (k := 3) rfl ex_31620 (by decide) rfl (fun ls hl => ?_)
            refine lv_goto (tgt := 16) hx hb dX12_layMatch_222 (by decide) ?_
            have hb_31622 : ZQ f_31619 L3_23756.toInt x_31620.toInt (m_cworld 4).toInt.toNat := by
              have kc : x_31614.toNatClampNeg = x_31614.toInt.toNat := rfl
              rw [← ef_31619]; exact ZQ.step k1_30534 (by omega) (by omega) (by omega)
            exact ih_30534 (x_31620, f_31616, f_31619) _ _ _ ⟨(show 0 ≤ x_31620.toInt ∧ x_31620.toInt ≤ 256 from by omega), hb_31622, hP.sub [0, 1, 2, 3] rfl, hD.sub [0, 1, 2, 3] (by decide) rfl, hS, lv_sub hl [0, 4, 5, 6, 7] rfl⟩ (by show (2147483647 - x_31620.toInt).toNat < (2147483647 - L4_30534.toInt).toNat; omega)
          · skip
            have k_31623 := kk_nle rfl rfl c_31610
            refine lv_iload_n hx hb dX12_layMatch_78 rfl (lv_at hl 4 rfl) ?_
            refine lv_iload_n hx hb dX12_layMatch_79 rfl (lv_at hl 5 rfl) ?_
            refine lv_icmp_ge (tgt := 191) hx hb dX12_layMatch_80 (by decide) (fun c_31624 => ?_) (fun c_31624 => ?_)
            · skip
              have k_31625 := kk_le rfl rfl c_31624
              refine lv_aload_n hx hb dX12_layMatch_191 rfl (lv_at hl 6 rfl) ?_
              refine va_get (D := D) (ci := 12) (v := .ref m_qsums) (C := RX12) (T := TX12) (N := 35) hx hb hts inX12 hown hKN.1 hP 0 rfl rfl 21 (by decide) (hts _ tw_1440) (fun _ h9 => h9) rfl dX12_layMatch_192 ?_
              refine lv_iload_n hx hb dX12_layMatch_195 rfl (lv_at hl 4 rfl) ?_
              refine lv_bipush (v := 8) hx hb dX12_layMatch_196 (by decide) ?_
              refine lv_ishl hx hb dX12_layMatch_198 ?_
              refine lv_topi (fun x_31626 ex_31626 => ?_)
              have k_31627 := ar_shl8 ex_31626 (by omega) (by omega)
              refine lv_iload hx hb dX12_layMatch_199 (lv_at hl 3 rfl) ?_
              refine lv_ior hx hb dX12_layMatch_201 ?_
              refine lv_topi (fun x_31628 ex_31628 => ?_)
              have k_31629 := ar_or8 rfl rfl ex_31628 (by omega) (by omega) (by omega)
              refine lv_iload hx hb dX12_layMatch_202 (lv_at hl 2 rfl) ?_
              refine va_iast hx hb hKN.1 hP hD hS 2 1 rfl rfl (vp_in_iff.mpr ⟨by omega, by omega⟩) dX12_layMatch_204 (fun H locs hP hD hS => ?_)
              have hP : va_P D vwCl [(h0, .inr (12, [.int m_thrown, .ref m_qworld, .ref m_qimages, .ref m_qhasImage, .ref m_qtape, .int m_taped, .ref m_qfive, .int m_size, .int m_at, .int m_from, .int m_token, .int m_value, .int m_faultKind, .int m_faultPlace, .ref m_qfresh, .int m_startOne, .int m_startOther, .int m_latest, .int m_leftBeats, .int m_signed, .int m_metMany, .ref m_qsums, .ref m_qpairs, .ref m_qgoesWith, .ref m_qsaid, .int m_saidMany, .int m_firstWait, .ref m_qfirstOrder, .int m_bundleFirst, .ref m_qtiredBy, .int m_tiredMany, .ref m_qmany, .ref m_qwidth, .ref m_qnumbers, .ref m_qmoving])), (m_qworld, .inl (cA 1, 122, .inl m_cworld)), (m_qsums, .inl (cA 1, 2304, .inl (upd F1_30534 x_31628.toNatClampNeg L5_31609))), (m_qpairs, .inl (cA 1, 2304, .inl F2_30534))] H := hP
              have hD : va_D A [(h0, .inr (12, [.int m_thrown, .ref m_qworld, .ref m_qimages, .ref m_qhasImage, .ref m_qtape, .int m_taped, .ref m_qfive, .int m_size, .int m_at, .int m_from, .int m_token, .int m_value, .int m_faultKind, .int m_faultPlace, .ref m_qfresh, .int m_startOne, .int m_startOther, .int m_latest, .int m_leftBeats, .int m_signed, .int m_metMany, .ref m_qsums, .ref m_qpairs, .ref m_qgoesWith, .ref m_qsaid, .int m_saidMany, .int m_firstWait, .ref m_qfirstOrder, .int m_bundleFirst, .ref m_qtiredBy, .int m_tiredMany, .ref m_qmany, .ref m_qwidth, .ref m_qnumbers, .ref m_qmoving])), (m_qworld, .inl (cA 1, 122, .inl m_cworld)), (m_qsums, .inl (cA 1, 2304, .inl (upd F1_30534 x_31628.toNatClampNeg L5_31609))), (m_qpairs, .inl (cA 1, 2304, .inl F2_30534))] := hD
              generalize ef_31630 : (upd F1_30534 x_31628.toNatClampNeg L5_31609) = f_31630 at hP hD
              refine lv_aload_n hx hb dX12_layMatch_205 rfl (lv_at hl 6 rfl) ?_
              refine va_get (D := D) (ci := 12) (v := .ref m_qpairs) (C := RX12) (T := TX12) (N := 35) hx hb hts inX12 hown hKN.1 hP 0 rfl rfl 22 (by decide) (hts _ tw_1441) (fun _ h9 => h9) rfl dX12_layMatch_206 ?_
              refine lv_iload_n hx hb dX12_layMatch_209 rfl (lv_at hl 4 rfl) ?_
              refine lv_bipush (v := 8) hx hb dX12_layMatch_210 (by decide) ?_
              refine lv_ishl hx hb dX12_layMatch_212 ?_
              refine lv_topi (fun x_31631 ex_31631 => ?_)
              obtain rfl : x_31626 = x_31631 := ex_31626.trans ex_31631.symm
              refine lv_iload hx hb dX12_layMatch_213 (lv_at hl 3 rfl) ?_
              refine lv_ior hx hb dX12_layMatch_215 ?_
              refine lv_topi (fun x_31632 ex_31632 => ?_)
              obtain rfl : x_31628 = x_31632 := ex_31628.trans ex_31632.symm
              refine lv_iload hx hb dX12_layMatch_216 (lv_at hl 1 rfl) ?_
              refine va_iast hx hb hKN.1 hP hD hS 3 1 rfl rfl (vp_in_iff.mpr ⟨by omega, by omega⟩) dX12_layMatch_218 (fun H locs hP hD hS => ?_)
              have hP : va_P D vwCl [(h0, .inr (12, [.int m_thrown, .ref m_qworld, .ref m_qimages, .ref m_qhasImage, .ref m_qtape, .int m_taped, .ref m_qfive, .int m_size, .int m_at, .int m_from, .int m_token, .int m_value, .int m_faultKind, .int m_faultPlace, .ref m_qfresh, .int m_startOne, .int m_startOther, .int m_latest, .int m_leftBeats, .int m_signed, .int m_metMany, .ref m_qsums, .ref m_qpairs, .ref m_qgoesWith, .ref m_qsaid, .int m_saidMany, .int m_firstWait, .ref m_qfirstOrder, .int m_bundleFirst, .ref m_qtiredBy, .int m_tiredMany, .ref m_qmany, .ref m_qwidth, .ref m_qnumbers, .ref m_qmoving])), (m_qworld, .inl (cA 1, 122, .inl m_cworld)), (m_qsums, .inl (cA 1, 2304, .inl f_31630)), (m_qpairs, .inl (cA 1, 2304, .inl (upd F2_30534 x_31628.toNatClampNeg L6_31609)))] H := hP
              have hD : va_D A [(h0, .inr (12, [.int m_thrown, .ref m_qworld, .ref m_qimages, .ref m_qhasImage, .ref m_qtape, .int m_taped, .ref m_qfive, .int m_size, .int m_at, .int m_from, .int m_token, .int m_value, .int m_faultKind, .int m_faultPlace, .ref m_qfresh, .int m_startOne, .int m_startOther, .int m_latest, .int m_leftBeats, .int m_signed, .int m_metMany, .ref m_qsums, .ref m_qpairs, .ref m_qgoesWith, .ref m_qsaid, .int m_saidMany, .int m_firstWait, .ref m_qfirstOrder, .int m_bundleFirst, .ref m_qtiredBy, .int m_tiredMany, .ref m_qmany, .ref m_qwidth, .ref m_qnumbers, .ref m_qmoving])), (m_qworld, .inl (cA 1, 122, .inl m_cworld)), (m_qsums, .inl (cA 1, 2304, .inl f_31630)), (m_qpairs, .inl (cA 1, 2304, .inl (upd F2_30534 x_31628.toNatClampNeg L6_31609)))] := hD
              generalize ef_31633 : (upd F2_30534 x_31628.toNatClampNeg L6_31609) = f_31633 at hP hD
              obtain ⟨x_31634, ex_31634⟩ : ∃ y : Int32, L4_30534 + Int32.ofInt 1 = y := ⟨_, rfl⟩
              have k_31635 := ar_add (b := 1) rfl zi_1 ex_31634.symm (by omega) (by omega)
              refine lv_iinc (v := x_31634) (lv' := [(4, .int x_31634), (7, .int L7_31609), (6, .int L6_31609), (5, .int L5_31609), (3, .int L3_23756), (2, .int (m_cworld 4)), (0, .ref h0), (1, .int p0)]) hx hb dX12_layMatch_219 hl (k := 3) rfl ex_31634 (by decide) rfl (fun ls hl => ?_)
              refine lv_goto (tgt := 16) hx hb dX12_layMatch_222 (by decide) ?_
              have hb_31636 : ZQ f_31633 L3_23756.toInt x_31634.toInt (m_cworld 4).toInt.toNat := by
                have kc : x_31628.toNatClampNeg = x_31628.toInt.toNat := rfl
                rw [← ef_31633]; exact ZQ.step k1_30534 (by omega) (by omega) (by omega)
              exact ih_30534 (x_31634, f_31630, f_31633) _ _ _ ⟨(show 0 ≤ x_31634.toInt ∧ x_31634.toInt ≤ 256 from by omega), hb_31636, hP.sub [0, 1, 2, 3] rfl, hD.sub [0, 1, 2, 3] (by decide) rfl, hS, lv_sub hl [0, 4, 5, 6, 7] rfl⟩ (by show (2147483647 - x_31634.toInt).toNat < (2147483647 - L4_30534.toInt).toNat; omega)
            · skip
              have k_31637 := kk_nle rfl rfl c_31624
              refine lv_aload_n hx hb dX12_layMatch_83 rfl (lv_at hl 6 rfl) ?_
              refine lv_iload_n hx hb dX12_layMatch_84 rfl (lv_at hl 4 rfl) ?_
              refine lv_iconst (v := 0) hx hb dX12_layMatch_85 (by decide) ?_
              have z_31638 := zi_0
              refine cpVi (rest := []) ⟨hx, hb, hml, hown, hts⟩ hKN (hP.sub (ws' := [(h0, .inr (12, [.int m_thrown, .ref m_qworld, .ref m_qimages, .ref m_qhasImage, .ref m_qtape, .int m_taped, .ref m_qfive, .int m_size, .int m_at, .int m_from, .int m_token, .int m_value, .int m_faultKind, .int m_faultPlace, .ref m_qfresh, .int m_startOne, .int m_startOther, .int m_latest, .int m_leftBeats, .int m_signed, .int m_metMany, .ref m_qsums, .ref m_qpairs, .ref m_qgoesWith, .ref m_qsaid, .int m_saidMany, .int m_firstWait, .ref m_qfirstOrder, .int m_bundleFirst, .ref m_qtiredBy, .int m_tiredMany, .ref m_qmany, .ref m_qwidth, .ref m_qnumbers, .ref m_qmoving])), (m_qworld, .inl (cA 1, 122, .inl m_cworld))]) [0, 1] rfl) (g_X12_of l D cA h0 m_thrown m_qworld m_qimages m_qhasImage m_qtape m_taped m_qfive m_size m_at m_from m_token m_value m_faultKind m_faultPlace m_qfresh m_startOne m_startOther m_latest m_leftBeats m_signed m_metMany m_qsums m_qpairs m_qgoesWith m_qsaid m_saidMany m_firstWait m_qfirstOrder m_bundleFirst m_qtiredBy m_tiredMany m_qmany m_qwidth m_qnumbers m_qmoving m_cworld L3_23756 0 (by omega) (by omega) (by omega) (by omega) (by omega) (by omega) (by omega) (by decide) a_m_cworld_0) (tb_V tw_1640 tw_1642 tw_50 tw_114 tw_1643) hdX12_of ⟨rfl, rfl, Nat.le_of_ble_eq_true rfl, Nat.le_of_ble_eq_true rfl⟩ ⟨Nat.le_of_ble_eq_true rfl, Nat.le_of_ble_eq_true rfl⟩ rfl rfl rfl hl.1 rfl (Nat.le_of_ble_eq_true rfl) dX12_layMatch_86 (fun r_31639 hr_31639 => ?_)
              obtain ⟨k_31639_0_0, k_31639_0_1⟩ := hr_31639
              refine lv_if_ne (tgt := 185) hx hb dX12_layMatch_89 (by decide) (fun c_31640 => ?_) (fun c_31640 => ?_)
              · skip
                have k_31641 := kk_ne rfl zi_0 c_31640
                obtain ⟨x_31642, ex_31642⟩ : ∃ y : Int32, L7_31609 + Int32.ofInt 1 = y := ⟨_, rfl⟩
                have k_31643 := ar_add (b := 1) rfl zi_1 ex_31642.symm (by omega) (by omega)
                refine lv_iinc (v := x_31642) (lv' := [(7, .int x_31642), (6, .int L6_31609), (5, .int L5_31609), (4, .int L4_30534), (3, .int L3_23756), (2, .int (m_cworld 4)), (0, .ref h0), (1, .int p0)]) hx hb dX12_layMatch_185 hl (k := 0) rfl ex_31642 (by decide) rfl (fun ls hl => ?_)
                refine lv_goto (tgt := 72) hx hb dX12_layMatch_188 (by decide) ?_
                exact ih_31609 (x_31642, L6_31609, L5_31609) _ _ _ ⟨(show 0 ≤ x_31642.toInt ∧ x_31642.toInt ≤ 8 from by omega), (show 0 ≤ L6_31609.toInt ∧ L6_31609.toInt ≤ 0 from by omega), (show 0 ≤ L5_31609.toInt from by omega), hP.sub [0, 1, 2, 3] rfl, hD.sub [0, 1, 2, 3] (by decide) rfl, hS, lv_sub hl [0, 1, 2, 3, 4, 5, 6, 7] rfl⟩ (by show (2147483647 - x_31642.toInt).toNat < (2147483647 - L7_31609.toInt).toNat; omega)
              · skip
                have k_31644 := kk_eq rfl zi_0 c_31640
                refine lv_aload_n hx hb dX12_layMatch_92 rfl (lv_at hl 6 rfl) ?_
                refine lv_iload hx hb dX12_layMatch_93 (lv_at hl 0 rfl) ?_
                refine lv_iconst (v := 0) hx hb dX12_layMatch_95 (by decide) ?_
                refine cpVi (rest := []) ⟨hx, hb, hml, hown, hts⟩ hKN (hP.sub (ws' := [(h0, .inr (12, [.int m_thrown, .ref m_qworld, .ref m_qimages, .ref m_qhasImage, .ref m_qtape, .int m_taped, .ref m_qfive, .int m_size, .int m_at, .int m_from, .int m_token, .int m_value, .int m_faultKind, .int m_faultPlace, .ref m_qfresh, .int m_startOne, .int m_startOther, .int m_latest, .int m_leftBeats, .int m_signed, .int m_metMany, .ref m_qsums, .ref m_qpairs, .ref m_qgoesWith, .ref m_qsaid, .int m_saidMany, .int m_firstWait, .ref m_qfirstOrder, .int m_bundleFirst, .ref m_qtiredBy, .int m_tiredMany, .ref m_qmany, .ref m_qwidth, .ref m_qnumbers, .ref m_qmoving])), (m_qworld, .inl (cA 1, 122, .inl m_cworld))]) [0, 1] rfl) (g_X12_of l D cA h0 m_thrown m_qworld m_qimages m_qhasImage m_qtape m_taped m_qfive m_size m_at m_from m_token m_value m_faultKind m_faultPlace m_qfresh m_startOne m_startOther m_latest m_leftBeats m_signed m_metMany m_qsums m_qpairs m_qgoesWith m_qsaid m_saidMany m_firstWait m_qfirstOrder m_bundleFirst m_qtiredBy m_tiredMany m_qmany m_qwidth m_qnumbers m_qmoving m_cworld L7_31609 0 (by omega) (by omega) (by omega) (by omega) (by omega) (by omega) (by omega) (by decide) a_m_cworld_0) (tb_V tw_1640 tw_1642 tw_50 tw_114 tw_1643) hdX12_of ⟨rfl, rfl, Nat.le_of_ble_eq_true rfl, Nat.le_of_ble_eq_true rfl⟩ ⟨Nat.le_of_ble_eq_true rfl, Nat.le_of_ble_eq_true rfl⟩ rfl rfl rfl hl.1 rfl (Nat.le_of_ble_eq_true rfl) dX12_layMatch_96 (fun r_31645 hr_31645 => ?_)
                obtain ⟨k_31645_0_0, k_31645_0_1⟩ := hr_31645
                refine lv_iconst (v := 1) hx hb dX12_layMatch_99 (by decide) ?_
                refine lv_icmp_ne (tgt := 185) hx hb dX12_layMatch_100 (by decide) (fun c_31646 => ?_) (fun c_31646 => ?_)
                · skip
                  have k_31647 := kk_ne rfl zi_1 c_31646
                  obtain ⟨x_31648, ex_31648⟩ : ∃ y : Int32, L7_31609 + Int32.ofInt 1 = y := ⟨_, rfl⟩
                  have k_31649 := ar_add (b := 1) rfl zi_1 ex_31648.symm (by omega) (by omega)
                  refine lv_iinc (v := x_31648) (lv' := [(7, .int x_31648), (6, .int L6_31609), (5, .int L5_31609), (4, .int L4_30534), (3, .int L3_23756), (2, .int (m_cworld 4)), (0, .ref h0), (1, .int p0)]) hx hb dX12_layMatch_185 hl (k := 0) rfl ex_31648 (by decide) rfl (fun ls hl => ?_)
                  refine lv_goto (tgt := 72) hx hb dX12_layMatch_188 (by decide) ?_
                  exact ih_31609 (x_31648, L6_31609, L5_31609) _ _ _ ⟨(show 0 ≤ x_31648.toInt ∧ x_31648.toInt ≤ 8 from by omega), (show 0 ≤ L6_31609.toInt ∧ L6_31609.toInt ≤ 0 from by omega), (show 0 ≤ L5_31609.toInt from by omega), hP.sub [0, 1, 2, 3] rfl, hD.sub [0, 1, 2, 3] (by decide) rfl, hS, lv_sub hl [0, 1, 2, 3, 4, 5, 6, 7] rfl⟩ (by show (2147483647 - x_31648.toInt).toNat < (2147483647 - L7_31609.toInt).toNat; omega)
                · skip
                  have k_31650 := kk_eq rfl zi_1 c_31646
                  refine lv_iload hx hb dX12_layMatch_103 (lv_at hl 3 rfl) ?_
                  refine lv_iload hx hb dX12_layMatch_105 (lv_at hl 0 rfl) ?_
                  refine cpSi (rest := []) ⟨hx, hb, hml, hown, hts⟩ hKN (hP.sub (ws' := []) [] rfl) (g_X12_bit l D cA L4_30534 L7_31609) (tb_S tw_1807 tw_1808 tw_114 tw_1809) hdX12_bit ⟨rfl, rfl, Nat.le_of_ble_eq_true rfl, Nat.le_of_ble_eq_true rfl⟩ ⟨Nat.le_of_ble_eq_true rfl, Nat.le_of_ble_eq_true rfl⟩ rfl hl.1 rfl (Nat.le_of_ble_eq_true rfl) dX12_layMatch_107 (fun r_31651 hr_31651 => ?_)
                  refine lv_iconst (v := 1) hx hb dX12_layMatch_110 (by decide) ?_
                  refine lv_icmp_ne (tgt := 117) hx hb dX12_layMatch_111 (by decide) (fun c_31652 => ?_) (fun c_31652 => ?_)
                  · skip
                    have k_31653 := kk_ne rfl zi_1 c_31652
                    refine lv_iload hx hb dX12_layMatch_117 (lv_at hl 2 rfl) ?_
                    refine lv_aload_n hx hb dX12_layMatch_119 rfl (lv_at hl 6 rfl) ?_
                    refine lv_iload_n hx hb dX12_layMatch_120 rfl (lv_at hl 4 rfl) ?_
                    refine lv_iload hx hb dX12_layMatch_121 (lv_at hl 0 rfl) ?_
                    refine cpVi (rest := [.int L5_31609]) ⟨hx, hb, hml, hown, hts⟩ hKN (hP.sub (ws' := [(h0, .inr (12, [.int m_thrown, .ref m_qworld, .ref m_qimages, .ref m_qhasImage, .ref m_qtape, .int m_taped, .ref m_qfive, .int m_size, .int m_at, .int m_from, .int m_token, .int m_value, .int m_faultKind, .int m_faultPlace, .ref m_qfresh, .int m_startOne, .int m_startOther, .int m_latest, .int m_leftBeats, .int m_signed, .int m_metMany, .ref m_qsums, .ref m_qpairs, .ref m_qgoesWith, .ref m_qsaid, .int m_saidMany, .int m_firstWait, .ref m_qfirstOrder, .int m_bundleFirst, .ref m_qtiredBy, .int m_tiredMany, .ref m_qmany, .ref m_qwidth, .ref m_qnumbers, .ref m_qmoving])), (m_qworld, .inl (cA 1, 122, .inl m_cworld))]) [0, 1] rfl) (g_X12_holdOf_z l D cA h0 m_thrown m_qworld m_qimages m_qhasImage m_qtape m_taped m_qfive m_size m_at m_from m_token m_value m_faultKind m_faultPlace m_qfresh m_startOne m_startOther m_latest m_leftBeats m_signed m_metMany m_qsums m_qpairs m_qgoesWith m_qsaid m_saidMany m_firstWait m_qfirstOrder m_bundleFirst m_qtiredBy m_tiredMany m_qmany m_qwidth m_qnumbers m_qmoving m_cworld L3_23756 L7_31609 (by omega) (by omega) (by omega) (by omega) (by omega) (by omega) (by omega) (by omega) a_m_cworld_0) (tb_V tw_1700 tw_1702 tw_63 tw_114 tw_1703) hdX12_holdOf ⟨rfl, rfl, Nat.le_of_ble_eq_true rfl, Nat.le_of_ble_eq_true rfl⟩ ⟨Nat.le_of_ble_eq_true rfl, Nat.le_of_ble_eq_true rfl⟩ rfl rfl rfl hl.1 rfl (Nat.le_of_ble_eq_true rfl) dX12_layMatch_123 (fun r_31654 hr_31654 => ?_)
                    refine lv_aload_n hx hb dX12_layMatch_126 rfl (lv_at hl 6 rfl) ?_
                    refine lv_iload_n hx hb dX12_layMatch_127 rfl (lv_at hl 4 rfl) ?_
                    refine lv_iconst (v := 1) hx hb dX12_layMatch_128 (by decide) ?_
                    refine lv_iadd hx hb dX12_layMatch_129 ?_
                    refine lv_topi (fun x_31655 ex_31655 => ?_)
                    have k_31656 := ar_add rfl zi_1 ex_31655 (by omega) (by omega)
                    refine lv_iload hx hb dX12_layMatch_130 (lv_at hl 3 rfl) ?_
                    refine lv_iconst (v := 1) hx hb dX12_layMatch_132 (by decide) ?_
                    refine lv_iload hx hb dX12_layMatch_133 (lv_at hl 0 rfl) ?_
                    refine lv_ishl hx hb dX12_layMatch_135 ?_
                    refine lv_topi (fun x_31657 ex_31657 => ?_)
                    have k_31658 := ar_shl1 ex_31657 (by omega) (by omega)
                    refine lv_ior hx hb dX12_layMatch_136 ?_
                    refine lv_topi (fun x_31659 ex_31659 => ?_)
                    have k_31660 := ar_or (n := 8) (M := 256) rfl rfl ex_31659 (by decide) (by decide) (by omega) (by omega)
                    refine cpVi (rest := [.int r_31654, .int L5_31609]) ⟨hx, hb, hml, hown, hts⟩ hKN (hP.sub (ws' := [(h0, .inr (12, [.int m_thrown, .ref m_qworld, .ref m_qimages, .ref m_qhasImage, .ref m_qtape, .int m_taped, .ref m_qfive, .int m_size, .int m_at, .int m_from, .int m_token, .int m_value, .int m_faultKind, .int m_faultPlace, .ref m_qfresh, .int m_startOne, .int m_startOther, .int m_latest, .int m_leftBeats, .int m_signed, .int m_metMany, .ref m_qsums, .ref m_qpairs, .ref m_qgoesWith, .ref m_qsaid, .int m_saidMany, .int m_firstWait, .ref m_qfirstOrder, .int m_bundleFirst, .ref m_qtiredBy, .int m_tiredMany, .ref m_qmany, .ref m_qwidth, .ref m_qnumbers, .ref m_qmoving])), (m_qsums, .inl (cA 1, 2304, .inl F1_30534))]) [0, 2] rfl) (g_X12_sumFrom l D cA h0 m_thrown m_qworld m_qimages m_qhasImage m_qtape m_taped m_qfive m_size m_at m_from m_token m_value m_faultKind m_faultPlace m_qfresh m_startOne m_startOther m_latest m_leftBeats m_signed m_metMany m_qsums m_qpairs m_qgoesWith m_qsaid m_saidMany m_firstWait m_qfirstOrder m_bundleFirst m_qtiredBy m_tiredMany m_qmany m_qwidth m_qnumbers m_qmoving F1_30534 x_31655 x_31659 (by omega) (by omega) (by omega) (by omega) (by omega) (by omega) (by omega) (by omega)) (tb_V tw_1803 tw_1805 tw_71 tw_114 tw_1806) hdX12_sumFrom ⟨rfl, rfl, Nat.le_of_ble_eq_true rfl, Nat.le_of_ble_eq_true rfl⟩ ⟨Nat.le_of_ble_eq_true rfl, Nat.le_of_ble_eq_true rfl⟩ rfl rfl rfl hl.1 rfl (Nat.le_of_ble_eq_true rfl) dX12_layMatch_137 (fun r_31661 hr_31661 => ?_)
                    refine lv_iadd hx hb dX12_layMatch_140 ?_
                    refine lv_topi (fun x_31662 ex_31662 => ?_)
                    refine cpSi (rest := []) ⟨hx, hb, hml, hown, hts⟩ hKN (hP.sub (ws' := []) [] rfl) (g_J9_max_7cf53 l D cA L5_31609 x_31662) (tb_S tw_1735 tw_779 tw_115 tw_780) hdJ9_max_7cf53 ⟨rfl, rfl, Nat.le_of_ble_eq_true rfl, Nat.le_of_ble_eq_true rfl⟩ ⟨Nat.le_of_ble_eq_true rfl, Nat.le_of_ble_eq_true rfl⟩ rfl hl.1 rfl (Nat.le_of_ble_eq_true rfl) dX12_layMatch_141 (fun r_31664 hr_31664 => ?_)
                    obtain ⟨k_31664_0_0, k_31664_0_1, k_31664_0_2⟩ := hr_31664
                    refine lv_istore (lv' := [(5, .int r_31664), (7, .int L7_31609), (6, .int L6_31609), (4, .int L4_30534), (3, .int L3_23756), (2, .int (m_cworld 4)), (0, .ref h0), (1, .int p0)]) hx hb dX12_layMatch_144 hl (by decide) rfl (fun ls hl => ?_)
                    refine lv_aload_n hx hb dX12_layMatch_146 rfl (lv_at hl 6 rfl) ?_
                    refine lv_iload_n hx hb dX12_layMatch_147 rfl (lv_at hl 4 rfl) ?_
                    refine lv_iload hx hb dX12_layMatch_148 (lv_at hl 1 rfl) ?_
                    refine cpVi (rest := []) ⟨hx, hb, hml, hown, hts⟩ hKN (hP.sub (ws' := [(h0, .inr (12, [.int m_thrown, .ref m_qworld, .ref m_qimages, .ref m_qhasImage, .ref m_qtape, .int m_taped, .ref m_qfive, .int m_size, .int m_at, .int m_from, .int m_token, .int m_value, .int m_faultKind, .int m_faultPlace, .ref m_qfresh, .int m_startOne, .int m_startOther, .int m_latest, .int m_leftBeats, .int m_signed, .int m_metMany, .ref m_qsums, .ref m_qpairs, .ref m_qgoesWith, .ref m_qsaid, .int m_saidMany, .int m_firstWait, .ref m_qfirstOrder, .int m_bundleFirst, .ref m_qtiredBy, .int m_tiredMany, .ref m_qmany, .ref m_qwidth, .ref m_qnumbers, .ref m_qmoving])), (m_qworld, .inl (cA 1, 122, .inl m_cworld))]) [0, 1] rfl) (g_X12_holdOf_z l D cA h0 m_thrown m_qworld m_qimages m_qhasImage m_qtape m_taped m_qfive m_size m_at m_from m_token m_value m_faultKind m_faultPlace m_qfresh m_startOne m_startOther m_latest m_leftBeats m_signed m_metMany m_qsums m_qpairs m_qgoesWith m_qsaid m_saidMany m_firstWait m_qfirstOrder m_bundleFirst m_qtiredBy m_tiredMany m_qmany m_qwidth m_qnumbers m_qmoving m_cworld L3_23756 L7_31609 (by omega) (by omega) (by omega) (by omega) (by omega) (by omega) (by omega) (by omega) a_m_cworld_0) (tb_V tw_1700 tw_1702 tw_63 tw_114 tw_1703) hdX12_holdOf ⟨rfl, rfl, Nat.le_of_ble_eq_true rfl, Nat.le_of_ble_eq_true rfl⟩ ⟨Nat.le_of_ble_eq_true rfl, Nat.le_of_ble_eq_true rfl⟩ rfl rfl rfl hl.1 rfl (Nat.le_of_ble_eq_true rfl) dX12_layMatch_150 (fun r_31665 hr_31665 => ?_)
                    refine lv_iload_n hx hb dX12_layMatch_153 rfl (lv_at hl 7 rfl) ?_
                    refine lv_icmp_lt (tgt := 185) hx hb dX12_layMatch_154 (by decide) (fun c_31666 => ?_) (fun c_31666 => ?_)
                    · skip
                      have k_31667 := kk_lt rfl rfl c_31666
                      obtain ⟨x_31668, ex_31668⟩ : ∃ y : Int32, L7_31609 + Int32.ofInt 1 = y := ⟨_, rfl⟩
                      have k_31669 := ar_add (b := 1) rfl zi_1 ex_31668.symm (by omega) (by omega)
                      refine lv_iinc (v := x_31668) (lv' := [(7, .int x_31668), (5, .int r_31664), (6, .int L6_31609), (4, .int L4_30534), (3, .int L3_23756), (2, .int (m_cworld 4)), (0, .ref h0), (1, .int p0)]) hx hb dX12_layMatch_185 hl (k := 1) rfl ex_31668 (by decide) rfl (fun ls hl => ?_)
                      refine lv_goto (tgt := 72) hx hb dX12_layMatch_188 (by decide) ?_
                      exact ih_31609 (x_31668, L6_31609, r_31664) _ _ _ ⟨(show 0 ≤ x_31668.toInt ∧ x_31668.toInt ≤ 8 from by omega), (show 0 ≤ L6_31609.toInt ∧ L6_31609.toInt ≤ 0 from by omega), (show 0 ≤ r_31664.toInt from by omega), hP.sub [0, 1, 2, 3] rfl, hD.sub [0, 1, 2, 3] (by decide) rfl, hS, lv_sub hl [0, 2, 1, 3, 4, 5, 6, 7] rfl⟩ (by show (2147483647 - x_31668.toInt).toNat < (2147483647 - L7_31609.toInt).toNat; omega)
                    · skip
                      have k_31670 := kk_nlt rfl rfl c_31666
                      exfalso; omega
                  · skip
                    have k_31671 := kk_eq rfl zi_1 c_31652
                    refine lv_goto (tgt := 185) hx hb dX12_layMatch_114 (by decide) ?_
                    obtain ⟨x_31672, ex_31672⟩ : ∃ y : Int32, L7_31609 + Int32.ofInt 1 = y := ⟨_, rfl⟩
                    have k_31673 := ar_add (b := 1) rfl zi_1 ex_31672.symm (by omega) (by omega)
                    refine lv_iinc (v := x_31672) (lv' := [(7, .int x_31672), (6, .int L6_31609), (5, .int L5_31609), (4, .int L4_30534), (3, .int L3_23756), (2, .int (m_cworld 4)), (0, .ref h0), (1, .int p0)]) hx hb dX12_layMatch_185 hl (k := 0) rfl ex_31672 (by decide) rfl (fun ls hl => ?_)
                    refine lv_goto (tgt := 72) hx hb dX12_layMatch_188 (by decide) ?_
                    exact ih_31609 (x_31672, L6_31609, L5_31609) _ _ _ ⟨(show 0 ≤ x_31672.toInt ∧ x_31672.toInt ≤ 8 from by omega), (show 0 ≤ L6_31609.toInt ∧ L6_31609.toInt ≤ 0 from by omega), (show 0 ≤ L5_31609.toInt from by omega), hP.sub [0, 1, 2, 3] rfl, hD.sub [0, 1, 2, 3] (by decide) rfl, hS, lv_sub hl [0, 1, 2, 3, 4, 5, 6, 7] rfl⟩ (by show (2147483647 - x_31672.toInt).toNat < (2147483647 - L7_31609.toInt).toNat; omega)
set_option maxHeartbeats 8000000 in
set_option maxRecDepth 100000 in
theorem g_X12_fair (l : Launch) (D : va_G) (cA : Nat → ClassId) (sz : Nat) (h0 : Nat) (m_thrown : Int32) (m_qworld : Nat) (m_qimages : Nat) (m_qhasImage : Nat) (m_qtape : Nat) (m_taped : Int32) (m_qfive : Nat) (m_size : Int32) (m_at : Int32) (m_from : Int32) (m_token : Int32) (m_value : Int32) (m_faultKind : Int32) (m_faultPlace : Int32) (m_qfresh : Nat) (m_startOne : Int32) (m_startOther : Int32) (m_latest : Int32) (m_leftBeats : Int32) (m_signed : Int32) (m_metMany : Int32) (m_qsums : Nat) (m_qpairs : Nat) (m_qgoesWith : Nat) (m_qsaid : Nat) (m_saidMany : Int32) (m_firstWait : Int32) (m_qfirstOrder : Nat) (m_bundleFirst : Int32) (m_qtiredBy : Nat) (m_tiredMany : Int32) (m_qmany : Nat) (m_qwidth : Nat) (m_qnumbers : Nat) (m_qmoving : Nat) (m_cworld : Nat → Int32) (m_csums : Nat → Int32) (m_cpairs : Nat → Int32) (h_m_taped : 0 ≤ (m_taped : Int32).toInt ∧ (m_taped : Int32).toInt ≤ 800) (h_m_size : 0 ≤ (m_size : Int32).toInt ∧ (m_size : Int32).toInt ≤ 800) (h_m_at : 0 ≤ (m_at : Int32).toInt ∧ (m_at : Int32).toInt ≤ 800) (h_m_from : 0 ≤ (m_from : Int32).toInt ∧ (m_from : Int32).toInt ≤ 800) (h_m_saidMany : 0 ≤ (m_saidMany : Int32).toInt ∧ (m_saidMany : Int32).toInt ≤ 60) (h_m_tiredMany : 0 ≤ (m_tiredMany : Int32).toInt ∧ (m_tiredMany : Int32).toInt ≤ 240) (a_m_cworld_0 : WI m_cworld) : Met l yX12_fair (Cond.code yX12_fair cX12_fair 3 (some .int) :: TB) (rmd 5 0 0) (PM D cA sz [(h0, .inr (12, [.int m_thrown, .ref m_qworld, .ref m_qimages, .ref m_qhasImage, .ref m_qtape, .int m_taped, .ref m_qfive, .int m_size, .int m_at, .int m_from, .int m_token, .int m_value, .int m_faultKind, .int m_faultPlace, .ref m_qfresh, .int m_startOne, .int m_startOther, .int m_latest, .int m_leftBeats, .int m_signed, .int m_metMany, .ref m_qsums, .ref m_qpairs, .ref m_qgoesWith, .ref m_qsaid, .int m_saidMany, .int m_firstWait, .ref m_qfirstOrder, .int m_bundleFirst, .ref m_qtiredBy, .int m_tiredMany, .ref m_qmany, .ref m_qwidth, .ref m_qnumbers, .ref m_qmoving])), (m_qworld, .inl (cA 1, 122, .inl m_cworld)), (m_qsums, .inl (cA 1, 2304, .inl m_csums)), (m_qpairs, .inl (cA 1, 2304, .inl m_cpairs))] [.ref h0]) (va_Qi (fun r (u : SU) => (-2 ≤ r.toInt ∧ r.toInt ≤ 60)) (fun u t => va_P D vwCl [(h0, .inr (12, [.int m_thrown, .ref m_qworld, .ref m_qimages, .ref m_qhasImage, .ref m_qtape, .int m_taped, .ref m_qfive, .int m_size, .int m_at, .int m_from, .int m_token, .int m_value, .int m_faultKind, .int m_faultPlace, .ref m_qfresh, .int m_startOne, .int m_startOther, .int m_latest, .int m_leftBeats, .int m_signed, .int m_metMany, .ref m_qsums, .ref m_qpairs, .ref m_qgoesWith, .ref m_qsaid, .int m_saidMany, .int m_firstWait, .ref m_qfirstOrder, .int m_bundleFirst, .ref m_qtiredBy, .int m_tiredMany, .ref m_qmany, .ref m_qwidth, .ref m_qnumbers, .ref m_qmoving])), (m_qworld, .inl (cA 1, 122, .inl m_cworld)), (m_qsums, .inl (cA 1, 2304, .inl (u.2.2.1 0))), (m_qpairs, .inl (cA 1, 2304, .inl (u.2.2.1 1)))] t.heap ∧ va_D (va_A [(h0, .inr (12, [.int m_thrown, .ref m_qworld, .ref m_qimages, .ref m_qhasImage, .ref m_qtape, .int m_taped, .ref m_qfive, .int m_size, .int m_at, .int m_from, .int m_token, .int m_value, .int m_faultKind, .int m_faultPlace, .ref m_qfresh, .int m_startOne, .int m_startOther, .int m_latest, .int m_leftBeats, .int m_signed, .int m_metMany, .ref m_qsums, .ref m_qpairs, .ref m_qgoesWith, .ref m_qsaid, .int m_saidMany, .int m_firstWait, .ref m_qfirstOrder, .int m_bundleFirst, .ref m_qtiredBy, .int m_tiredMany, .ref m_qmany, .ref m_qwidth, .ref m_qnumbers, .ref m_qmoving])), (m_qworld, .inl (cA 1, 122, .inl m_cworld)), (m_qsums, .inl (cA 1, 2304, .inl m_csums)), (m_qpairs, .inl (cA 1, 2304, .inl m_cpairs))] sz) [(h0, .inr (12, [.int m_thrown, .ref m_qworld, .ref m_qimages, .ref m_qhasImage, .ref m_qtape, .int m_taped, .ref m_qfive, .int m_size, .int m_at, .int m_from, .int m_token, .int m_value, .int m_faultKind, .int m_faultPlace, .ref m_qfresh, .int m_startOne, .int m_startOther, .int m_latest, .int m_leftBeats, .int m_signed, .int m_metMany, .ref m_qsums, .ref m_qpairs, .ref m_qgoesWith, .ref m_qsaid, .int m_saidMany, .int m_firstWait, .ref m_qfirstOrder, .int m_bundleFirst, .ref m_qtiredBy, .int m_tiredMany, .ref m_qmany, .ref m_qwidth, .ref m_qnumbers, .ref m_qmoving])), (m_qworld, .inl (cA 1, 122, .inl m_cworld)), (m_qsums, .inl (cA 1, 2304, .inl (u.2.2.1 0))), (m_qpairs, .inl (cA 1, 2304, .inl (u.2.2.1 1)))]) (va_A [(h0, .inr (12, [.int m_thrown, .ref m_qworld, .ref m_qimages, .ref m_qhasImage, .ref m_qtape, .int m_taped, .ref m_qfive, .int m_size, .int m_at, .int m_from, .int m_token, .int m_value, .int m_faultKind, .int m_faultPlace, .ref m_qfresh, .int m_startOne, .int m_startOther, .int m_latest, .int m_leftBeats, .int m_signed, .int m_metMany, .ref m_qsums, .ref m_qpairs, .ref m_qgoesWith, .ref m_qsaid, .int m_saidMany, .int m_firstWait, .ref m_qfirstOrder, .int m_bundleFirst, .ref m_qtiredBy, .int m_tiredMany, .ref m_qmany, .ref m_qwidth, .ref m_qnumbers, .ref m_qmoving])), (m_qworld, .inl (cA 1, 122, .inl m_cworld)), (m_qsums, .inl (cA 1, 2304, .inl m_csums)), (m_qpairs, .inl (cA 1, 2304, .inl m_cpairs))] sz)) 0 0 (va_A [(h0, .inr (12, [.int m_thrown, .ref m_qworld, .ref m_qimages, .ref m_qhasImage, .ref m_qtape, .int m_taped, .ref m_qfive, .int m_size, .int m_at, .int m_from, .int m_token, .int m_value, .int m_faultKind, .int m_faultPlace, .ref m_qfresh, .int m_startOne, .int m_startOther, .int m_latest, .int m_leftBeats, .int m_signed, .int m_metMany, .ref m_qsums, .ref m_qpairs, .ref m_qgoesWith, .ref m_qsaid, .int m_saidMany, .int m_firstWait, .ref m_qfirstOrder, .int m_bundleFirst, .ref m_qtiredBy, .int m_tiredMany, .ref m_qmany, .ref m_qwidth, .ref m_qnumbers, .ref m_qmoving])), (m_qworld, .inl (cA 1, 122, .inl m_cworld)), (m_qsums, .inl (cA 1, 2304, .inl m_csums)), (m_qpairs, .inl (cA 1, 2304, .inl m_cpairs))] sz) := by
  refine Met.ofW (cc := cX12_fair) (maxL := 3) (ret := (some .int)) (by decide) rfl ?_
  intro p e s m args below meth c s₁ B hml hv
  obtain ⟨rfl, hsz, hP, hKN, hD0⟩ := hv
  have hx := B.exec
  have hb := B.bytes
  have hr := B.returns
  have hts : ∀ w ∈ TB, w.before _ s = true := fun w h => atoms_spec B.pre w (List.mem_cons_of_mem _ h)
  have hown : s.vm.findClass RX12 = some m.cls := findClass_of_methodNamed B.named
  have hlocks := B.notSynchronized
  subst hsz
  have hD := hD0.self (sz := s.heap.size)
  generalize hAe : va_A [(h0, .inr (12, [.int m_thrown, .ref m_qworld, .ref m_qimages, .ref m_qhasImage, .ref m_qtape, .int m_taped, .ref m_qfive, .int m_size, .int m_at, .int m_from, .int m_token, .int m_value, .int m_faultKind, .int m_faultPlace, .ref m_qfresh, .int m_startOne, .int m_startOther, .int m_latest, .int m_leftBeats, .int m_signed, .int m_metMany, .ref m_qsums, .ref m_qpairs, .ref m_qgoesWith, .ref m_qsaid, .int m_saidMany, .int m_firstWait, .ref m_qfirstOrder, .int m_bundleFirst, .ref m_qtiredBy, .int m_tiredMany, .ref m_qmany, .ref m_qwidth, .ref m_qnumbers, .ref m_qmoving])), (m_qworld, .inl (cA 1, 122, .inl m_cworld)), (m_qsums, .inl (cA 1, 2304, .inl m_csums)), (m_qpairs, .inl (cA 1, 2304, .inl m_cpairs))] s.heap.size = A at hD ⊢
  have hA : ∀ q : Nat, s.heap.size ≤ q → A q := fun q h => by rw [← hAe]; exact Or.inr h
  have hS : va_S A s.heap s.heap [] := va_S.rf
  have hl := lv_entry ([.ref h0]) (n := 3) (Nat.le_of_ble_eq_true rfl)
  rw [lg_entry_eq]
  generalize (lg_sl ([.ref h0]) ++ List.replicate (3 - (lg_sl ([.ref h0])).length) Slot.unset).toArray = ls at hl ⊢
  have hl : lv_has ls 3 [(0, .ref h0)] := hl
  refine lv_aload_n hx hb dX12_fair_0 rfl (lv_at hl 0 rfl) ?_
  refine cpVi (rest := []) ⟨hx, hb, hml, hown, hts⟩ hKN (hP.sub (ws' := [(h0, .inr (12, [.int m_thrown, .ref m_qworld, .ref m_qimages, .ref m_qhasImage, .ref m_qtape, .int m_taped, .ref m_qfive, .int m_size, .int m_at, .int m_from, .int m_token, .int m_value, .int m_faultKind, .int m_faultPlace, .ref m_qfresh, .int m_startOne, .int m_startOther, .int m_latest, .int m_leftBeats, .int m_signed, .int m_metMany, .ref m_qsums, .ref m_qpairs, .ref m_qgoesWith, .ref m_qsaid, .int m_saidMany, .int m_firstWait, .ref m_qfirstOrder, .int m_bundleFirst, .ref m_qtiredBy, .int m_tiredMany, .ref m_qmany, .ref m_qwidth, .ref m_qnumbers, .ref m_qmoving])), (m_qworld, .inl (cA 1, 122, .inl m_cworld))]) [0, 1] rfl) (g_X12_isGorge l D cA h0 m_thrown m_qworld m_qimages m_qhasImage m_qtape m_taped m_qfive m_size m_at m_from m_token m_value m_faultKind m_faultPlace m_qfresh m_startOne m_startOther m_latest m_leftBeats m_signed m_metMany m_qsums m_qpairs m_qgoesWith m_qsaid m_saidMany m_firstWait m_qfirstOrder m_bundleFirst m_qtiredBy m_tiredMany m_qmany m_qwidth m_qnumbers m_qmoving m_cworld (by omega) (by omega) (by omega) (by omega) (by omega) (by omega) a_m_cworld_0) (tb_V tw_1664 tw_1666 tw_54 tw_114 tw_1667) hdX12_isGorge ⟨rfl, rfl, Nat.le_of_ble_eq_true rfl, Nat.le_of_ble_eq_true rfl⟩ ⟨Nat.le_of_ble_eq_true rfl, Nat.le_of_ble_eq_true rfl⟩ rfl rfl rfl hl.1 rfl (Nat.le_of_ble_eq_true rfl) dX12_fair_1 (fun r_1 hr_1 => ?_)
  rcases hr_1 with ⟨k_1_0_0, k_1_0_1, k_1_0_2, k_1_0_3, rfl⟩ | rfl
  · skip
    refine lv_if_ne (tgt := 10) hx hb dX12_fair_4 (by decide) (fun c_2 => ?_) (fun c_2 => absurd c_2 (by decide))
    refine lv_aload_n hx hb dX12_fair_10 rfl (lv_at hl 0 rfl) ?_
    refine lv_iconst (v := 0) hx hb dX12_fair_11 (by decide) ?_
    have z_3 := zi_0
    refine cmVv (rest := []) (wsC := [(h0, .inr (12, [.int m_thrown, .ref m_qworld, .ref m_qimages, .ref m_qhasImage, .ref m_qtape, .int m_taped, .ref m_qfive, .int m_size, .int m_at, .int m_from, .int m_token, .int m_value, .int m_faultKind, .int m_faultPlace, .ref m_qfresh, .int m_startOne, .int m_startOther, .int m_latest, .int m_leftBeats, .int m_signed, .int m_metMany, .ref m_qsums, .ref m_qpairs, .ref m_qgoesWith, .ref m_qsaid, .int m_saidMany, .int m_firstWait, .ref m_qfirstOrder, .int m_bundleFirst, .ref m_qtiredBy, .int m_tiredMany, .ref m_qmany, .ref m_qwidth, .ref m_qnumbers, .ref m_qmoving])), (m_qworld, .inl (cA 1, 122, .inl m_cworld)), (m_qsums, .inl (cA 1, 2304, .inl m_csums)), (m_qpairs, .inl (cA 1, 2304, .inl m_cpairs))]) (wr := []) ⟨hx, hb, hml, hown, hts⟩ hKN hP hD hS hA [0, 1, 2, 3] [] rfl rfl (by decide) (by decide) (by decide) (g_X12_layMatch l D cA _ h0 m_thrown m_qworld m_qimages m_qhasImage m_qtape m_taped m_qfive m_size m_at m_from m_token m_value m_faultKind m_faultPlace m_qfresh m_startOne m_startOther m_latest m_leftBeats m_signed m_metMany m_qsums m_qpairs m_qgoesWith m_qsaid m_saidMany m_firstWait m_qfirstOrder m_bundleFirst m_qtiredBy m_tiredMany m_qmany m_qwidth m_qnumbers m_qmoving m_cworld m_csums m_cpairs 0 (by omega) (by omega) (by omega) (by omega) (by omega) (by omega) a_m_cworld_0) (tb_V tw_1799 tw_1801 tw_70 tw_114 tw_1802) hdX12_layMatch ⟨rfl, rfl, Nat.le_of_ble_eq_true rfl, Nat.le_of_ble_eq_true rfl⟩ ⟨Nat.le_of_ble_eq_true rfl, Nat.le_of_ble_eq_true rfl⟩ rfl rfl rfl hl.1 rfl (Nat.le_of_ble_eq_true rfl) dX12_fair_12 (fun u_4 H locs hr_4 hP hD hS => ?_)
    have hP : va_P D vwCl [(h0, .inr (12, [.int m_thrown, .ref m_qworld, .ref m_qimages, .ref m_qhasImage, .ref m_qtape, .int m_taped, .ref m_qfive, .int m_size, .int m_at, .int m_from, .int m_token, .int m_value, .int m_faultKind, .int m_faultPlace, .ref m_qfresh, .int m_startOne, .int m_startOther, .int m_latest, .int m_leftBeats, .int m_signed, .int m_metMany, .ref m_qsums, .ref m_qpairs, .ref m_qgoesWith, .ref m_qsaid, .int m_saidMany, .int m_firstWait, .ref m_qfirstOrder, .int m_bundleFirst, .ref m_qtiredBy, .int m_tiredMany, .ref m_qmany, .ref m_qwidth, .ref m_qnumbers, .ref m_qmoving])), (m_qworld, .inl (cA 1, 122, .inl m_cworld)), (m_qsums, .inl (cA 1, 2304, .inl (u_4.2.2.1 0))), (m_qpairs, .inl (cA 1, 2304, .inl (u_4.2.2.1 1)))] H := hP
    have hD : va_D A [(h0, .inr (12, [.int m_thrown, .ref m_qworld, .ref m_qimages, .ref m_qhasImage, .ref m_qtape, .int m_taped, .ref m_qfive, .int m_size, .int m_at, .int m_from, .int m_token, .int m_value, .int m_faultKind, .int m_faultPlace, .ref m_qfresh, .int m_startOne, .int m_startOther, .int m_latest, .int m_leftBeats, .int m_signed, .int m_metMany, .ref m_qsums, .ref m_qpairs, .ref m_qgoesWith, .ref m_qsaid, .int m_saidMany, .int m_firstWait, .ref m_qfirstOrder, .int m_bundleFirst, .ref m_qtiredBy, .int m_tiredMany, .ref m_qmany, .ref m_qwidth, .ref m_qnumbers, .ref m_qmoving])), (m_qworld, .inl (cA 1, 122, .inl m_cworld)), (m_qsums, .inl (cA 1, 2304, .inl (u_4.2.2.1 0))), (m_qpairs, .inl (cA 1, 2304, .inl (u_4.2.2.1 1)))] := hD
    refine lv_aload_n hx hb dX12_fair_15 rfl (lv_at hl 0 rfl) ?_
    refine va_get (D := D) (ci := 12) (v := .ref m_qpairs) (C := RX12) (T := TX12) (N := 35) hx hb hts inX12 hown hKN.1 hP 0 rfl rfl 22 (by decide) (hts _ tw_1441) (fun _ h9 => h9) rfl dX12_fair_16 ?_
    refine lv_iconst (v := 0) hx hb dX12_fair_19 (by decide) ?_
    refine va_iald hx hb hKN.1 hP 3 1 rfl rfl (by unfold vp_in; decide) dX12_fair_20 ?_
    refine W.eq (g2 := F0 m 21 ls [.int ((u_4.2.2.1 1) 0)]) rfl ?_
    refine lv_istore_n (lv' := [(1, .int ((u_4.2.2.1 1) 0)), (0, .ref h0)]) hx hb dX12_fair_21 rfl hl (by decide) rfl (fun ls hl => ?_)
    refine lv_iload_n hx hb dX12_fair_22 rfl (lv_at hl 0 rfl) ?_
    refine lv_if_ne (tgt := 28) hx hb dX12_fair_23 (by decide) (fun c_5 => ?_) (fun c_5 => ?_)
    · skip
      have b_7 := i32_bd ((u_4.2.2.1 1) 0)
      have k_6 := kk_ne rfl zi_0 c_5
      refine lv_iconst (v := 0) hx hb dX12_fair_28 (by decide) ?_
      refine lv_istore_n (lv' := [(2, .int 0), (1, .int ((u_4.2.2.1 1) 0)), (0, .ref h0)]) hx hb dX12_fair_29 rfl hl (by decide) rfl (fun ls hl => ?_)
      refine loopW (σ := Int32 × (Nat → Int32) × (Nat → Int32)) (fun _ => []) (fun ⟨L2_26, F1_26, F2_26⟩ H locs ls => (0 ≤ L2_26.toInt ∧ L2_26.toInt ≤ 61) ∧ ((F2_26 0).toInt = 0 ∨ L2_26.toInt ≤ 60) ∧ va_P D vwCl [(h0, .inr (12, [.int m_thrown, .ref m_qworld, .ref m_qimages, .ref m_qhasImage, .ref m_qtape, .int m_taped, .ref m_qfive, .int m_size, .int m_at, .int m_from, .int m_token, .int m_value, .int m_faultKind, .int m_faultPlace, .ref m_qfresh, .int m_startOne, .int m_startOther, .int m_latest, .int m_leftBeats, .int m_signed, .int m_metMany, .ref m_qsums, .ref m_qpairs, .ref m_qgoesWith, .ref m_qsaid, .int m_saidMany, .int m_firstWait, .ref m_qfirstOrder, .int m_bundleFirst, .ref m_qtiredBy, .int m_tiredMany, .ref m_qmany, .ref m_qwidth, .ref m_qnumbers, .ref m_qmoving])), (m_qworld, .inl (cA 1, 122, .inl m_cworld)), (m_qsums, .inl (cA 1, 2304, .inl F1_26)), (m_qpairs, .inl (cA 1, 2304, .inl F2_26))] H ∧ va_D A [(h0, .inr (12, [.int m_thrown, .ref m_qworld, .ref m_qimages, .ref m_qhasImage, .ref m_qtape, .int m_taped, .ref m_qfive, .int m_size, .int m_at, .int m_from, .int m_token, .int m_value, .int m_faultKind, .int m_faultPlace, .ref m_qfresh, .int m_startOne, .int m_startOther, .int m_latest, .int m_leftBeats, .int m_signed, .int m_metMany, .ref m_qsums, .ref m_qpairs, .ref m_qgoesWith, .ref m_qsaid, .int m_saidMany, .int m_firstWait, .ref m_qfirstOrder, .int m_bundleFirst, .ref m_qtiredBy, .int m_tiredMany, .ref m_qmany, .ref m_qwidth, .ref m_qnumbers, .ref m_qmoving])), (m_qworld, .inl (cA 1, 122, .inl m_cworld)), (m_qsums, .inl (cA 1, 2304, .inl F1_26)), (m_qpairs, .inl (cA 1, 2304, .inl F2_26))] ∧ va_S A s.heap H locs ∧ lv_has ls 3 [(2, .int L2_26), (1, .int ((u_4.2.2.1 1) 0)), (0, .ref h0)]) (fun ⟨L2_26, F1_26, F2_26⟩ => (2147483647 - L2_26.toInt).toNat) ?_ ((0, (u_4.2.2.1 0), (u_4.2.2.1 1)) : Int32 × (Nat → Int32) × (Nat → Int32)) ⟨(by decide), (show ((u_4.2.2.1 1) 0).toInt = 0 ∨ (0 : Int32).toInt ≤ 60 from by first | omega | decide), hP, hD, hS, hl⟩
      intro x_26 H locs ls hI_26 ih_26
      obtain ⟨L2_26, F1_26, F2_26⟩ := x_26
      obtain ⟨k0_26, k1_26, hP, hD, hS, hl⟩ := hI_26
      have hP : va_P D vwCl [(h0, .inr (12, [.int m_thrown, .ref m_qworld, .ref m_qimages, .ref m_qhasImage, .ref m_qtape, .int m_taped, .ref m_qfive, .int m_size, .int m_at, .int m_from, .int m_token, .int m_value, .int m_faultKind, .int m_faultPlace, .ref m_qfresh, .int m_startOne, .int m_startOther, .int m_latest, .int m_leftBeats, .int m_signed, .int m_metMany, .ref m_qsums, .ref m_qpairs, .ref m_qgoesWith, .ref m_qsaid, .int m_saidMany, .int m_firstWait, .ref m_qfirstOrder, .int m_bundleFirst, .ref m_qtiredBy, .int m_tiredMany, .ref m_qmany, .ref m_qwidth, .ref m_qnumbers, .ref m_qmoving])), (m_qworld, .inl (cA 1, 122, .inl m_cworld)), (m_qsums, .inl (cA 1, 2304, .inl F1_26)), (m_qpairs, .inl (cA 1, 2304, .inl F2_26))] H := hP
      have hD : va_D A [(h0, .inr (12, [.int m_thrown, .ref m_qworld, .ref m_qimages, .ref m_qhasImage, .ref m_qtape, .int m_taped, .ref m_qfive, .int m_size, .int m_at, .int m_from, .int m_token, .int m_value, .int m_faultKind, .int m_faultPlace, .ref m_qfresh, .int m_startOne, .int m_startOther, .int m_latest, .int m_leftBeats, .int m_signed, .int m_metMany, .ref m_qsums, .ref m_qpairs, .ref m_qgoesWith, .ref m_qsaid, .int m_saidMany, .int m_firstWait, .ref m_qfirstOrder, .int m_bundleFirst, .ref m_qtiredBy, .int m_tiredMany, .ref m_qmany, .ref m_qwidth, .ref m_qnumbers, .ref m_qmoving])), (m_qworld, .inl (cA 1, 122, .inl m_cworld)), (m_qsums, .inl (cA 1, 2304, .inl F1_26)), (m_qpairs, .inl (cA 1, 2304, .inl F2_26))] := hD
      have hl : lv_has ls 3 [(2, .int L2_26), (1, .int ((u_4.2.2.1 1) 0)), (0, .ref h0)] := hl
      refine lv_aload_n hx hb dX12_fair_30 rfl (lv_at hl 2 rfl) ?_
      refine va_get (D := D) (ci := 12) (v := .ref m_qpairs) (C := RX12) (T := TX12) (N := 35) hx hb hts inX12 hown hKN.1 hP 0 rfl rfl 22 (by decide) (hts _ tw_1441) (fun _ h9 => h9) rfl dX12_fair_31 ?_
      refine lv_iconst (v := 0) hx hb dX12_fair_34 (by decide) ?_
      refine va_iald hx hb hKN.1 hP 3 1 rfl rfl (by unfold vp_in; decide) dX12_fair_35 ?_
      refine W.eq (g2 := F0 m 36 ls [.int (F2_26 0)]) rfl ?_
      refine lv_iload_n hx hb dX12_fair_36 rfl (lv_at hl 1 rfl) ?_
      refine lv_icmp_ne (tgt := 51) hx hb dX12_fair_37 (by decide) (fun c_27 => ?_) (fun c_27 => ?_)
      · skip
        have b_29 := i32_bd (F2_26 0)
        have k_28 := kk_ne rfl rfl c_27
        refine lv_iload_n hx hb dX12_fair_51 rfl (lv_at hl 0 rfl) ?_
        refine lv_iconst (v := 1) hx hb dX12_fair_52 (by decide) ?_
        refine lv_isub hx hb dX12_fair_53 ?_
        refine lv_topi (fun x_30 ex_30 => ?_)
        have k_31 := ar_sub rfl zi_1 ex_30 (by omega) (by omega)
        have hP9 := hP.sub (ws' := [(h0, .inr (12, [.int m_thrown, .ref m_qworld, .ref m_qimages, .ref m_qhasImage, .ref m_qtape, .int m_taped, .ref m_qfive, .int m_size, .int m_at, .int m_from, .int m_token, .int m_value, .int m_faultKind, .int m_faultPlace, .ref m_qfresh, .int m_startOne, .int m_startOther, .int m_latest, .int m_leftBeats, .int m_signed, .int m_metMany, .ref m_qsums, .ref m_qpairs, .ref m_qgoesWith, .ref m_qsaid, .int m_saidMany, .int m_firstWait, .ref m_qfirstOrder, .int m_bundleFirst, .ref m_qtiredBy, .int m_tiredMany, .ref m_qmany, .ref m_qwidth, .ref m_qnumbers, .ref m_qmoving])), (m_qworld, .inl (cA 1, 122, .inl m_cworld)), (m_qsums, .inl (cA 1, 2304, .inl F1_26)), (m_qpairs, .inl (cA 1, 2304, .inl F2_26))]) [0, 1, 2, 3] rfl
        have hD9 := hD.sub (ws' := [(h0, .inr (12, [.int m_thrown, .ref m_qworld, .ref m_qimages, .ref m_qhasImage, .ref m_qtape, .int m_taped, .ref m_qfive, .int m_size, .int m_at, .int m_from, .int m_token, .int m_value, .int m_faultKind, .int m_faultPlace, .ref m_qfresh, .int m_startOne, .int m_startOther, .int m_latest, .int m_leftBeats, .int m_signed, .int m_metMany, .ref m_qsums, .ref m_qpairs, .ref m_qgoesWith, .ref m_qsaid, .int m_saidMany, .int m_firstWait, .ref m_qfirstOrder, .int m_bundleFirst, .ref m_qtiredBy, .int m_tiredMany, .ref m_qmany, .ref m_qwidth, .ref m_qnumbers, .ref m_qmoving])), (m_qworld, .inl (cA 1, 122, .inl m_cworld)), (m_qsums, .inl (cA 1, 2304, .inl F1_26)), (m_qpairs, .inl (cA 1, 2304, .inl F2_26))]) [0, 1, 2, 3] (by decide) rfl
        exact W.iret (v := x_30) hx hb hr (fun t ht hW => ⟨⟨x_30, ((fun _ => 0), (fun _ => 0), (selF [F1_26, F2_26]), (fun _ _ => 0)), rfl, (show -2 ≤ x_30.toInt ∧ x_30.toInt ≤ 60 from by omega), by rw [ht]; exact hP9, hD9⟩, hS.F ht⟩) hS.2.2 dX12_fair_54
      · skip
        have b_33 := i32_bd (F2_26 0)
        have k_32 := kk_eq rfl rfl c_27
        obtain ⟨x_34, ex_34⟩ : ∃ y : Int32, L2_26 + Int32.ofInt 1 = y := ⟨_, rfl⟩
        have k_35 := ar_add (b := 1) rfl zi_1 ex_34.symm (by omega) (by omega)
        refine lv_iinc (v := x_34) (lv' := [(2, .int x_34), (1, .int ((u_4.2.2.1 1) 0)), (0, .ref h0)]) hx hb dX12_fair_40 hl (k := 0) rfl ex_34 (by decide) rfl (fun ls hl => ?_)
        rcases (by omega : x_34.toInt ≤ 60 ∨ 60 < x_34.toInt) with k_rs | k_rs
        · skip
          refine lv_aload_n hx hb dX12_fair_43 rfl (lv_at hl 2 rfl) ?_
          refine lv_iload_n hx hb dX12_fair_44 rfl (lv_at hl 0 rfl) ?_
          refine cmVv (rest := []) (wsC := [(h0, .inr (12, [.int m_thrown, .ref m_qworld, .ref m_qimages, .ref m_qhasImage, .ref m_qtape, .int m_taped, .ref m_qfive, .int m_size, .int m_at, .int m_from, .int m_token, .int m_value, .int m_faultKind, .int m_faultPlace, .ref m_qfresh, .int m_startOne, .int m_startOther, .int m_latest, .int m_leftBeats, .int m_signed, .int m_metMany, .ref m_qsums, .ref m_qpairs, .ref m_qgoesWith, .ref m_qsaid, .int m_saidMany, .int m_firstWait, .ref m_qfirstOrder, .int m_bundleFirst, .ref m_qtiredBy, .int m_tiredMany, .ref m_qmany, .ref m_qwidth, .ref m_qnumbers, .ref m_qmoving])), (m_qworld, .inl (cA 1, 122, .inl m_cworld)), (m_qsums, .inl (cA 1, 2304, .inl F1_26)), (m_qpairs, .inl (cA 1, 2304, .inl F2_26))]) (wr := []) ⟨hx, hb, hml, hown, hts⟩ hKN hP hD hS hA [0, 1, 2, 3] [] rfl rfl (by decide) (by decide) (by decide) (g_X12_layMatch l D cA _ h0 m_thrown m_qworld m_qimages m_qhasImage m_qtape m_taped m_qfive m_size m_at m_from m_token m_value m_faultKind m_faultPlace m_qfresh m_startOne m_startOther m_latest m_leftBeats m_signed m_metMany m_qsums m_qpairs m_qgoesWith m_qsaid m_saidMany m_firstWait m_qfirstOrder m_bundleFirst m_qtiredBy m_tiredMany m_qmany m_qwidth m_qnumbers m_qmoving m_cworld F1_26 F2_26 x_34 (by omega) (by omega) (by omega) (by omega) (by omega) (by omega) a_m_cworld_0) (tb_V tw_1799 tw_1801 tw_70 tw_114 tw_1802) hdX12_layMatch ⟨rfl, rfl, Nat.le_of_ble_eq_true rfl, Nat.le_of_ble_eq_true rfl⟩ ⟨Nat.le_of_ble_eq_true rfl, Nat.le_of_ble_eq_true rfl⟩ rfl rfl rfl hl.1 rfl (Nat.le_of_ble_eq_true rfl) dX12_fair_45 (fun u_36 H locs hr_36 hP hD hS => ?_)
          have hP : va_P D vwCl [(h0, .inr (12, [.int m_thrown, .ref m_qworld, .ref m_qimages, .ref m_qhasImage, .ref m_qtape, .int m_taped, .ref m_qfive, .int m_size, .int m_at, .int m_from, .int m_token, .int m_value, .int m_faultKind, .int m_faultPlace, .ref m_qfresh, .int m_startOne, .int m_startOther, .int m_latest, .int m_leftBeats, .int m_signed, .int m_metMany, .ref m_qsums, .ref m_qpairs, .ref m_qgoesWith, .ref m_qsaid, .int m_saidMany, .int m_firstWait, .ref m_qfirstOrder, .int m_bundleFirst, .ref m_qtiredBy, .int m_tiredMany, .ref m_qmany, .ref m_qwidth, .ref m_qnumbers, .ref m_qmoving])), (m_qworld, .inl (cA 1, 122, .inl m_cworld)), (m_qsums, .inl (cA 1, 2304, .inl (u_36.2.2.1 0))), (m_qpairs, .inl (cA 1, 2304, .inl (u_36.2.2.1 1)))] H := hP
          have hD : va_D A [(h0, .inr (12, [.int m_thrown, .ref m_qworld, .ref m_qimages, .ref m_qhasImage, .ref m_qtape, .int m_taped, .ref m_qfive, .int m_size, .int m_at, .int m_from, .int m_token, .int m_value, .int m_faultKind, .int m_faultPlace, .ref m_qfresh, .int m_startOne, .int m_startOther, .int m_latest, .int m_leftBeats, .int m_signed, .int m_metMany, .ref m_qsums, .ref m_qpairs, .ref m_qgoesWith, .ref m_qsaid, .int m_saidMany, .int m_firstWait, .ref m_qfirstOrder, .int m_bundleFirst, .ref m_qtiredBy, .int m_tiredMany, .ref m_qmany, .ref m_qwidth, .ref m_qnumbers, .ref m_qmoving])), (m_qworld, .inl (cA 1, 122, .inl m_cworld)), (m_qsums, .inl (cA 1, 2304, .inl (u_36.2.2.1 0))), (m_qpairs, .inl (cA 1, 2304, .inl (u_36.2.2.1 1)))] := hD
          refine lv_goto (tgt := 30) hx hb dX12_fair_48 (by decide) ?_
          exact ih_26 (x_34, (u_36.2.2.1 0), (u_36.2.2.1 1)) _ _ _ ⟨(show 0 ≤ x_34.toInt ∧ x_34.toInt ≤ 61 from by omega), (show ((u_36.2.2.1 1) 0).toInt = 0 ∨ x_34.toInt ≤ 60 from by first | omega | decide), hP.sub [0, 1, 2, 3] rfl, hD.sub [0, 1, 2, 3] (by decide) rfl, hS, lv_sub hl [0, 1, 2] rfl⟩ (by show (2147483647 - x_34.toInt).toNat < (2147483647 - L2_26.toInt).toNat; omega)
        · skip
          refine lv_aload_n hx hb dX12_fair_43 rfl (lv_at hl 2 rfl) ?_
          refine lv_iload_n hx hb dX12_fair_44 rfl (lv_at hl 0 rfl) ?_
          refine cmVv (rest := []) (wsC := [(h0, .inr (12, [.int m_thrown, .ref m_qworld, .ref m_qimages, .ref m_qhasImage, .ref m_qtape, .int m_taped, .ref m_qfive, .int m_size, .int m_at, .int m_from, .int m_token, .int m_value, .int m_faultKind, .int m_faultPlace, .ref m_qfresh, .int m_startOne, .int m_startOther, .int m_latest, .int m_leftBeats, .int m_signed, .int m_metMany, .ref m_qsums, .ref m_qpairs, .ref m_qgoesWith, .ref m_qsaid, .int m_saidMany, .int m_firstWait, .ref m_qfirstOrder, .int m_bundleFirst, .ref m_qtiredBy, .int m_tiredMany, .ref m_qmany, .ref m_qwidth, .ref m_qnumbers, .ref m_qmoving])), (m_qworld, .inl (cA 1, 122, .inl m_cworld)), (m_qsums, .inl (cA 1, 2304, .inl F1_26)), (m_qpairs, .inl (cA 1, 2304, .inl F2_26))]) (wr := []) ⟨hx, hb, hml, hown, hts⟩ hKN hP hD hS hA [0, 1, 2, 3] [] rfl rfl (by decide) (by decide) (by decide) (g_X12_layMatch_h l D cA _ h0 m_thrown m_qworld m_qimages m_qhasImage m_qtape m_taped m_qfive m_size m_at m_from m_token m_value m_faultKind m_faultPlace m_qfresh m_startOne m_startOther m_latest m_leftBeats m_signed m_metMany m_qsums m_qpairs m_qgoesWith m_qsaid m_saidMany m_firstWait m_qfirstOrder m_bundleFirst m_qtiredBy m_tiredMany m_qmany m_qwidth m_qnumbers m_qmoving m_cworld F1_26 F2_26 x_34 (by omega) (by omega) (by omega) (by omega) (by omega) (by omega) (by omega) a_m_cworld_0) (tb_V tw_1799 tw_1801 tw_70 tw_114 tw_1802) hdX12_layMatch ⟨rfl, rfl, Nat.le_of_ble_eq_true rfl, Nat.le_of_ble_eq_true rfl⟩ ⟨Nat.le_of_ble_eq_true rfl, Nat.le_of_ble_eq_true rfl⟩ rfl rfl rfl hl.1 rfl (Nat.le_of_ble_eq_true rfl) dX12_fair_45 (fun u_37 H locs hr_37 hP hD hS => ?_)
          have hP : va_P D vwCl [(h0, .inr (12, [.int m_thrown, .ref m_qworld, .ref m_qimages, .ref m_qhasImage, .ref m_qtape, .int m_taped, .ref m_qfive, .int m_size, .int m_at, .int m_from, .int m_token, .int m_value, .int m_faultKind, .int m_faultPlace, .ref m_qfresh, .int m_startOne, .int m_startOther, .int m_latest, .int m_leftBeats, .int m_signed, .int m_metMany, .ref m_qsums, .ref m_qpairs, .ref m_qgoesWith, .ref m_qsaid, .int m_saidMany, .int m_firstWait, .ref m_qfirstOrder, .int m_bundleFirst, .ref m_qtiredBy, .int m_tiredMany, .ref m_qmany, .ref m_qwidth, .ref m_qnumbers, .ref m_qmoving])), (m_qworld, .inl (cA 1, 122, .inl m_cworld)), (m_qsums, .inl (cA 1, 2304, .inl (u_37.2.2.1 0))), (m_qpairs, .inl (cA 1, 2304, .inl (u_37.2.2.1 1)))] H := hP
          have hD : va_D A [(h0, .inr (12, [.int m_thrown, .ref m_qworld, .ref m_qimages, .ref m_qhasImage, .ref m_qtape, .int m_taped, .ref m_qfive, .int m_size, .int m_at, .int m_from, .int m_token, .int m_value, .int m_faultKind, .int m_faultPlace, .ref m_qfresh, .int m_startOne, .int m_startOther, .int m_latest, .int m_leftBeats, .int m_signed, .int m_metMany, .ref m_qsums, .ref m_qpairs, .ref m_qgoesWith, .ref m_qsaid, .int m_saidMany, .int m_firstWait, .ref m_qfirstOrder, .int m_bundleFirst, .ref m_qtiredBy, .int m_tiredMany, .ref m_qmany, .ref m_qwidth, .ref m_qnumbers, .ref m_qmoving])), (m_qworld, .inl (cA 1, 122, .inl m_cworld)), (m_qsums, .inl (cA 1, 2304, .inl (u_37.2.2.1 0))), (m_qpairs, .inl (cA 1, 2304, .inl (u_37.2.2.1 1)))] := hD
          have hr_37_0 := hr_37
          refine lv_goto (tgt := 30) hx hb dX12_fair_48 (by decide) ?_
          exact ih_26 (x_34, (u_37.2.2.1 0), (u_37.2.2.1 1)) _ _ _ ⟨(show 0 ≤ x_34.toInt ∧ x_34.toInt ≤ 61 from by omega), (show ((u_37.2.2.1 1) 0).toInt = 0 ∨ x_34.toInt ≤ 60 from by first | omega | decide), hP.sub [0, 1, 2, 3] rfl, hD.sub [0, 1, 2, 3] (by decide) rfl, hS, lv_sub hl [0, 1, 2] rfl⟩ (by show (2147483647 - x_34.toInt).toNat < (2147483647 - L2_26.toInt).toNat; omega)
    · skip
      have b_39 := i32_bd ((u_4.2.2.1 1) 0)
      have k_38 := kk_eq rfl zi_0 c_5
      refine lv_iconst (v := 0) hx hb dX12_fair_26 (by decide) ?_
      have hP9 := hP.sub (ws' := [(h0, .inr (12, [.int m_thrown, .ref m_qworld, .ref m_qimages, .ref m_qhasImage, .ref m_qtape, .int m_taped, .ref m_qfive, .int m_size, .int m_at, .int m_from, .int m_token, .int m_value, .int m_faultKind, .int m_faultPlace, .ref m_qfresh, .int m_startOne, .int m_startOther, .int m_latest, .int m_leftBeats, .int m_signed, .int m_metMany, .ref m_qsums, .ref m_qpairs, .ref m_qgoesWith, .ref m_qsaid, .int m_saidMany, .int m_firstWait, .ref m_qfirstOrder, .int m_bundleFirst, .ref m_qtiredBy, .int m_tiredMany, .ref m_qmany, .ref m_qwidth, .ref m_qnumbers, .ref m_qmoving])), (m_qworld, .inl (cA 1, 122, .inl m_cworld)), (m_qsums, .inl (cA 1, 2304, .inl (u_4.2.2.1 0))), (m_qpairs, .inl (cA 1, 2304, .inl (u_4.2.2.1 1)))]) [0, 1, 2, 3] rfl
      have hD9 := hD.sub (ws' := [(h0, .inr (12, [.int m_thrown, .ref m_qworld, .ref m_qimages, .ref m_qhasImage, .ref m_qtape, .int m_taped, .ref m_qfive, .int m_size, .int m_at, .int m_from, .int m_token, .int m_value, .int m_faultKind, .int m_faultPlace, .ref m_qfresh, .int m_startOne, .int m_startOther, .int m_latest, .int m_leftBeats, .int m_signed, .int m_metMany, .ref m_qsums, .ref m_qpairs, .ref m_qgoesWith, .ref m_qsaid, .int m_saidMany, .int m_firstWait, .ref m_qfirstOrder, .int m_bundleFirst, .ref m_qtiredBy, .int m_tiredMany, .ref m_qmany, .ref m_qwidth, .ref m_qnumbers, .ref m_qmoving])), (m_qworld, .inl (cA 1, 122, .inl m_cworld)), (m_qsums, .inl (cA 1, 2304, .inl (u_4.2.2.1 0))), (m_qpairs, .inl (cA 1, 2304, .inl (u_4.2.2.1 1)))]) [0, 1, 2, 3] (by decide) rfl
      exact W.iret (v := 0) hx hb hr (fun t ht hW => ⟨⟨0, ((fun _ => 0), (fun _ => 0), (selF [(u_4.2.2.1 0), (u_4.2.2.1 1)]), (fun _ _ => 0)), rfl, (show -2 ≤ (0 : Int32).toInt ∧ (0 : Int32).toInt ≤ 60 from by decide), by rw [ht]; exact hP9, hD9⟩, hS.F ht⟩) hS.2.2 dX12_fair_27
  · skip
    refine lv_if_ne (tgt := 10) hx hb dX12_fair_4 (by decide) (fun c_40 => absurd (by decide) c_40) (fun c_40 => ?_)
    refine lv_bipush (v := (-2)) hx hb dX12_fair_7 (by decide) ?_
    have hP9 := hP.sub (ws' := [(h0, .inr (12, [.int m_thrown, .ref m_qworld, .ref m_qimages, .ref m_qhasImage, .ref m_qtape, .int m_taped, .ref m_qfive, .int m_size, .int m_at, .int m_from, .int m_token, .int m_value, .int m_faultKind, .int m_faultPlace, .ref m_qfresh, .int m_startOne, .int m_startOther, .int m_latest, .int m_leftBeats, .int m_signed, .int m_metMany, .ref m_qsums, .ref m_qpairs, .ref m_qgoesWith, .ref m_qsaid, .int m_saidMany, .int m_firstWait, .ref m_qfirstOrder, .int m_bundleFirst, .ref m_qtiredBy, .int m_tiredMany, .ref m_qmany, .ref m_qwidth, .ref m_qnumbers, .ref m_qmoving])), (m_qworld, .inl (cA 1, 122, .inl m_cworld)), (m_qsums, .inl (cA 1, 2304, .inl m_csums)), (m_qpairs, .inl (cA 1, 2304, .inl m_cpairs))]) [0, 1, 2, 3] rfl
    have hD9 := hD.sub (ws' := [(h0, .inr (12, [.int m_thrown, .ref m_qworld, .ref m_qimages, .ref m_qhasImage, .ref m_qtape, .int m_taped, .ref m_qfive, .int m_size, .int m_at, .int m_from, .int m_token, .int m_value, .int m_faultKind, .int m_faultPlace, .ref m_qfresh, .int m_startOne, .int m_startOther, .int m_latest, .int m_leftBeats, .int m_signed, .int m_metMany, .ref m_qsums, .ref m_qpairs, .ref m_qgoesWith, .ref m_qsaid, .int m_saidMany, .int m_firstWait, .ref m_qfirstOrder, .int m_bundleFirst, .ref m_qtiredBy, .int m_tiredMany, .ref m_qmany, .ref m_qwidth, .ref m_qnumbers, .ref m_qmoving])), (m_qworld, .inl (cA 1, 122, .inl m_cworld)), (m_qsums, .inl (cA 1, 2304, .inl m_csums)), (m_qpairs, .inl (cA 1, 2304, .inl m_cpairs))]) [0, 1, 2, 3] (by decide) rfl
    exact W.iret (v := (-2)) hx hb hr (fun t ht hW => ⟨⟨(-2), ((fun _ => 0), (fun _ => 0), (selF [m_csums, m_cpairs]), (fun _ _ => 0)), rfl, (show -2 ≤ ((-2) : Int32).toInt ∧ ((-2) : Int32).toInt ≤ 60 from by decide), by rw [ht]; exact hP9, hD9⟩, hS.F ht⟩) hS.2.2 dX12_fair_9

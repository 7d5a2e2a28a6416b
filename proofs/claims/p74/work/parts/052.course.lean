theorem zi_10000 : (10000 : Int32).toInt = 10000 := by decide
set_option maxHeartbeats 8000000 in
set_option maxRecDepth 100000 in
theorem g_X1_lead (l : Launch) (D : va_G) (cA : Nat → ClassId) (sz : Nat) (h0 : Nat) (c_first : Int32) (c_stride : Int32) (g : Nat) (g_odds : Int32) (g_pot : Int32) (g_lines : Int32) (g_men : Int32) (g_clauses : Int32) (g_winds : Int32) (g_far0 : Int32) (g_far1 : Int32) (g_qsides : Nat) (g_qgrips : Nat) (g_qwits : Nat) (g_qsays : Nat) (g_qgives0 : Nat) (g_qgives1 : Nat) (g_qfroms : Nat) (g_qtos : Nat) (p0 : Int32) (p1 : Int32) (h_c_stride : 1 ≤ (c_stride : Int32).toInt ∧ (c_stride : Int32).toInt ≤ 998001) (h_g_odds : -999 ≤ (g_odds : Int32).toInt ∧ (g_odds : Int32).toInt ≤ 999) (h_g_pot : -999 ≤ (g_pot : Int32).toInt ∧ (g_pot : Int32).toInt ≤ 999) (h_g_men : 0 ≤ (g_men : Int32).toInt ∧ (g_men : Int32).toInt ≤ 8) (h_g_clauses : 0 ≤ (g_clauses : Int32).toInt ∧ (g_clauses : Int32).toInt ≤ 7) (h_g_winds : 0 ≤ (g_winds : Int32).toInt ∧ (g_winds : Int32).toInt ≤ 4) (h_g_far0 : -999 ≤ (g_far0 : Int32).toInt ∧ (g_far0 : Int32).toInt ≤ 999) (h_g_far1 : -999 ≤ (g_far1 : Int32).toInt ∧ (g_far1 : Int32).toInt ≤ 999) : Met l yX1_lead (Cond.code yX1_lead cX1_lead 7 none :: TB) (rmd 2 0 0) (PM D cA sz [(h0, .inr (1, [.int c_first, .int c_stride, .ref g])), (g, .inr (3, [.int g_odds, .int g_pot, .int g_lines, .int g_men, .int g_clauses, .int g_winds, .int g_far0, .int g_far1, .ref g_qsides, .ref g_qgrips, .ref g_qwits, .ref g_qsays, .ref g_qgives0, .ref g_qgives1, .ref g_qfroms, .ref g_qtos]))] [.ref h0, .int p0, .int p1]) (va_Qv (fun (u : SU) => (1 ≤ (u.2.1 1).toInt ∧ (u.2.1 1).toInt ≤ 998001)) (fun u t => va_P D vwCl [(h0, .inr (1, [.int (u.2.1 0), .int (u.2.1 1), .ref g])), (g, .inr (3, [.int g_odds, .int g_pot, .int g_lines, .int g_men, .int g_clauses, .int g_winds, .int g_far0, .int g_far1, .ref g_qsides, .ref g_qgrips, .ref g_qwits, .ref g_qsays, .ref g_qgives0, .ref g_qgives1, .ref g_qfroms, .ref g_qtos]))] t.heap ∧ va_D (va_A [(h0, .inr (1, [.int c_first, .int c_stride, .ref g])), (g, .inr (3, [.int g_odds, .int g_pot, .int g_lines, .int g_men, .int g_clauses, .int g_winds, .int g_far0, .int g_far1, .ref g_qsides, .ref g_qgrips, .ref g_qwits, .ref g_qsays, .ref g_qgives0, .ref g_qgives1, .ref g_qfroms, .ref g_qtos]))] sz) [(h0, .inr (1, [.int (u.2.1 0), .int (u.2.1 1), .ref g])), (g, .inr (3, [.int g_odds, .int g_pot, .int g_lines, .int g_men, .int g_clauses, .int g_winds, .int g_far0, .int g_far1, .ref g_qsides, .ref g_qgrips, .ref g_qwits, .ref g_qsays, .ref g_qgives0, .ref g_qgives1, .ref g_qfroms, .ref g_qtos]))]) (va_A [(h0, .inr (1, [.int c_first, .int c_stride, .ref g])), (g, .inr (3, [.int g_odds, .int g_pot, .int g_lines, .int g_men, .int g_clauses, .int g_winds, .int g_far0, .int g_far1, .ref g_qsides, .ref g_qgrips, .ref g_qwits, .ref g_qsays, .ref g_qgives0, .ref g_qgives1, .ref g_qfroms, .ref g_qtos]))] sz)) 0 0 (va_A [(h0, .inr (1, [.int c_first, .int c_stride, .ref g])), (g, .inr (3, [.int g_odds, .int g_pot, .int g_lines, .int g_men, .int g_clauses, .int g_winds, .int g_far0, .int g_far1, .ref g_qsides, .ref g_qgrips, .ref g_qwits, .ref g_qsays, .ref g_qgives0, .ref g_qgives1, .ref g_qfroms, .ref g_qtos]))] sz) := by
  refine Met.ofW (cc := cX1_lead) (maxL := 7) (ret := none) (by decide) rfl ?_
  intro p e s m args below meth c s₁ B hml hv
  obtain ⟨rfl, hsz, hP, hKN, hD0⟩ := hv
  have hx := B.exec
  have hb := B.bytes
  have hr := B.returns
  have hts : ∀ w ∈ TB, w.before _ s = true := fun w h => atoms_spec B.pre w (List.mem_cons_of_mem _ h)
  have hown : s.vm.findClass RX1 = some m.cls := findClass_of_methodNamed B.named
  have hlocks := B.notSynchronized
  subst hsz
  have hD := hD0.self (sz := s.heap.size)
  generalize hAe : va_A [(h0, .inr (1, [.int c_first, .int c_stride, .ref g])), (g, .inr (3, [.int g_odds, .int g_pot, .int g_lines, .int g_men, .int g_clauses, .int g_winds, .int g_far0, .int g_far1, .ref g_qsides, .ref g_qgrips, .ref g_qwits, .ref g_qsays, .ref g_qgives0, .ref g_qgives1, .ref g_qfroms, .ref g_qtos]))] s.heap.size = A at hD ⊢
  have hA : ∀ q : Nat, s.heap.size ≤ q → A q := fun q h => by rw [← hAe]; exact Or.inr h
  have hS : va_S A s.heap s.heap [] := va_S.rf
  have hl := lv_entry ([.ref h0, .int p0, .int p1]) (n := 7) (Nat.le_of_ble_eq_true rfl)
  rw [lg_entry_eq]
  generalize (lg_sl ([.ref h0, .int p0, .int p1]) ++ List.replicate (7 - (lg_sl ([.ref h0, .int p0, .int p1])).length) Slot.unset).toArray = ls at hl ⊢
  have hl : lv_has ls 7 [(0, .ref h0), (1, .int p0), (2, .int p1)] := hl
  refine lv_aload_n hx hb dX1_lead_0 rfl (lv_at hl 0 rfl) ?_
  refine va_get (D := D) (ci := 1) (v := .ref g) (C := RX1) (T := TX1) (N := 3) hx hb hts inX1 hown hKN.1 hP 0 rfl rfl 2 (by decide) (hts _ tw_363) (fun _ h9 => h9) rfl dX1_lead_1 ?_
  refine lv_iconst (v := 0) hx hb dX1_lead_4 (by decide) ?_
  have z_1 := zi_0
  refine cpVi (rest := []) ⟨hx, hb, hml, hown, hts⟩ hKN (hP.sub (ws' := [(g, .inr (3, [.int g_odds, .int g_pot, .int g_lines, .int g_men, .int g_clauses, .int g_winds, .int g_far0, .int g_far1, .ref g_qsides, .ref g_qgrips, .ref g_qwits, .ref g_qsays, .ref g_qgives0, .ref g_qgives1, .ref g_qfroms, .ref g_qtos]))]) [1] rfl) (g_X3_farOf l D cA g g_odds g_pot g_lines g_men g_clauses g_winds g_far0 g_far1 g_qsides g_qgrips g_qwits g_qsays g_qgives0 g_qgives1 g_qfroms g_qtos 0 (by omega) (by omega) (by omega) (by omega) (by omega) (by omega) (by omega)) (tb_V tw_777 tw_755 tw_756 tw_104 tw_757) hdX3_farOf ⟨rfl, rfl, Nat.le_of_ble_eq_true rfl, Nat.le_of_ble_eq_true rfl⟩ ⟨Nat.le_of_ble_eq_true rfl, Nat.le_of_ble_eq_true rfl⟩ rfl rfl rfl hl.1 rfl (Nat.le_of_ble_eq_true rfl) dX1_lead_5 (fun r_2 hr_2 => ?_)
  refine lv_istore_n (lv' := [(3, .int r_2), (0, .ref h0), (1, .int p0), (2, .int p1)]) hx hb dX1_lead_8 rfl hl (by decide) rfl (fun ls hl => ?_)
  refine lv_aload_n hx hb dX1_lead_9 rfl (lv_at hl 1 rfl) ?_
  refine va_get (D := D) (ci := 1) (v := .ref g) (C := RX1) (T := TX1) (N := 3) hx hb hts inX1 hown hKN.1 hP 0 rfl rfl 2 (by decide) (hts _ tw_363) (fun _ h9 => h9) rfl dX1_lead_10 ?_
  refine lv_iconst (v := 1) hx hb dX1_lead_13 (by decide) ?_
  have z_3 := zi_1
  refine cpVi (rest := []) ⟨hx, hb, hml, hown, hts⟩ hKN (hP.sub (ws' := [(g, .inr (3, [.int g_odds, .int g_pot, .int g_lines, .int g_men, .int g_clauses, .int g_winds, .int g_far0, .int g_far1, .ref g_qsides, .ref g_qgrips, .ref g_qwits, .ref g_qsays, .ref g_qgives0, .ref g_qgives1, .ref g_qfroms, .ref g_qtos]))]) [1] rfl) (g_X3_farOf l D cA g g_odds g_pot g_lines g_men g_clauses g_winds g_far0 g_far1 g_qsides g_qgrips g_qwits g_qsays g_qgives0 g_qgives1 g_qfroms g_qtos 1 (by omega) (by omega) (by omega) (by omega) (by omega) (by omega) (by omega)) (tb_V tw_777 tw_755 tw_756 tw_104 tw_757) hdX3_farOf ⟨rfl, rfl, Nat.le_of_ble_eq_true rfl, Nat.le_of_ble_eq_true rfl⟩ ⟨Nat.le_of_ble_eq_true rfl, Nat.le_of_ble_eq_true rfl⟩ rfl rfl rfl hl.1 rfl (Nat.le_of_ble_eq_true rfl) dX1_lead_14 (fun r_4 hr_4 => ?_)
  refine lv_istore (lv' := [(4, .int r_4), (3, .int r_2), (0, .ref h0), (1, .int p0), (2, .int p1)]) hx hb dX1_lead_17 hl (by decide) rfl (fun ls hl => ?_)
  refine lv_aload_n hx hb dX1_lead_19 rfl (lv_at hl 2 rfl) ?_
  refine lv_iconst (v := (-1)) hx hb dX1_lead_20 (by decide) ?_
  refine va_put (D := D) (ci := 1) (v := .int (-1)) (ty := .int) (C := RX1) (T := TX1) (N := 3) hx hb hts inX1 tyX1 tyX1_ok nmX1 hown hKN.1 hP hD hS 0 rfl rfl 0 (by decide) (hts _ tw_360) (fun _ h9 => h9) rfl (by decide +kernel) rfl rfl (Nat.le_of_ble_eq_true rfl) dX1_lead_21 (fun H locs hP hD hS => ?_)
  have hP : va_P D vwCl [(h0, .inr (1, [.int (-1), .int c_stride, .ref g])), (g, .inr (3, [.int g_odds, .int g_pot, .int g_lines, .int g_men, .int g_clauses, .int g_winds, .int g_far0, .int g_far1, .ref g_qsides, .ref g_qgrips, .ref g_qwits, .ref g_qsays, .ref g_qgives0, .ref g_qgives1, .ref g_qfroms, .ref g_qtos]))] H := hP
  have hD : va_D A [(h0, .inr (1, [.int (-1), .int c_stride, .ref g])), (g, .inr (3, [.int g_odds, .int g_pot, .int g_lines, .int g_men, .int g_clauses, .int g_winds, .int g_far0, .int g_far1, .ref g_qsides, .ref g_qgrips, .ref g_qwits, .ref g_qsays, .ref g_qgives0, .ref g_qgives1, .ref g_qfroms, .ref g_qtos]))] := hD
  refine lv_aload_n hx hb dX1_lead_24 rfl (lv_at hl 2 rfl) ?_
  refine lv_iconst (v := 1) hx hb dX1_lead_25 (by decide) ?_
  refine lv_iload_n hx hb dX1_lead_26 rfl (lv_at hl 1 rfl) ?_
  refine lv_iload hx hb dX1_lead_27 (lv_at hl 0 rfl) ?_
  refine lv_imul hx hb dX1_lead_29 ?_
  refine lv_topi (fun x_5 ex_5 => ?_)
  have k_6 := ar_mulv (A := 999) (B := 999) ex_5 (by omega) (by omega) (by decide)
  refine cpSi (rest := [.ref h0]) ⟨hx, hb, hml, hown, hts⟩ hKN (hP.sub (ws' := []) [] rfl) (g_J9_max_7cf53 l D cA 1 x_5) (tb_S tw_778 tw_779 tw_115 tw_780) hdJ9_max_7cf53 ⟨rfl, rfl, Nat.le_of_ble_eq_true rfl, Nat.le_of_ble_eq_true rfl⟩ ⟨Nat.le_of_ble_eq_true rfl, Nat.le_of_ble_eq_true rfl⟩ rfl hl.1 rfl (Nat.le_of_ble_eq_true rfl) dX1_lead_30 (fun r_7 hr_7 => ?_)
  obtain ⟨k_7_0_0, k_7_0_1, k_7_0_2⟩ := hr_7
  refine va_put (D := D) (ci := 1) (v := .int r_7) (ty := .int) (C := RX1) (T := TX1) (N := 3) hx hb hts inX1 tyX1 tyX1_ok nmX1 hown hKN.1 hP hD hS 0 rfl rfl 1 (by decide) (hts _ tw_362) (fun _ h9 => h9) rfl (by decide +kernel) rfl rfl (Nat.le_of_ble_eq_true rfl) dX1_lead_33 (fun H locs hP hD hS => ?_)
  have hP : va_P D vwCl [(h0, .inr (1, [.int (-1), .int r_7, .ref g])), (g, .inr (3, [.int g_odds, .int g_pot, .int g_lines, .int g_men, .int g_clauses, .int g_winds, .int g_far0, .int g_far1, .ref g_qsides, .ref g_qgrips, .ref g_qwits, .ref g_qsays, .ref g_qgives0, .ref g_qgives1, .ref g_qfroms, .ref g_qtos]))] H := hP
  have hD : va_D A [(h0, .inr (1, [.int (-1), .int r_7, .ref g])), (g, .inr (3, [.int g_odds, .int g_pot, .int g_lines, .int g_men, .int g_clauses, .int g_winds, .int g_far0, .int g_far1, .ref g_qsides, .ref g_qgrips, .ref g_qwits, .ref g_qsays, .ref g_qgives0, .ref g_qgives1, .ref g_qfroms, .ref g_qtos]))] := hD
  refine lv_iconst (v := 0) hx hb dX1_lead_36 (by decide) ?_
  refine lv_istore (lv' := [(5, .int 0), (4, .int r_4), (3, .int r_2), (0, .ref h0), (1, .int p0), (2, .int p1)]) hx hb dX1_lead_37 hl (by decide) rfl (fun ls hl => ?_)
  refine loopW (σ := Int32 × Int32) (fun _ => []) (fun ⟨L5_154, F1_154⟩ H locs ls => (0 ≤ L5_154.toInt ∧ L5_154.toInt ≤ 999) ∧ va_P D vwCl [(h0, .inr (1, [.int F1_154, .int r_7, .ref g])), (g, .inr (3, [.int g_odds, .int g_pot, .int g_lines, .int g_men, .int g_clauses, .int g_winds, .int g_far0, .int g_far1, .ref g_qsides, .ref g_qgrips, .ref g_qwits, .ref g_qsays, .ref g_qgives0, .ref g_qgives1, .ref g_qfroms, .ref g_qtos]))] H ∧ va_D A [(h0, .inr (1, [.int F1_154, .int r_7, .ref g])), (g, .inr (3, [.int g_odds, .int g_pot, .int g_lines, .int g_men, .int g_clauses, .int g_winds, .int g_far0, .int g_far1, .ref g_qsides, .ref g_qgrips, .ref g_qwits, .ref g_qsays, .ref g_qgives0, .ref g_qgives1, .ref g_qfroms, .ref g_qtos]))] ∧ va_S A s.heap H locs ∧ lv_has ls 7 [(5, .int L5_154), (4, .int r_4), (3, .int r_2), (0, .ref h0), (1, .int p0), (2, .int p1)]) (fun ⟨L5_154, F1_154⟩ => (2147483647 - L5_154.toInt).toNat) ?_ ((0, (-1)) : Int32 × Int32) ⟨(by decide), hP, hD, hS, hl⟩
  intro x_154 H locs ls hI_154 ih_154
  obtain ⟨L5_154, F1_154⟩ := x_154
  obtain ⟨k0_154, hP, hD, hS, hl⟩ := hI_154
  have hP : va_P D vwCl [(h0, .inr (1, [.int F1_154, .int r_7, .ref g])), (g, .inr (3, [.int g_odds, .int g_pot, .int g_lines, .int g_men, .int g_clauses, .int g_winds, .int g_far0, .int g_far1, .ref g_qsides, .ref g_qgrips, .ref g_qwits, .ref g_qsays, .ref g_qgives0, .ref g_qgives1, .ref g_qfroms, .ref g_qtos]))] H := hP
  have hD : va_D A [(h0, .inr (1, [.int F1_154, .int r_7, .ref g])), (g, .inr (3, [.int g_odds, .int g_pot, .int g_lines, .int g_men, .int g_clauses, .int g_winds, .int g_far0, .int g_far1, .ref g_qsides, .ref g_qgrips, .ref g_qwits, .ref g_qsays, .ref g_qgives0, .ref g_qgives1, .ref g_qfroms, .ref g_qtos]))] := hD
  have hl : lv_has ls 7 [(5, .int L5_154), (4, .int r_4), (3, .int r_2), (0, .ref h0), (1, .int p0), (2, .int p1)] := hl
  refine lv_iload hx hb dX1_lead_39 (lv_at hl 0 rfl) ?_
  refine lv_iload hx hb dX1_lead_41 (lv_at hl 1 rfl) ?_
  refine lv_icmp_ge (tgt := 86) hx hb dX1_lead_43 (by decide) (fun c_155 => ?_) (fun c_155 => ?_)
  · skip
    have k_156 := kk_le rfl rfl c_155
    refine lv_iconst (v := 1) hx hb dX1_lead_86 (by decide) ?_
    refine lv_istore (lv' := [(5, .int 1), (4, .int r_4), (3, .int r_2), (0, .ref h0), (1, .int p0), (2, .int p1)]) hx hb dX1_lead_87 hl (by decide) rfl (fun ls hl => ?_)
    refine loopW (σ := Int32) (fun _ => []) (fun L5_227 H locs ls => (1 ≤ L5_227.toInt ∧ L5_227.toInt ≤ 1000) ∧ va_P D vwCl [(h0, .inr (1, [.int F1_154, .int r_7, .ref g])), (g, .inr (3, [.int g_odds, .int g_pot, .int g_lines, .int g_men, .int g_clauses, .int g_winds, .int g_far0, .int g_far1, .ref g_qsides, .ref g_qgrips, .ref g_qwits, .ref g_qsays, .ref g_qgives0, .ref g_qgives1, .ref g_qfroms, .ref g_qtos]))] H ∧ va_D A [(h0, .inr (1, [.int F1_154, .int r_7, .ref g])), (g, .inr (3, [.int g_odds, .int g_pot, .int g_lines, .int g_men, .int g_clauses, .int g_winds, .int g_far0, .int g_far1, .ref g_qsides, .ref g_qgrips, .ref g_qwits, .ref g_qsays, .ref g_qgives0, .ref g_qgives1, .ref g_qfroms, .ref g_qtos]))] ∧ va_S A s.heap H locs ∧ lv_has ls 7 [(5, .int L5_227), (4, .int r_4), (3, .int r_2), (0, .ref h0), (1, .int p0), (2, .int p1)]) (fun L5_227 => (2147483647 - L5_227.toInt).toNat) ?_ (1 : Int32) ⟨(by decide), hP, hD, hS, hl⟩
    intro x_227 H locs ls hI_227 ih_227
    obtain ⟨L5_227, rfl⟩ : ∃ z, z = x_227 := ⟨_, rfl⟩
    obtain ⟨k0_227, hP, hD, hS, hl⟩ := hI_227
    have hP : va_P D vwCl [(h0, .inr (1, [.int F1_154, .int r_7, .ref g])), (g, .inr (3, [.int g_odds, .int g_pot, .int g_lines, .int g_men, .int g_clauses, .int g_winds, .int g_far0, .int g_far1, .ref g_qsides, .ref g_qgrips, .ref g_qwits, .ref g_qsays, .ref g_qgives0, .ref g_qgives1, .ref g_qfroms, .ref g_qtos]))] H := hP
    have hD : va_D A [(h0, .inr (1, [.int F1_154, .int r_7, .ref g])), (g, .inr (3, [.int g_odds, .int g_pot, .int g_lines, .int g_men, .int g_clauses, .int g_winds, .int g_far0, .int g_far1, .ref g_qsides, .ref g_qgrips, .ref g_qwits, .ref g_qsays, .ref g_qgives0, .ref g_qgives1, .ref g_qfroms, .ref g_qtos]))] := hD
    have hl : lv_has ls 7 [(5, .int L5_227), (4, .int r_4), (3, .int r_2), (0, .ref h0), (1, .int p0), (2, .int p1)] := hl
    refine lv_iload hx hb dX1_lead_89 (lv_at hl 0 rfl) ?_
    refine lv_iload hx hb dX1_lead_91 (lv_at hl 1 rfl) ?_
    refine lv_icmp_gt (tgt := 127) hx hb dX1_lead_93 (by decide) (fun c_228 => ?_) (fun c_228 => ?_)
    · skip
      have k_229 := kk_lt rfl rfl c_228
      have hP9 := hP.sub (ws' := [(h0, .inr (1, [.int F1_154, .int r_7, .ref g])), (g, .inr (3, [.int g_odds, .int g_pot, .int g_lines, .int g_men, .int g_clauses, .int g_winds, .int g_far0, .int g_far1, .ref g_qsides, .ref g_qgrips, .ref g_qwits, .ref g_qsays, .ref g_qgives0, .ref g_qgives1, .ref g_qfroms, .ref g_qtos]))]) [0, 1] rfl
      have hD9 := hD.sub (ws' := [(h0, .inr (1, [.int F1_154, .int r_7, .ref g])), (g, .inr (3, [.int g_odds, .int g_pot, .int g_lines, .int g_men, .int g_clauses, .int g_winds, .int g_far0, .int g_far1, .ref g_qsides, .ref g_qgrips, .ref g_qwits, .ref g_qsays, .ref g_qgives0, .ref g_qgives1, .ref g_qfroms, .ref g_qtos]))]) [0, 1] (by decide) rfl
      exact W.vret hx hb hr (fun t ht hW => ⟨⟨((fun _ => 0), (selI [F1_154, r_7]), (fun _ _ => 0), (fun _ _ => 0)), rfl, (show 1 ≤ r_7.toInt ∧ r_7.toInt ≤ 998001 from by omega), by rw [ht]; exact hP9, hD9⟩, hS.F ht⟩) hS.2.2 dX1_lead_127
    · skip
      have k_230 := kk_nlt rfl rfl c_228
      refine lv_iload hx hb dX1_lead_96 (lv_at hl 0 rfl) ?_
      refine lv_iload_n hx hb dX1_lead_98 rfl (lv_at hl 2 rfl) ?_
      refine lv_imul hx hb dX1_lead_99 ?_
      refine lv_topi (fun x_231 ex_231 => ?_)
      have k_232 := ar_mulv (A := 999) (B := 999) ex_231 (by omega) (by omega) (by decide)
      refine lv_iload hx hb dX1_lead_100 (lv_at hl 1 rfl) ?_
      refine cpSNi (rest := []) ⟨hx, hb, hml, hown, hts⟩ hKN (hP.sub (ws' := []) [] rfl) (g_X11_restOf l D cA x_231 r_4) ⟨nw_9, tw_759, tw_101, tw_760⟩ hdX11_restOf ⟨rfl, rfl, Nat.le_of_ble_eq_true rfl, Nat.le_of_ble_eq_true rfl⟩ ⟨Nat.le_of_ble_eq_true rfl, Nat.le_of_ble_eq_true rfl⟩ rfl hl.1 rfl (Nat.le_of_ble_eq_true rfl) dX1_lead_102 (fun r_233 hr_233 => ?_)
      refine lv_if_ne (tgt := 121) hx hb dX1_lead_105 (by decide) (fun c_234 => ?_) (fun c_234 => ?_)
      · skip
        have b_236 := i32_bd r_233
        have k_235 := kk_ne rfl zi_0 c_234
        obtain ⟨x_237, ex_237⟩ : ∃ y : Int32, L5_227 + Int32.ofInt 1 = y := ⟨_, rfl⟩
        have k_238 := ar_add (b := 1) rfl zi_1 ex_237.symm (by omega) (by omega)
        refine lv_iinc (v := x_237) (lv' := [(5, .int x_237), (4, .int r_4), (3, .int r_2), (0, .ref h0), (1, .int p0), (2, .int p1)]) hx hb dX1_lead_121 hl (k := 0) rfl ex_237 (by decide) rfl (fun ls hl => ?_)
        refine lv_goto (tgt := 89) hx hb dX1_lead_124 (by decide) ?_
        exact ih_227 (x_237) _ _ _ ⟨(show 1 ≤ x_237.toInt ∧ x_237.toInt ≤ 1000 from by omega), hP.sub [0, 1] rfl, hD.sub [0, 1] (by decide) rfl, hS, lv_sub hl [0, 1, 2, 3, 4, 5] rfl⟩ (by show (2147483647 - x_237.toInt).toNat < (2147483647 - L5_227.toInt).toNat; omega)
      · skip
        have b_240 := i32_bd r_233
        have k_239 := kk_eq rfl zi_0 c_234
        refine lv_aload_n hx hb dX1_lead_108 rfl (lv_at hl 3 rfl) ?_
        refine lv_iconst (v := 1) hx hb dX1_lead_109 (by decide) ?_
        refine lv_iload hx hb dX1_lead_110 (lv_at hl 0 rfl) ?_
        refine lv_iload_n hx hb dX1_lead_112 rfl (lv_at hl 2 rfl) ?_
        refine lv_imul hx hb dX1_lead_113 ?_
        refine lv_topi (fun x_241 ex_241 => ?_)
        obtain rfl : x_231 = x_241 := ex_231.trans ex_241.symm
        refine cpSi (rest := [.ref h0]) ⟨hx, hb, hml, hown, hts⟩ hKN (hP.sub (ws' := []) [] rfl) (g_J9_max_7cf53 l D cA 1 x_231) (tb_S tw_778 tw_779 tw_115 tw_780) hdJ9_max_7cf53 ⟨rfl, rfl, Nat.le_of_ble_eq_true rfl, Nat.le_of_ble_eq_true rfl⟩ ⟨Nat.le_of_ble_eq_true rfl, Nat.le_of_ble_eq_true rfl⟩ rfl hl.1 rfl (Nat.le_of_ble_eq_true rfl) dX1_lead_114 (fun r_242 hr_242 => ?_)
        obtain ⟨k_242_0_0, k_242_0_1, k_242_0_2⟩ := hr_242
        refine va_put (D := D) (ci := 1) (v := .int r_242) (ty := .int) (C := RX1) (T := TX1) (N := 3) hx hb hts inX1 tyX1 tyX1_ok nmX1 hown hKN.1 hP hD hS 0 rfl rfl 1 (by decide) (hts _ tw_362) (fun _ h9 => h9) rfl (by decide +kernel) rfl rfl (Nat.le_of_ble_eq_true rfl) dX1_lead_117 (fun H locs hP hD hS => ?_)
        have hP : va_P D vwCl [(h0, .inr (1, [.int F1_154, .int r_242, .ref g])), (g, .inr (3, [.int g_odds, .int g_pot, .int g_lines, .int g_men, .int g_clauses, .int g_winds, .int g_far0, .int g_far1, .ref g_qsides, .ref g_qgrips, .ref g_qwits, .ref g_qsays, .ref g_qgives0, .ref g_qgives1, .ref g_qfroms, .ref g_qtos]))] H := hP
        have hD : va_D A [(h0, .inr (1, [.int F1_154, .int r_242, .ref g])), (g, .inr (3, [.int g_odds, .int g_pot, .int g_lines, .int g_men, .int g_clauses, .int g_winds, .int g_far0, .int g_far1, .ref g_qsides, .ref g_qgrips, .ref g_qwits, .ref g_qsays, .ref g_qgives0, .ref g_qgives1, .ref g_qfroms, .ref g_qtos]))] := hD
        have hP9 := hP.sub (ws' := [(h0, .inr (1, [.int F1_154, .int r_242, .ref g])), (g, .inr (3, [.int g_odds, .int g_pot, .int g_lines, .int g_men, .int g_clauses, .int g_winds, .int g_far0, .int g_far1, .ref g_qsides, .ref g_qgrips, .ref g_qwits, .ref g_qsays, .ref g_qgives0, .ref g_qgives1, .ref g_qfroms, .ref g_qtos]))]) [0, 1] rfl
        have hD9 := hD.sub (ws' := [(h0, .inr (1, [.int F1_154, .int r_242, .ref g])), (g, .inr (3, [.int g_odds, .int g_pot, .int g_lines, .int g_men, .int g_clauses, .int g_winds, .int g_far0, .int g_far1, .ref g_qsides, .ref g_qgrips, .ref g_qwits, .ref g_qsays, .ref g_qgives0, .ref g_qgives1, .ref g_qfroms, .ref g_qtos]))]) [0, 1] (by decide) rfl
        exact W.vret hx hb hr (fun t ht hW => ⟨⟨((fun _ => 0), (selI [F1_154, r_242]), (fun _ _ => 0), (fun _ _ => 0)), rfl, (show 1 ≤ r_242.toInt ∧ r_242.toInt ≤ 998001 from by omega), by rw [ht]; exact hP9, hD9⟩, hS.F ht⟩) hS.2.2 dX1_lead_120
  · skip
    have k_243 := kk_nle rfl rfl c_155
    refine lv_aload_n hx hb dX1_lead_46 rfl (lv_at hl 3 rfl) ?_
    refine va_get (D := D) (ci := 1) (v := .int F1_154) (C := RX1) (T := TX1) (N := 3) hx hb hts inX1 hown hKN.1 hP 0 rfl rfl 0 (by decide) (hts _ tw_360) (fun _ h9 => h9) rfl dX1_lead_47 ?_
    refine lv_iconst (v := (-1)) hx hb dX1_lead_50 (by decide) ?_
    refine lv_icmp_ne (tgt := 86) hx hb dX1_lead_51 (by decide) (fun c_244 => ?_) (fun c_244 => ?_)
    · skip
      have b_246 := i32_bd F1_154
      have k_245 := kk_ne rfl zi_m1 c_244
      refine lv_iconst (v := 1) hx hb dX1_lead_86 (by decide) ?_
      refine lv_istore (lv' := [(5, .int 1), (4, .int r_4), (3, .int r_2), (0, .ref h0), (1, .int p0), (2, .int p1)]) hx hb dX1_lead_87 hl (by decide) rfl (fun ls hl => ?_)
      refine loopW (σ := Int32) (fun _ => []) (fun L5_317 H locs ls => (1 ≤ L5_317.toInt ∧ L5_317.toInt ≤ 1000) ∧ va_P D vwCl [(h0, .inr (1, [.int F1_154, .int r_7, .ref g])), (g, .inr (3, [.int g_odds, .int g_pot, .int g_lines, .int g_men, .int g_clauses, .int g_winds, .int g_far0, .int g_far1, .ref g_qsides, .ref g_qgrips, .ref g_qwits, .ref g_qsays, .ref g_qgives0, .ref g_qgives1, .ref g_qfroms, .ref g_qtos]))] H ∧ va_D A [(h0, .inr (1, [.int F1_154, .int r_7, .ref g])), (g, .inr (3, [.int g_odds, .int g_pot, .int g_lines, .int g_men, .int g_clauses, .int g_winds, .int g_far0, .int g_far1, .ref g_qsides, .ref g_qgrips, .ref g_qwits, .ref g_qsays, .ref g_qgives0, .ref g_qgives1, .ref g_qfroms, .ref g_qtos]))] ∧ va_S A s.heap H locs ∧ lv_has ls 7 [(5, .int L5_317), (4, .int r_4), (3, .int r_2), (0, .ref h0), (1, .int p0), (2, .int p1)]) (fun L5_317 => (2147483647 - L5_317.toInt).toNat) ?_ (1 : Int32) ⟨(by decide), hP, hD, hS, hl⟩
      intro x_317 H locs ls hI_317 ih_317
      obtain ⟨L5_317, rfl⟩ : ∃ z, z = x_317 := ⟨_, rfl⟩
      obtain ⟨k0_317, hP, hD, hS, hl⟩ := hI_317
      have hP : va_P D vwCl [(h0, .inr (1, [.int F1_154, .int r_7, .ref g])), (g, .inr (3, [.int g_odds, .int g_pot, .int g_lines, .int g_men, .int g_clauses, .int g_winds, .int g_far0, .int g_far1, .ref g_qsides, .ref g_qgrips, .ref g_qwits, .ref g_qsays, .ref g_qgives0, .ref g_qgives1, .ref g_qfroms, .ref g_qtos]))] H := hP
      have hD : va_D A [(h0, .inr (1, [.int F1_154, .int r_7, .ref g])), (g, .inr (3, [.int g_odds, .int g_pot, .int g_lines, .int g_men, .int g_clauses, .int g_winds, .int g_far0, .int g_far1, .ref g_qsides, .ref g_qgrips, .ref g_qwits, .ref g_qsays, .ref g_qgives0, .ref g_qgives1, .ref g_qfroms, .ref g_qtos]))] := hD
      have hl : lv_has ls 7 [(5, .int L5_317), (4, .int r_4), (3, .int r_2), (0, .ref h0), (1, .int p0), (2, .int p1)] := hl
      refine lv_iload hx hb dX1_lead_89 (lv_at hl 0 rfl) ?_
      refine lv_iload hx hb dX1_lead_91 (lv_at hl 1 rfl) ?_
      refine lv_icmp_gt (tgt := 127) hx hb dX1_lead_93 (by decide) (fun c_318 => ?_) (fun c_318 => ?_)
      · skip
        have k_319 := kk_lt rfl rfl c_318
        have hP9 := hP.sub (ws' := [(h0, .inr (1, [.int F1_154, .int r_7, .ref g])), (g, .inr (3, [.int g_odds, .int g_pot, .int g_lines, .int g_men, .int g_clauses, .int g_winds, .int g_far0, .int g_far1, .ref g_qsides, .ref g_qgrips, .ref g_qwits, .ref g_qsays, .ref g_qgives0, .ref g_qgives1, .ref g_qfroms, .ref g_qtos]))]) [0, 1] rfl
        have hD9 := hD.sub (ws' := [(h0, .inr (1, [.int F1_154, .int r_7, .ref g])), (g, .inr (3, [.int g_odds, .int g_pot, .int g_lines, .int g_men, .int g_clauses, .int g_winds, .int g_far0, .int g_far1, .ref g_qsides, .ref g_qgrips, .ref g_qwits, .ref g_qsays, .ref g_qgives0, .ref g_qgives1, .ref g_qfroms, .ref g_qtos]))]) [0, 1] (by decide) rfl
        exact W.vret hx hb hr (fun t ht hW => ⟨⟨((fun _ => 0), (selI [F1_154, r_7]), (fun _ _ => 0), (fun _ _ => 0)), rfl, (show 1 ≤ r_7.toInt ∧ r_7.toInt ≤ 998001 from by omega), by rw [ht]; exact hP9, hD9⟩, hS.F ht⟩) hS.2.2 dX1_lead_127
      · skip
        have k_320 := kk_nlt rfl rfl c_318
        refine lv_iload hx hb dX1_lead_96 (lv_at hl 0 rfl) ?_
        refine lv_iload_n hx hb dX1_lead_98 rfl (lv_at hl 2 rfl) ?_
        refine lv_imul hx hb dX1_lead_99 ?_
        refine lv_topi (fun x_321 ex_321 => ?_)
        have k_322 := ar_mulv (A := 999) (B := 999) ex_321 (by omega) (by omega) (by decide)
        refine lv_iload hx hb dX1_lead_100 (lv_at hl 1 rfl) ?_
        refine cpSNi (rest := []) ⟨hx, hb, hml, hown, hts⟩ hKN (hP.sub (ws' := []) [] rfl) (g_X11_restOf l D cA x_321 r_4) ⟨nw_9, tw_759, tw_101, tw_760⟩ hdX11_restOf ⟨rfl, rfl, Nat.le_of_ble_eq_true rfl, Nat.le_of_ble_eq_true rfl⟩ ⟨Nat.le_of_ble_eq_true rfl, Nat.le_of_ble_eq_true rfl⟩ rfl hl.1 rfl (Nat.le_of_ble_eq_true rfl) dX1_lead_102 (fun r_323 hr_323 => ?_)
        refine lv_if_ne (tgt := 121) hx hb dX1_lead_105 (by decide) (fun c_324 => ?_) (fun c_324 => ?_)
        · skip
          have b_326 := i32_bd r_323
          have k_325 := kk_ne rfl zi_0 c_324
          obtain ⟨x_327, ex_327⟩ : ∃ y : Int32, L5_317 + Int32.ofInt 1 = y := ⟨_, rfl⟩
          have k_328 := ar_add (b := 1) rfl zi_1 ex_327.symm (by omega) (by omega)
          refine lv_iinc (v := x_327) (lv' := [(5, .int x_327), (4, .int r_4), (3, .int r_2), (0, .ref h0), (1, .int p0), (2, .int p1)]) hx hb dX1_lead_121 hl (k := 0) rfl ex_327 (by decide) rfl (fun ls hl => ?_)
          refine lv_goto (tgt := 89) hx hb dX1_lead_124 (by decide) ?_
          exact ih_317 (x_327) _ _ _ ⟨(show 1 ≤ x_327.toInt ∧ x_327.toInt ≤ 1000 from by omega), hP.sub [0, 1] rfl, hD.sub [0, 1] (by decide) rfl, hS, lv_sub hl [0, 1, 2, 3, 4, 5] rfl⟩ (by show (2147483647 - x_327.toInt).toNat < (2147483647 - L5_317.toInt).toNat; omega)
        · skip
          have b_330 := i32_bd r_323
          have k_329 := kk_eq rfl zi_0 c_324
          refine lv_aload_n hx hb dX1_lead_108 rfl (lv_at hl 3 rfl) ?_
          refine lv_iconst (v := 1) hx hb dX1_lead_109 (by decide) ?_
          refine lv_iload hx hb dX1_lead_110 (lv_at hl 0 rfl) ?_
          refine lv_iload_n hx hb dX1_lead_112 rfl (lv_at hl 2 rfl) ?_
          refine lv_imul hx hb dX1_lead_113 ?_
          refine lv_topi (fun x_331 ex_331 => ?_)
          obtain rfl : x_321 = x_331 := ex_321.trans ex_331.symm
          refine cpSi (rest := [.ref h0]) ⟨hx, hb, hml, hown, hts⟩ hKN (hP.sub (ws' := []) [] rfl) (g_J9_max_7cf53 l D cA 1 x_321) (tb_S tw_778 tw_779 tw_115 tw_780) hdJ9_max_7cf53 ⟨rfl, rfl, Nat.le_of_ble_eq_true rfl, Nat.le_of_ble_eq_true rfl⟩ ⟨Nat.le_of_ble_eq_true rfl, Nat.le_of_ble_eq_true rfl⟩ rfl hl.1 rfl (Nat.le_of_ble_eq_true rfl) dX1_lead_114 (fun r_332 hr_332 => ?_)
          obtain ⟨k_332_0_0, k_332_0_1, k_332_0_2⟩ := hr_332
          refine va_put (D := D) (ci := 1) (v := .int r_332) (ty := .int) (C := RX1) (T := TX1) (N := 3) hx hb hts inX1 tyX1 tyX1_ok nmX1 hown hKN.1 hP hD hS 0 rfl rfl 1 (by decide) (hts _ tw_362) (fun _ h9 => h9) rfl (by decide +kernel) rfl rfl (Nat.le_of_ble_eq_true rfl) dX1_lead_117 (fun H locs hP hD hS => ?_)
          have hP : va_P D vwCl [(h0, .inr (1, [.int F1_154, .int r_332, .ref g])), (g, .inr (3, [.int g_odds, .int g_pot, .int g_lines, .int g_men, .int g_clauses, .int g_winds, .int g_far0, .int g_far1, .ref g_qsides, .ref g_qgrips, .ref g_qwits, .ref g_qsays, .ref g_qgives0, .ref g_qgives1, .ref g_qfroms, .ref g_qtos]))] H := hP
          have hD : va_D A [(h0, .inr (1, [.int F1_154, .int r_332, .ref g])), (g, .inr (3, [.int g_odds, .int g_pot, .int g_lines, .int g_men, .int g_clauses, .int g_winds, .int g_far0, .int g_far1, .ref g_qsides, .ref g_qgrips, .ref g_qwits, .ref g_qsays, .ref g_qgives0, .ref g_qgives1, .ref g_qfroms, .ref g_qtos]))] := hD
          have hP9 := hP.sub (ws' := [(h0, .inr (1, [.int F1_154, .int r_332, .ref g])), (g, .inr (3, [.int g_odds, .int g_pot, .int g_lines, .int g_men, .int g_clauses, .int g_winds, .int g_far0, .int g_far1, .ref g_qsides, .ref g_qgrips, .ref g_qwits, .ref g_qsays, .ref g_qgives0, .ref g_qgives1, .ref g_qfroms, .ref g_qtos]))]) [0, 1] rfl
          have hD9 := hD.sub (ws' := [(h0, .inr (1, [.int F1_154, .int r_332, .ref g])), (g, .inr (3, [.int g_odds, .int g_pot, .int g_lines, .int g_men, .int g_clauses, .int g_winds, .int g_far0, .int g_far1, .ref g_qsides, .ref g_qgrips, .ref g_qwits, .ref g_qsays, .ref g_qgives0, .ref g_qgives1, .ref g_qfroms, .ref g_qtos]))]) [0, 1] (by decide) rfl
          exact W.vret hx hb hr (fun t ht hW => ⟨⟨((fun _ => 0), (selI [F1_154, r_332]), (fun _ _ => 0), (fun _ _ => 0)), rfl, (show 1 ≤ r_332.toInt ∧ r_332.toInt ≤ 998001 from by omega), by rw [ht]; exact hP9, hD9⟩, hS.F ht⟩) hS.2.2 dX1_lead_120
    · skip
      have b_334 := i32_bd F1_154
      have k_333 := kk_eq rfl zi_m1 c_244
      refine lv_iload_n hx hb dX1_lead_54 rfl (lv_at hl 4 rfl) ?_
      refine lv_iload hx hb dX1_lead_55 (lv_at hl 0 rfl) ?_
      refine lv_iload_n hx hb dX1_lead_57 rfl (lv_at hl 2 rfl) ?_
      refine lv_imul hx hb dX1_lead_58 ?_
      refine lv_topi (fun x_335 ex_335 => ?_)
      have k_336 := ar_mulv (A := 998) (B := 999) ex_335 (by omega) (by omega) (by decide)
      refine lv_iadd hx hb dX1_lead_59 ?_
      refine lv_topi (fun x_337 ex_337 => ?_)
      refine lv_istore (lv' := [(6, .int x_337), (5, .int L5_154), (4, .int r_4), (3, .int r_2), (0, .ref h0), (1, .int p0), (2, .int p1)]) hx hb dX1_lead_60 hl (by decide) rfl (fun ls hl => ?_)
      refine lv_iload hx hb dX1_lead_62 (lv_at hl 0 rfl) ?_
      refine lv_iload_n hx hb dX1_lead_64 rfl (lv_at hl 6 rfl) ?_
      refine lv_isub hx hb dX1_lead_65 ?_
      refine lv_topi (fun x_339 ex_339 => ?_)
      refine lv_iload hx hb dX1_lead_66 (lv_at hl 2 rfl) ?_
      refine cpSNi (rest := []) ⟨hx, hb, hml, hown, hts⟩ hKN (hP.sub (ws' := []) [] rfl) (g_X11_restOf l D cA x_339 r_4) ⟨nw_9, tw_759, tw_101, tw_760⟩ hdX11_restOf ⟨rfl, rfl, Nat.le_of_ble_eq_true rfl, Nat.le_of_ble_eq_true rfl⟩ ⟨Nat.le_of_ble_eq_true rfl, Nat.le_of_ble_eq_true rfl⟩ rfl hl.1 rfl (Nat.le_of_ble_eq_true rfl) dX1_lead_68 (fun r_341 hr_341 => ?_)
      refine lv_if_ne (tgt := 80) hx hb dX1_lead_71 (by decide) (fun c_342 => ?_) (fun c_342 => ?_)
      · skip
        have b_344 := i32_bd r_341
        have k_343 := kk_ne rfl zi_0 c_342
        obtain ⟨x_345, ex_345⟩ : ∃ y : Int32, L5_154 + Int32.ofInt 1 = y := ⟨_, rfl⟩
        have k_346 := ar_add (b := 1) rfl zi_1 ex_345.symm (by omega) (by omega)
        refine lv_iinc (v := x_345) (lv' := [(5, .int x_345), (6, .int x_337), (4, .int r_4), (3, .int r_2), (0, .ref h0), (1, .int p0), (2, .int p1)]) hx hb dX1_lead_80 hl (k := 1) rfl ex_345 (by decide) rfl (fun ls hl => ?_)
        refine lv_goto (tgt := 39) hx hb dX1_lead_83 (by decide) ?_
        exact ih_154 (x_345, F1_154) _ _ _ ⟨(show 0 ≤ x_345.toInt ∧ x_345.toInt ≤ 999 from by omega), hP.sub [0, 1] rfl, hD.sub [0, 1] (by decide) rfl, hS, lv_sub hl [0, 2, 3, 4, 5, 6] rfl⟩ (by show (2147483647 - x_345.toInt).toNat < (2147483647 - L5_154.toInt).toNat; omega)
      · skip
        have b_348 := i32_bd r_341
        have k_347 := kk_eq rfl zi_0 c_342
        refine lv_aload_n hx hb dX1_lead_74 rfl (lv_at hl 4 rfl) ?_
        refine lv_iload hx hb dX1_lead_75 (lv_at hl 0 rfl) ?_
        refine va_put (D := D) (ci := 1) (v := .int x_337) (ty := .int) (C := RX1) (T := TX1) (N := 3) hx hb hts inX1 tyX1 tyX1_ok nmX1 hown hKN.1 hP hD hS 0 rfl rfl 0 (by decide) (hts _ tw_360) (fun _ h9 => h9) rfl (by decide +kernel) rfl rfl (Nat.le_of_ble_eq_true rfl) dX1_lead_77 (fun H locs hP hD hS => ?_)
        have hP : va_P D vwCl [(h0, .inr (1, [.int x_337, .int r_7, .ref g])), (g, .inr (3, [.int g_odds, .int g_pot, .int g_lines, .int g_men, .int g_clauses, .int g_winds, .int g_far0, .int g_far1, .ref g_qsides, .ref g_qgrips, .ref g_qwits, .ref g_qsays, .ref g_qgives0, .ref g_qgives1, .ref g_qfroms, .ref g_qtos]))] H := hP
        have hD : va_D A [(h0, .inr (1, [.int x_337, .int r_7, .ref g])), (g, .inr (3, [.int g_odds, .int g_pot, .int g_lines, .int g_men, .int g_clauses, .int g_winds, .int g_far0, .int g_far1, .ref g_qsides, .ref g_qgrips, .ref g_qwits, .ref g_qsays, .ref g_qgives0, .ref g_qgives1, .ref g_qfroms, .ref g_qtos]))] := hD
        obtain ⟨x_349, ex_349⟩ : ∃ y : Int32, L5_154 + Int32.ofInt 1 = y := ⟨_, rfl⟩
        have k_350 := ar_add (b := 1) rfl zi_1 ex_349.symm (by omega) (by omega)
        refine lv_iinc (v := x_349) (lv' := [(5, .int x_349), (6, .int x_337), (4, .int r_4), (3, .int r_2), (0, .ref h0), (1, .int p0), (2, .int p1)]) hx hb dX1_lead_80 hl (k := 1) rfl ex_349 (by decide) rfl (fun ls hl => ?_)
        refine lv_goto (tgt := 39) hx hb dX1_lead_83 (by decide) ?_
        exact ih_154 (x_349, x_337) _ _ _ ⟨(show 0 ≤ x_349.toInt ∧ x_349.toInt ≤ 999 from by omega), hP.sub [0, 1] rfl, hD.sub [0, 1] (by decide) rfl, hS, lv_sub hl [0, 2, 3, 4, 5, 6] rfl⟩ (by show (2147483647 - x_349.toInt).toNat < (2147483647 - L5_154.toInt).toNat; omega)
set_option maxHeartbeats 8000000 in
set_option maxRecDepth 100000 in
theorem g_X1_meetingFrom (l : Launch) (D : va_G) (cA : Nat → ClassId) (h0 : Nat) (c_first : Int32) (c_stride : Int32) (g : Nat) (g_odds : Int32) (g_pot : Int32) (g_lines : Int32) (g_men : Int32) (g_clauses : Int32) (g_winds : Int32) (g_far0 : Int32) (g_far1 : Int32) (g_qsides : Nat) (g_qgrips : Nat) (g_qwits : Nat) (g_qsays : Nat) (g_qgives0 : Nat) (g_qgives1 : Nat) (g_qfroms : Nat) (g_qtos : Nat) (g_cfroms : Nat → Int32) (g_ctos : Nat → Int32) (p0 : Int32) (h_c_stride : 1 ≤ (c_stride : Int32).toInt ∧ (c_stride : Int32).toInt ≤ 998001) (h_g_odds : -999 ≤ (g_odds : Int32).toInt ∧ (g_odds : Int32).toInt ≤ 999) (h_g_pot : -999 ≤ (g_pot : Int32).toInt ∧ (g_pot : Int32).toInt ≤ 999) (h_g_men : 0 ≤ (g_men : Int32).toInt ∧ (g_men : Int32).toInt ≤ 8) (h_g_clauses : 0 ≤ (g_clauses : Int32).toInt ∧ (g_clauses : Int32).toInt ≤ 7) (h_g_winds : 0 ≤ (g_winds : Int32).toInt ∧ (g_winds : Int32).toInt ≤ 4) (h_g_far0 : -999 ≤ (g_far0 : Int32).toInt ∧ (g_far0 : Int32).toInt ≤ 999) (h_g_far1 : -999 ≤ (g_far1 : Int32).toInt ∧ (g_far1 : Int32).toInt ≤ 999) : Met l yX1_meetingFrom (Cond.code yX1_meetingFrom cX1_meetingFrom 3 (some .int) :: TB) (rmd 2 0 0) (PP D cA [(h0, .inr (1, [.int c_first, .int c_stride, .ref g])), (g, .inr (3, [.int g_odds, .int g_pot, .int g_lines, .int g_men, .int g_clauses, .int g_winds, .int g_far0, .int g_far1, .ref g_qsides, .ref g_qgrips, .ref g_qwits, .ref g_qsays, .ref g_qgives0, .ref g_qgives1, .ref g_qfroms, .ref g_qtos])), (g_qfroms, .inl (cA 1, 4, .inl g_cfroms)), (g_qtos, .inl (cA 1, 4, .inl g_ctos))] [.ref h0, .int p0]) (vp_Si (fun r => r.toInt ≤ 10000)) 0 0 (fun _ => False) := by
  refine Met.ofW (cc := cX1_meetingFrom) (maxL := 3) (ret := (some .int)) (by decide) rfl ?_
  intro p e s m args below meth c s₁ B hml hv
  obtain ⟨rfl, hP, hKN⟩ := hv
  have hx := B.exec
  have hb := B.bytes
  have hr := B.returns
  have hts : ∀ w ∈ TB, w.before _ s = true := fun w h => atoms_spec B.pre w (List.mem_cons_of_mem _ h)
  have hown : s.vm.findClass RX1 = some m.cls := findClass_of_methodNamed B.named
  have hlocks := B.notSynchronized
  have hl := lv_entry ([.ref h0, .int p0]) (n := 3) (Nat.le_of_ble_eq_true rfl)
  rw [lg_entry_eq]
  generalize (lg_sl ([.ref h0, .int p0]) ++ List.replicate (3 - (lg_sl ([.ref h0, .int p0])).length) Slot.unset).toArray = ls at hl ⊢
  have hl : lv_has ls 3 [(0, .ref h0), (1, .int p0)] := hl
  refine lv_aload_n hx hb dX1_meetingFrom_0 rfl (lv_at hl 0 rfl) ?_
  refine va_get (D := D) (ci := 1) (v := .int c_first) (C := RX1) (T := TX1) (N := 3) hx hb hts inX1 hown hKN.1 hP 0 rfl rfl 0 (by decide) (hts _ tw_360) (fun _ h9 => h9) rfl dX1_meetingFrom_1 ?_
  refine lv_iconst (v := (-1)) hx hb dX1_meetingFrom_4 (by decide) ?_
  refine lv_icmp_ne (tgt := 10) hx hb dX1_meetingFrom_5 (by decide) (fun c_1 => ?_) (fun c_1 => ?_)
  · skip
    have b_3 := i32_bd c_first
    have k_2 := kk_ne rfl zi_m1 c_1
    refine lv_iload_n hx hb dX1_meetingFrom_10 rfl (lv_at hl 1 rfl) ?_
    refine lv_aload_n hx hb dX1_meetingFrom_11 rfl (lv_at hl 0 rfl) ?_
    refine va_get (D := D) (ci := 1) (v := .int c_first) (C := RX1) (T := TX1) (N := 3) hx hb hts inX1 hown hKN.1 hP 0 rfl rfl 0 (by decide) (hts _ tw_360) (fun _ h9 => h9) rfl dX1_meetingFrom_12 ?_
    refine cpSi (rest := []) ⟨hx, hb, hml, hown, hts⟩ hKN (hP.sub (ws' := []) [] rfl) (g_J9_max_7cf53 l D cA p0 c_first) (tb_S tw_778 tw_779 tw_115 tw_780) hdJ9_max_7cf53 ⟨rfl, rfl, Nat.le_of_ble_eq_true rfl, Nat.le_of_ble_eq_true rfl⟩ ⟨Nat.le_of_ble_eq_true rfl, Nat.le_of_ble_eq_true rfl⟩ rfl hl.1 rfl (Nat.le_of_ble_eq_true rfl) dX1_meetingFrom_15 (fun r_4 hr_4 => ?_)
    obtain ⟨k_4_0_0, k_4_0_1, k_4_0_2⟩ := hr_4
    refine lv_istore_n (lv' := [(2, .int r_4), (0, .ref h0), (1, .int p0)]) hx hb dX1_meetingFrom_18 rfl hl (by decide) rfl (fun ls hl => ?_)
    refine lv_iload_n hx hb dX1_meetingFrom_19 rfl (lv_at hl 0 rfl) ?_
    refine lv_aload_n hx hb dX1_meetingFrom_20 rfl (lv_at hl 1 rfl) ?_
    refine va_get (D := D) (ci := 1) (v := .int c_first) (C := RX1) (T := TX1) (N := 3) hx hb hts inX1 hown hKN.1 hP 0 rfl rfl 0 (by decide) (hts _ tw_360) (fun _ h9 => h9) rfl dX1_meetingFrom_21 ?_
    refine lv_iload_n hx hb dX1_meetingFrom_24 rfl (lv_at hl 0 rfl) ?_
    refine lv_isub hx hb dX1_meetingFrom_25 ?_
    refine lv_topi (fun x_5 ex_5 => ?_)
    refine lv_aload_n hx hb dX1_meetingFrom_26 rfl (lv_at hl 1 rfl) ?_
    refine va_get (D := D) (ci := 1) (v := .int c_stride) (C := RX1) (T := TX1) (N := 3) hx hb hts inX1 hown hKN.1 hP 0 rfl rfl 1 (by decide) (hts _ tw_362) (fun _ h9 => h9) rfl dX1_meetingFrom_27 ?_
    refine cpSNi (rest := [.int r_4]) ⟨hx, hb, hml, hown, hts⟩ hKN (hP.sub (ws' := []) [] rfl) (g_X11_restOf l D cA x_5 c_stride) ⟨nw_9, tw_759, tw_101, tw_760⟩ hdX11_restOf ⟨rfl, rfl, Nat.le_of_ble_eq_true rfl, Nat.le_of_ble_eq_true rfl⟩ ⟨Nat.le_of_ble_eq_true rfl, Nat.le_of_ble_eq_true rfl⟩ rfl hl.1 rfl (Nat.le_of_ble_eq_true rfl) dX1_meetingFrom_30 (fun r_7 hr_7 => ?_)
    refine lv_iadd hx hb dX1_meetingFrom_33 ?_
    refine lv_topi (fun x_8 ex_8 => ?_)
    refine lv_istore_n (lv' := [(2, .int x_8), (0, .ref h0), (1, .int p0)]) hx hb dX1_meetingFrom_34 rfl hl (by decide) rfl (fun ls hl => ?_)
    have b_23 := i32_bd x_8
    refine loopW (σ := Int32) (fun _ => []) (fun L2_22 H locs ls => H = s.heap ∧ locs = [] ∧ lv_has ls 3 [(2, .int L2_22), (0, .ref h0), (1, .int p0)]) (fun L2_22 => (2147483647 - L2_22.toInt).toNat) ?_ (x_8 : Int32) ⟨rfl, rfl, hl⟩
    intro x_22 H locs ls hI_22 ih_22
    obtain ⟨L2_22, rfl⟩ : ∃ z, z = x_22 := ⟨_, rfl⟩
    obtain ⟨rfl, rfl, hl⟩ := hI_22
    have hl : lv_has ls 3 [(2, .int L2_22), (0, .ref h0), (1, .int p0)] := hl
    refine lv_iload_n hx hb dX1_meetingFrom_35 rfl (lv_at hl 0 rfl) ?_
    refine lv_sipush (v := 10000) hx hb dX1_meetingFrom_36 (by decide) ?_
    refine lv_icmp_gt (tgt := 65) hx hb dX1_meetingFrom_39 (by decide) (fun c_24 => ?_) (fun c_24 => ?_)
    · skip
      have b_26 := i32_bd L2_22
      have k_25 := kk_lt zi_10000 rfl c_24
      refine lv_iconst (v := (-1)) hx hb dX1_meetingFrom_65 (by decide) ?_
      exact W.iret (v := (-1)) hx hb hr (fun t ht hW => ⟨(-1), rfl, (show ((-1) : Int32).toInt ≤ 10000 from by decide), ht⟩) (fun _ h => by cases h) dX1_meetingFrom_66
    · skip
      have b_28 := i32_bd L2_22
      have k_27 := kk_nlt zi_10000 rfl c_24
      refine lv_aload_n hx hb dX1_meetingFrom_42 rfl (lv_at hl 1 rfl) ?_
      refine va_get (D := D) (ci := 1) (v := .ref g) (C := RX1) (T := TX1) (N := 3) hx hb hts inX1 hown hKN.1 hP 0 rfl rfl 2 (by decide) (hts _ tw_363) (fun _ h9 => h9) rfl dX1_meetingFrom_43 ?_
      refine lv_iload_n hx hb dX1_meetingFrom_46 rfl (lv_at hl 0 rfl) ?_
      refine cpVi (rest := []) ⟨hx, hb, hml, hown, hts⟩ hKN (hP.sub (ws' := [(g, .inr (3, [.int g_odds, .int g_pot, .int g_lines, .int g_men, .int g_clauses, .int g_winds, .int g_far0, .int g_far1, .ref g_qsides, .ref g_qgrips, .ref g_qwits, .ref g_qsays, .ref g_qgives0, .ref g_qgives1, .ref g_qfroms, .ref g_qtos])), (g_qfroms, .inl (cA 1, 4, .inl g_cfroms)), (g_qtos, .inl (cA 1, 4, .inl g_ctos))]) [1, 2, 3] rfl) (g_X3_isWindy l D cA g g_odds g_pot g_lines g_men g_clauses g_winds g_far0 g_far1 g_qsides g_qgrips g_qwits g_qsays g_qgives0 g_qgives1 g_qfroms g_qtos g_cfroms g_ctos L2_22 (by omega) (by omega) (by omega) (by omega) (by omega) (by omega) (by omega)) (tb_V tw_786 tw_787 tw_788 tw_104 tw_789) hdX3_isWindy ⟨rfl, rfl, Nat.le_of_ble_eq_true rfl, Nat.le_of_ble_eq_true rfl⟩ ⟨Nat.le_of_ble_eq_true rfl, Nat.le_of_ble_eq_true rfl⟩ rfl rfl rfl hl.1 rfl (Nat.le_of_ble_eq_true rfl) dX1_meetingFrom_47 (fun r_29 hr_29 => ?_)
      refine lv_if_ne (tgt := 55) hx hb dX1_meetingFrom_50 (by decide) (fun c_30 => ?_) (fun c_30 => ?_)
      · skip
        have k_31 := kk_ne rfl zi_0 c_30
        refine lv_iload_n hx hb dX1_meetingFrom_55 rfl (lv_at hl 0 rfl) ?_
        refine lv_aload_n hx hb dX1_meetingFrom_56 rfl (lv_at hl 1 rfl) ?_
        refine va_get (D := D) (ci := 1) (v := .int c_stride) (C := RX1) (T := TX1) (N := 3) hx hb hts inX1 hown hKN.1 hP 0 rfl rfl 1 (by decide) (hts _ tw_362) (fun _ h9 => h9) rfl dX1_meetingFrom_57 ?_
        refine lv_iadd hx hb dX1_meetingFrom_60 ?_
        refine lv_topi (fun x_32 ex_32 => ?_)
        have k_33 := ar_add rfl rfl ex_32 (by omega) (by omega)
        refine lv_istore_n (lv' := [(2, .int x_32), (0, .ref h0), (1, .int p0)]) hx hb dX1_meetingFrom_61 rfl hl (by decide) rfl (fun ls hl => ?_)
        refine lv_goto (tgt := 35) hx hb dX1_meetingFrom_62 (by decide) ?_
        exact ih_22 (x_32) _ _ _ ⟨rfl, rfl, lv_sub hl [0, 1, 2] rfl⟩ (by show (2147483647 - x_32.toInt).toNat < (2147483647 - L2_22.toInt).toNat; omega)
      · skip
        have k_34 := kk_eq rfl zi_0 c_30
        refine lv_iload_n hx hb dX1_meetingFrom_53 rfl (lv_at hl 0 rfl) ?_
        exact W.iret (v := L2_22) hx hb hr (fun t ht hW => ⟨L2_22, rfl, (show L2_22.toInt ≤ 10000 from by omega), ht⟩) (fun _ h => by cases h) dX1_meetingFrom_54
  · skip
    have b_36 := i32_bd c_first
    have k_35 := kk_eq rfl zi_m1 c_1
    refine lv_iconst (v := (-1)) hx hb dX1_meetingFrom_8 (by decide) ?_
    exact W.iret (v := (-1)) hx hb hr (fun t ht hW => ⟨(-1), rfl, (show ((-1) : Int32).toInt ≤ 10000 from by decide), ht⟩) (fun _ h => by cases h) dX1_meetingFrom_9
set_option maxHeartbeats 8000000 in
set_option maxRecDepth 100000 in
theorem g_X1_meetingsTo (l : Launch) (D : va_G) (cA : Nat → ClassId) (h0 : Nat) (c_first : Int32) (c_stride : Int32) (g : Nat) (g_odds : Int32) (g_pot : Int32) (g_lines : Int32) (g_men : Int32) (g_clauses : Int32) (g_winds : Int32) (g_far0 : Int32) (g_far1 : Int32) (g_qsides : Nat) (g_qgrips : Nat) (g_qwits : Nat) (g_qsays : Nat) (g_qgives0 : Nat) (g_qgives1 : Nat) (g_qfroms : Nat) (g_qtos : Nat) (g_cfroms : Nat → Int32) (g_ctos : Nat → Int32) (p0 : Int32) (h_c_stride : 1 ≤ (c_stride : Int32).toInt ∧ (c_stride : Int32).toInt ≤ 998001) (h_g_odds : -999 ≤ (g_odds : Int32).toInt ∧ (g_odds : Int32).toInt ≤ 999) (h_g_pot : -999 ≤ (g_pot : Int32).toInt ∧ (g_pot : Int32).toInt ≤ 999) (h_g_men : 0 ≤ (g_men : Int32).toInt ∧ (g_men : Int32).toInt ≤ 8) (h_g_clauses : 0 ≤ (g_clauses : Int32).toInt ∧ (g_clauses : Int32).toInt ≤ 7) (h_g_winds : 0 ≤ (g_winds : Int32).toInt ∧ (g_winds : Int32).toInt ≤ 4) (h_g_far0 : -999 ≤ (g_far0 : Int32).toInt ∧ (g_far0 : Int32).toInt ≤ 999) (h_g_far1 : -999 ≤ (g_far1 : Int32).toInt ∧ (g_far1 : Int32).toInt ≤ 999) (h_p0 : (p0 : Int32).toInt ≤ 10000) : Met l yX1_meetingsTo (Cond.code yX1_meetingsTo cX1_meetingsTo 4 (some .int) :: TB) (rmd 2 0 0) (PP D cA [(h0, .inr (1, [.int c_first, .int c_stride, .ref g])), (g, .inr (3, [.int g_odds, .int g_pot, .int g_lines, .int g_men, .int g_clauses, .int g_winds, .int g_far0, .int g_far1, .ref g_qsides, .ref g_qgrips, .ref g_qwits, .ref g_qsays, .ref g_qgives0, .ref g_qgives1, .ref g_qfroms, .ref g_qtos])), (g_qfroms, .inl (cA 1, 4, .inl g_cfroms)), (g_qtos, .inl (cA 1, 4, .inl g_ctos))] [.ref h0, .int p0]) (vp_Si (fun r => True)) 0 0 (fun _ => False) := by
  refine Met.ofW (cc := cX1_meetingsTo) (maxL := 4) (ret := (some .int)) (by decide) rfl ?_
  intro p e s m args below meth c s₁ B hml hv
  obtain ⟨rfl, hP, hKN⟩ := hv
  have hx := B.exec
  have hb := B.bytes
  have hr := B.returns
  have hts : ∀ w ∈ TB, w.before _ s = true := fun w h => atoms_spec B.pre w (List.mem_cons_of_mem _ h)
  have hown : s.vm.findClass RX1 = some m.cls := findClass_of_methodNamed B.named
  have hlocks := B.notSynchronized
  have hl := lv_entry ([.ref h0, .int p0]) (n := 4) (Nat.le_of_ble_eq_true rfl)
  rw [lg_entry_eq]
  generalize (lg_sl ([.ref h0, .int p0]) ++ List.replicate (4 - (lg_sl ([.ref h0, .int p0])).length) Slot.unset).toArray = ls at hl ⊢
  have hl : lv_has ls 4 [(0, .ref h0), (1, .int p0)] := hl
  refine lv_iconst (v := 0) hx hb dX1_meetingsTo_0 (by decide) ?_
  refine lv_istore_n (lv' := [(2, .int 0), (0, .ref h0), (1, .int p0)]) hx hb dX1_meetingsTo_1 rfl hl (by decide) rfl (fun ls hl => ?_)
  refine lv_aload_n hx hb dX1_meetingsTo_2 rfl (lv_at hl 1 rfl) ?_
  refine va_get (D := D) (ci := 1) (v := .int c_first) (C := RX1) (T := TX1) (N := 3) hx hb hts inX1 hown hKN.1 hP 0 rfl rfl 0 (by decide) (hts _ tw_360) (fun _ h9 => h9) rfl dX1_meetingsTo_3 ?_
  refine lv_istore_n (lv' := [(3, .int c_first), (2, .int 0), (0, .ref h0), (1, .int p0)]) hx hb dX1_meetingsTo_6 rfl hl (by decide) rfl (fun ls hl => ?_)
  have b_95 := i32_bd c_first
  refine loopW (σ := Int32 × Int32) (fun _ => []) (fun ⟨L3_94, L2_94⟩ H locs ls => H = s.heap ∧ locs = [] ∧ lv_has ls 4 [(3, .int L3_94), (2, .int L2_94), (0, .ref h0), (1, .int p0)]) (fun ⟨L3_94, L2_94⟩ => (2147483647 - L3_94.toInt).toNat) ?_ ((c_first, 0) : Int32 × Int32) ⟨rfl, rfl, hl⟩
  intro x_94 H locs ls hI_94 ih_94
  obtain ⟨L3_94, L2_94⟩ := x_94
  obtain ⟨rfl, rfl, hl⟩ := hI_94
  have hl : lv_has ls 4 [(3, .int L3_94), (2, .int L2_94), (0, .ref h0), (1, .int p0)] := hl
  refine lv_iload_n hx hb dX1_meetingsTo_7 rfl (lv_at hl 0 rfl) ?_
  refine lv_iconst (v := (-1)) hx hb dX1_meetingsTo_8 (by decide) ?_
  refine lv_icmp_eq (tgt := 41) hx hb dX1_meetingsTo_9 (by decide) (fun c_96 => ?_) (fun c_96 => ?_)
  · skip
    have b_98 := i32_bd L3_94
    have k_97 := kk_eq rfl zi_m1 c_96
    refine lv_iload_n hx hb dX1_meetingsTo_41 rfl (lv_at hl 1 rfl) ?_
    exact W.iret (v := L2_94) hx hb hr (fun t ht hW => ⟨L2_94, rfl, trivial, ht⟩) (fun _ h => by cases h) dX1_meetingsTo_42
  · skip
    have b_100 := i32_bd L3_94
    have k_99 := kk_ne rfl zi_m1 c_96
    refine lv_iload_n hx hb dX1_meetingsTo_12 rfl (lv_at hl 0 rfl) ?_
    refine lv_iload_n hx hb dX1_meetingsTo_13 rfl (lv_at hl 3 rfl) ?_
    refine lv_icmp_gt (tgt := 41) hx hb dX1_meetingsTo_14 (by decide) (fun c_101 => ?_) (fun c_101 => ?_)
    · skip
      have k_102 := kk_lt rfl rfl c_101
      refine lv_iload_n hx hb dX1_meetingsTo_41 rfl (lv_at hl 1 rfl) ?_
      exact W.iret (v := L2_94) hx hb hr (fun t ht hW => ⟨L2_94, rfl, trivial, ht⟩) (fun _ h => by cases h) dX1_meetingsTo_42
    · skip
      have k_103 := kk_nlt rfl rfl c_101
      refine lv_aload_n hx hb dX1_meetingsTo_17 rfl (lv_at hl 2 rfl) ?_
      refine va_get (D := D) (ci := 1) (v := .ref g) (C := RX1) (T := TX1) (N := 3) hx hb hts inX1 hown hKN.1 hP 0 rfl rfl 2 (by decide) (hts _ tw_363) (fun _ h9 => h9) rfl dX1_meetingsTo_18 ?_
      refine lv_iload_n hx hb dX1_meetingsTo_21 rfl (lv_at hl 0 rfl) ?_
      refine cpVi (rest := []) ⟨hx, hb, hml, hown, hts⟩ hKN (hP.sub (ws' := [(g, .inr (3, [.int g_odds, .int g_pot, .int g_lines, .int g_men, .int g_clauses, .int g_winds, .int g_far0, .int g_far1, .ref g_qsides, .ref g_qgrips, .ref g_qwits, .ref g_qsays, .ref g_qgives0, .ref g_qgives1, .ref g_qfroms, .ref g_qtos])), (g_qfroms, .inl (cA 1, 4, .inl g_cfroms)), (g_qtos, .inl (cA 1, 4, .inl g_ctos))]) [1, 2, 3] rfl) (g_X3_isWindy l D cA g g_odds g_pot g_lines g_men g_clauses g_winds g_far0 g_far1 g_qsides g_qgrips g_qwits g_qsays g_qgives0 g_qgives1 g_qfroms g_qtos g_cfroms g_ctos L3_94 (by omega) (by omega) (by omega) (by omega) (by omega) (by omega) (by omega)) (tb_V tw_786 tw_787 tw_788 tw_104 tw_789) hdX3_isWindy ⟨rfl, rfl, Nat.le_of_ble_eq_true rfl, Nat.le_of_ble_eq_true rfl⟩ ⟨Nat.le_of_ble_eq_true rfl, Nat.le_of_ble_eq_true rfl⟩ rfl rfl rfl hl.1 rfl (Nat.le_of_ble_eq_true rfl) dX1_meetingsTo_22 (fun r_104 hr_104 => ?_)
      refine lv_if_ne (tgt := 31) hx hb dX1_meetingsTo_25 (by decide) (fun c_105 => ?_) (fun c_105 => ?_)
      · skip
        have k_106 := kk_ne rfl zi_0 c_105
        refine lv_iload_n hx hb dX1_meetingsTo_31 rfl (lv_at hl 0 rfl) ?_
        refine lv_aload_n hx hb dX1_meetingsTo_32 rfl (lv_at hl 2 rfl) ?_
        refine va_get (D := D) (ci := 1) (v := .int c_stride) (C := RX1) (T := TX1) (N := 3) hx hb hts inX1 hown hKN.1 hP 0 rfl rfl 1 (by decide) (hts _ tw_362) (fun _ h9 => h9) rfl dX1_meetingsTo_33 ?_
        refine lv_iadd hx hb dX1_meetingsTo_36 ?_
        refine lv_topi (fun x_107 ex_107 => ?_)
        have k_108 := ar_add rfl rfl ex_107 (by omega) (by omega)
        refine lv_istore_n (lv' := [(3, .int x_107), (2, .int L2_94), (0, .ref h0), (1, .int p0)]) hx hb dX1_meetingsTo_37 rfl hl (by decide) rfl (fun ls hl => ?_)
        refine lv_goto (tgt := 7) hx hb dX1_meetingsTo_38 (by decide) ?_
        exact ih_94 (x_107, L2_94) _ _ _ ⟨rfl, rfl, lv_sub hl [0, 1, 2, 3] rfl⟩ (by show (2147483647 - x_107.toInt).toNat < (2147483647 - L3_94.toInt).toNat; omega)
      · skip
        have k_109 := kk_eq rfl zi_0 c_105
        obtain ⟨x_110, ex_110⟩ : ∃ y : Int32, L2_94 + Int32.ofInt 1 = y := ⟨_, rfl⟩
        refine lv_iinc (v := x_110) (lv' := [(2, .int x_110), (3, .int L3_94), (0, .ref h0), (1, .int p0)]) hx hb dX1_meetingsTo_28 hl (k := 1) rfl ex_110 (by decide) rfl (fun ls hl => ?_)
        refine lv_iload_n hx hb dX1_meetingsTo_31 rfl (lv_at hl 1 rfl) ?_
        refine lv_aload_n hx hb dX1_meetingsTo_32 rfl (lv_at hl 2 rfl) ?_
        refine va_get (D := D) (ci := 1) (v := .int c_stride) (C := RX1) (T := TX1) (N := 3) hx hb hts inX1 hown hKN.1 hP 0 rfl rfl 1 (by decide) (hts _ tw_362) (fun _ h9 => h9) rfl dX1_meetingsTo_33 ?_
        refine lv_iadd hx hb dX1_meetingsTo_36 ?_
        refine lv_topi (fun x_111 ex_111 => ?_)
        have k_112 := ar_add rfl rfl ex_111 (by omega) (by omega)
        refine lv_istore_n (lv' := [(3, .int x_111), (2, .int x_110), (0, .ref h0), (1, .int p0)]) hx hb dX1_meetingsTo_37 rfl hl (by decide) rfl (fun ls hl => ?_)
        refine lv_goto (tgt := 7) hx hb dX1_meetingsTo_38 (by decide) ?_
        exact ih_94 (x_111, x_110) _ _ _ ⟨rfl, rfl, lv_sub hl [0, 1, 2, 3] rfl⟩ (by show (2147483647 - x_111.toInt).toNat < (2147483647 - L3_94.toInt).toNat; omega)
set_option maxHeartbeats 8000000 in
set_option maxRecDepth 100000 in
theorem g_X1_meetingOf (l : Launch) (D : va_G) (cA : Nat → ClassId) (h0 : Nat) (c_first : Int32) (c_stride : Int32) (g : Nat) (g_odds : Int32) (g_pot : Int32) (g_lines : Int32) (g_men : Int32) (g_clauses : Int32) (g_winds : Int32) (g_far0 : Int32) (g_far1 : Int32) (g_qsides : Nat) (g_qgrips : Nat) (g_qwits : Nat) (g_qsays : Nat) (g_qgives0 : Nat) (g_qgives1 : Nat) (g_qfroms : Nat) (g_qtos : Nat) (g_cfroms : Nat → Int32) (g_ctos : Nat → Int32) (p0 : Int32) (h_c_stride : 1 ≤ (c_stride : Int32).toInt ∧ (c_stride : Int32).toInt ≤ 998001) (h_g_odds : -999 ≤ (g_odds : Int32).toInt ∧ (g_odds : Int32).toInt ≤ 999) (h_g_pot : -999 ≤ (g_pot : Int32).toInt ∧ (g_pot : Int32).toInt ≤ 999) (h_g_men : 0 ≤ (g_men : Int32).toInt ∧ (g_men : Int32).toInt ≤ 8) (h_g_clauses : 0 ≤ (g_clauses : Int32).toInt ∧ (g_clauses : Int32).toInt ≤ 7) (h_g_winds : 0 ≤ (g_winds : Int32).toInt ∧ (g_winds : Int32).toInt ≤ 4) (h_g_far0 : -999 ≤ (g_far0 : Int32).toInt ∧ (g_far0 : Int32).toInt ≤ 999) (h_g_far1 : -999 ≤ (g_far1 : Int32).toInt ∧ (g_far1 : Int32).toInt ≤ 999) : Met l yX1_meetingOf (Cond.code yX1_meetingOf cX1_meetingOf 4 (some .int) :: TB) (rmd 2 0 0) (PP D cA [(h0, .inr (1, [.int c_first, .int c_stride, .ref g])), (g, .inr (3, [.int g_odds, .int g_pot, .int g_lines, .int g_men, .int g_clauses, .int g_winds, .int g_far0, .int g_far1, .ref g_qsides, .ref g_qgrips, .ref g_qwits, .ref g_qsays, .ref g_qgives0, .ref g_qgives1, .ref g_qfroms, .ref g_qtos])), (g_qfroms, .inl (cA 1, 4, .inl g_cfroms)), (g_qtos, .inl (cA 1, 4, .inl g_ctos))] [.ref h0, .int p0]) (vp_Si (fun r => r.toInt ≤ 10000)) 0 0 (fun _ => False) := by
  refine Met.ofW (cc := cX1_meetingOf) (maxL := 4) (ret := (some .int)) (by decide) rfl ?_
  intro p e s m args below meth c s₁ B hml hv
  obtain ⟨rfl, hP, hKN⟩ := hv
  have hx := B.exec
  have hb := B.bytes
  have hr := B.returns
  have hts : ∀ w ∈ TB, w.before _ s = true := fun w h => atoms_spec B.pre w (List.mem_cons_of_mem _ h)
  have hown : s.vm.findClass RX1 = some m.cls := findClass_of_methodNamed B.named
  have hlocks := B.notSynchronized
  have hl := lv_entry ([.ref h0, .int p0]) (n := 4) (Nat.le_of_ble_eq_true rfl)
  rw [lg_entry_eq]
  generalize (lg_sl ([.ref h0, .int p0]) ++ List.replicate (4 - (lg_sl ([.ref h0, .int p0])).length) Slot.unset).toArray = ls at hl ⊢
  have hl : lv_has ls 4 [(0, .ref h0), (1, .int p0)] := hl
  refine lv_iconst (v := 0) hx hb dX1_meetingOf_0 (by decide) ?_
  refine lv_istore_n (lv' := [(2, .int 0), (0, .ref h0), (1, .int p0)]) hx hb dX1_meetingOf_1 rfl hl (by decide) rfl (fun ls hl => ?_)
  refine lv_aload_n hx hb dX1_meetingOf_2 rfl (lv_at hl 1 rfl) ?_
  refine va_get (D := D) (ci := 1) (v := .int c_first) (C := RX1) (T := TX1) (N := 3) hx hb hts inX1 hown hKN.1 hP 0 rfl rfl 0 (by decide) (hts _ tw_360) (fun _ h9 => h9) rfl dX1_meetingOf_3 ?_
  refine lv_istore_n (lv' := [(3, .int c_first), (2, .int 0), (0, .ref h0), (1, .int p0)]) hx hb dX1_meetingOf_6 rfl hl (by decide) rfl (fun ls hl => ?_)
  have b_122 := i32_bd c_first
  refine loopW (σ := Int32 × Int32) (fun _ => []) (fun ⟨L3_121, L2_121⟩ H locs ls => H = s.heap ∧ locs = [] ∧ lv_has ls 4 [(3, .int L3_121), (2, .int L2_121), (0, .ref h0), (1, .int p0)]) (fun ⟨L3_121, L2_121⟩ => (2147483647 - L3_121.toInt).toNat) ?_ ((c_first, 0) : Int32 × Int32) ⟨rfl, rfl, hl⟩
  intro x_121 H locs ls hI_121 ih_121
  obtain ⟨L3_121, L2_121⟩ := x_121
  obtain ⟨rfl, rfl, hl⟩ := hI_121
  have hl : lv_has ls 4 [(3, .int L3_121), (2, .int L2_121), (0, .ref h0), (1, .int p0)] := hl
  refine lv_iload_n hx hb dX1_meetingOf_7 rfl (lv_at hl 0 rfl) ?_
  refine lv_iconst (v := (-1)) hx hb dX1_meetingOf_8 (by decide) ?_
  refine lv_icmp_eq (tgt := 50) hx hb dX1_meetingOf_9 (by decide) (fun c_123 => ?_) (fun c_123 => ?_)
  · skip
    have b_125 := i32_bd L3_121
    have k_124 := kk_eq rfl zi_m1 c_123
    refine lv_iconst (v := (-1)) hx hb dX1_meetingOf_50 (by decide) ?_
    exact W.iret (v := (-1)) hx hb hr (fun t ht hW => ⟨(-1), rfl, (show ((-1) : Int32).toInt ≤ 10000 from by decide), ht⟩) (fun _ h => by cases h) dX1_meetingOf_51
  · skip
    have b_127 := i32_bd L3_121
    have k_126 := kk_ne rfl zi_m1 c_123
    refine lv_iload_n hx hb dX1_meetingOf_12 rfl (lv_at hl 0 rfl) ?_
    refine lv_sipush (v := 10000) hx hb dX1_meetingOf_13 (by decide) ?_
    refine lv_icmp_gt (tgt := 50) hx hb dX1_meetingOf_16 (by decide) (fun c_128 => ?_) (fun c_128 => ?_)
    · skip
      have k_129 := kk_lt zi_10000 rfl c_128
      refine lv_iconst (v := (-1)) hx hb dX1_meetingOf_50 (by decide) ?_
      exact W.iret (v := (-1)) hx hb hr (fun t ht hW => ⟨(-1), rfl, (show ((-1) : Int32).toInt ≤ 10000 from by decide), ht⟩) (fun _ h => by cases h) dX1_meetingOf_51
    · skip
      have k_130 := kk_nlt zi_10000 rfl c_128
      refine lv_aload_n hx hb dX1_meetingOf_19 rfl (lv_at hl 2 rfl) ?_
      refine va_get (D := D) (ci := 1) (v := .ref g) (C := RX1) (T := TX1) (N := 3) hx hb hts inX1 hown hKN.1 hP 0 rfl rfl 2 (by decide) (hts _ tw_363) (fun _ h9 => h9) rfl dX1_meetingOf_20 ?_
      refine lv_iload_n hx hb dX1_meetingOf_23 rfl (lv_at hl 0 rfl) ?_
      refine cpVi (rest := []) ⟨hx, hb, hml, hown, hts⟩ hKN (hP.sub (ws' := [(g, .inr (3, [.int g_odds, .int g_pot, .int g_lines, .int g_men, .int g_clauses, .int g_winds, .int g_far0, .int g_far1, .ref g_qsides, .ref g_qgrips, .ref g_qwits, .ref g_qsays, .ref g_qgives0, .ref g_qgives1, .ref g_qfroms, .ref g_qtos])), (g_qfroms, .inl (cA 1, 4, .inl g_cfroms)), (g_qtos, .inl (cA 1, 4, .inl g_ctos))]) [1, 2, 3] rfl) (g_X3_isWindy l D cA g g_odds g_pot g_lines g_men g_clauses g_winds g_far0 g_far1 g_qsides g_qgrips g_qwits g_qsays g_qgives0 g_qgives1 g_qfroms g_qtos g_cfroms g_ctos L3_121 (by omega) (by omega) (by omega) (by omega) (by omega) (by omega) (by omega)) (tb_V tw_786 tw_787 tw_788 tw_104 tw_789) hdX3_isWindy ⟨rfl, rfl, Nat.le_of_ble_eq_true rfl, Nat.le_of_ble_eq_true rfl⟩ ⟨Nat.le_of_ble_eq_true rfl, Nat.le_of_ble_eq_true rfl⟩ rfl rfl rfl hl.1 rfl (Nat.le_of_ble_eq_true rfl) dX1_meetingOf_24 (fun r_131 hr_131 => ?_)
      refine lv_if_ne (tgt := 40) hx hb dX1_meetingOf_27 (by decide) (fun c_132 => ?_) (fun c_132 => ?_)
      · skip
        have k_133 := kk_ne rfl zi_0 c_132
        refine lv_iload_n hx hb dX1_meetingOf_40 rfl (lv_at hl 0 rfl) ?_
        refine lv_aload_n hx hb dX1_meetingOf_41 rfl (lv_at hl 2 rfl) ?_
        refine va_get (D := D) (ci := 1) (v := .int c_stride) (C := RX1) (T := TX1) (N := 3) hx hb hts inX1 hown hKN.1 hP 0 rfl rfl 1 (by decide) (hts _ tw_362) (fun _ h9 => h9) rfl dX1_meetingOf_42 ?_
        refine lv_iadd hx hb dX1_meetingOf_45 ?_
        refine lv_topi (fun x_134 ex_134 => ?_)
        have k_135 := ar_add rfl rfl ex_134 (by omega) (by omega)
        refine lv_istore_n (lv' := [(3, .int x_134), (2, .int L2_121), (0, .ref h0), (1, .int p0)]) hx hb dX1_meetingOf_46 rfl hl (by decide) rfl (fun ls hl => ?_)
        refine lv_goto (tgt := 7) hx hb dX1_meetingOf_47 (by decide) ?_
        exact ih_121 (x_134, L2_121) _ _ _ ⟨rfl, rfl, lv_sub hl [0, 1, 2, 3] rfl⟩ (by show (2147483647 - x_134.toInt).toNat < (2147483647 - L3_121.toInt).toNat; omega)
      · skip
        have k_136 := kk_eq rfl zi_0 c_132
        refine lv_iload_n hx hb dX1_meetingOf_30 rfl (lv_at hl 1 rfl) ?_
        refine lv_iload_n hx hb dX1_meetingOf_31 rfl (lv_at hl 3 rfl) ?_
        refine lv_icmp_ne (tgt := 37) hx hb dX1_meetingOf_32 (by decide) (fun c_137 => ?_) (fun c_137 => ?_)
        · skip
          have b_139 := i32_bd L2_121
          have b_140 := i32_bd p0
          have k_138 := kk_ne rfl rfl c_137
          obtain ⟨x_141, ex_141⟩ : ∃ y : Int32, L2_121 + Int32.ofInt 1 = y := ⟨_, rfl⟩
          refine lv_iinc (v := x_141) (lv' := [(2, .int x_141), (3, .int L3_121), (0, .ref h0), (1, .int p0)]) hx hb dX1_meetingOf_37 hl (k := 1) rfl ex_141 (by decide) rfl (fun ls hl => ?_)
          refine lv_iload_n hx hb dX1_meetingOf_40 rfl (lv_at hl 1 rfl) ?_
          refine lv_aload_n hx hb dX1_meetingOf_41 rfl (lv_at hl 2 rfl) ?_
          refine va_get (D := D) (ci := 1) (v := .int c_stride) (C := RX1) (T := TX1) (N := 3) hx hb hts inX1 hown hKN.1 hP 0 rfl rfl 1 (by decide) (hts _ tw_362) (fun _ h9 => h9) rfl dX1_meetingOf_42 ?_
          refine lv_iadd hx hb dX1_meetingOf_45 ?_
          refine lv_topi (fun x_142 ex_142 => ?_)
          have k_143 := ar_add rfl rfl ex_142 (by omega) (by omega)
          refine lv_istore_n (lv' := [(3, .int x_142), (2, .int x_141), (0, .ref h0), (1, .int p0)]) hx hb dX1_meetingOf_46 rfl hl (by decide) rfl (fun ls hl => ?_)
          refine lv_goto (tgt := 7) hx hb dX1_meetingOf_47 (by decide) ?_
          exact ih_121 (x_142, x_141) _ _ _ ⟨rfl, rfl, lv_sub hl [0, 1, 2, 3] rfl⟩ (by show (2147483647 - x_142.toInt).toNat < (2147483647 - L3_121.toInt).toNat; omega)
        · skip
          have b_145 := i32_bd L2_121
          have b_146 := i32_bd p0
          have k_144 := kk_eq rfl rfl c_137
          refine lv_iload_n hx hb dX1_meetingOf_35 rfl (lv_at hl 0 rfl) ?_
          exact W.iret (v := L3_121) hx hb hr (fun t ht hW => ⟨L3_121, rfl, (show L3_121.toInt ≤ 10000 from by omega), ht⟩) (fun _ h => by cases h) dX1_meetingOf_36
set_option maxHeartbeats 8000000 in
set_option maxRecDepth 100000 in
theorem g_X1_longestGap (l : Launch) (D : va_G) (cA : Nat → ClassId) (h0 : Nat) (c_first : Int32) (c_stride : Int32) (g : Nat) (g_odds : Int32) (g_pot : Int32) (g_lines : Int32) (g_men : Int32) (g_clauses : Int32) (g_winds : Int32) (g_far0 : Int32) (g_far1 : Int32) (g_qsides : Nat) (g_qgrips : Nat) (g_qwits : Nat) (g_qsays : Nat) (g_qgives0 : Nat) (g_qgives1 : Nat) (g_qfroms : Nat) (g_qtos : Nat) (g_cfroms : Nat → Int32) (g_ctos : Nat → Int32) (p0 : Int32) (h_c_stride : 1 ≤ (c_stride : Int32).toInt ∧ (c_stride : Int32).toInt ≤ 998001) (h_g_odds : -999 ≤ (g_odds : Int32).toInt ∧ (g_odds : Int32).toInt ≤ 999) (h_g_pot : -999 ≤ (g_pot : Int32).toInt ∧ (g_pot : Int32).toInt ≤ 999) (h_g_men : 0 ≤ (g_men : Int32).toInt ∧ (g_men : Int32).toInt ≤ 8) (h_g_clauses : 0 ≤ (g_clauses : Int32).toInt ∧ (g_clauses : Int32).toInt ≤ 7) (h_g_winds : 0 ≤ (g_winds : Int32).toInt ∧ (g_winds : Int32).toInt ≤ 4) (h_g_far0 : -999 ≤ (g_far0 : Int32).toInt ∧ (g_far0 : Int32).toInt ≤ 999) (h_g_far1 : -999 ≤ (g_far1 : Int32).toInt ∧ (g_far1 : Int32).toInt ≤ 999) (h_p0 : (p0 : Int32).toInt ≤ 10000) : Met l yX1_longestGap (Cond.code yX1_longestGap cX1_longestGap 5 (some .int) :: TB) (rmd 2 0 0) (PP D cA [(h0, .inr (1, [.int c_first, .int c_stride, .ref g])), (g, .inr (3, [.int g_odds, .int g_pot, .int g_lines, .int g_men, .int g_clauses, .int g_winds, .int g_far0, .int g_far1, .ref g_qsides, .ref g_qgrips, .ref g_qwits, .ref g_qsays, .ref g_qgives0, .ref g_qgives1, .ref g_qfroms, .ref g_qtos])), (g_qfroms, .inl (cA 1, 4, .inl g_cfroms)), (g_qtos, .inl (cA 1, 4, .inl g_ctos))] [.ref h0, .int p0]) (vp_Si (fun r => -1 ≤ r.toInt)) 0 0 (fun _ => False) := by
  refine Met.ofW (cc := cX1_longestGap) (maxL := 5) (ret := (some .int)) (by decide) rfl ?_
  intro p e s m args below meth c s₁ B hml hv
  obtain ⟨rfl, hP, hKN⟩ := hv
  have hx := B.exec
  have hb := B.bytes
  have hr := B.returns
  have hts : ∀ w ∈ TB, w.before _ s = true := fun w h => atoms_spec B.pre w (List.mem_cons_of_mem _ h)
  have hown : s.vm.findClass RX1 = some m.cls := findClass_of_methodNamed B.named
  have hlocks := B.notSynchronized
  have hl := lv_entry ([.ref h0, .int p0]) (n := 5) (Nat.le_of_ble_eq_true rfl)
  rw [lg_entry_eq]
  generalize (lg_sl ([.ref h0, .int p0]) ++ List.replicate (5 - (lg_sl ([.ref h0, .int p0])).length) Slot.unset).toArray = ls at hl ⊢
  have hl : lv_has ls 5 [(0, .ref h0), (1, .int p0)] := hl
  refine lv_iconst (v := (-1)) hx hb dX1_longestGap_0 (by decide) ?_
  refine lv_istore_n (lv' := [(2, .int (-1)), (0, .ref h0), (1, .int p0)]) hx hb dX1_longestGap_1 rfl hl (by decide) rfl (fun ls hl => ?_)
  refine lv_iconst (v := (-1)) hx hb dX1_longestGap_2 (by decide) ?_
  refine lv_istore_n (lv' := [(3, .int (-1)), (2, .int (-1)), (0, .ref h0), (1, .int p0)]) hx hb dX1_longestGap_3 rfl hl (by decide) rfl (fun ls hl => ?_)
  refine lv_aload_n hx hb dX1_longestGap_4 rfl (lv_at hl 2 rfl) ?_
  refine va_get (D := D) (ci := 1) (v := .int c_first) (C := RX1) (T := TX1) (N := 3) hx hb hts inX1 hown hKN.1 hP 0 rfl rfl 0 (by decide) (hts _ tw_360) (fun _ h9 => h9) rfl dX1_longestGap_5 ?_
  refine lv_istore (lv' := [(4, .int c_first), (3, .int (-1)), (2, .int (-1)), (0, .ref h0), (1, .int p0)]) hx hb dX1_longestGap_8 hl (by decide) rfl (fun ls hl => ?_)
  have b_72 := i32_bd c_first
  refine loopW (σ := Int32 × Int32 × Int32) (fun _ => []) (fun ⟨L4_71, L3_71, L2_71⟩ H locs ls => (L3_71.toInt ≤ 10000) ∧ (-1 ≤ L2_71.toInt) ∧ H = s.heap ∧ locs = [] ∧ lv_has ls 5 [(4, .int L4_71), (3, .int L3_71), (2, .int L2_71), (0, .ref h0), (1, .int p0)]) (fun ⟨L4_71, L3_71, L2_71⟩ => (2147483647 - L4_71.toInt).toNat) ?_ ((c_first, (-1), (-1)) : Int32 × Int32 × Int32) ⟨(by decide), (by decide), rfl, rfl, hl⟩
  intro x_71 H locs ls hI_71 ih_71
  obtain ⟨L4_71, L3_71, L2_71⟩ := x_71
  obtain ⟨k0_71, k1_71, rfl, rfl, hl⟩ := hI_71
  have hl : lv_has ls 5 [(4, .int L4_71), (3, .int L3_71), (2, .int L2_71), (0, .ref h0), (1, .int p0)] := hl
  refine lv_iload hx hb dX1_longestGap_10 (lv_at hl 0 rfl) ?_
  refine lv_iconst (v := (-1)) hx hb dX1_longestGap_12 (by decide) ?_
  refine lv_icmp_eq (tgt := 63) hx hb dX1_longestGap_13 (by decide) (fun c_73 => ?_) (fun c_73 => ?_)
  · skip
    have b_75 := i32_bd L4_71
    have k_74 := kk_eq rfl zi_m1 c_73
    refine lv_iload_n hx hb dX1_longestGap_63 rfl (lv_at hl 2 rfl) ?_
    exact W.iret (v := L2_71) hx hb hr (fun t ht hW => ⟨L2_71, rfl, (show -1 ≤ L2_71.toInt from by omega), ht⟩) (fun _ h => by cases h) dX1_longestGap_64
  · skip
    have b_77 := i32_bd L4_71
    have k_76 := kk_ne rfl zi_m1 c_73
    refine lv_iload hx hb dX1_longestGap_16 (lv_at hl 0 rfl) ?_
    refine lv_iload_n hx hb dX1_longestGap_18 rfl (lv_at hl 4 rfl) ?_
    refine lv_icmp_gt (tgt := 63) hx hb dX1_longestGap_19 (by decide) (fun c_78 => ?_) (fun c_78 => ?_)
    · skip
      have k_79 := kk_lt rfl rfl c_78
      refine lv_iload_n hx hb dX1_longestGap_63 rfl (lv_at hl 2 rfl) ?_
      exact W.iret (v := L2_71) hx hb hr (fun t ht hW => ⟨L2_71, rfl, (show -1 ≤ L2_71.toInt from by omega), ht⟩) (fun _ h => by cases h) dX1_longestGap_64
    · skip
      have k_80 := kk_nlt rfl rfl c_78
      refine lv_aload_n hx hb dX1_longestGap_22 rfl (lv_at hl 3 rfl) ?_
      refine va_get (D := D) (ci := 1) (v := .ref g) (C := RX1) (T := TX1) (N := 3) hx hb hts inX1 hown hKN.1 hP 0 rfl rfl 2 (by decide) (hts _ tw_363) (fun _ h9 => h9) rfl dX1_longestGap_23 ?_
      refine lv_iload hx hb dX1_longestGap_26 (lv_at hl 0 rfl) ?_
      refine cpVi (rest := []) ⟨hx, hb, hml, hown, hts⟩ hKN (hP.sub (ws' := [(g, .inr (3, [.int g_odds, .int g_pot, .int g_lines, .int g_men, .int g_clauses, .int g_winds, .int g_far0, .int g_far1, .ref g_qsides, .ref g_qgrips, .ref g_qwits, .ref g_qsays, .ref g_qgives0, .ref g_qgives1, .ref g_qfroms, .ref g_qtos])), (g_qfroms, .inl (cA 1, 4, .inl g_cfroms)), (g_qtos, .inl (cA 1, 4, .inl g_ctos))]) [1, 2, 3] rfl) (g_X3_isWindy l D cA g g_odds g_pot g_lines g_men g_clauses g_winds g_far0 g_far1 g_qsides g_qgrips g_qwits g_qsays g_qgives0 g_qgives1 g_qfroms g_qtos g_cfroms g_ctos L4_71 (by omega) (by omega) (by omega) (by omega) (by omega) (by omega) (by omega)) (tb_V tw_786 tw_787 tw_788 tw_104 tw_789) hdX3_isWindy ⟨rfl, rfl, Nat.le_of_ble_eq_true rfl, Nat.le_of_ble_eq_true rfl⟩ ⟨Nat.le_of_ble_eq_true rfl, Nat.le_of_ble_eq_true rfl⟩ rfl rfl rfl hl.1 rfl (Nat.le_of_ble_eq_true rfl) dX1_longestGap_28 (fun r_81 hr_81 => ?_)
      refine lv_if_ne (tgt := 51) hx hb dX1_longestGap_31 (by decide) (fun c_82 => ?_) (fun c_82 => ?_)
      · skip
        have k_83 := kk_ne rfl zi_0 c_82
        refine lv_iload hx hb dX1_longestGap_51 (lv_at hl 0 rfl) ?_
        refine lv_aload_n hx hb dX1_longestGap_53 rfl (lv_at hl 3 rfl) ?_
        refine va_get (D := D) (ci := 1) (v := .int c_stride) (C := RX1) (T := TX1) (N := 3) hx hb hts inX1 hown hKN.1 hP 0 rfl rfl 1 (by decide) (hts _ tw_362) (fun _ h9 => h9) rfl dX1_longestGap_54 ?_
        refine lv_iadd hx hb dX1_longestGap_57 ?_
        refine lv_topi (fun x_84 ex_84 => ?_)
        have k_85 := ar_add rfl rfl ex_84 (by omega) (by omega)
        refine lv_istore (lv' := [(4, .int x_84), (3, .int L3_71), (2, .int L2_71), (0, .ref h0), (1, .int p0)]) hx hb dX1_longestGap_58 hl (by decide) rfl (fun ls hl => ?_)
        refine lv_goto (tgt := 10) hx hb dX1_longestGap_60 (by decide) ?_
        exact ih_71 (x_84, L3_71, L2_71) _ _ _ ⟨(show L3_71.toInt ≤ 10000 from by omega), (show -1 ≤ L2_71.toInt from by omega), rfl, rfl, lv_sub hl [0, 1, 2, 3, 4] rfl⟩ (by show (2147483647 - x_84.toInt).toNat < (2147483647 - L4_71.toInt).toNat; omega)
      · skip
        have k_86 := kk_eq rfl zi_0 c_82
        refine lv_iload_n hx hb dX1_longestGap_34 rfl (lv_at hl 1 rfl) ?_
        refine lv_iconst (v := (-1)) hx hb dX1_longestGap_35 (by decide) ?_
        refine lv_icmp_eq (tgt := 48) hx hb dX1_longestGap_36 (by decide) (fun c_87 => ?_) (fun c_87 => ?_)
        · skip
          have k_88 := kk_eq rfl zi_m1 c_87
          refine lv_iload hx hb dX1_longestGap_48 (lv_at hl 0 rfl) ?_
          refine lv_istore_n (lv' := [(3, .int L4_71), (4, .int L4_71), (2, .int L2_71), (0, .ref h0), (1, .int p0)]) hx hb dX1_longestGap_50 rfl hl (by decide) rfl (fun ls hl => ?_)
          refine lv_iload hx hb dX1_longestGap_51 (lv_at hl 1 rfl) ?_
          refine lv_aload_n hx hb dX1_longestGap_53 rfl (lv_at hl 3 rfl) ?_
          refine va_get (D := D) (ci := 1) (v := .int c_stride) (C := RX1) (T := TX1) (N := 3) hx hb hts inX1 hown hKN.1 hP 0 rfl rfl 1 (by decide) (hts _ tw_362) (fun _ h9 => h9) rfl dX1_longestGap_54 ?_
          refine lv_iadd hx hb dX1_longestGap_57 ?_
          refine lv_topi (fun x_89 ex_89 => ?_)
          have k_90 := ar_add rfl rfl ex_89 (by omega) (by omega)
          refine lv_istore (lv' := [(4, .int x_89), (3, .int L4_71), (2, .int L2_71), (0, .ref h0), (1, .int p0)]) hx hb dX1_longestGap_58 hl (by decide) rfl (fun ls hl => ?_)
          refine lv_goto (tgt := 10) hx hb dX1_longestGap_60 (by decide) ?_
          exact ih_71 (x_89, L4_71, L2_71) _ _ _ ⟨(show L4_71.toInt ≤ 10000 from by omega), (show -1 ≤ L2_71.toInt from by omega), rfl, rfl, lv_sub hl [0, 1, 2, 3, 4] rfl⟩ (by show (2147483647 - x_89.toInt).toNat < (2147483647 - L4_71.toInt).toNat; omega)
        · skip
          have k_91 := kk_ne rfl zi_m1 c_87
          refine lv_iload_n hx hb dX1_longestGap_39 rfl (lv_at hl 2 rfl) ?_
          refine lv_iload hx hb dX1_longestGap_40 (lv_at hl 0 rfl) ?_
          refine lv_iload_n hx hb dX1_longestGap_42 rfl (lv_at hl 1 rfl) ?_
          refine lv_isub hx hb dX1_longestGap_43 ?_
          refine lv_topi (fun x_92 ex_92 => ?_)
          refine cpSi (rest := []) ⟨hx, hb, hml, hown, hts⟩ hKN (hP.sub (ws' := []) [] rfl) (g_J9_max_7cf53 l D cA L2_71 x_92) (tb_S tw_778 tw_779 tw_115 tw_780) hdJ9_max_7cf53 ⟨rfl, rfl, Nat.le_of_ble_eq_true rfl, Nat.le_of_ble_eq_true rfl⟩ ⟨Nat.le_of_ble_eq_true rfl, Nat.le_of_ble_eq_true rfl⟩ rfl hl.1 rfl (Nat.le_of_ble_eq_true rfl) dX1_longestGap_44 (fun r_94 hr_94 => ?_)
          obtain ⟨k_94_0_0, k_94_0_1, k_94_0_2⟩ := hr_94
          refine lv_istore_n (lv' := [(2, .int r_94), (4, .int L4_71), (3, .int L3_71), (0, .ref h0), (1, .int p0)]) hx hb dX1_longestGap_47 rfl hl (by decide) rfl (fun ls hl => ?_)
          refine lv_iload hx hb dX1_longestGap_48 (lv_at hl 1 rfl) ?_
          refine lv_istore_n (lv' := [(3, .int L4_71), (2, .int r_94), (4, .int L4_71), (0, .ref h0), (1, .int p0)]) hx hb dX1_longestGap_50 rfl hl (by decide) rfl (fun ls hl => ?_)
          refine lv_iload hx hb dX1_longestGap_51 (lv_at hl 2 rfl) ?_
          refine lv_aload_n hx hb dX1_longestGap_53 rfl (lv_at hl 3 rfl) ?_
          refine va_get (D := D) (ci := 1) (v := .int c_stride) (C := RX1) (T := TX1) (N := 3) hx hb hts inX1 hown hKN.1 hP 0 rfl rfl 1 (by decide) (hts _ tw_362) (fun _ h9 => h9) rfl dX1_longestGap_54 ?_
          refine lv_iadd hx hb dX1_longestGap_57 ?_
          refine lv_topi (fun x_95 ex_95 => ?_)
          have k_96 := ar_add rfl rfl ex_95 (by omega) (by omega)
          refine lv_istore (lv' := [(4, .int x_95), (3, .int L4_71), (2, .int r_94), (0, .ref h0), (1, .int p0)]) hx hb dX1_longestGap_58 hl (by decide) rfl (fun ls hl => ?_)
          refine lv_goto (tgt := 10) hx hb dX1_longestGap_60 (by decide) ?_
          exact ih_71 (x_95, L4_71, r_94) _ _ _ ⟨(show L4_71.toInt ≤ 10000 from by omega), (show -1 ≤ r_94.toInt from by omega), rfl, rfl, lv_sub hl [0, 1, 2, 3, 4] rfl⟩ (by show (2147483647 - x_95.toInt).toNat < (2147483647 - L4_71.toInt).toNat; omega)
set_option maxHeartbeats 8000000 in
set_option maxRecDepth 100000 in
theorem g_X1_spoiled (l : Launch) (D : va_G) (cA : Nat → ClassId) (h0 : Nat) (c_first : Int32) (c_stride : Int32) (g : Nat) (g_odds : Int32) (g_pot : Int32) (g_lines : Int32) (g_men : Int32) (g_clauses : Int32) (g_winds : Int32) (g_far0 : Int32) (g_far1 : Int32) (g_qsides : Nat) (g_qgrips : Nat) (g_qwits : Nat) (g_qsays : Nat) (g_qgives0 : Nat) (g_qgives1 : Nat) (g_qfroms : Nat) (g_qtos : Nat) (g_cfroms : Nat → Int32) (g_ctos : Nat → Int32) (h_c_stride : 1 ≤ (c_stride : Int32).toInt ∧ (c_stride : Int32).toInt ≤ 998001) (h_g_odds : -999 ≤ (g_odds : Int32).toInt ∧ (g_odds : Int32).toInt ≤ 999) (h_g_pot : -999 ≤ (g_pot : Int32).toInt ∧ (g_pot : Int32).toInt ≤ 999) (h_g_men : 0 ≤ (g_men : Int32).toInt ∧ (g_men : Int32).toInt ≤ 8) (h_g_clauses : 0 ≤ (g_clauses : Int32).toInt ∧ (g_clauses : Int32).toInt ≤ 7) (h_g_winds : 0 ≤ (g_winds : Int32).toInt ∧ (g_winds : Int32).toInt ≤ 4) (h_g_far0 : -999 ≤ (g_far0 : Int32).toInt ∧ (g_far0 : Int32).toInt ≤ 999) (h_g_far1 : -999 ≤ (g_far1 : Int32).toInt ∧ (g_far1 : Int32).toInt ≤ 999) : Met l yX1_spoiled (Cond.code yX1_spoiled cX1_spoiled 3 (some .int) :: TB) (rmd 2 0 0) (PP D cA [(h0, .inr (1, [.int c_first, .int c_stride, .ref g])), (g, .inr (3, [.int g_odds, .int g_pot, .int g_lines, .int g_men, .int g_clauses, .int g_winds, .int g_far0, .int g_far1, .ref g_qsides, .ref g_qgrips, .ref g_qwits, .ref g_qsays, .ref g_qgives0, .ref g_qgives1, .ref g_qfroms, .ref g_qtos])), (g_qfroms, .inl (cA 1, 4, .inl g_cfroms)), (g_qtos, .inl (cA 1, 4, .inl g_ctos))] [.ref h0]) (vp_Si (fun r => True)) 0 0 (fun _ => False) := by
  refine Met.ofW (cc := cX1_spoiled) (maxL := 3) (ret := (some .int)) (by decide) rfl ?_
  intro p e s m args below meth c s₁ B hml hv
  obtain ⟨rfl, hP, hKN⟩ := hv
  have hx := B.exec
  have hb := B.bytes
  have hr := B.returns
  have hts : ∀ w ∈ TB, w.before _ s = true := fun w h => atoms_spec B.pre w (List.mem_cons_of_mem _ h)
  have hown : s.vm.findClass RX1 = some m.cls := findClass_of_methodNamed B.named
  have hlocks := B.notSynchronized
  have hl := lv_entry ([.ref h0]) (n := 3) (Nat.le_of_ble_eq_true rfl)
  rw [lg_entry_eq]
  generalize (lg_sl ([.ref h0]) ++ List.replicate (3 - (lg_sl ([.ref h0])).length) Slot.unset).toArray = ls at hl ⊢
  have hl : lv_has ls 3 [(0, .ref h0)] := hl
  refine lv_iconst (v := 0) hx hb dX1_spoiled_0 (by decide) ?_
  refine lv_istore_n (lv' := [(1, .int 0), (0, .ref h0)]) hx hb dX1_spoiled_1 rfl hl (by decide) rfl (fun ls hl => ?_)
  refine lv_aload_n hx hb dX1_spoiled_2 rfl (lv_at hl 1 rfl) ?_
  refine va_get (D := D) (ci := 1) (v := .int c_first) (C := RX1) (T := TX1) (N := 3) hx hb hts inX1 hown hKN.1 hP 0 rfl rfl 0 (by decide) (hts _ tw_360) (fun _ h9 => h9) rfl dX1_spoiled_3 ?_
  refine lv_istore_n (lv' := [(2, .int c_first), (1, .int 0), (0, .ref h0)]) hx hb dX1_spoiled_6 rfl hl (by decide) rfl (fun ls hl => ?_)
  have b_95 := i32_bd c_first
  refine loopW (σ := Int32 × Int32) (fun _ => []) (fun ⟨L2_94, L1_94⟩ H locs ls => H = s.heap ∧ locs = [] ∧ lv_has ls 3 [(2, .int L2_94), (1, .int L1_94), (0, .ref h0)]) (fun ⟨L2_94, L1_94⟩ => (2147483647 - L2_94.toInt).toNat) ?_ ((c_first, 0) : Int32 × Int32) ⟨rfl, rfl, hl⟩
  intro x_94 H locs ls hI_94 ih_94
  obtain ⟨L2_94, L1_94⟩ := x_94
  obtain ⟨rfl, rfl, hl⟩ := hI_94
  have hl : lv_has ls 3 [(2, .int L2_94), (1, .int L1_94), (0, .ref h0)] := hl
  refine lv_iload_n hx hb dX1_spoiled_7 rfl (lv_at hl 0 rfl) ?_
  refine lv_iconst (v := (-1)) hx hb dX1_spoiled_8 (by decide) ?_
  refine lv_icmp_eq (tgt := 43) hx hb dX1_spoiled_9 (by decide) (fun c_96 => ?_) (fun c_96 => ?_)
  · skip
    have b_98 := i32_bd L2_94
    have k_97 := kk_eq rfl zi_m1 c_96
    refine lv_iload_n hx hb dX1_spoiled_43 rfl (lv_at hl 1 rfl) ?_
    exact W.iret (v := L1_94) hx hb hr (fun t ht hW => ⟨L1_94, rfl, trivial, ht⟩) (fun _ h => by cases h) dX1_spoiled_44
  · skip
    have b_100 := i32_bd L2_94
    have k_99 := kk_ne rfl zi_m1 c_96
    refine lv_iload_n hx hb dX1_spoiled_12 rfl (lv_at hl 0 rfl) ?_
    refine lv_sipush (v := 999) hx hb dX1_spoiled_13 (by decide) ?_
    refine lv_icmp_gt (tgt := 43) hx hb dX1_spoiled_16 (by decide) (fun c_101 => ?_) (fun c_101 => ?_)
    · skip
      have k_102 := kk_lt zi_999 rfl c_101
      refine lv_iload_n hx hb dX1_spoiled_43 rfl (lv_at hl 1 rfl) ?_
      exact W.iret (v := L1_94) hx hb hr (fun t ht hW => ⟨L1_94, rfl, trivial, ht⟩) (fun _ h => by cases h) dX1_spoiled_44
    · skip
      have k_103 := kk_nlt zi_999 rfl c_101
      refine lv_aload_n hx hb dX1_spoiled_19 rfl (lv_at hl 2 rfl) ?_
      refine va_get (D := D) (ci := 1) (v := .ref g) (C := RX1) (T := TX1) (N := 3) hx hb hts inX1 hown hKN.1 hP 0 rfl rfl 2 (by decide) (hts _ tw_363) (fun _ h9 => h9) rfl dX1_spoiled_20 ?_
      refine lv_iload_n hx hb dX1_spoiled_23 rfl (lv_at hl 0 rfl) ?_
      refine cpVi (rest := []) ⟨hx, hb, hml, hown, hts⟩ hKN (hP.sub (ws' := [(g, .inr (3, [.int g_odds, .int g_pot, .int g_lines, .int g_men, .int g_clauses, .int g_winds, .int g_far0, .int g_far1, .ref g_qsides, .ref g_qgrips, .ref g_qwits, .ref g_qsays, .ref g_qgives0, .ref g_qgives1, .ref g_qfroms, .ref g_qtos])), (g_qfroms, .inl (cA 1, 4, .inl g_cfroms)), (g_qtos, .inl (cA 1, 4, .inl g_ctos))]) [1, 2, 3] rfl) (g_X3_isWindy l D cA g g_odds g_pot g_lines g_men g_clauses g_winds g_far0 g_far1 g_qsides g_qgrips g_qwits g_qsays g_qgives0 g_qgives1 g_qfroms g_qtos g_cfroms g_ctos L2_94 (by omega) (by omega) (by omega) (by omega) (by omega) (by omega) (by omega)) (tb_V tw_786 tw_787 tw_788 tw_104 tw_789) hdX3_isWindy ⟨rfl, rfl, Nat.le_of_ble_eq_true rfl, Nat.le_of_ble_eq_true rfl⟩ ⟨Nat.le_of_ble_eq_true rfl, Nat.le_of_ble_eq_true rfl⟩ rfl rfl rfl hl.1 rfl (Nat.le_of_ble_eq_true rfl) dX1_spoiled_24 (fun r_104 hr_104 => ?_)
      refine lv_if_eq (tgt := 33) hx hb dX1_spoiled_27 (by decide) (fun c_105 => ?_) (fun c_105 => ?_)
      · skip
        have k_106 := kk_eq rfl zi_0 c_105
        refine lv_iload_n hx hb dX1_spoiled_33 rfl (lv_at hl 0 rfl) ?_
        refine lv_aload_n hx hb dX1_spoiled_34 rfl (lv_at hl 2 rfl) ?_
        refine va_get (D := D) (ci := 1) (v := .int c_stride) (C := RX1) (T := TX1) (N := 3) hx hb hts inX1 hown hKN.1 hP 0 rfl rfl 1 (by decide) (hts _ tw_362) (fun _ h9 => h9) rfl dX1_spoiled_35 ?_
        refine lv_iadd hx hb dX1_spoiled_38 ?_
        refine lv_topi (fun x_107 ex_107 => ?_)
        have k_108 := ar_add rfl rfl ex_107 (by omega) (by omega)
        refine lv_istore_n (lv' := [(2, .int x_107), (1, .int L1_94), (0, .ref h0)]) hx hb dX1_spoiled_39 rfl hl (by decide) rfl (fun ls hl => ?_)
        refine lv_goto (tgt := 7) hx hb dX1_spoiled_40 (by decide) ?_
        exact ih_94 (x_107, L1_94) _ _ _ ⟨rfl, rfl, lv_sub hl [0, 1, 2] rfl⟩ (by show (2147483647 - x_107.toInt).toNat < (2147483647 - L2_94.toInt).toNat; omega)
      · skip
        have k_109 := kk_ne rfl zi_0 c_105
        obtain ⟨x_110, ex_110⟩ : ∃ y : Int32, L1_94 + Int32.ofInt 1 = y := ⟨_, rfl⟩
        refine lv_iinc (v := x_110) (lv' := [(1, .int x_110), (2, .int L2_94), (0, .ref h0)]) hx hb dX1_spoiled_30 hl (k := 1) rfl ex_110 (by decide) rfl (fun ls hl => ?_)
        refine lv_iload_n hx hb dX1_spoiled_33 rfl (lv_at hl 1 rfl) ?_
        refine lv_aload_n hx hb dX1_spoiled_34 rfl (lv_at hl 2 rfl) ?_
        refine va_get (D := D) (ci := 1) (v := .int c_stride) (C := RX1) (T := TX1) (N := 3) hx hb hts inX1 hown hKN.1 hP 0 rfl rfl 1 (by decide) (hts _ tw_362) (fun _ h9 => h9) rfl dX1_spoiled_35 ?_
        refine lv_iadd hx hb dX1_spoiled_38 ?_
        refine lv_topi (fun x_111 ex_111 => ?_)
        have k_112 := ar_add rfl rfl ex_111 (by omega) (by omega)
        refine lv_istore_n (lv' := [(2, .int x_111), (1, .int x_110), (0, .ref h0)]) hx hb dX1_spoiled_39 rfl hl (by decide) rfl (fun ls hl => ?_)
        refine lv_goto (tgt := 7) hx hb dX1_spoiled_40 (by decide) ?_
        exact ih_94 (x_111, x_110) _ _ _ ⟨rfl, rfl, lv_sub hl [0, 1, 2] rfl⟩ (by show (2147483647 - x_111.toInt).toNat < (2147483647 - L2_94.toInt).toNat; omega)
set_option maxHeartbeats 8000000 in
set_option maxRecDepth 100000 in
theorem g_X5_partnerOf (l : Launch) (D : va_G) (cA : Nat → ClassId) (h0 : Nat) (pa_qsettled : Nat) (pa_greatestSum : Int32) (pa_fairest : Int32) (pa_qtried : Nat) (pa_mostPairs : Int32) (g : Nat) (pa_csettled : Nat → Int32) (p0 : Int32) : Met l yX5_partnerOf (Cond.code yX5_partnerOf cX5_partnerOf 2 (some .int) :: TB) (rmd 1 0 0) (PP D cA [(h0, .inr (5, [.ref pa_qsettled, .int pa_greatestSum, .int pa_fairest, .ref pa_qtried, .int pa_mostPairs, .ref g])), (pa_qsettled, .inl (cA 1, 8, .inl pa_csettled))] [.ref h0, .int p0]) (vp_Si (fun r => True)) 0 0 (fun _ => False) := by
  refine Met.ofW (cc := cX5_partnerOf) (maxL := 2) (ret := (some .int)) (by decide) rfl ?_
  intro p e s m args below meth c s₁ B hml hv
  obtain ⟨rfl, hP, hKN⟩ := hv
  have hx := B.exec
  have hb := B.bytes
  have hr := B.returns
  have hts : ∀ w ∈ TB, w.before _ s = true := fun w h => atoms_spec B.pre w (List.mem_cons_of_mem _ h)
  have hown : s.vm.findClass RX5 = some m.cls := findClass_of_methodNamed B.named
  have hlocks := B.notSynchronized
  have hl := lv_entry ([.ref h0, .int p0]) (n := 2) (Nat.le_of_ble_eq_true rfl)
  rw [lg_entry_eq]
  generalize (lg_sl ([.ref h0, .int p0]) ++ List.replicate (2 - (lg_sl ([.ref h0, .int p0])).length) Slot.unset).toArray = ls at hl ⊢
  have hl : lv_has ls 2 [(0, .ref h0), (1, .int p0)] := hl
  refine lv_iload_n hx hb dX5_partnerOf_0 rfl (lv_at hl 1 rfl) ?_
  refine lv_iconst (v := 0) hx hb dX5_partnerOf_1 (by decide) ?_
  refine lv_bipush (v := 7) hx hb dX5_partnerOf_2 (by decide) ?_
  have z_1 := zi_0
  have z_2 := zi_7
  refine cpSNi (rest := []) ⟨hx, hb, hml, hown, hts⟩ hKN (hP.sub (ws' := []) [] rfl) (g_X11_isWithin l D cA p0 0 7) ⟨nw_10, tw_516, tw_101, tw_517⟩ hdX11_isWithin ⟨rfl, rfl, Nat.le_of_ble_eq_true rfl, Nat.le_of_ble_eq_true rfl⟩ ⟨Nat.le_of_ble_eq_true rfl, Nat.le_of_ble_eq_true rfl⟩ rfl hl.1 rfl (Nat.le_of_ble_eq_true rfl) dX5_partnerOf_4 (fun r_3 hr_3 => ?_)
  rcases hr_3 with ⟨k_3_0_0, k_3_0_1, rfl⟩ | ⟨k_3_1_0, rfl⟩
  · skip
    refine lv_if_eq (tgt := 19) hx hb dX5_partnerOf_7 (by decide) (fun c_4 => absurd c_4 (by decide)) (fun c_4 => ?_)
    refine lv_aload_n hx hb dX5_partnerOf_10 rfl (lv_at hl 0 rfl) ?_
    refine va_get (D := D) (ci := 5) (v := .ref pa_qsettled) (C := RX5) (T := TX5) (N := 6) hx hb hts inX5 hown hKN.1 hP 0 rfl rfl 0 (by decide) (hts _ tw_377) (fun _ h9 => h9) rfl dX5_partnerOf_11 ?_
    refine lv_iload_n hx hb dX5_partnerOf_14 rfl (lv_at hl 1 rfl) ?_
    refine va_iald hx hb hKN.1 hP 1 1 rfl rfl (vp_in_iff.mpr ⟨by omega, by omega⟩) dX5_partnerOf_15 ?_
    refine lv_topi (fun x_5 ex_5 => ?_)
    refine lv_goto (tgt := 20) hx hb dX5_partnerOf_16 (by decide) ?_
    exact W.iret (v := x_5) hx hb hr (fun t ht hW => ⟨x_5, rfl, trivial, ht⟩) (fun _ h => by cases h) dX5_partnerOf_20
  · skip
    refine lv_if_eq (tgt := 19) hx hb dX5_partnerOf_7 (by decide) (fun c_6 => ?_) (fun c_6 => absurd (by decide) c_6)
    refine lv_iconst (v := (-1)) hx hb dX5_partnerOf_19 (by decide) ?_
    exact W.iret (v := (-1)) hx hb hr (fun t ht hW => ⟨(-1), rfl, trivial, ht⟩) (fun _ h => by cases h) dX5_partnerOf_20
set_option maxHeartbeats 8000000 in
set_option maxRecDepth 100000 in
theorem g_X5_weigh (l : Launch) (D : va_G) (cA : Nat → ClassId) (sz : Nat) (h0 : Nat) (pa_qsettled : Nat) (pa_greatestSum : Int32) (pa_fairest : Int32) (pa_qtried : Nat) (pa_mostPairs : Int32) (g : Nat) (pa_csettled : Nat → Int32) (pa_ctried : Nat → Int32) (p0 : Int32) (p1 : Int32) (p2 : Int32) : Met l yX5_weigh (Cond.code yX5_weigh cX5_weigh 4 none :: TB) (rmd 1 0 0) (PM D cA sz [(h0, .inr (5, [.ref pa_qsettled, .int pa_greatestSum, .int pa_fairest, .ref pa_qtried, .int pa_mostPairs, .ref g])), (pa_qsettled, .inl (cA 1, 8, .inl pa_csettled)), (pa_qtried, .inl (cA 1, 8, .inl pa_ctried))] [.ref h0, .int p0, .int p1, .int p2]) (va_Qv (fun (u : SU) => True) (fun u t => va_P D vwCl [(h0, .inr (5, [.ref pa_qsettled, .int (u.2.1 0), .int (u.2.1 1), .ref pa_qtried, .int pa_mostPairs, .ref g])), (pa_qsettled, .inl (cA 1, 8, .inl (u.2.2.1 0))), (pa_qtried, .inl (cA 1, 8, .inl pa_ctried))] t.heap ∧ va_D (va_A [(h0, .inr (5, [.ref pa_qsettled, .int pa_greatestSum, .int pa_fairest, .ref pa_qtried, .int pa_mostPairs, .ref g])), (pa_qsettled, .inl (cA 1, 8, .inl pa_csettled)), (pa_qtried, .inl (cA 1, 8, .inl pa_ctried))] sz) [(h0, .inr (5, [.ref pa_qsettled, .int (u.2.1 0), .int (u.2.1 1), .ref pa_qtried, .int pa_mostPairs, .ref g])), (pa_qsettled, .inl (cA 1, 8, .inl (u.2.2.1 0))), (pa_qtried, .inl (cA 1, 8, .inl pa_ctried))]) (va_A [(h0, .inr (5, [.ref pa_qsettled, .int pa_greatestSum, .int pa_fairest, .ref pa_qtried, .int pa_mostPairs, .ref g])), (pa_qsettled, .inl (cA 1, 8, .inl pa_csettled)), (pa_qtried, .inl (cA 1, 8, .inl pa_ctried))] sz)) 0 0 (va_A [(h0, .inr (5, [.ref pa_qsettled, .int pa_greatestSum, .int pa_fairest, .ref pa_qtried, .int pa_mostPairs, .ref g])), (pa_qsettled, .inl (cA 1, 8, .inl pa_csettled)), (pa_qtried, .inl (cA 1, 8, .inl pa_ctried))] sz) := by
  refine Met.ofW (cc := cX5_weigh) (maxL := 4) (ret := none) (by decide) rfl ?_
  intro p e s m args below meth c s₁ B hml hv
  obtain ⟨rfl, hsz, hP, hKN, hD0⟩ := hv
  have hx := B.exec
  have hb := B.bytes
  have hr := B.returns
  have hts : ∀ w ∈ TB, w.before _ s = true := fun w h => atoms_spec B.pre w (List.mem_cons_of_mem _ h)
  have hown : s.vm.findClass RX5 = some m.cls := findClass_of_methodNamed B.named
  have hlocks := B.notSynchronized
  subst hsz
  have hD := hD0.self (sz := s.heap.size)
  generalize hAe : va_A [(h0, .inr (5, [.ref pa_qsettled, .int pa_greatestSum, .int pa_fairest, .ref pa_qtried, .int pa_mostPairs, .ref g])), (pa_qsettled, .inl (cA 1, 8, .inl pa_csettled)), (pa_qtried, .inl (cA 1, 8, .inl pa_ctried))] s.heap.size = A at hD ⊢
  have hA : ∀ q : Nat, s.heap.size ≤ q → A q := fun q h => by rw [← hAe]; exact Or.inr h
  have hS : va_S A s.heap s.heap [] := va_S.rf
  have hl := lv_entry ([.ref h0, .int p0, .int p1, .int p2]) (n := 4) (Nat.le_of_ble_eq_true rfl)
  rw [lg_entry_eq]
  generalize (lg_sl ([.ref h0, .int p0, .int p1, .int p2]) ++ List.replicate (4 - (lg_sl ([.ref h0, .int p0, .int p1, .int p2])).length) Slot.unset).toArray = ls at hl ⊢
  have hl : lv_has ls 4 [(0, .ref h0), (1, .int p0), (2, .int p1), (3, .int p2)] := hl
  refine lv_iload_n hx hb dX5_weigh_0 rfl (lv_at hl 2 rfl) ?_
  refine lv_aload_n hx hb dX5_weigh_1 rfl (lv_at hl 0 rfl) ?_
  refine va_get (D := D) (ci := 5) (v := .int pa_greatestSum) (C := RX5) (T := TX5) (N := 6) hx hb hts inX5 hown hKN.1 hP 0 rfl rfl 1 (by decide) (hts _ tw_378) (fun _ h9 => h9) rfl dX5_weigh_2 ?_
  refine lv_icmp_le (tgt := 28) hx hb dX5_weigh_5 (by decide) (fun c_1 => ?_) (fun c_1 => ?_)
  · skip
    have b_3 := i32_bd p1
    have b_4 := i32_bd pa_greatestSum
    have k_2 := kk_le rfl rfl c_1
    refine lv_iload_n hx hb dX5_weigh_28 rfl (lv_at hl 1 rfl) ?_
    refine lv_if_le (tgt := 52) hx hb dX5_weigh_29 (by decide) (fun c_5 => ?_) (fun c_5 => ?_)
    · skip
      have b_7 := i32_bd p0
      have k_6 := kk_le rfl zi_0 c_5
      have hP9 := hP.sub (ws' := [(h0, .inr (5, [.ref pa_qsettled, .int pa_greatestSum, .int pa_fairest, .ref pa_qtried, .int pa_mostPairs, .ref g])), (pa_qsettled, .inl (cA 1, 8, .inl pa_csettled)), (pa_qtried, .inl (cA 1, 8, .inl pa_ctried))]) [0, 1, 2] rfl
      have hD9 := hD.sub (ws' := [(h0, .inr (5, [.ref pa_qsettled, .int pa_greatestSum, .int pa_fairest, .ref pa_qtried, .int pa_mostPairs, .ref g])), (pa_qsettled, .inl (cA 1, 8, .inl pa_csettled)), (pa_qtried, .inl (cA 1, 8, .inl pa_ctried))]) [0, 1, 2] (by decide) rfl
      exact W.vret hx hb hr (fun t ht hW => ⟨⟨((fun _ => 0), (selI [pa_greatestSum, pa_fairest]), (selF [pa_csettled]), (fun _ _ => 0)), rfl, trivial, by rw [ht]; exact hP9, hD9⟩, hS.F ht⟩) hS.2.2 dX5_weigh_52
    · skip
      have b_9 := i32_bd p0
      have k_8 := kk_nle rfl zi_0 c_5
      refine lv_iload_n hx hb dX5_weigh_32 rfl (lv_at hl 1 rfl) ?_
      refine lv_aload_n hx hb dX5_weigh_33 rfl (lv_at hl 0 rfl) ?_
      refine va_get (D := D) (ci := 5) (v := .int pa_mostPairs) (C := RX5) (T := TX5) (N := 6) hx hb hts inX5 hown hKN.1 hP 0 rfl rfl 4 (by decide) (hts _ tw_383) (fun _ h9 => h9) rfl dX5_weigh_34 ?_
      refine lv_icmp_ne (tgt := 52) hx hb dX5_weigh_37 (by decide) (fun c_10 => ?_) (fun c_10 => ?_)
      · skip
        have b_12 := i32_bd pa_mostPairs
        have k_11 := kk_ne rfl rfl c_10
        have hP9 := hP.sub (ws' := [(h0, .inr (5, [.ref pa_qsettled, .int pa_greatestSum, .int pa_fairest, .ref pa_qtried, .int pa_mostPairs, .ref g])), (pa_qsettled, .inl (cA 1, 8, .inl pa_csettled)), (pa_qtried, .inl (cA 1, 8, .inl pa_ctried))]) [0, 1, 2] rfl
        have hD9 := hD.sub (ws' := [(h0, .inr (5, [.ref pa_qsettled, .int pa_greatestSum, .int pa_fairest, .ref pa_qtried, .int pa_mostPairs, .ref g])), (pa_qsettled, .inl (cA 1, 8, .inl pa_csettled)), (pa_qtried, .inl (cA 1, 8, .inl pa_ctried))]) [0, 1, 2] (by decide) rfl
        exact W.vret hx hb hr (fun t ht hW => ⟨⟨((fun _ => 0), (selI [pa_greatestSum, pa_fairest]), (selF [pa_csettled]), (fun _ _ => 0)), rfl, trivial, by rw [ht]; exact hP9, hD9⟩, hS.F ht⟩) hS.2.2 dX5_weigh_52
      · skip
        have b_14 := i32_bd pa_mostPairs
        have k_13 := kk_eq rfl rfl c_10
        refine lv_aload_n hx hb dX5_weigh_40 rfl (lv_at hl 0 rfl) ?_
        refine lv_aload_n hx hb dX5_weigh_41 rfl (lv_at hl 0 rfl) ?_
        refine va_get (D := D) (ci := 5) (v := .int pa_fairest) (C := RX5) (T := TX5) (N := 6) hx hb hts inX5 hown hKN.1 hP 0 rfl rfl 2 (by decide) (hts _ tw_380) (fun _ h9 => h9) rfl dX5_weigh_42 ?_
        refine lv_iload_n hx hb dX5_weigh_45 rfl (lv_at hl 3 rfl) ?_
        refine cpSi (rest := [.ref h0]) ⟨hx, hb, hml, hown, hts⟩ hKN (hP.sub (ws' := []) [] rfl) (g_J9_max_7cf53 l D cA pa_fairest p2) (tb_S tw_894 tw_779 tw_115 tw_780) hdJ9_max_7cf53 ⟨rfl, rfl, Nat.le_of_ble_eq_true rfl, Nat.le_of_ble_eq_true rfl⟩ ⟨Nat.le_of_ble_eq_true rfl, Nat.le_of_ble_eq_true rfl⟩ rfl hl.1 rfl (Nat.le_of_ble_eq_true rfl) dX5_weigh_46 (fun r_15 hr_15 => ?_)
        obtain ⟨k_15_0_0, k_15_0_1, k_15_0_2⟩ := hr_15
        refine va_put (D := D) (ci := 5) (v := .int r_15) (ty := .int) (C := RX5) (T := TX5) (N := 6) hx hb hts inX5 tyX5 tyX5_ok nmX5 hown hKN.1 hP hD hS 0 rfl rfl 2 (by decide) (hts _ tw_380) (fun _ h9 => h9) rfl (by decide +kernel) rfl rfl (Nat.le_of_ble_eq_true rfl) dX5_weigh_49 (fun H locs hP hD hS => ?_)
        have hP : va_P D vwCl [(h0, .inr (5, [.ref pa_qsettled, .int pa_greatestSum, .int r_15, .ref pa_qtried, .int pa_mostPairs, .ref g])), (pa_qsettled, .inl (cA 1, 8, .inl pa_csettled)), (pa_qtried, .inl (cA 1, 8, .inl pa_ctried))] H := hP
        have hD : va_D A [(h0, .inr (5, [.ref pa_qsettled, .int pa_greatestSum, .int r_15, .ref pa_qtried, .int pa_mostPairs, .ref g])), (pa_qsettled, .inl (cA 1, 8, .inl pa_csettled)), (pa_qtried, .inl (cA 1, 8, .inl pa_ctried))] := hD
        have hP9 := hP.sub (ws' := [(h0, .inr (5, [.ref pa_qsettled, .int pa_greatestSum, .int r_15, .ref pa_qtried, .int pa_mostPairs, .ref g])), (pa_qsettled, .inl (cA 1, 8, .inl pa_csettled)), (pa_qtried, .inl (cA 1, 8, .inl pa_ctried))]) [0, 1, 2] rfl
        have hD9 := hD.sub (ws' := [(h0, .inr (5, [.ref pa_qsettled, .int pa_greatestSum, .int r_15, .ref pa_qtried, .int pa_mostPairs, .ref g])), (pa_qsettled, .inl (cA 1, 8, .inl pa_csettled)), (pa_qtried, .inl (cA 1, 8, .inl pa_ctried))]) [0, 1, 2] (by decide) rfl
        exact W.vret hx hb hr (fun t ht hW => ⟨⟨((fun _ => 0), (selI [pa_greatestSum, r_15]), (selF [pa_csettled]), (fun _ _ => 0)), rfl, trivial, by rw [ht]; exact hP9, hD9⟩, hS.F ht⟩) hS.2.2 dX5_weigh_52
  · skip
    have b_17 := i32_bd p1
    have b_18 := i32_bd pa_greatestSum
    have k_16 := kk_nle rfl rfl c_1
    refine lv_aload_n hx hb dX5_weigh_8 rfl (lv_at hl 0 rfl) ?_
    refine lv_iload_n hx hb dX5_weigh_9 rfl (lv_at hl 2 rfl) ?_
    refine va_put (D := D) (ci := 5) (v := .int p1) (ty := .int) (C := RX5) (T := TX5) (N := 6) hx hb hts inX5 tyX5 tyX5_ok nmX5 hown hKN.1 hP hD hS 0 rfl rfl 1 (by decide) (hts _ tw_378) (fun _ h9 => h9) rfl (by decide +kernel) rfl rfl (Nat.le_of_ble_eq_true rfl) dX5_weigh_10 (fun H locs hP hD hS => ?_)
    have hP : va_P D vwCl [(h0, .inr (5, [.ref pa_qsettled, .int p1, .int pa_fairest, .ref pa_qtried, .int pa_mostPairs, .ref g])), (pa_qsettled, .inl (cA 1, 8, .inl pa_csettled)), (pa_qtried, .inl (cA 1, 8, .inl pa_ctried))] H := hP
    have hD : va_D A [(h0, .inr (5, [.ref pa_qsettled, .int p1, .int pa_fairest, .ref pa_qtried, .int pa_mostPairs, .ref g])), (pa_qsettled, .inl (cA 1, 8, .inl pa_csettled)), (pa_qtried, .inl (cA 1, 8, .inl pa_ctried))] := hD
    refine lv_aload_n hx hb dX5_weigh_13 rfl (lv_at hl 0 rfl) ?_
    refine va_get (D := D) (ci := 5) (v := .ref pa_qtried) (C := RX5) (T := TX5) (N := 6) hx hb hts inX5 hown hKN.1 hP 0 rfl rfl 3 (by decide) (hts _ tw_382) (fun _ h9 => h9) rfl dX5_weigh_14 ?_
    refine lv_iconst (v := 0) hx hb dX5_weigh_17 (by decide) ?_
    refine lv_aload_n hx hb dX5_weigh_18 rfl (lv_at hl 0 rfl) ?_
    refine va_get (D := D) (ci := 5) (v := .ref pa_qsettled) (C := RX5) (T := TX5) (N := 6) hx hb hts inX5 hown hKN.1 hP 0 rfl rfl 0 (by decide) (hts _ tw_377) (fun _ h9 => h9) rfl dX5_weigh_19 ?_
    refine lv_iconst (v := 0) hx hb dX5_weigh_22 (by decide) ?_
    refine lv_bipush (v := 8) hx hb dX5_weigh_23 (by decide) ?_
    refine va_copyi hx hb (by rw [hml]; exact hl.1.symm) hown (hts _ tw_893) (hts _ tw_685) (hts _ tw_684) (hts _ tw_120) hKN.1 hP hD hS 2 1 1 1 rfl rfl rfl rfl rfl (by decide) (by decide) (by decide) (by decide) (by decide) (fun _ _ => rfl) (Nat.le_of_ble_eq_true rfl) (Nat.le_of_ble_eq_true rfl) dX5_weigh_25 (fun H locs hP hD hS => ?_)
    have hP : va_P D vwCl [(h0, .inr (5, [.ref pa_qsettled, .int p1, .int pa_fairest, .ref pa_qtried, .int pa_mostPairs, .ref g])), (pa_qsettled, .inl (cA 1, 8, .inl (va_cpy pa_ctried pa_csettled 0 0 8))), (pa_qtried, .inl (cA 1, 8, .inl pa_ctried))] H := hP
    have hD : va_D A [(h0, .inr (5, [.ref pa_qsettled, .int p1, .int pa_fairest, .ref pa_qtried, .int pa_mostPairs, .ref g])), (pa_qsettled, .inl (cA 1, 8, .inl (va_cpy pa_ctried pa_csettled 0 0 8))), (pa_qtried, .inl (cA 1, 8, .inl pa_ctried))] := hD
    generalize ef_19 : (va_cpy pa_ctried pa_csettled 0 0 8) = f_19 at hP hD
    refine lv_iload_n hx hb dX5_weigh_28 rfl (lv_at hl 1 rfl) ?_
    refine lv_if_le (tgt := 52) hx hb dX5_weigh_29 (by decide) (fun c_20 => ?_) (fun c_20 => ?_)
    · skip
      have b_22 := i32_bd p0
      have k_21 := kk_le rfl zi_0 c_20
      have hP9 := hP.sub (ws' := [(h0, .inr (5, [.ref pa_qsettled, .int p1, .int pa_fairest, .ref pa_qtried, .int pa_mostPairs, .ref g])), (pa_qsettled, .inl (cA 1, 8, .inl f_19)), (pa_qtried, .inl (cA 1, 8, .inl pa_ctried))]) [0, 1, 2] rfl
      have hD9 := hD.sub (ws' := [(h0, .inr (5, [.ref pa_qsettled, .int p1, .int pa_fairest, .ref pa_qtried, .int pa_mostPairs, .ref g])), (pa_qsettled, .inl (cA 1, 8, .inl f_19)), (pa_qtried, .inl (cA 1, 8, .inl pa_ctried))]) [0, 1, 2] (by decide) rfl
      exact W.vret hx hb hr (fun t ht hW => ⟨⟨((fun _ => 0), (selI [p1, pa_fairest]), (selF [f_19]), (fun _ _ => 0)), rfl, trivial, by rw [ht]; exact hP9, hD9⟩, hS.F ht⟩) hS.2.2 dX5_weigh_52
    · skip
      have b_24 := i32_bd p0
      have k_23 := kk_nle rfl zi_0 c_20
      refine lv_iload_n hx hb dX5_weigh_32 rfl (lv_at hl 1 rfl) ?_
      refine lv_aload_n hx hb dX5_weigh_33 rfl (lv_at hl 0 rfl) ?_
      refine va_get (D := D) (ci := 5) (v := .int pa_mostPairs) (C := RX5) (T := TX5) (N := 6) hx hb hts inX5 hown hKN.1 hP 0 rfl rfl 4 (by decide) (hts _ tw_383) (fun _ h9 => h9) rfl dX5_weigh_34 ?_
      refine lv_icmp_ne (tgt := 52) hx hb dX5_weigh_37 (by decide) (fun c_25 => ?_) (fun c_25 => ?_)
      · skip
        have b_27 := i32_bd pa_mostPairs
        have k_26 := kk_ne rfl rfl c_25
        have hP9 := hP.sub (ws' := [(h0, .inr (5, [.ref pa_qsettled, .int p1, .int pa_fairest, .ref pa_qtried, .int pa_mostPairs, .ref g])), (pa_qsettled, .inl (cA 1, 8, .inl f_19)), (pa_qtried, .inl (cA 1, 8, .inl pa_ctried))]) [0, 1, 2] rfl
        have hD9 := hD.sub (ws' := [(h0, .inr (5, [.ref pa_qsettled, .int p1, .int pa_fairest, .ref pa_qtried, .int pa_mostPairs, .ref g])), (pa_qsettled, .inl (cA 1, 8, .inl f_19)), (pa_qtried, .inl (cA 1, 8, .inl pa_ctried))]) [0, 1, 2] (by decide) rfl
        exact W.vret hx hb hr (fun t ht hW => ⟨⟨((fun _ => 0), (selI [p1, pa_fairest]), (selF [f_19]), (fun _ _ => 0)), rfl, trivial, by rw [ht]; exact hP9, hD9⟩, hS.F ht⟩) hS.2.2 dX5_weigh_52
      · skip
        have b_29 := i32_bd pa_mostPairs
        have k_28 := kk_eq rfl rfl c_25
        refine lv_aload_n hx hb dX5_weigh_40 rfl (lv_at hl 0 rfl) ?_
        refine lv_aload_n hx hb dX5_weigh_41 rfl (lv_at hl 0 rfl) ?_
        refine va_get (D := D) (ci := 5) (v := .int pa_fairest) (C := RX5) (T := TX5) (N := 6) hx hb hts inX5 hown hKN.1 hP 0 rfl rfl 2 (by decide) (hts _ tw_380) (fun _ h9 => h9) rfl dX5_weigh_42 ?_
        refine lv_iload_n hx hb dX5_weigh_45 rfl (lv_at hl 3 rfl) ?_
        refine cpSi (rest := [.ref h0]) ⟨hx, hb, hml, hown, hts⟩ hKN (hP.sub (ws' := []) [] rfl) (g_J9_max_7cf53 l D cA pa_fairest p2) (tb_S tw_894 tw_779 tw_115 tw_780) hdJ9_max_7cf53 ⟨rfl, rfl, Nat.le_of_ble_eq_true rfl, Nat.le_of_ble_eq_true rfl⟩ ⟨Nat.le_of_ble_eq_true rfl, Nat.le_of_ble_eq_true rfl⟩ rfl hl.1 rfl (Nat.le_of_ble_eq_true rfl) dX5_weigh_46 (fun r_30 hr_30 => ?_)
        obtain ⟨k_30_0_0, k_30_0_1, k_30_0_2⟩ := hr_30
        refine va_put (D := D) (ci := 5) (v := .int r_30) (ty := .int) (C := RX5) (T := TX5) (N := 6) hx hb hts inX5 tyX5 tyX5_ok nmX5 hown hKN.1 hP hD hS 0 rfl rfl 2 (by decide) (hts _ tw_380) (fun _ h9 => h9) rfl (by decide +kernel) rfl rfl (Nat.le_of_ble_eq_true rfl) dX5_weigh_49 (fun H locs hP hD hS => ?_)
        have hP : va_P D vwCl [(h0, .inr (5, [.ref pa_qsettled, .int p1, .int r_30, .ref pa_qtried, .int pa_mostPairs, .ref g])), (pa_qsettled, .inl (cA 1, 8, .inl f_19)), (pa_qtried, .inl (cA 1, 8, .inl pa_ctried))] H := hP
        have hD : va_D A [(h0, .inr (5, [.ref pa_qsettled, .int p1, .int r_30, .ref pa_qtried, .int pa_mostPairs, .ref g])), (pa_qsettled, .inl (cA 1, 8, .inl f_19)), (pa_qtried, .inl (cA 1, 8, .inl pa_ctried))] := hD
        have hP9 := hP.sub (ws' := [(h0, .inr (5, [.ref pa_qsettled, .int p1, .int r_30, .ref pa_qtried, .int pa_mostPairs, .ref g])), (pa_qsettled, .inl (cA 1, 8, .inl f_19)), (pa_qtried, .inl (cA 1, 8, .inl pa_ctried))]) [0, 1, 2] rfl
        have hD9 := hD.sub (ws' := [(h0, .inr (5, [.ref pa_qsettled, .int p1, .int r_30, .ref pa_qtried, .int pa_mostPairs, .ref g])), (pa_qsettled, .inl (cA 1, 8, .inl f_19)), (pa_qtried, .inl (cA 1, 8, .inl pa_ctried))]) [0, 1, 2] (by decide) rfl
        exact W.vret hx hb hr (fun t ht hW => ⟨⟨((fun _ => 0), (selI [p1, r_30]), (selF [f_19]), (fun _ _ => 0)), rfl, trivial, by rw [ht]; exact hP9, hD9⟩, hS.F ht⟩) hS.2.2 dX5_weigh_52
set_option maxHeartbeats 8000000 in
set_option maxRecDepth 100000 in
theorem g_X5_tryMan_8 (l : Launch) (D : va_G) (cA : Nat → ClassId) (sz : Nat) (h0 : Nat) (pa_qsettled : Nat) (pa_greatestSum : Int32) (pa_fairest : Int32) (pa_qtried : Nat) (pa_mostPairs : Int32) (g : Nat) (pa_csettled : Nat → Int32) (pa_ctried : Nat → Int32) (g_odds : Int32) (g_pot : Int32) (g_lines : Int32) (g_men : Int32) (g_clauses : Int32) (g_winds : Int32) (g_far0 : Int32) (g_far1 : Int32) (g_qsides : Nat) (g_qgrips : Nat) (g_qwits : Nat) (g_qsays : Nat) (g_qgives0 : Nat) (g_qgives1 : Nat) (g_qfroms : Nat) (g_qtos : Nat) (p0 : Int32) (p1 : Int32) (p2 : Int32) (p3 : Int32) (h_g_odds : -999 ≤ (g_odds : Int32).toInt ∧ (g_odds : Int32).toInt ≤ 999) (h_g_pot : -999 ≤ (g_pot : Int32).toInt ∧ (g_pot : Int32).toInt ≤ 999) (h_g_men : 0 ≤ (g_men : Int32).toInt ∧ (g_men : Int32).toInt ≤ 8) (h_g_clauses : 0 ≤ (g_clauses : Int32).toInt ∧ (g_clauses : Int32).toInt ≤ 7) (h_g_winds : 0 ≤ (g_winds : Int32).toInt ∧ (g_winds : Int32).toInt ≤ 4) (h_g_far0 : -999 ≤ (g_far0 : Int32).toInt ∧ (g_far0 : Int32).toInt ≤ 999) (h_g_far1 : -999 ≤ (g_far1 : Int32).toInt ∧ (g_far1 : Int32).toInt ≤ 999) (h_p0 : 8 ≤ (p0 : Int32).toInt ∧ (p0 : Int32).toInt ≤ 8) : Met l yX5_tryMan (Cond.code yX5_tryMan cX5_tryMan 7 none :: TB) (rmd 2 0 0) (PM D cA sz [(h0, .inr (5, [.ref pa_qsettled, .int pa_greatestSum, .int pa_fairest, .ref pa_qtried, .int pa_mostPairs, .ref g])), (pa_qsettled, .inl (cA 1, 8, .inl pa_csettled)), (pa_qtried, .inl (cA 1, 8, .inl pa_ctried)), (g, .inr (3, [.int g_odds, .int g_pot, .int g_lines, .int g_men, .int g_clauses, .int g_winds, .int g_far0, .int g_far1, .ref g_qsides, .ref g_qgrips, .ref g_qwits, .ref g_qsays, .ref g_qgives0, .ref g_qgives1, .ref g_qfroms, .ref g_qtos]))] [.ref h0, .int p0, .int p1, .int p2, .int p3]) (va_Qv (fun (u : SU) => True) (fun u t => va_P D vwCl [(h0, .inr (5, [.ref pa_qsettled, .int (u.2.1 0), .int (u.2.1 1), .ref pa_qtried, .int pa_mostPairs, .ref g])), (pa_qsettled, .inl (cA 1, 8, .inl (u.2.2.1 0))), (pa_qtried, .inl (cA 1, 8, .inl pa_ctried)), (g, .inr (3, [.int g_odds, .int g_pot, .int g_lines, .int g_men, .int g_clauses, .int g_winds, .int g_far0, .int g_far1, .ref g_qsides, .ref g_qgrips, .ref g_qwits, .ref g_qsays, .ref g_qgives0, .ref g_qgives1, .ref g_qfroms, .ref g_qtos]))] t.heap ∧ va_D (va_A [(h0, .inr (5, [.ref pa_qsettled, .int pa_greatestSum, .int pa_fairest, .ref pa_qtried, .int pa_mostPairs, .ref g])), (pa_qsettled, .inl (cA 1, 8, .inl pa_csettled)), (pa_qtried, .inl (cA 1, 8, .inl pa_ctried)), (g, .inr (3, [.int g_odds, .int g_pot, .int g_lines, .int g_men, .int g_clauses, .int g_winds, .int g_far0, .int g_far1, .ref g_qsides, .ref g_qgrips, .ref g_qwits, .ref g_qsays, .ref g_qgives0, .ref g_qgives1, .ref g_qfroms, .ref g_qtos]))] sz) [(h0, .inr (5, [.ref pa_qsettled, .int (u.2.1 0), .int (u.2.1 1), .ref pa_qtried, .int pa_mostPairs, .ref g])), (pa_qsettled, .inl (cA 1, 8, .inl (u.2.2.1 0))), (pa_qtried, .inl (cA 1, 8, .inl pa_ctried)), (g, .inr (3, [.int g_odds, .int g_pot, .int g_lines, .int g_men, .int g_clauses, .int g_winds, .int g_far0, .int g_far1, .ref g_qsides, .ref g_qgrips, .ref g_qwits, .ref g_qsays, .ref g_qgives0, .ref g_qgives1, .ref g_qfroms, .ref g_qtos]))]) (va_A [(h0, .inr (5, [.ref pa_qsettled, .int pa_greatestSum, .int pa_fairest, .ref pa_qtried, .int pa_mostPairs, .ref g])), (pa_qsettled, .inl (cA 1, 8, .inl pa_csettled)), (pa_qtried, .inl (cA 1, 8, .inl pa_ctried)), (g, .inr (3, [.int g_odds, .int g_pot, .int g_lines, .int g_men, .int g_clauses, .int g_winds, .int g_far0, .int g_far1, .ref g_qsides, .ref g_qgrips, .ref g_qwits, .ref g_qsays, .ref g_qgives0, .ref g_qgives1, .ref g_qfroms, .ref g_qtos]))] sz)) 0 0 (va_A [(h0, .inr (5, [.ref pa_qsettled, .int pa_greatestSum, .int pa_fairest, .ref pa_qtried, .int pa_mostPairs, .ref g])), (pa_qsettled, .inl (cA 1, 8, .inl pa_csettled)), (pa_qtried, .inl (cA 1, 8, .inl pa_ctried)), (g, .inr (3, [.int g_odds, .int g_pot, .int g_lines, .int g_men, .int g_clauses, .int g_winds, .int g_far0, .int g_far1, .ref g_qsides, .ref g_qgrips, .ref g_qwits, .ref g_qsays, .ref g_qgives0, .ref g_qgives1, .ref g_qfroms, .ref g_qtos]))] sz) := by
  refine Met.ofW (cc := cX5_tryMan) (maxL := 7) (ret := none) (by decide) rfl ?_
  intro p e s m args below meth c s₁ B hml hv
  obtain ⟨rfl, hsz, hP, hKN, hD0⟩ := hv
  have hx := B.exec
  have hb := B.bytes
  have hr := B.returns
  have hts : ∀ w ∈ TB, w.before _ s = true := fun w h => atoms_spec B.pre w (List.mem_cons_of_mem _ h)
  have hown : s.vm.findClass RX5 = some m.cls := findClass_of_methodNamed B.named
  have hlocks := B.notSynchronized
  subst hsz
  have hD := hD0.self (sz := s.heap.size)
  generalize hAe : va_A [(h0, .inr (5, [.ref pa_qsettled, .int pa_greatestSum, .int pa_fairest, .ref pa_qtried, .int pa_mostPairs, .ref g])), (pa_qsettled, .inl (cA 1, 8, .inl pa_csettled)), (pa_qtried, .inl (cA 1, 8, .inl pa_ctried)), (g, .inr (3, [.int g_odds, .int g_pot, .int g_lines, .int g_men, .int g_clauses, .int g_winds, .int g_far0, .int g_far1, .ref g_qsides, .ref g_qgrips, .ref g_qwits, .ref g_qsays, .ref g_qgives0, .ref g_qgives1, .ref g_qfroms, .ref g_qtos]))] s.heap.size = A at hD ⊢
  have hA : ∀ q : Nat, s.heap.size ≤ q → A q := fun q h => by rw [← hAe]; exact Or.inr h
  have hS : va_S A s.heap s.heap [] := va_S.rf
  have hl := lv_entry ([.ref h0, .int p0, .int p1, .int p2, .int p3]) (n := 7) (Nat.le_of_ble_eq_true rfl)
  rw [lg_entry_eq]
  generalize (lg_sl ([.ref h0, .int p0, .int p1, .int p2, .int p3]) ++ List.replicate (7 - (lg_sl ([.ref h0, .int p0, .int p1, .int p2, .int p3])).length) Slot.unset).toArray = ls at hl ⊢
  have hl : lv_has ls 7 [(0, .ref h0), (1, .int p0), (2, .int p1), (3, .int p2), (4, .int p3)] := hl
  refine lv_aload_n hx hb dX5_tryMan_0 rfl (lv_at hl 0 rfl) ?_
  refine va_get (D := D) (ci := 5) (v := .ref g) (C := RX5) (T := TX5) (N := 6) hx hb hts inX5 hown hKN.1 hP 0 rfl rfl 5 (by decide) (hts _ tw_384) (fun _ h9 => h9) rfl dX5_tryMan_1 ?_
  refine lv_iload_n hx hb dX5_tryMan_4 rfl (lv_at hl 1 rfl) ?_
  refine cpVi (rest := []) ⟨hx, hb, hml, hown, hts⟩ hKN (hP.sub (ws' := [(g, .inr (3, [.int g_odds, .int g_pot, .int g_lines, .int g_men, .int g_clauses, .int g_winds, .int g_far0, .int g_far1, .ref g_qsides, .ref g_qgrips, .ref g_qwits, .ref g_qsays, .ref g_qgives0, .ref g_qgives1, .ref g_qfroms, .ref g_qtos]))]) [3] rfl) (g_X3_hasMan l D cA g g_odds g_pot g_lines g_men g_clauses g_winds g_far0 g_far1 g_qsides g_qgrips g_qwits g_qsays g_qgives0 g_qgives1 g_qfroms g_qtos p0 (by omega) (by omega) (by omega) (by omega) (by omega) (by omega) (by omega)) (tb_V tw_888 tw_699 tw_700 tw_104 tw_701) hdX3_hasMan ⟨rfl, rfl, Nat.le_of_ble_eq_true rfl, Nat.le_of_ble_eq_true rfl⟩ ⟨Nat.le_of_ble_eq_true rfl, Nat.le_of_ble_eq_true rfl⟩ rfl rfl rfl hl.1 rfl (Nat.le_of_ble_eq_true rfl) dX5_tryMan_5 (fun r_1 hr_1 => ?_)
  rcases hr_1 with ⟨k_1_0_0, k_1_0_1, k_1_0_2, rfl⟩ | rfl
  · skip
    exfalso; omega
  · skip
    refine lv_if_ne (tgt := 20) hx hb dX5_tryMan_8 (by decide) (fun c_2 => absurd (by decide) c_2) (fun c_2 => ?_)
    refine lv_aload_n hx hb dX5_tryMan_11 rfl (lv_at hl 0 rfl) ?_
    refine lv_iload_n hx hb dX5_tryMan_12 rfl (lv_at hl 2 rfl) ?_
    refine lv_iload_n hx hb dX5_tryMan_13 rfl (lv_at hl 3 rfl) ?_
    refine lv_iload hx hb dX5_tryMan_14 (lv_at hl 4 rfl) ?_
    refine cmVv (rest := []) (wsC := [(h0, .inr (5, [.ref pa_qsettled, .int pa_greatestSum, .int pa_fairest, .ref pa_qtried, .int pa_mostPairs, .ref g])), (pa_qsettled, .inl (cA 1, 8, .inl pa_csettled)), (pa_qtried, .inl (cA 1, 8, .inl pa_ctried))]) (wr := [(g, .inr (3, [.int g_odds, .int g_pot, .int g_lines, .int g_men, .int g_clauses, .int g_winds, .int g_far0, .int g_far1, .ref g_qsides, .ref g_qgrips, .ref g_qwits, .ref g_qsays, .ref g_qgives0, .ref g_qgives1, .ref g_qfroms, .ref g_qtos]))]) ⟨hx, hb, hml, hown, hts⟩ hKN hP hD hS hA [0, 1, 2] [3] rfl rfl (by decide) (by decide) (by decide) (g_X5_weigh l D cA _ h0 pa_qsettled pa_greatestSum pa_fairest pa_qtried pa_mostPairs g pa_csettled pa_ctried p1 p2 p3) (tb_V tw_889 tw_891 tw_14 tw_110 tw_892) hdX5_weigh ⟨rfl, rfl, Nat.le_of_ble_eq_true rfl, Nat.le_of_ble_eq_true rfl⟩ ⟨Nat.le_of_ble_eq_true rfl, Nat.le_of_ble_eq_true rfl⟩ rfl rfl rfl hl.1 rfl (Nat.le_of_ble_eq_true rfl) dX5_tryMan_16 (fun u_3 H locs hr_3 hP hD hS => ?_)
    have hP : va_P D vwCl [(g, .inr (3, [.int g_odds, .int g_pot, .int g_lines, .int g_men, .int g_clauses, .int g_winds, .int g_far0, .int g_far1, .ref g_qsides, .ref g_qgrips, .ref g_qwits, .ref g_qsays, .ref g_qgives0, .ref g_qgives1, .ref g_qfroms, .ref g_qtos])), (h0, .inr (5, [.ref pa_qsettled, .int (u_3.2.1 0), .int (u_3.2.1 1), .ref pa_qtried, .int pa_mostPairs, .ref g])), (pa_qsettled, .inl (cA 1, 8, .inl (u_3.2.2.1 0))), (pa_qtried, .inl (cA 1, 8, .inl pa_ctried))] H := hP
    have hD : va_D A [(g, .inr (3, [.int g_odds, .int g_pot, .int g_lines, .int g_men, .int g_clauses, .int g_winds, .int g_far0, .int g_far1, .ref g_qsides, .ref g_qgrips, .ref g_qwits, .ref g_qsays, .ref g_qgives0, .ref g_qgives1, .ref g_qfroms, .ref g_qtos])), (h0, .inr (5, [.ref pa_qsettled, .int (u_3.2.1 0), .int (u_3.2.1 1), .ref pa_qtried, .int pa_mostPairs, .ref g])), (pa_qsettled, .inl (cA 1, 8, .inl (u_3.2.2.1 0))), (pa_qtried, .inl (cA 1, 8, .inl pa_ctried))] := hD
    have hP9 := hP.sub (ws' := [(h0, .inr (5, [.ref pa_qsettled, .int (u_3.2.1 0), .int (u_3.2.1 1), .ref pa_qtried, .int pa_mostPairs, .ref g])), (pa_qsettled, .inl (cA 1, 8, .inl (u_3.2.2.1 0))), (pa_qtried, .inl (cA 1, 8, .inl pa_ctried)), (g, .inr (3, [.int g_odds, .int g_pot, .int g_lines, .int g_men, .int g_clauses, .int g_winds, .int g_far0, .int g_far1, .ref g_qsides, .ref g_qgrips, .ref g_qwits, .ref g_qsays, .ref g_qgives0, .ref g_qgives1, .ref g_qfroms, .ref g_qtos]))]) [1, 2, 3, 0] rfl
    have hD9 := hD.sub (ws' := [(h0, .inr (5, [.ref pa_qsettled, .int (u_3.2.1 0), .int (u_3.2.1 1), .ref pa_qtried, .int pa_mostPairs, .ref g])), (pa_qsettled, .inl (cA 1, 8, .inl (u_3.2.2.1 0))), (pa_qtried, .inl (cA 1, 8, .inl pa_ctried)), (g, .inr (3, [.int g_odds, .int g_pot, .int g_lines, .int g_men, .int g_clauses, .int g_winds, .int g_far0, .int g_far1, .ref g_qsides, .ref g_qgrips, .ref g_qwits, .ref g_qsays, .ref g_qgives0, .ref g_qgives1, .ref g_qfroms, .ref g_qtos]))]) [1, 2, 3, 0] (by decide) rfl
    exact W.vret hx hb hr (fun t ht hW => ⟨⟨((fun _ => 0), (selI [(u_3.2.1 0), (u_3.2.1 1)]), (selF [(u_3.2.2.1 0)]), (fun _ _ => 0)), rfl, trivial, by rw [ht]; exact hP9, hD9⟩, hS.F ht⟩) hS.2.2 dX5_tryMan_19
set_option maxHeartbeats 8000000 in
set_option maxRecDepth 100000 in
theorem g_X5_tryMan_7 (l : Launch) (D : va_G) (cA : Nat → ClassId) (sz : Nat) (h0 : Nat) (pa_qsettled : Nat) (pa_greatestSum : Int32) (pa_fairest : Int32) (pa_qtried : Nat) (pa_mostPairs : Int32) (g : Nat) (pa_csettled : Nat → Int32) (pa_ctried : Nat → Int32) (g_odds : Int32) (g_pot : Int32) (g_lines : Int32) (g_men : Int32) (g_clauses : Int32) (g_winds : Int32) (g_far0 : Int32) (g_far1 : Int32) (g_qsides : Nat) (g_qgrips : Nat) (g_qwits : Nat) (g_qsays : Nat) (g_qgives0 : Nat) (g_qgives1 : Nat) (g_qfroms : Nat) (g_qtos : Nat) (g_csides : Nat → Int32) (g_cgrips : Nat → Int32) (g_cwits : Nat → Int32) (p0 : Int32) (p1 : Int32) (p2 : Int32) (p3 : Int32) (h_g_odds : -999 ≤ (g_odds : Int32).toInt ∧ (g_odds : Int32).toInt ≤ 999) (h_g_pot : -999 ≤ (g_pot : Int32).toInt ∧ (g_pot : Int32).toInt ≤ 999) (h_g_men : 0 ≤ (g_men : Int32).toInt ∧ (g_men : Int32).toInt ≤ 8) (h_g_clauses : 0 ≤ (g_clauses : Int32).toInt ∧ (g_clauses : Int32).toInt ≤ 7) (h_g_winds : 0 ≤ (g_winds : Int32).toInt ∧ (g_winds : Int32).toInt ≤ 4) (h_g_far0 : -999 ≤ (g_far0 : Int32).toInt ∧ (g_far0 : Int32).toInt ≤ 999) (h_g_far1 : -999 ≤ (g_far1 : Int32).toInt ∧ (g_far1 : Int32).toInt ≤ 999) (h_p0 : 7 ≤ (p0 : Int32).toInt ∧ (p0 : Int32).toInt ≤ 7) : Met l yX5_tryMan (Cond.code yX5_tryMan cX5_tryMan 7 none :: TB) (rmd 3 0 0) (PM D cA sz [(h0, .inr (5, [.ref pa_qsettled, .int pa_greatestSum, .int pa_fairest, .ref pa_qtried, .int pa_mostPairs, .ref g])), (pa_qsettled, .inl (cA 1, 8, .inl pa_csettled)), (pa_qtried, .inl (cA 1, 8, .inl pa_ctried)), (g, .inr (3, [.int g_odds, .int g_pot, .int g_lines, .int g_men, .int g_clauses, .int g_winds, .int g_far0, .int g_far1, .ref g_qsides, .ref g_qgrips, .ref g_qwits, .ref g_qsays, .ref g_qgives0, .ref g_qgives1, .ref g_qfroms, .ref g_qtos])), (g_qsides, .inl (cA 1, 8, .inl g_csides)), (g_qgrips, .inl (cA 1, 8, .inl g_cgrips)), (g_qwits, .inl (cA 1, 8, .inl g_cwits))] [.ref h0, .int p0, .int p1, .int p2, .int p3]) (va_Qv (fun (u : SU) => True) (fun u t => va_P D vwCl [(h0, .inr (5, [.ref pa_qsettled, .int (u.2.1 0), .int (u.2.1 1), .ref pa_qtried, .int pa_mostPairs, .ref g])), (pa_qsettled, .inl (cA 1, 8, .inl (u.2.2.1 0))), (pa_qtried, .inl (cA 1, 8, .inl (u.2.2.1 1))), (g, .inr (3, [.int g_odds, .int g_pot, .int g_lines, .int g_men, .int g_clauses, .int g_winds, .int g_far0, .int g_far1, .ref g_qsides, .ref g_qgrips, .ref g_qwits, .ref g_qsays, .ref g_qgives0, .ref g_qgives1, .ref g_qfroms, .ref g_qtos])), (g_qsides, .inl (cA 1, 8, .inl g_csides)), (g_qgrips, .inl (cA 1, 8, .inl g_cgrips)), (g_qwits, .inl (cA 1, 8, .inl g_cwits))] t.heap ∧ va_D (va_A [(h0, .inr (5, [.ref pa_qsettled, .int pa_greatestSum, .int pa_fairest, .ref pa_qtried, .int pa_mostPairs, .ref g])), (pa_qsettled, .inl (cA 1, 8, .inl pa_csettled)), (pa_qtried, .inl (cA 1, 8, .inl pa_ctried)), (g, .inr (3, [.int g_odds, .int g_pot, .int g_lines, .int g_men, .int g_clauses, .int g_winds, .int g_far0, .int g_far1, .ref g_qsides, .ref g_qgrips, .ref g_qwits, .ref g_qsays, .ref g_qgives0, .ref g_qgives1, .ref g_qfroms, .ref g_qtos])), (g_qsides, .inl (cA 1, 8, .inl g_csides)), (g_qgrips, .inl (cA 1, 8, .inl g_cgrips)), (g_qwits, .inl (cA 1, 8, .inl g_cwits))] sz) [(h0, .inr (5, [.ref pa_qsettled, .int (u.2.1 0), .int (u.2.1 1), .ref pa_qtried, .int pa_mostPairs, .ref g])), (pa_qsettled, .inl (cA 1, 8, .inl (u.2.2.1 0))), (pa_qtried, .inl (cA 1, 8, .inl (u.2.2.1 1))), (g, .inr (3, [.int g_odds, .int g_pot, .int g_lines, .int g_men, .int g_clauses, .int g_winds, .int g_far0, .int g_far1, .ref g_qsides, .ref g_qgrips, .ref g_qwits, .ref g_qsays, .ref g_qgives0, .ref g_qgives1, .ref g_qfroms, .ref g_qtos])), (g_qsides, .inl (cA 1, 8, .inl g_csides)), (g_qgrips, .inl (cA 1, 8, .inl g_cgrips)), (g_qwits, .inl (cA 1, 8, .inl g_cwits))]) (va_A [(h0, .inr (5, [.ref pa_qsettled, .int pa_greatestSum, .int pa_fairest, .ref pa_qtried, .int pa_mostPairs, .ref g])), (pa_qsettled, .inl (cA 1, 8, .inl pa_csettled)), (pa_qtried, .inl (cA 1, 8, .inl pa_ctried)), (g, .inr (3, [.int g_odds, .int g_pot, .int g_lines, .int g_men, .int g_clauses, .int g_winds, .int g_far0, .int g_far1, .ref g_qsides, .ref g_qgrips, .ref g_qwits, .ref g_qsays, .ref g_qgives0, .ref g_qgives1, .ref g_qfroms, .ref g_qtos])), (g_qsides, .inl (cA 1, 8, .inl g_csides)), (g_qgrips, .inl (cA 1, 8, .inl g_cgrips)), (g_qwits, .inl (cA 1, 8, .inl g_cwits))] sz)) 0 0 (va_A [(h0, .inr (5, [.ref pa_qsettled, .int pa_greatestSum, .int pa_fairest, .ref pa_qtried, .int pa_mostPairs, .ref g])), (pa_qsettled, .inl (cA 1, 8, .inl pa_csettled)), (pa_qtried, .inl (cA 1, 8, .inl pa_ctried)), (g, .inr (3, [.int g_odds, .int g_pot, .int g_lines, .int g_men, .int g_clauses, .int g_winds, .int g_far0, .int g_far1, .ref g_qsides, .ref g_qgrips, .ref g_qwits, .ref g_qsays, .ref g_qgives0, .ref g_qgives1, .ref g_qfroms, .ref g_qtos])), (g_qsides, .inl (cA 1, 8, .inl g_csides)), (g_qgrips, .inl (cA 1, 8, .inl g_cgrips)), (g_qwits, .inl (cA 1, 8, .inl g_cwits))] sz) := by
  refine Met.ofW (cc := cX5_tryMan) (maxL := 7) (ret := none) (by decide) rfl ?_
  intro p e s m args below meth c s₁ B hml hv
  obtain ⟨rfl, hsz, hP, hKN, hD0⟩ := hv
  have hx := B.exec
  have hb := B.bytes
  have hr := B.returns
  have hts : ∀ w ∈ TB, w.before _ s = true := fun w h => atoms_spec B.pre w (List.mem_cons_of_mem _ h)
  have hown : s.vm.findClass RX5 = some m.cls := findClass_of_methodNamed B.named
  have hlocks := B.notSynchronized
  subst hsz
  have hD := hD0.self (sz := s.heap.size)
  generalize hAe : va_A [(h0, .inr (5, [.ref pa_qsettled, .int pa_greatestSum, .int pa_fairest, .ref pa_qtried, .int pa_mostPairs, .ref g])), (pa_qsettled, .inl (cA 1, 8, .inl pa_csettled)), (pa_qtried, .inl (cA 1, 8, .inl pa_ctried)), (g, .inr (3, [.int g_odds, .int g_pot, .int g_lines, .int g_men, .int g_clauses, .int g_winds, .int g_far0, .int g_far1, .ref g_qsides, .ref g_qgrips, .ref g_qwits, .ref g_qsays, .ref g_qgives0, .ref g_qgives1, .ref g_qfroms, .ref g_qtos])), (g_qsides, .inl (cA 1, 8, .inl g_csides)), (g_qgrips, .inl (cA 1, 8, .inl g_cgrips)), (g_qwits, .inl (cA 1, 8, .inl g_cwits))] s.heap.size = A at hD ⊢
  have hA : ∀ q : Nat, s.heap.size ≤ q → A q := fun q h => by rw [← hAe]; exact Or.inr h
  have hS : va_S A s.heap s.heap [] := va_S.rf
  have hl := lv_entry ([.ref h0, .int p0, .int p1, .int p2, .int p3]) (n := 7) (Nat.le_of_ble_eq_true rfl)
  rw [lg_entry_eq]
  generalize (lg_sl ([.ref h0, .int p0, .int p1, .int p2, .int p3]) ++ List.replicate (7 - (lg_sl ([.ref h0, .int p0, .int p1, .int p2, .int p3])).length) Slot.unset).toArray = ls at hl ⊢
  have hl : lv_has ls 7 [(0, .ref h0), (1, .int p0), (2, .int p1), (3, .int p2), (4, .int p3)] := hl
  refine lv_aload_n hx hb dX5_tryMan_0 rfl (lv_at hl 0 rfl) ?_
  refine va_get (D := D) (ci := 5) (v := .ref g) (C := RX5) (T := TX5) (N := 6) hx hb hts inX5 hown hKN.1 hP 0 rfl rfl 5 (by decide) (hts _ tw_384) (fun _ h9 => h9) rfl dX5_tryMan_1 ?_
  refine lv_iload_n hx hb dX5_tryMan_4 rfl (lv_at hl 1 rfl) ?_
  refine cpVi (rest := []) ⟨hx, hb, hml, hown, hts⟩ hKN (hP.sub (ws' := [(g, .inr (3, [.int g_odds, .int g_pot, .int g_lines, .int g_men, .int g_clauses, .int g_winds, .int g_far0, .int g_far1, .ref g_qsides, .ref g_qgrips, .ref g_qwits, .ref g_qsays, .ref g_qgives0, .ref g_qgives1, .ref g_qfroms, .ref g_qtos]))]) [3] rfl) (g_X3_hasMan l D cA g g_odds g_pot g_lines g_men g_clauses g_winds g_far0 g_far1 g_qsides g_qgrips g_qwits g_qsays g_qgives0 g_qgives1 g_qfroms g_qtos p0 (by omega) (by omega) (by omega) (by omega) (by omega) (by omega) (by omega)) (tb_V tw_888 tw_699 tw_700 tw_104 tw_701) hdX3_hasMan ⟨rfl, rfl, Nat.le_of_ble_eq_true rfl, Nat.le_of_ble_eq_true rfl⟩ ⟨Nat.le_of_ble_eq_true rfl, Nat.le_of_ble_eq_true rfl⟩ rfl rfl rfl hl.1 rfl (Nat.le_of_ble_eq_true rfl) dX5_tryMan_5 (fun r_1 hr_1 => ?_)
  rcases hr_1 with ⟨k_1_0_0, k_1_0_1, k_1_0_2, rfl⟩ | rfl
  · skip
    refine lv_if_ne (tgt := 20) hx hb dX5_tryMan_8 (by decide) (fun c_2 => ?_) (fun c_2 => absurd c_2 (by decide))
    refine lv_aload_n hx hb dX5_tryMan_20 rfl (lv_at hl 0 rfl) ?_
    refine va_get (D := D) (ci := 5) (v := .ref g) (C := RX5) (T := TX5) (N := 6) hx hb hts inX5 hown hKN.1 hP 0 rfl rfl 5 (by decide) (hts _ tw_384) (fun _ h9 => h9) rfl dX5_tryMan_21 ?_
    refine lv_iload_n hx hb dX5_tryMan_24 rfl (lv_at hl 1 rfl) ?_
    refine cpVi (rest := []) ⟨hx, hb, hml, hown, hts⟩ hKN (hP.sub (ws' := [(g, .inr (3, [.int g_odds, .int g_pot, .int g_lines, .int g_men, .int g_clauses, .int g_winds, .int g_far0, .int g_far1, .ref g_qsides, .ref g_qgrips, .ref g_qwits, .ref g_qsays, .ref g_qgives0, .ref g_qgives1, .ref g_qfroms, .ref g_qtos])), (g_qsides, .inl (cA 1, 8, .inl g_csides))]) [3, 4] rfl) (g_X3_sideOf l D cA g g_odds g_pot g_lines g_men g_clauses g_winds g_far0 g_far1 g_qsides g_qgrips g_qwits g_qsays g_qgives0 g_qgives1 g_qfroms g_qtos g_csides p0 (by omega) (by omega) (by omega) (by omega) (by omega) (by omega) (by omega)) (tb_V tw_882 tw_703 tw_704 tw_104 tw_705) hdX3_sideOf ⟨rfl, rfl, Nat.le_of_ble_eq_true rfl, Nat.le_of_ble_eq_true rfl⟩ ⟨Nat.le_of_ble_eq_true rfl, Nat.le_of_ble_eq_true rfl⟩ rfl rfl rfl hl.1 rfl (Nat.le_of_ble_eq_true rfl) dX5_tryMan_25 (fun r_3 hr_3 => ?_)
    rcases hr_3 with ⟨k_3_0_0, k_3_0_1⟩ | rfl
    · skip
      refine lv_if_ne (tgt := 140) hx hb dX5_tryMan_28 (by decide) (fun c_4 => ?_) (fun c_4 => ?_)
      · skip
        have b_6 := i32_bd r_3
        have k_5 := kk_ne rfl zi_0 c_4
        refine lv_aload_n hx hb dX5_tryMan_140 rfl (lv_at hl 0 rfl) ?_
        refine lv_iload_n hx hb dX5_tryMan_141 rfl (lv_at hl 1 rfl) ?_
        refine lv_iconst (v := 1) hx hb dX5_tryMan_142 (by decide) ?_
        refine lv_iadd hx hb dX5_tryMan_143 ?_
        refine lv_topi (fun x_7 ex_7 => ?_)
        have k_8 := ar_add rfl zi_1 ex_7 (by omega) (by omega)
        refine lv_iload_n hx hb dX5_tryMan_144 rfl (lv_at hl 2 rfl) ?_
        refine lv_iload_n hx hb dX5_tryMan_145 rfl (lv_at hl 3 rfl) ?_
        refine lv_iload hx hb dX5_tryMan_146 (lv_at hl 4 rfl) ?_
        refine cmVv (rest := []) (wsC := [(h0, .inr (5, [.ref pa_qsettled, .int pa_greatestSum, .int pa_fairest, .ref pa_qtried, .int pa_mostPairs, .ref g])), (pa_qsettled, .inl (cA 1, 8, .inl pa_csettled)), (pa_qtried, .inl (cA 1, 8, .inl pa_ctried)), (g, .inr (3, [.int g_odds, .int g_pot, .int g_lines, .int g_men, .int g_clauses, .int g_winds, .int g_far0, .int g_far1, .ref g_qsides, .ref g_qgrips, .ref g_qwits, .ref g_qsays, .ref g_qgives0, .ref g_qgives1, .ref g_qfroms, .ref g_qtos]))]) (wr := [(g_qsides, .inl (cA 1, 8, .inl g_csides)), (g_qgrips, .inl (cA 1, 8, .inl g_cgrips)), (g_qwits, .inl (cA 1, 8, .inl g_cwits))]) ⟨hx, hb, hml, hown, hts⟩ hKN hP hD hS hA [0, 1, 2, 3] [4, 5, 6] rfl rfl (by decide) (by decide) (by decide) (g_X5_tryMan_8 l D cA _ h0 pa_qsettled pa_greatestSum pa_fairest pa_qtried pa_mostPairs g pa_csettled pa_ctried g_odds g_pot g_lines g_men g_clauses g_winds g_far0 g_far1 g_qsides g_qgrips g_qwits g_qsays g_qgives0 g_qgives1 g_qfroms g_qtos x_7 p1 p2 p3 (by omega) (by omega) (by omega) (by omega) (by omega) (by omega) (by omega) (by omega)) (tb_V tw_884 tw_886 tw_13 tw_110 tw_887) hdX5_tryMan ⟨rfl, rfl, Nat.le_of_ble_eq_true rfl, Nat.le_of_ble_eq_true rfl⟩ ⟨Nat.le_of_ble_eq_true rfl, Nat.le_of_ble_eq_true rfl⟩ rfl rfl rfl hl.1 rfl (Nat.le_of_ble_eq_true rfl) dX5_tryMan_148 (fun u_9 H locs hr_9 hP hD hS => ?_)
        have hP : va_P D vwCl [(g_qsides, .inl (cA 1, 8, .inl g_csides)), (g_qgrips, .inl (cA 1, 8, .inl g_cgrips)), (g_qwits, .inl (cA 1, 8, .inl g_cwits)), (h0, .inr (5, [.ref pa_qsettled, .int (u_9.2.1 0), .int (u_9.2.1 1), .ref pa_qtried, .int pa_mostPairs, .ref g])), (pa_qsettled, .inl (cA 1, 8, .inl (u_9.2.2.1 0))), (pa_qtried, .inl (cA 1, 8, .inl pa_ctried)), (g, .inr (3, [.int g_odds, .int g_pot, .int g_lines, .int g_men, .int g_clauses, .int g_winds, .int g_far0, .int g_far1, .ref g_qsides, .ref g_qgrips, .ref g_qwits, .ref g_qsays, .ref g_qgives0, .ref g_qgives1, .ref g_qfroms, .ref g_qtos]))] H := hP
        have hD : va_D A [(g_qsides, .inl (cA 1, 8, .inl g_csides)), (g_qgrips, .inl (cA 1, 8, .inl g_cgrips)), (g_qwits, .inl (cA 1, 8, .inl g_cwits)), (h0, .inr (5, [.ref pa_qsettled, .int (u_9.2.1 0), .int (u_9.2.1 1), .ref pa_qtried, .int pa_mostPairs, .ref g])), (pa_qsettled, .inl (cA 1, 8, .inl (u_9.2.2.1 0))), (pa_qtried, .inl (cA 1, 8, .inl pa_ctried)), (g, .inr (3, [.int g_odds, .int g_pot, .int g_lines, .int g_men, .int g_clauses, .int g_winds, .int g_far0, .int g_far1, .ref g_qsides, .ref g_qgrips, .ref g_qwits, .ref g_qsays, .ref g_qgives0, .ref g_qgives1, .ref g_qfroms, .ref g_qtos]))] := hD
        have hP9 := hP.sub (ws' := [(h0, .inr (5, [.ref pa_qsettled, .int (u_9.2.1 0), .int (u_9.2.1 1), .ref pa_qtried, .int pa_mostPairs, .ref g])), (pa_qsettled, .inl (cA 1, 8, .inl (u_9.2.2.1 0))), (pa_qtried, .inl (cA 1, 8, .inl pa_ctried)), (g, .inr (3, [.int g_odds, .int g_pot, .int g_lines, .int g_men, .int g_clauses, .int g_winds, .int g_far0, .int g_far1, .ref g_qsides, .ref g_qgrips, .ref g_qwits, .ref g_qsays, .ref g_qgives0, .ref g_qgives1, .ref g_qfroms, .ref g_qtos])), (g_qsides, .inl (cA 1, 8, .inl g_csides)), (g_qgrips, .inl (cA 1, 8, .inl g_cgrips)), (g_qwits, .inl (cA 1, 8, .inl g_cwits))]) [3, 4, 5, 6, 0, 1, 2] rfl
        have hD9 := hD.sub (ws' := [(h0, .inr (5, [.ref pa_qsettled, .int (u_9.2.1 0), .int (u_9.2.1 1), .ref pa_qtried, .int pa_mostPairs, .ref g])), (pa_qsettled, .inl (cA 1, 8, .inl (u_9.2.2.1 0))), (pa_qtried, .inl (cA 1, 8, .inl pa_ctried)), (g, .inr (3, [.int g_odds, .int g_pot, .int g_lines, .int g_men, .int g_clauses, .int g_winds, .int g_far0, .int g_far1, .ref g_qsides, .ref g_qgrips, .ref g_qwits, .ref g_qsays, .ref g_qgives0, .ref g_qgives1, .ref g_qfroms, .ref g_qtos])), (g_qsides, .inl (cA 1, 8, .inl g_csides)), (g_qgrips, .inl (cA 1, 8, .inl g_cgrips)), (g_qwits, .inl (cA 1, 8, .inl g_cwits))]) [3, 4, 5, 6, 0, 1, 2] (by decide) rfl
        exact W.vret hx hb hr (fun t ht hW => ⟨⟨((fun _ => 0), (selI [(u_9.2.1 0), (u_9.2.1 1)]), (selF [(u_9.2.2.1 0), pa_ctried]), (fun _ _ => 0)), rfl, trivial, by rw [ht]; exact hP9, hD9⟩, hS.F ht⟩) hS.2.2 dX5_tryMan_151
      · skip
        have b_11 := i32_bd r_3
        have k_10 := kk_eq rfl zi_0 c_4
        refine lv_iconst (v := 0) hx hb dX5_tryMan_31 (by decide) ?_
        refine lv_istore (lv' := [(5, .int 0), (0, .ref h0), (1, .int p0), (2, .int p1), (3, .int p2), (4, .int p3)]) hx hb dX5_tryMan_32 hl (by decide) rfl (fun ls hl => ?_)
        have b_241 := i32_bd pa_greatestSum
        have b_242 := i32_bd pa_fairest
        refine loopW (σ := Int32 × Int32 × Int32 × (Nat → Int32) × (Nat → Int32)) (fun _ => []) (fun ⟨L5_240, F1_240, F2_240, F3_240, F4_240⟩ H locs ls => (0 ≤ L5_240.toInt ∧ L5_240.toInt ≤ 8) ∧ va_P D vwCl [(h0, .inr (5, [.ref pa_qsettled, .int F1_240, .int F2_240, .ref pa_qtried, .int pa_mostPairs, .ref g])), (pa_qsettled, .inl (cA 1, 8, .inl F3_240)), (pa_qtried, .inl (cA 1, 8, .inl F4_240)), (g, .inr (3, [.int g_odds, .int g_pot, .int g_lines, .int g_men, .int g_clauses, .int g_winds, .int g_far0, .int g_far1, .ref g_qsides, .ref g_qgrips, .ref g_qwits, .ref g_qsays, .ref g_qgives0, .ref g_qgives1, .ref g_qfroms, .ref g_qtos])), (g_qsides, .inl (cA 1, 8, .inl g_csides)), (g_qgrips, .inl (cA 1, 8, .inl g_cgrips)), (g_qwits, .inl (cA 1, 8, .inl g_cwits))] H ∧ va_D A [(h0, .inr (5, [.ref pa_qsettled, .int F1_240, .int F2_240, .ref pa_qtried, .int pa_mostPairs, .ref g])), (pa_qsettled, .inl (cA 1, 8, .inl F3_240)), (pa_qtried, .inl (cA 1, 8, .inl F4_240)), (g, .inr (3, [.int g_odds, .int g_pot, .int g_lines, .int g_men, .int g_clauses, .int g_winds, .int g_far0, .int g_far1, .ref g_qsides, .ref g_qgrips, .ref g_qwits, .ref g_qsays, .ref g_qgives0, .ref g_qgives1, .ref g_qfroms, .ref g_qtos])), (g_qsides, .inl (cA 1, 8, .inl g_csides)), (g_qgrips, .inl (cA 1, 8, .inl g_cgrips)), (g_qwits, .inl (cA 1, 8, .inl g_cwits))] ∧ va_S A s.heap H locs ∧ lv_has ls 7 [(5, .int L5_240), (0, .ref h0), (1, .int p0), (2, .int p1), (3, .int p2), (4, .int p3)]) (fun ⟨L5_240, F1_240, F2_240, F3_240, F4_240⟩ => (2147483647 - L5_240.toInt).toNat) ?_ ((0, pa_greatestSum, pa_fairest, pa_csettled, pa_ctried) : Int32 × Int32 × Int32 × (Nat → Int32) × (Nat → Int32)) ⟨(by decide), hP, hD, hS, hl⟩
        intro x_240 H locs ls hI_240 ih_240
        obtain ⟨L5_240, F1_240, F2_240, F3_240, F4_240⟩ := x_240
        obtain ⟨k0_240, hP, hD, hS, hl⟩ := hI_240
        have hP : va_P D vwCl [(h0, .inr (5, [.ref pa_qsettled, .int F1_240, .int F2_240, .ref pa_qtried, .int pa_mostPairs, .ref g])), (pa_qsettled, .inl (cA 1, 8, .inl F3_240)), (pa_qtried, .inl (cA 1, 8, .inl F4_240)), (g, .inr (3, [.int g_odds, .int g_pot, .int g_lines, .int g_men, .int g_clauses, .int g_winds, .int g_far0, .int g_far1, .ref g_qsides, .ref g_qgrips, .ref g_qwits, .ref g_qsays, .ref g_qgives0, .ref g_qgives1, .ref g_qfroms, .ref g_qtos])), (g_qsides, .inl (cA 1, 8, .inl g_csides)), (g_qgrips, .inl (cA 1, 8, .inl g_cgrips)), (g_qwits, .inl (cA 1, 8, .inl g_cwits))] H := hP
        have hD : va_D A [(h0, .inr (5, [.ref pa_qsettled, .int F1_240, .int F2_240, .ref pa_qtried, .int pa_mostPairs, .ref g])), (pa_qsettled, .inl (cA 1, 8, .inl F3_240)), (pa_qtried, .inl (cA 1, 8, .inl F4_240)), (g, .inr (3, [.int g_odds, .int g_pot, .int g_lines, .int g_men, .int g_clauses, .int g_winds, .int g_far0, .int g_far1, .ref g_qsides, .ref g_qgrips, .ref g_qwits, .ref g_qsays, .ref g_qgives0, .ref g_qgives1, .ref g_qfroms, .ref g_qtos])), (g_qsides, .inl (cA 1, 8, .inl g_csides)), (g_qgrips, .inl (cA 1, 8, .inl g_cgrips)), (g_qwits, .inl (cA 1, 8, .inl g_cwits))] := hD
        have hl : lv_has ls 7 [(5, .int L5_240), (0, .ref h0), (1, .int p0), (2, .int p1), (3, .int p2), (4, .int p3)] := hl
        refine lv_iload hx hb dX5_tryMan_34 (lv_at hl 0 rfl) ?_
        refine lv_aload_n hx hb dX5_tryMan_36 rfl (lv_at hl 1 rfl) ?_
        refine va_get (D := D) (ci := 5) (v := .ref g) (C := RX5) (T := TX5) (N := 6) hx hb hts inX5 hown hKN.1 hP 0 rfl rfl 5 (by decide) (hts _ tw_384) (fun _ h9 => h9) rfl dX5_tryMan_37 ?_
        refine va_get (D := D) (ci := 3) (v := .int g_men) (C := RX3) (T := TX3) (N := 16) hx hb hts inX3 hown hKN.1 hP 3 rfl rfl 3 (by decide) (hts _ tw_168) (fun _ h9 => h9) rfl dX5_tryMan_40 ?_
        refine lv_icmp_ge (tgt := 140) hx hb dX5_tryMan_43 (by decide) (fun c_243 => ?_) (fun c_243 => ?_)
        · skip
          have k_244 := kk_le rfl rfl c_243
          refine lv_aload_n hx hb dX5_tryMan_140 rfl (lv_at hl 1 rfl) ?_
          refine lv_iload_n hx hb dX5_tryMan_141 rfl (lv_at hl 2 rfl) ?_
          refine lv_iconst (v := 1) hx hb dX5_tryMan_142 (by decide) ?_
          refine lv_iadd hx hb dX5_tryMan_143 ?_
          refine lv_topi (fun x_245 ex_245 => ?_)
          have k_246 := ar_add rfl zi_1 ex_245 (by omega) (by omega)
          refine lv_iload_n hx hb dX5_tryMan_144 rfl (lv_at hl 3 rfl) ?_
          refine lv_iload_n hx hb dX5_tryMan_145 rfl (lv_at hl 4 rfl) ?_
          refine lv_iload hx hb dX5_tryMan_146 (lv_at hl 5 rfl) ?_
          refine cmVv (rest := []) (wsC := [(h0, .inr (5, [.ref pa_qsettled, .int F1_240, .int F2_240, .ref pa_qtried, .int pa_mostPairs, .ref g])), (pa_qsettled, .inl (cA 1, 8, .inl F3_240)), (pa_qtried, .inl (cA 1, 8, .inl F4_240)), (g, .inr (3, [.int g_odds, .int g_pot, .int g_lines, .int g_men, .int g_clauses, .int g_winds, .int g_far0, .int g_far1, .ref g_qsides, .ref g_qgrips, .ref g_qwits, .ref g_qsays, .ref g_qgives0, .ref g_qgives1, .ref g_qfroms, .ref g_qtos]))]) (wr := [(g_qsides, .inl (cA 1, 8, .inl g_csides)), (g_qgrips, .inl (cA 1, 8, .inl g_cgrips)), (g_qwits, .inl (cA 1, 8, .inl g_cwits))]) ⟨hx, hb, hml, hown, hts⟩ hKN hP hD hS hA [0, 1, 2, 3] [4, 5, 6] rfl rfl (by decide) (by decide) (by decide) (g_X5_tryMan_8 l D cA _ h0 pa_qsettled F1_240 F2_240 pa_qtried pa_mostPairs g F3_240 F4_240 g_odds g_pot g_lines g_men g_clauses g_winds g_far0 g_far1 g_qsides g_qgrips g_qwits g_qsays g_qgives0 g_qgives1 g_qfroms g_qtos x_245 p1 p2 p3 (by omega) (by omega) (by omega) (by omega) (by omega) (by omega) (by omega) (by omega)) (tb_V tw_884 tw_886 tw_13 tw_110 tw_887) hdX5_tryMan ⟨rfl, rfl, Nat.le_of_ble_eq_true rfl, Nat.le_of_ble_eq_true rfl⟩ ⟨Nat.le_of_ble_eq_true rfl, Nat.le_of_ble_eq_true rfl⟩ rfl rfl rfl hl.1 rfl (Nat.le_of_ble_eq_true rfl) dX5_tryMan_148 (fun u_247 H locs hr_247 hP hD hS => ?_)
          have hP : va_P D vwCl [(g_qsides, .inl (cA 1, 8, .inl g_csides)), (g_qgrips, .inl (cA 1, 8, .inl g_cgrips)), (g_qwits, .inl (cA 1, 8, .inl g_cwits)), (h0, .inr (5, [.ref pa_qsettled, .int (u_247.2.1 0), .int (u_247.2.1 1), .ref pa_qtried, .int pa_mostPairs, .ref g])), (pa_qsettled, .inl (cA 1, 8, .inl (u_247.2.2.1 0))), (pa_qtried, .inl (cA 1, 8, .inl F4_240)), (g, .inr (3, [.int g_odds, .int g_pot, .int g_lines, .int g_men, .int g_clauses, .int g_winds, .int g_far0, .int g_far1, .ref g_qsides, .ref g_qgrips, .ref g_qwits, .ref g_qsays, .ref g_qgives0, .ref g_qgives1, .ref g_qfroms, .ref g_qtos]))] H := hP
          have hD : va_D A [(g_qsides, .inl (cA 1, 8, .inl g_csides)), (g_qgrips, .inl (cA 1, 8, .inl g_cgrips)), (g_qwits, .inl (cA 1, 8, .inl g_cwits)), (h0, .inr (5, [.ref pa_qsettled, .int (u_247.2.1 0), .int (u_247.2.1 1), .ref pa_qtried, .int pa_mostPairs, .ref g])), (pa_qsettled, .inl (cA 1, 8, .inl (u_247.2.2.1 0))), (pa_qtried, .inl (cA 1, 8, .inl F4_240)), (g, .inr (3, [.int g_odds, .int g_pot, .int g_lines, .int g_men, .int g_clauses, .int g_winds, .int g_far0, .int g_far1, .ref g_qsides, .ref g_qgrips, .ref g_qwits, .ref g_qsays, .ref g_qgives0, .ref g_qgives1, .ref g_qfroms, .ref g_qtos]))] := hD
          have hP9 := hP.sub (ws' := [(h0, .inr (5, [.ref pa_qsettled, .int (u_247.2.1 0), .int (u_247.2.1 1), .ref pa_qtried, .int pa_mostPairs, .ref g])), (pa_qsettled, .inl (cA 1, 8, .inl (u_247.2.2.1 0))), (pa_qtried, .inl (cA 1, 8, .inl F4_240)), (g, .inr (3, [.int g_odds, .int g_pot, .int g_lines, .int g_men, .int g_clauses, .int g_winds, .int g_far0, .int g_far1, .ref g_qsides, .ref g_qgrips, .ref g_qwits, .ref g_qsays, .ref g_qgives0, .ref g_qgives1, .ref g_qfroms, .ref g_qtos])), (g_qsides, .inl (cA 1, 8, .inl g_csides)), (g_qgrips, .inl (cA 1, 8, .inl g_cgrips)), (g_qwits, .inl (cA 1, 8, .inl g_cwits))]) [3, 4, 5, 6, 0, 1, 2] rfl
          have hD9 := hD.sub (ws' := [(h0, .inr (5, [.ref pa_qsettled, .int (u_247.2.1 0), .int (u_247.2.1 1), .ref pa_qtried, .int pa_mostPairs, .ref g])), (pa_qsettled, .inl (cA 1, 8, .inl (u_247.2.2.1 0))), (pa_qtried, .inl (cA 1, 8, .inl F4_240)), (g, .inr (3, [.int g_odds, .int g_pot, .int g_lines, .int g_men, .int g_clauses, .int g_winds, .int g_far0, .int g_far1, .ref g_qsides, .ref g_qgrips, .ref g_qwits, .ref g_qsays, .ref g_qgives0, .ref g_qgives1, .ref g_qfroms, .ref g_qtos])), (g_qsides, .inl (cA 1, 8, .inl g_csides)), (g_qgrips, .inl (cA 1, 8, .inl g_cgrips)), (g_qwits, .inl (cA 1, 8, .inl g_cwits))]) [3, 4, 5, 6, 0, 1, 2] (by decide) rfl
          exact W.vret hx hb hr (fun t ht hW => ⟨⟨((fun _ => 0), (selI [(u_247.2.1 0), (u_247.2.1 1)]), (selF [(u_247.2.2.1 0), F4_240]), (fun _ _ => 0)), rfl, trivial, by rw [ht]; exact hP9, hD9⟩, hS.F ht⟩) hS.2.2 dX5_tryMan_151
        · skip
          have k_248 := kk_nle rfl rfl c_243
          refine lv_aload_n hx hb dX5_tryMan_46 rfl (lv_at hl 1 rfl) ?_
          refine va_get (D := D) (ci := 5) (v := .ref g) (C := RX5) (T := TX5) (N := 6) hx hb hts inX5 hown hKN.1 hP 0 rfl rfl 5 (by decide) (hts _ tw_384) (fun _ h9 => h9) rfl dX5_tryMan_47 ?_
          refine lv_iload hx hb dX5_tryMan_50 (lv_at hl 0 rfl) ?_
          refine cpVi (rest := []) ⟨hx, hb, hml, hown, hts⟩ hKN (hP.sub (ws' := [(g, .inr (3, [.int g_odds, .int g_pot, .int g_lines, .int g_men, .int g_clauses, .int g_winds, .int g_far0, .int g_far1, .ref g_qsides, .ref g_qgrips, .ref g_qwits, .ref g_qsays, .ref g_qgives0, .ref g_qgives1, .ref g_qfroms, .ref g_qtos])), (g_qsides, .inl (cA 1, 8, .inl g_csides))]) [3, 4] rfl) (g_X3_sideOf l D cA g g_odds g_pot g_lines g_men g_clauses g_winds g_far0 g_far1 g_qsides g_qgrips g_qwits g_qsays g_qgives0 g_qgives1 g_qfroms g_qtos g_csides L5_240 (by omega) (by omega) (by omega) (by omega) (by omega) (by omega) (by omega)) (tb_V tw_882 tw_703 tw_704 tw_104 tw_705) hdX3_sideOf ⟨rfl, rfl, Nat.le_of_ble_eq_true rfl, Nat.le_of_ble_eq_true rfl⟩ ⟨Nat.le_of_ble_eq_true rfl, Nat.le_of_ble_eq_true rfl⟩ rfl rfl rfl hl.1 rfl (Nat.le_of_ble_eq_true rfl) dX5_tryMan_52 (fun r_249 hr_249 => ?_)
          rcases hr_249 with ⟨k_249_0_0, k_249_0_1⟩ | rfl
          · skip
            refine lv_iconst (v := 1) hx hb dX5_tryMan_55 (by decide) ?_
            refine lv_icmp_ne (tgt := 134) hx hb dX5_tryMan_56 (by decide) (fun c_250 => ?_) (fun c_250 => ?_)
            · skip
              have b_252 := i32_bd r_249
              have k_251 := kk_ne rfl zi_1 c_250
              obtain ⟨x_253, ex_253⟩ : ∃ y : Int32, L5_240 + Int32.ofInt 1 = y := ⟨_, rfl⟩
              have k_254 := ar_add (b := 1) rfl zi_1 ex_253.symm (by omega) (by omega)
              refine lv_iinc (v := x_253) (lv' := [(5, .int x_253), (0, .ref h0), (1, .int p0), (2, .int p1), (3, .int p2), (4, .int p3)]) hx hb dX5_tryMan_134 hl (k := 0) rfl ex_253 (by decide) rfl (fun ls hl => ?_)
              refine lv_goto (tgt := 34) hx hb dX5_tryMan_137 (by decide) ?_
              exact ih_240 (x_253, F1_240, F2_240, F3_240, F4_240) _ _ _ ⟨(show 0 ≤ x_253.toInt ∧ x_253.toInt ≤ 8 from by omega), hP.sub [0, 1, 2, 3, 4, 5, 6] rfl, hD.sub [0, 1, 2, 3, 4, 5, 6] (by decide) rfl, hS, lv_sub hl [0, 1, 2, 3, 4, 5] rfl⟩ (by show (2147483647 - x_253.toInt).toNat < (2147483647 - L5_240.toInt).toNat; omega)
            · skip
              have b_256 := i32_bd r_249
              have k_255 := kk_eq rfl zi_1 c_250
              refine lv_aload_n hx hb dX5_tryMan_59 rfl (lv_at hl 1 rfl) ?_
              refine va_get (D := D) (ci := 5) (v := .ref pa_qtried) (C := RX5) (T := TX5) (N := 6) hx hb hts inX5 hown hKN.1 hP 0 rfl rfl 3 (by decide) (hts _ tw_382) (fun _ h9 => h9) rfl dX5_tryMan_60 ?_
              refine lv_iload hx hb dX5_tryMan_63 (lv_at hl 0 rfl) ?_
              refine va_iald hx hb hKN.1 hP 2 1 rfl rfl (vp_in_iff.mpr ⟨by omega, by omega⟩) dX5_tryMan_65 ?_
              refine lv_topi (fun x_257 ex_257 => ?_)
              refine lv_iconst (v := (-1)) hx hb dX5_tryMan_66 (by decide) ?_
              refine lv_icmp_ne (tgt := 134) hx hb dX5_tryMan_67 (by decide) (fun c_258 => ?_) (fun c_258 => ?_)
              · skip
                have b_260 := i32_bd x_257
                have k_259 := kk_ne rfl zi_m1 c_258
                obtain ⟨x_261, ex_261⟩ : ∃ y : Int32, L5_240 + Int32.ofInt 1 = y := ⟨_, rfl⟩
                have k_262 := ar_add (b := 1) rfl zi_1 ex_261.symm (by omega) (by omega)
                refine lv_iinc (v := x_261) (lv' := [(5, .int x_261), (0, .ref h0), (1, .int p0), (2, .int p1), (3, .int p2), (4, .int p3)]) hx hb dX5_tryMan_134 hl (k := 0) rfl ex_261 (by decide) rfl (fun ls hl => ?_)
                refine lv_goto (tgt := 34) hx hb dX5_tryMan_137 (by decide) ?_
                exact ih_240 (x_261, F1_240, F2_240, F3_240, F4_240) _ _ _ ⟨(show 0 ≤ x_261.toInt ∧ x_261.toInt ≤ 8 from by omega), hP.sub [0, 1, 2, 3, 4, 5, 6] rfl, hD.sub [0, 1, 2, 3, 4, 5, 6] (by decide) rfl, hS, lv_sub hl [0, 1, 2, 3, 4, 5] rfl⟩ (by show (2147483647 - x_261.toInt).toNat < (2147483647 - L5_240.toInt).toNat; omega)
              · skip
                have b_264 := i32_bd x_257
                have k_263 := kk_eq rfl zi_m1 c_258
                refine lv_aload_n hx hb dX5_tryMan_70 rfl (lv_at hl 1 rfl) ?_
                refine va_get (D := D) (ci := 5) (v := .ref g) (C := RX5) (T := TX5) (N := 6) hx hb hts inX5 hown hKN.1 hP 0 rfl rfl 5 (by decide) (hts _ tw_384) (fun _ h9 => h9) rfl dX5_tryMan_71 ?_
                refine lv_iload_n hx hb dX5_tryMan_74 rfl (lv_at hl 2 rfl) ?_
                refine lv_iload hx hb dX5_tryMan_75 (lv_at hl 0 rfl) ?_
                refine cpVi (rest := []) ⟨hx, hb, hml, hown, hts⟩ hKN (hP.sub (ws' := [(g, .inr (3, [.int g_odds, .int g_pot, .int g_lines, .int g_men, .int g_clauses, .int g_winds, .int g_far0, .int g_far1, .ref g_qsides, .ref g_qgrips, .ref g_qwits, .ref g_qsays, .ref g_qgives0, .ref g_qgives1, .ref g_qfroms, .ref g_qtos])), (g_qsides, .inl (cA 1, 8, .inl g_csides)), (g_qgrips, .inl (cA 1, 8, .inl g_cgrips)), (g_qwits, .inl (cA 1, 8, .inl g_cwits))]) [3, 4, 5, 6] rfl) (g_X3_holdOrRefusal l D cA g g_odds g_pot g_lines g_men g_clauses g_winds g_far0 g_far1 g_qsides g_qgrips g_qwits g_qsays g_qgives0 g_qgives1 g_qfroms g_qtos g_csides g_cgrips g_cwits p0 L5_240 (by omega) (by omega) (by omega) (by omega) (by omega) (by omega) (by omega)) (tb_V tw_895 tw_844 tw_845 tw_104 tw_846) hdX3_holdOrRefusal ⟨rfl, rfl, Nat.le_of_ble_eq_true rfl, Nat.le_of_ble_eq_true rfl⟩ ⟨Nat.le_of_ble_eq_true rfl, Nat.le_of_ble_eq_true rfl⟩ rfl rfl rfl hl.1 rfl (Nat.le_of_ble_eq_true rfl) dX5_tryMan_77 (fun r_265 hr_265 => ?_)
                refine lv_istore (lv' := [(6, .int r_265), (5, .int L5_240), (0, .ref h0), (1, .int p0), (2, .int p1), (3, .int p2), (4, .int p3)]) hx hb dX5_tryMan_80 hl (by decide) rfl (fun ls hl => ?_)
                refine lv_aload_n hx hb dX5_tryMan_82 rfl (lv_at hl 2 rfl) ?_
                refine va_get (D := D) (ci := 5) (v := .ref pa_qtried) (C := RX5) (T := TX5) (N := 6) hx hb hts inX5 hown hKN.1 hP 0 rfl rfl 3 (by decide) (hts _ tw_382) (fun _ h9 => h9) rfl dX5_tryMan_83 ?_
                refine lv_iload_n hx hb dX5_tryMan_86 rfl (lv_at hl 3 rfl) ?_
                refine lv_iload hx hb dX5_tryMan_87 (lv_at hl 1 rfl) ?_
                refine va_iast hx hb hKN.1 hP hD hS 2 1 rfl rfl (vp_in_iff.mpr ⟨by omega, by omega⟩) dX5_tryMan_89 (fun H locs hP hD hS => ?_)
                have hP : va_P D vwCl [(h0, .inr (5, [.ref pa_qsettled, .int F1_240, .int F2_240, .ref pa_qtried, .int pa_mostPairs, .ref g])), (pa_qsettled, .inl (cA 1, 8, .inl F3_240)), (pa_qtried, .inl (cA 1, 8, .inl (upd F4_240 p0.toNatClampNeg L5_240))), (g, .inr (3, [.int g_odds, .int g_pot, .int g_lines, .int g_men, .int g_clauses, .int g_winds, .int g_far0, .int g_far1, .ref g_qsides, .ref g_qgrips, .ref g_qwits, .ref g_qsays, .ref g_qgives0, .ref g_qgives1, .ref g_qfroms, .ref g_qtos])), (g_qsides, .inl (cA 1, 8, .inl g_csides)), (g_qgrips, .inl (cA 1, 8, .inl g_cgrips)), (g_qwits, .inl (cA 1, 8, .inl g_cwits))] H := hP
                have hD : va_D A [(h0, .inr (5, [.ref pa_qsettled, .int F1_240, .int F2_240, .ref pa_qtried, .int pa_mostPairs, .ref g])), (pa_qsettled, .inl (cA 1, 8, .inl F3_240)), (pa_qtried, .inl (cA 1, 8, .inl (upd F4_240 p0.toNatClampNeg L5_240))), (g, .inr (3, [.int g_odds, .int g_pot, .int g_lines, .int g_men, .int g_clauses, .int g_winds, .int g_far0, .int g_far1, .ref g_qsides, .ref g_qgrips, .ref g_qwits, .ref g_qsays, .ref g_qgives0, .ref g_qgives1, .ref g_qfroms, .ref g_qtos])), (g_qsides, .inl (cA 1, 8, .inl g_csides)), (g_qgrips, .inl (cA 1, 8, .inl g_cgrips)), (g_qwits, .inl (cA 1, 8, .inl g_cwits))] := hD
                generalize ef_266 : (upd F4_240 p0.toNatClampNeg L5_240) = f_266 at hP hD
                refine lv_aload_n hx hb dX5_tryMan_90 rfl (lv_at hl 2 rfl) ?_
                refine va_get (D := D) (ci := 5) (v := .ref pa_qtried) (C := RX5) (T := TX5) (N := 6) hx hb hts inX5 hown hKN.1 hP 0 rfl rfl 3 (by decide) (hts _ tw_382) (fun _ h9 => h9) rfl dX5_tryMan_91 ?_
                refine lv_iload hx hb dX5_tryMan_94 (lv_at hl 1 rfl) ?_
                refine lv_iload_n hx hb dX5_tryMan_96 rfl (lv_at hl 3 rfl) ?_
                refine va_iast hx hb hKN.1 hP hD hS 2 1 rfl rfl (vp_in_iff.mpr ⟨by omega, by omega⟩) dX5_tryMan_97 (fun H locs hP hD hS => ?_)
                have hP : va_P D vwCl [(h0, .inr (5, [.ref pa_qsettled, .int F1_240, .int F2_240, .ref pa_qtried, .int pa_mostPairs, .ref g])), (pa_qsettled, .inl (cA 1, 8, .inl F3_240)), (pa_qtried, .inl (cA 1, 8, .inl (upd f_266 L5_240.toNatClampNeg p0))), (g, .inr (3, [.int g_odds, .int g_pot, .int g_lines, .int g_men, .int g_clauses, .int g_winds, .int g_far0, .int g_far1, .ref g_qsides, .ref g_qgrips, .ref g_qwits, .ref g_qsays, .ref g_qgives0, .ref g_qgives1, .ref g_qfroms, .ref g_qtos])), (g_qsides, .inl (cA 1, 8, .inl g_csides)), (g_qgrips, .inl (cA 1, 8, .inl g_cgrips)), (g_qwits, .inl (cA 1, 8, .inl g_cwits))] H := hP
                have hD : va_D A [(h0, .inr (5, [.ref pa_qsettled, .int F1_240, .int F2_240, .ref pa_qtried, .int pa_mostPairs, .ref g])), (pa_qsettled, .inl (cA 1, 8, .inl F3_240)), (pa_qtried, .inl (cA 1, 8, .inl (upd f_266 L5_240.toNatClampNeg p0))), (g, .inr (3, [.int g_odds, .int g_pot, .int g_lines, .int g_men, .int g_clauses, .int g_winds, .int g_far0, .int g_far1, .ref g_qsides, .ref g_qgrips, .ref g_qwits, .ref g_qsays, .ref g_qgives0, .ref g_qgives1, .ref g_qfroms, .ref g_qtos])), (g_qsides, .inl (cA 1, 8, .inl g_csides)), (g_qgrips, .inl (cA 1, 8, .inl g_cgrips)), (g_qwits, .inl (cA 1, 8, .inl g_cwits))] := hD
                generalize ef_267 : (upd f_266 L5_240.toNatClampNeg p0) = f_267 at hP hD
                refine lv_aload_n hx hb dX5_tryMan_98 rfl (lv_at hl 2 rfl) ?_
                refine lv_iload_n hx hb dX5_tryMan_99 rfl (lv_at hl 3 rfl) ?_
                refine lv_iconst (v := 1) hx hb dX5_tryMan_100 (by decide) ?_
                refine lv_iadd hx hb dX5_tryMan_101 ?_
                refine lv_topi (fun x_268 ex_268 => ?_)
                have k_269 := ar_add rfl zi_1 ex_268 (by omega) (by omega)
                refine lv_iload_n hx hb dX5_tryMan_102 rfl (lv_at hl 4 rfl) ?_
                refine lv_iconst (v := 1) hx hb dX5_tryMan_103 (by decide) ?_
                refine lv_iadd hx hb dX5_tryMan_104 ?_
                refine lv_topi (fun x_270 ex_270 => ?_)
                refine lv_iload_n hx hb dX5_tryMan_105 rfl (lv_at hl 5 rfl) ?_
                refine lv_iload hx hb dX5_tryMan_106 (lv_at hl 0 rfl) ?_
                refine lv_iadd hx hb dX5_tryMan_108 ?_
                refine lv_topi (fun x_272 ex_272 => ?_)
                refine lv_iload hx hb dX5_tryMan_109 (lv_at hl 6 rfl) ?_
                refine lv_iload hx hb dX5_tryMan_111 (lv_at hl 0 rfl) ?_
                refine cpSi (rest := [.int x_272, .int x_270, .int x_268, .ref h0]) ⟨hx, hb, hml, hown, hts⟩ hKN (hP.sub (ws' := []) [] rfl) (g_J9_min_7cf53 l D cA p3 r_265) (tb_S tw_883 tw_555 tw_115 tw_556) hdJ9_min_7cf53 ⟨rfl, rfl, Nat.le_of_ble_eq_true rfl, Nat.le_of_ble_eq_true rfl⟩ ⟨Nat.le_of_ble_eq_true rfl, Nat.le_of_ble_eq_true rfl⟩ rfl hl.1 rfl (Nat.le_of_ble_eq_true rfl) dX5_tryMan_113 (fun r_274 hr_274 => ?_)
                obtain ⟨k_274_0_0, k_274_0_1, k_274_0_2⟩ := hr_274
                refine cmVv (rest := []) (wsC := [(h0, .inr (5, [.ref pa_qsettled, .int F1_240, .int F2_240, .ref pa_qtried, .int pa_mostPairs, .ref g])), (pa_qsettled, .inl (cA 1, 8, .inl F3_240)), (pa_qtried, .inl (cA 1, 8, .inl f_267)), (g, .inr (3, [.int g_odds, .int g_pot, .int g_lines, .int g_men, .int g_clauses, .int g_winds, .int g_far0, .int g_far1, .ref g_qsides, .ref g_qgrips, .ref g_qwits, .ref g_qsays, .ref g_qgives0, .ref g_qgives1, .ref g_qfroms, .ref g_qtos]))]) (wr := [(g_qsides, .inl (cA 1, 8, .inl g_csides)), (g_qgrips, .inl (cA 1, 8, .inl g_cgrips)), (g_qwits, .inl (cA 1, 8, .inl g_cwits))]) ⟨hx, hb, hml, hown, hts⟩ hKN hP hD hS hA [0, 1, 2, 3] [4, 5, 6] rfl rfl (by decide) (by decide) (by decide) (g_X5_tryMan_8 l D cA _ h0 pa_qsettled F1_240 F2_240 pa_qtried pa_mostPairs g F3_240 f_267 g_odds g_pot g_lines g_men g_clauses g_winds g_far0 g_far1 g_qsides g_qgrips g_qwits g_qsays g_qgives0 g_qgives1 g_qfroms g_qtos x_268 x_270 x_272 r_274 (by omega) (by omega) (by omega) (by omega) (by omega) (by omega) (by omega) (by omega)) (tb_V tw_884 tw_886 tw_13 tw_110 tw_887) hdX5_tryMan ⟨rfl, rfl, Nat.le_of_ble_eq_true rfl, Nat.le_of_ble_eq_true rfl⟩ ⟨Nat.le_of_ble_eq_true rfl, Nat.le_of_ble_eq_true rfl⟩ rfl rfl rfl hl.1 rfl (Nat.le_of_ble_eq_true rfl) dX5_tryMan_116 (fun u_275 H locs hr_275 hP hD hS => ?_)
                have hP : va_P D vwCl [(g_qsides, .inl (cA 1, 8, .inl g_csides)), (g_qgrips, .inl (cA 1, 8, .inl g_cgrips)), (g_qwits, .inl (cA 1, 8, .inl g_cwits)), (h0, .inr (5, [.ref pa_qsettled, .int (u_275.2.1 0), .int (u_275.2.1 1), .ref pa_qtried, .int pa_mostPairs, .ref g])), (pa_qsettled, .inl (cA 1, 8, .inl (u_275.2.2.1 0))), (pa_qtried, .inl (cA 1, 8, .inl f_267)), (g, .inr (3, [.int g_odds, .int g_pot, .int g_lines, .int g_men, .int g_clauses, .int g_winds, .int g_far0, .int g_far1, .ref g_qsides, .ref g_qgrips, .ref g_qwits, .ref g_qsays, .ref g_qgives0, .ref g_qgives1, .ref g_qfroms, .ref g_qtos]))] H := hP
                have hD : va_D A [(g_qsides, .inl (cA 1, 8, .inl g_csides)), (g_qgrips, .inl (cA 1, 8, .inl g_cgrips)), (g_qwits, .inl (cA 1, 8, .inl g_cwits)), (h0, .inr (5, [.ref pa_qsettled, .int (u_275.2.1 0), .int (u_275.2.1 1), .ref pa_qtried, .int pa_mostPairs, .ref g])), (pa_qsettled, .inl (cA 1, 8, .inl (u_275.2.2.1 0))), (pa_qtried, .inl (cA 1, 8, .inl f_267)), (g, .inr (3, [.int g_odds, .int g_pot, .int g_lines, .int g_men, .int g_clauses, .int g_winds, .int g_far0, .int g_far1, .ref g_qsides, .ref g_qgrips, .ref g_qwits, .ref g_qsays, .ref g_qgives0, .ref g_qgives1, .ref g_qfroms, .ref g_qtos]))] := hD
                refine lv_aload_n hx hb dX5_tryMan_119 rfl (lv_at hl 2 rfl) ?_
                refine va_get (D := D) (ci := 5) (v := .ref pa_qtried) (C := RX5) (T := TX5) (N := 6) hx hb hts inX5 hown hKN.1 hP 3 rfl rfl 3 (by decide) (hts _ tw_382) (fun _ h9 => h9) rfl dX5_tryMan_120 ?_
                refine lv_iload_n hx hb dX5_tryMan_123 rfl (lv_at hl 3 rfl) ?_
                refine lv_iconst (v := (-1)) hx hb dX5_tryMan_124 (by decide) ?_
                refine va_iast hx hb hKN.1 hP hD hS 5 1 rfl rfl (vp_in_iff.mpr ⟨by omega, by omega⟩) dX5_tryMan_125 (fun H locs hP hD hS => ?_)
                have hP : va_P D vwCl [(g_qsides, .inl (cA 1, 8, .inl g_csides)), (g_qgrips, .inl (cA 1, 8, .inl g_cgrips)), (g_qwits, .inl (cA 1, 8, .inl g_cwits)), (h0, .inr (5, [.ref pa_qsettled, .int (u_275.2.1 0), .int (u_275.2.1 1), .ref pa_qtried, .int pa_mostPairs, .ref g])), (pa_qsettled, .inl (cA 1, 8, .inl (u_275.2.2.1 0))), (pa_qtried, .inl (cA 1, 8, .inl (upd f_267 p0.toNatClampNeg (-1)))), (g, .inr (3, [.int g_odds, .int g_pot, .int g_lines, .int g_men, .int g_clauses, .int g_winds, .int g_far0, .int g_far1, .ref g_qsides, .ref g_qgrips, .ref g_qwits, .ref g_qsays, .ref g_qgives0, .ref g_qgives1, .ref g_qfroms, .ref g_qtos]))] H := hP
                have hD : va_D A [(g_qsides, .inl (cA 1, 8, .inl g_csides)), (g_qgrips, .inl (cA 1, 8, .inl g_cgrips)), (g_qwits, .inl (cA 1, 8, .inl g_cwits)), (h0, .inr (5, [.ref pa_qsettled, .int (u_275.2.1 0), .int (u_275.2.1 1), .ref pa_qtried, .int pa_mostPairs, .ref g])), (pa_qsettled, .inl (cA 1, 8, .inl (u_275.2.2.1 0))), (pa_qtried, .inl (cA 1, 8, .inl (upd f_267 p0.toNatClampNeg (-1)))), (g, .inr (3, [.int g_odds, .int g_pot, .int g_lines, .int g_men, .int g_clauses, .int g_winds, .int g_far0, .int g_far1, .ref g_qsides, .ref g_qgrips, .ref g_qwits, .ref g_qsays, .ref g_qgives0, .ref g_qgives1, .ref g_qfroms, .ref g_qtos]))] := hD
                generalize ef_276 : (upd f_267 p0.toNatClampNeg (-1)) = f_276 at hP hD
                refine lv_aload_n hx hb dX5_tryMan_126 rfl (lv_at hl 2 rfl) ?_
                refine va_get (D := D) (ci := 5) (v := .ref pa_qtried) (C := RX5) (T := TX5) (N := 6) hx hb hts inX5 hown hKN.1 hP 3 rfl rfl 3 (by decide) (hts _ tw_382) (fun _ h9 => h9) rfl dX5_tryMan_127 ?_
                refine lv_iload hx hb dX5_tryMan_130 (lv_at hl 1 rfl) ?_
                refine lv_iconst (v := (-1)) hx hb dX5_tryMan_132 (by decide) ?_
                refine va_iast hx hb hKN.1 hP hD hS 5 1 rfl rfl (vp_in_iff.mpr ⟨by omega, by omega⟩) dX5_tryMan_133 (fun H locs hP hD hS => ?_)
                have hP : va_P D vwCl [(g_qsides, .inl (cA 1, 8, .inl g_csides)), (g_qgrips, .inl (cA 1, 8, .inl g_cgrips)), (g_qwits, .inl (cA 1, 8, .inl g_cwits)), (h0, .inr (5, [.ref pa_qsettled, .int (u_275.2.1 0), .int (u_275.2.1 1), .ref pa_qtried, .int pa_mostPairs, .ref g])), (pa_qsettled, .inl (cA 1, 8, .inl (u_275.2.2.1 0))), (pa_qtried, .inl (cA 1, 8, .inl (upd f_276 L5_240.toNatClampNeg (-1)))), (g, .inr (3, [.int g_odds, .int g_pot, .int g_lines, .int g_men, .int g_clauses, .int g_winds, .int g_far0, .int g_far1, .ref g_qsides, .ref g_qgrips, .ref g_qwits, .ref g_qsays, .ref g_qgives0, .ref g_qgives1, .ref g_qfroms, .ref g_qtos]))] H := hP
                have hD : va_D A [(g_qsides, .inl (cA 1, 8, .inl g_csides)), (g_qgrips, .inl (cA 1, 8, .inl g_cgrips)), (g_qwits, .inl (cA 1, 8, .inl g_cwits)), (h0, .inr (5, [.ref pa_qsettled, .int (u_275.2.1 0), .int (u_275.2.1 1), .ref pa_qtried, .int pa_mostPairs, .ref g])), (pa_qsettled, .inl (cA 1, 8, .inl (u_275.2.2.1 0))), (pa_qtried, .inl (cA 1, 8, .inl (upd f_276 L5_240.toNatClampNeg (-1)))), (g, .inr (3, [.int g_odds, .int g_pot, .int g_lines, .int g_men, .int g_clauses, .int g_winds, .int g_far0, .int g_far1, .ref g_qsides, .ref g_qgrips, .ref g_qwits, .ref g_qsays, .ref g_qgives0, .ref g_qgives1, .ref g_qfroms, .ref g_qtos]))] := hD
                generalize ef_277 : (upd f_276 L5_240.toNatClampNeg (-1)) = f_277 at hP hD
                obtain ⟨x_278, ex_278⟩ : ∃ y : Int32, L5_240 + Int32.ofInt 1 = y := ⟨_, rfl⟩
                have k_279 := ar_add (b := 1) rfl zi_1 ex_278.symm (by omega) (by omega)
                refine lv_iinc (v := x_278) (lv' := [(5, .int x_278), (6, .int r_265), (0, .ref h0), (1, .int p0), (2, .int p1), (3, .int p2), (4, .int p3)]) hx hb dX5_tryMan_134 hl (k := 1) rfl ex_278 (by decide) rfl (fun ls hl => ?_)
                refine lv_goto (tgt := 34) hx hb dX5_tryMan_137 (by decide) ?_
                exact ih_240 (x_278, (u_275.2.1 0), (u_275.2.1 1), (u_275.2.2.1 0), f_277) _ _ _ ⟨(show 0 ≤ x_278.toInt ∧ x_278.toInt ≤ 8 from by omega), hP.sub [3, 4, 5, 6, 0, 1, 2] rfl, hD.sub [3, 4, 5, 6, 0, 1, 2] (by decide) rfl, hS, lv_sub hl [0, 2, 3, 4, 5, 6] rfl⟩ (by show (2147483647 - x_278.toInt).toNat < (2147483647 - L5_240.toInt).toNat; omega)
          · skip
            refine lv_iconst (v := 1) hx hb dX5_tryMan_55 (by decide) ?_
            refine lv_icmp_ne (tgt := 134) hx hb dX5_tryMan_56 (by decide) (fun c_280 => ?_) (fun c_280 => absurd c_280 (by decide))
            obtain ⟨x_281, ex_281⟩ : ∃ y : Int32, L5_240 + Int32.ofInt 1 = y := ⟨_, rfl⟩
            have k_282 := ar_add (b := 1) rfl zi_1 ex_281.symm (by omega) (by omega)
            refine lv_iinc (v := x_281) (lv' := [(5, .int x_281), (0, .ref h0), (1, .int p0), (2, .int p1), (3, .int p2), (4, .int p3)]) hx hb dX5_tryMan_134 hl (k := 0) rfl ex_281 (by decide) rfl (fun ls hl => ?_)
            refine lv_goto (tgt := 34) hx hb dX5_tryMan_137 (by decide) ?_
            exact ih_240 (x_281, F1_240, F2_240, F3_240, F4_240) _ _ _ ⟨(show 0 ≤ x_281.toInt ∧ x_281.toInt ≤ 8 from by omega), hP.sub [0, 1, 2, 3, 4, 5, 6] rfl, hD.sub [0, 1, 2, 3, 4, 5, 6] (by decide) rfl, hS, lv_sub hl [0, 1, 2, 3, 4, 5] rfl⟩ (by show (2147483647 - x_281.toInt).toNat < (2147483647 - L5_240.toInt).toNat; omega)
    · skip
      refine lv_if_ne (tgt := 140) hx hb dX5_tryMan_28 (by decide) (fun c_283 => ?_) (fun c_283 => absurd c_283 (by decide))
      refine lv_aload_n hx hb dX5_tryMan_140 rfl (lv_at hl 0 rfl) ?_
      refine lv_iload_n hx hb dX5_tryMan_141 rfl (lv_at hl 1 rfl) ?_
      refine lv_iconst (v := 1) hx hb dX5_tryMan_142 (by decide) ?_
      refine lv_iadd hx hb dX5_tryMan_143 ?_
      refine lv_topi (fun x_284 ex_284 => ?_)
      have k_285 := ar_add rfl zi_1 ex_284 (by omega) (by omega)
      refine lv_iload_n hx hb dX5_tryMan_144 rfl (lv_at hl 2 rfl) ?_
      refine lv_iload_n hx hb dX5_tryMan_145 rfl (lv_at hl 3 rfl) ?_
      refine lv_iload hx hb dX5_tryMan_146 (lv_at hl 4 rfl) ?_
      refine cmVv (rest := []) (wsC := [(h0, .inr (5, [.ref pa_qsettled, .int pa_greatestSum, .int pa_fairest, .ref pa_qtried, .int pa_mostPairs, .ref g])), (pa_qsettled, .inl (cA 1, 8, .inl pa_csettled)), (pa_qtried, .inl (cA 1, 8, .inl pa_ctried)), (g, .inr (3, [.int g_odds, .int g_pot, .int g_lines, .int g_men, .int g_clauses, .int g_winds, .int g_far0, .int g_far1, .ref g_qsides, .ref g_qgrips, .ref g_qwits, .ref g_qsays, .ref g_qgives0, .ref g_qgives1, .ref g_qfroms, .ref g_qtos]))]) (wr := [(g_qsides, .inl (cA 1, 8, .inl g_csides)), (g_qgrips, .inl (cA 1, 8, .inl g_cgrips)), (g_qwits, .inl (cA 1, 8, .inl g_cwits))]) ⟨hx, hb, hml, hown, hts⟩ hKN hP hD hS hA [0, 1, 2, 3] [4, 5, 6] rfl rfl (by decide) (by decide) (by decide) (g_X5_tryMan_8 l D cA _ h0 pa_qsettled pa_greatestSum pa_fairest pa_qtried pa_mostPairs g pa_csettled pa_ctried g_odds g_pot g_lines g_men g_clauses g_winds g_far0 g_far1 g_qsides g_qgrips g_qwits g_qsays g_qgives0 g_qgives1 g_qfroms g_qtos x_284 p1 p2 p3 (by omega) (by omega) (by omega) (by omega) (by omega) (by omega) (by omega) (by omega)) (tb_V tw_884 tw_886 tw_13 tw_110 tw_887) hdX5_tryMan ⟨rfl, rfl, Nat.le_of_ble_eq_true rfl, Nat.le_of_ble_eq_true rfl⟩ ⟨Nat.le_of_ble_eq_true rfl, Nat.le_of_ble_eq_true rfl⟩ rfl rfl rfl hl.1 rfl (Nat.le_of_ble_eq_true rfl) dX5_tryMan_148 (fun u_286 H locs hr_286 hP hD hS => ?_)
      have hP : va_P D vwCl [(g_qsides, .inl (cA 1, 8, .inl g_csides)), (g_qgrips, .inl (cA 1, 8, .inl g_cgrips)), (g_qwits, .inl (cA 1, 8, .inl g_cwits)), (h0, .inr (5, [.ref pa_qsettled, .int (u_286.2.1 0), .int (u_286.2.1 1), .ref pa_qtried, .int pa_mostPairs, .ref g])), (pa_qsettled, .inl (cA 1, 8, .inl (u_286.2.2.1 0))), (pa_qtried, .inl (cA 1, 8, .inl pa_ctried)), (g, .inr (3, [.int g_odds, .int g_pot, .int g_lines, .int g_men, .int g_clauses, .int g_winds, .int g_far0, .int g_far1, .ref g_qsides, .ref g_qgrips, .ref g_qwits, .ref g_qsays, .ref g_qgives0, .ref g_qgives1, .ref g_qfroms, .ref g_qtos]))] H := hP
      have hD : va_D A [(g_qsides, .inl (cA 1, 8, .inl g_csides)), (g_qgrips, .inl (cA 1, 8, .inl g_cgrips)), (g_qwits, .inl (cA 1, 8, .inl g_cwits)), (h0, .inr (5, [.ref pa_qsettled, .int (u_286.2.1 0), .int (u_286.2.1 1), .ref pa_qtried, .int pa_mostPairs, .ref g])), (pa_qsettled, .inl (cA 1, 8, .inl (u_286.2.2.1 0))), (pa_qtried, .inl (cA 1, 8, .inl pa_ctried)), (g, .inr (3, [.int g_odds, .int g_pot, .int g_lines, .int g_men, .int g_clauses, .int g_winds, .int g_far0, .int g_far1, .ref g_qsides, .ref g_qgrips, .ref g_qwits, .ref g_qsays, .ref g_qgives0, .ref g_qgives1, .ref g_qfroms, .ref g_qtos]))] := hD
      have hP9 := hP.sub (ws' := [(h0, .inr (5, [.ref pa_qsettled, .int (u_286.2.1 0), .int (u_286.2.1 1), .ref pa_qtried, .int pa_mostPairs, .ref g])), (pa_qsettled, .inl (cA 1, 8, .inl (u_286.2.2.1 0))), (pa_qtried, .inl (cA 1, 8, .inl pa_ctried)), (g, .inr (3, [.int g_odds, .int g_pot, .int g_lines, .int g_men, .int g_clauses, .int g_winds, .int g_far0, .int g_far1, .ref g_qsides, .ref g_qgrips, .ref g_qwits, .ref g_qsays, .ref g_qgives0, .ref g_qgives1, .ref g_qfroms, .ref g_qtos])), (g_qsides, .inl (cA 1, 8, .inl g_csides)), (g_qgrips, .inl (cA 1, 8, .inl g_cgrips)), (g_qwits, .inl (cA 1, 8, .inl g_cwits))]) [3, 4, 5, 6, 0, 1, 2] rfl
      have hD9 := hD.sub (ws' := [(h0, .inr (5, [.ref pa_qsettled, .int (u_286.2.1 0), .int (u_286.2.1 1), .ref pa_qtried, .int pa_mostPairs, .ref g])), (pa_qsettled, .inl (cA 1, 8, .inl (u_286.2.2.1 0))), (pa_qtried, .inl (cA 1, 8, .inl pa_ctried)), (g, .inr (3, [.int g_odds, .int g_pot, .int g_lines, .int g_men, .int g_clauses, .int g_winds, .int g_far0, .int g_far1, .ref g_qsides, .ref g_qgrips, .ref g_qwits, .ref g_qsays, .ref g_qgives0, .ref g_qgives1, .ref g_qfroms, .ref g_qtos])), (g_qsides, .inl (cA 1, 8, .inl g_csides)), (g_qgrips, .inl (cA 1, 8, .inl g_cgrips)), (g_qwits, .inl (cA 1, 8, .inl g_cwits))]) [3, 4, 5, 6, 0, 1, 2] (by decide) rfl
      exact W.vret hx hb hr (fun t ht hW => ⟨⟨((fun _ => 0), (selI [(u_286.2.1 0), (u_286.2.1 1)]), (selF [(u_286.2.2.1 0), pa_ctried]), (fun _ _ => 0)), rfl, trivial, by rw [ht]; exact hP9, hD9⟩, hS.F ht⟩) hS.2.2 dX5_tryMan_151
  · skip
    refine lv_if_ne (tgt := 20) hx hb dX5_tryMan_8 (by decide) (fun c_287 => absurd (by decide) c_287) (fun c_287 => ?_)
    refine lv_aload_n hx hb dX5_tryMan_11 rfl (lv_at hl 0 rfl) ?_
    refine lv_iload_n hx hb dX5_tryMan_12 rfl (lv_at hl 2 rfl) ?_
    refine lv_iload_n hx hb dX5_tryMan_13 rfl (lv_at hl 3 rfl) ?_
    refine lv_iload hx hb dX5_tryMan_14 (lv_at hl 4 rfl) ?_
    refine cmVv (rest := []) (wsC := [(h0, .inr (5, [.ref pa_qsettled, .int pa_greatestSum, .int pa_fairest, .ref pa_qtried, .int pa_mostPairs, .ref g])), (pa_qsettled, .inl (cA 1, 8, .inl pa_csettled)), (pa_qtried, .inl (cA 1, 8, .inl pa_ctried))]) (wr := [(g, .inr (3, [.int g_odds, .int g_pot, .int g_lines, .int g_men, .int g_clauses, .int g_winds, .int g_far0, .int g_far1, .ref g_qsides, .ref g_qgrips, .ref g_qwits, .ref g_qsays, .ref g_qgives0, .ref g_qgives1, .ref g_qfroms, .ref g_qtos])), (g_qsides, .inl (cA 1, 8, .inl g_csides)), (g_qgrips, .inl (cA 1, 8, .inl g_cgrips)), (g_qwits, .inl (cA 1, 8, .inl g_cwits))]) ⟨hx, hb, hml, hown, hts⟩ hKN hP hD hS hA [0, 1, 2] [3, 4, 5, 6] rfl rfl (by decide) (by decide) (by decide) (g_X5_weigh l D cA _ h0 pa_qsettled pa_greatestSum pa_fairest pa_qtried pa_mostPairs g pa_csettled pa_ctried p1 p2 p3) (tb_V tw_889 tw_891 tw_14 tw_110 tw_892) hdX5_weigh ⟨rfl, rfl, Nat.le_of_ble_eq_true rfl, Nat.le_of_ble_eq_true rfl⟩ ⟨Nat.le_of_ble_eq_true rfl, Nat.le_of_ble_eq_true rfl⟩ rfl rfl rfl hl.1 rfl (Nat.le_of_ble_eq_true rfl) dX5_tryMan_16 (fun u_288 H locs hr_288 hP hD hS => ?_)
    have hP : va_P D vwCl [(g, .inr (3, [.int g_odds, .int g_pot, .int g_lines, .int g_men, .int g_clauses, .int g_winds, .int g_far0, .int g_far1, .ref g_qsides, .ref g_qgrips, .ref g_qwits, .ref g_qsays, .ref g_qgives0, .ref g_qgives1, .ref g_qfroms, .ref g_qtos])), (g_qsides, .inl (cA 1, 8, .inl g_csides)), (g_qgrips, .inl (cA 1, 8, .inl g_cgrips)), (g_qwits, .inl (cA 1, 8, .inl g_cwits)), (h0, .inr (5, [.ref pa_qsettled, .int (u_288.2.1 0), .int (u_288.2.1 1), .ref pa_qtried, .int pa_mostPairs, .ref g])), (pa_qsettled, .inl (cA 1, 8, .inl (u_288.2.2.1 0))), (pa_qtried, .inl (cA 1, 8, .inl pa_ctried))] H := hP
    have hD : va_D A [(g, .inr (3, [.int g_odds, .int g_pot, .int g_lines, .int g_men, .int g_clauses, .int g_winds, .int g_far0, .int g_far1, .ref g_qsides, .ref g_qgrips, .ref g_qwits, .ref g_qsays, .ref g_qgives0, .ref g_qgives1, .ref g_qfroms, .ref g_qtos])), (g_qsides, .inl (cA 1, 8, .inl g_csides)), (g_qgrips, .inl (cA 1, 8, .inl g_cgrips)), (g_qwits, .inl (cA 1, 8, .inl g_cwits)), (h0, .inr (5, [.ref pa_qsettled, .int (u_288.2.1 0), .int (u_288.2.1 1), .ref pa_qtried, .int pa_mostPairs, .ref g])), (pa_qsettled, .inl (cA 1, 8, .inl (u_288.2.2.1 0))), (pa_qtried, .inl (cA 1, 8, .inl pa_ctried))] := hD
    have hP9 := hP.sub (ws' := [(h0, .inr (5, [.ref pa_qsettled, .int (u_288.2.1 0), .int (u_288.2.1 1), .ref pa_qtried, .int pa_mostPairs, .ref g])), (pa_qsettled, .inl (cA 1, 8, .inl (u_288.2.2.1 0))), (pa_qtried, .inl (cA 1, 8, .inl pa_ctried)), (g, .inr (3, [.int g_odds, .int g_pot, .int g_lines, .int g_men, .int g_clauses, .int g_winds, .int g_far0, .int g_far1, .ref g_qsides, .ref g_qgrips, .ref g_qwits, .ref g_qsays, .ref g_qgives0, .ref g_qgives1, .ref g_qfroms, .ref g_qtos])), (g_qsides, .inl (cA 1, 8, .inl g_csides)), (g_qgrips, .inl (cA 1, 8, .inl g_cgrips)), (g_qwits, .inl (cA 1, 8, .inl g_cwits))]) [4, 5, 6, 0, 1, 2, 3] rfl
    have hD9 := hD.sub (ws' := [(h0, .inr (5, [.ref pa_qsettled, .int (u_288.2.1 0), .int (u_288.2.1 1), .ref pa_qtried, .int pa_mostPairs, .ref g])), (pa_qsettled, .inl (cA 1, 8, .inl (u_288.2.2.1 0))), (pa_qtried, .inl (cA 1, 8, .inl pa_ctried)), (g, .inr (3, [.int g_odds, .int g_pot, .int g_lines, .int g_men, .int g_clauses, .int g_winds, .int g_far0, .int g_far1, .ref g_qsides, .ref g_qgrips, .ref g_qwits, .ref g_qsays, .ref g_qgives0, .ref g_qgives1, .ref g_qfroms, .ref g_qtos])), (g_qsides, .inl (cA 1, 8, .inl g_csides)), (g_qgrips, .inl (cA 1, 8, .inl g_cgrips)), (g_qwits, .inl (cA 1, 8, .inl g_cwits))]) [4, 5, 6, 0, 1, 2, 3] (by decide) rfl
    exact W.vret hx hb hr (fun t ht hW => ⟨⟨((fun _ => 0), (selI [(u_288.2.1 0), (u_288.2.1 1)]), (selF [(u_288.2.2.1 0), pa_ctried]), (fun _ _ => 0)), rfl, trivial, by rw [ht]; exact hP9, hD9⟩, hS.F ht⟩) hS.2.2 dX5_tryMan_19
set_option maxHeartbeats 8000000 in
set_option maxRecDepth 100000 in
theorem g_X5_tryMan_6 (l : Launch) (D : va_G) (cA : Nat → ClassId) (sz : Nat) (h0 : Nat) (pa_qsettled : Nat) (pa_greatestSum : Int32) (pa_fairest : Int32) (pa_qtried : Nat) (pa_mostPairs : Int32) (g : Nat) (pa_csettled : Nat → Int32) (pa_ctried : Nat → Int32) (g_odds : Int32) (g_pot : Int32) (g_lines : Int32) (g_men : Int32) (g_clauses : Int32) (g_winds : Int32) (g_far0 : Int32) (g_far1 : Int32) (g_qsides : Nat) (g_qgrips : Nat) (g_qwits : Nat) (g_qsays : Nat) (g_qgives0 : Nat) (g_qgives1 : Nat) (g_qfroms : Nat) (g_qtos : Nat) (g_csides : Nat → Int32) (g_cgrips : Nat → Int32) (g_cwits : Nat → Int32) (p0 : Int32) (p1 : Int32) (p2 : Int32) (p3 : Int32) (h_g_odds : -999 ≤ (g_odds : Int32).toInt ∧ (g_odds : Int32).toInt ≤ 999) (h_g_pot : -999 ≤ (g_pot : Int32).toInt ∧ (g_pot : Int32).toInt ≤ 999) (h_g_men : 0 ≤ (g_men : Int32).toInt ∧ (g_men : Int32).toInt ≤ 8) (h_g_clauses : 0 ≤ (g_clauses : Int32).toInt ∧ (g_clauses : Int32).toInt ≤ 7) (h_g_winds : 0 ≤ (g_winds : Int32).toInt ∧ (g_winds : Int32).toInt ≤ 4) (h_g_far0 : -999 ≤ (g_far0 : Int32).toInt ∧ (g_far0 : Int32).toInt ≤ 999) (h_g_far1 : -999 ≤ (g_far1 : Int32).toInt ∧ (g_far1 : Int32).toInt ≤ 999) (h_p0 : 6 ≤ (p0 : Int32).toInt ∧ (p0 : Int32).toInt ≤ 6) : Met l yX5_tryMan (Cond.code yX5_tryMan cX5_tryMan 7 none :: TB) (rmd 4 0 0) (PM D cA sz [(h0, .inr (5, [.ref pa_qsettled, .int pa_greatestSum, .int pa_fairest, .ref pa_qtried, .int pa_mostPairs, .ref g])), (pa_qsettled, .inl (cA 1, 8, .inl pa_csettled)), (pa_qtried, .inl (cA 1, 8, .inl pa_ctried)), (g, .inr (3, [.int g_odds, .int g_pot, .int g_lines, .int g_men, .int g_clauses, .int g_winds, .int g_far0, .int g_far1, .ref g_qsides, .ref g_qgrips, .ref g_qwits, .ref g_qsays, .ref g_qgives0, .ref g_qgives1, .ref g_qfroms, .ref g_qtos])), (g_qsides, .inl (cA 1, 8, .inl g_csides)), (g_qgrips, .inl (cA 1, 8, .inl g_cgrips)), (g_qwits, .inl (cA 1, 8, .inl g_cwits))] [.ref h0, .int p0, .int p1, .int p2, .int p3]) (va_Qv (fun (u : SU) => True) (fun u t => va_P D vwCl [(h0, .inr (5, [.ref pa_qsettled, .int (u.2.1 0), .int (u.2.1 1), .ref pa_qtried, .int pa_mostPairs, .ref g])), (pa_qsettled, .inl (cA 1, 8, .inl (u.2.2.1 0))), (pa_qtried, .inl (cA 1, 8, .inl (u.2.2.1 1))), (g, .inr (3, [.int g_odds, .int g_pot, .int g_lines, .int g_men, .int g_clauses, .int g_winds, .int g_far0, .int g_far1, .ref g_qsides, .ref g_qgrips, .ref g_qwits, .ref g_qsays, .ref g_qgives0, .ref g_qgives1, .ref g_qfroms, .ref g_qtos])), (g_qsides, .inl (cA 1, 8, .inl g_csides)), (g_qgrips, .inl (cA 1, 8, .inl g_cgrips)), (g_qwits, .inl (cA 1, 8, .inl g_cwits))] t.heap ∧ va_D (va_A [(h0, .inr (5, [.ref pa_qsettled, .int pa_greatestSum, .int pa_fairest, .ref pa_qtried, .int pa_mostPairs, .ref g])), (pa_qsettled, .inl (cA 1, 8, .inl pa_csettled)), (pa_qtried, .inl (cA 1, 8, .inl pa_ctried)), (g, .inr (3, [.int g_odds, .int g_pot, .int g_lines, .int g_men, .int g_clauses, .int g_winds, .int g_far0, .int g_far1, .ref g_qsides, .ref g_qgrips, .ref g_qwits, .ref g_qsays, .ref g_qgives0, .ref g_qgives1, .ref g_qfroms, .ref g_qtos])), (g_qsides, .inl (cA 1, 8, .inl g_csides)), (g_qgrips, .inl (cA 1, 8, .inl g_cgrips)), (g_qwits, .inl (cA 1, 8, .inl g_cwits))] sz) [(h0, .inr (5, [.ref pa_qsettled, .int (u.2.1 0), .int (u.2.1 1), .ref pa_qtried, .int pa_mostPairs, .ref g])), (pa_qsettled, .inl (cA 1, 8, .inl (u.2.2.1 0))), (pa_qtried, .inl (cA 1, 8, .inl (u.2.2.1 1))), (g, .inr (3, [.int g_odds, .int g_pot, .int g_lines, .int g_men, .int g_clauses, .int g_winds, .int g_far0, .int g_far1, .ref g_qsides, .ref g_qgrips, .ref g_qwits, .ref g_qsays, .ref g_qgives0, .ref g_qgives1, .ref g_qfroms, .ref g_qtos])), (g_qsides, .inl (cA 1, 8, .inl g_csides)), (g_qgrips, .inl (cA 1, 8, .inl g_cgrips)), (g_qwits, .inl (cA 1, 8, .inl g_cwits))]) (va_A [(h0, .inr (5, [.ref pa_qsettled, .int pa_greatestSum, .int pa_fairest, .ref pa_qtried, .int pa_mostPairs, .ref g])), (pa_qsettled, .inl (cA 1, 8, .inl pa_csettled)), (pa_qtried, .inl (cA 1, 8, .inl pa_ctried)), (g, .inr (3, [.int g_odds, .int g_pot, .int g_lines, .int g_men, .int g_clauses, .int g_winds, .int g_far0, .int g_far1, .ref g_qsides, .ref g_qgrips, .ref g_qwits, .ref g_qsays, .ref g_qgives0, .ref g_qgives1, .ref g_qfroms, .ref g_qtos])), (g_qsides, .inl (cA 1, 8, .inl g_csides)), (g_qgrips, .inl (cA 1, 8, .inl g_cgrips)), (g_qwits, .inl (cA 1, 8, .inl g_cwits))] sz)) 0 0 (va_A [(h0, .inr (5, [.ref pa_qsettled, .int pa_greatestSum, .int pa_fairest, .ref pa_qtried, .int pa_mostPairs, .ref g])), (pa_qsettled, .inl (cA 1, 8, .inl pa_csettled)), (pa_qtried, .inl (cA 1, 8, .inl pa_ctried)), (g, .inr (3, [.int g_odds, .int g_pot, .int g_lines, .int g_men, .int g_clauses, .int g_winds, .int g_far0, .int g_far1, .ref g_qsides, .ref g_qgrips, .ref g_qwits, .ref g_qsays, .ref g_qgives0, .ref g_qgives1, .ref g_qfroms, .ref g_qtos])), (g_qsides, .inl (cA 1, 8, .inl g_csides)), (g_qgrips, .inl (cA 1, 8, .inl g_cgrips)), (g_qwits, .inl (cA 1, 8, .inl g_cwits))] sz) := by
  refine Met.ofW (cc := cX5_tryMan) (maxL := 7) (ret := none) (by decide) rfl ?_
  intro p e s m args below meth c s₁ B hml hv
  obtain ⟨rfl, hsz, hP, hKN, hD0⟩ := hv
  have hx := B.exec
  have hb := B.bytes
  have hr := B.returns
  have hts : ∀ w ∈ TB, w.before _ s = true := fun w h => atoms_spec B.pre w (List.mem_cons_of_mem _ h)
  have hown : s.vm.findClass RX5 = some m.cls := findClass_of_methodNamed B.named
  have hlocks := B.notSynchronized
  subst hsz
  have hD := hD0.self (sz := s.heap.size)
  generalize hAe : va_A [(h0, .inr (5, [.ref pa_qsettled, .int pa_greatestSum, .int pa_fairest, .ref pa_qtried, .int pa_mostPairs, .ref g])), (pa_qsettled, .inl (cA 1, 8, .inl pa_csettled)), (pa_qtried, .inl (cA 1, 8, .inl pa_ctried)), (g, .inr (3, [.int g_odds, .int g_pot, .int g_lines, .int g_men, .int g_clauses, .int g_winds, .int g_far0, .int g_far1, .ref g_qsides, .ref g_qgrips, .ref g_qwits, .ref g_qsays, .ref g_qgives0, .ref g_qgives1, .ref g_qfroms, .ref g_qtos])), (g_qsides, .inl (cA 1, 8, .inl g_csides)), (g_qgrips, .inl (cA 1, 8, .inl g_cgrips)), (g_qwits, .inl (cA 1, 8, .inl g_cwits))] s.heap.size = A at hD ⊢
  have hA : ∀ q : Nat, s.heap.size ≤ q → A q := fun q h => by rw [← hAe]; exact Or.inr h
  have hS : va_S A s.heap s.heap [] := va_S.rf
  have hl := lv_entry ([.ref h0, .int p0, .int p1, .int p2, .int p3]) (n := 7) (Nat.le_of_ble_eq_true rfl)
  rw [lg_entry_eq]
  generalize (lg_sl ([.ref h0, .int p0, .int p1, .int p2, .int p3]) ++ List.replicate (7 - (lg_sl ([.ref h0, .int p0, .int p1, .int p2, .int p3])).length) Slot.unset).toArray = ls at hl ⊢
  have hl : lv_has ls 7 [(0, .ref h0), (1, .int p0), (2, .int p1), (3, .int p2), (4, .int p3)] := hl
  refine lv_aload_n hx hb dX5_tryMan_0 rfl (lv_at hl 0 rfl) ?_
  refine va_get (D := D) (ci := 5) (v := .ref g) (C := RX5) (T := TX5) (N := 6) hx hb hts inX5 hown hKN.1 hP 0 rfl rfl 5 (by decide) (hts _ tw_384) (fun _ h9 => h9) rfl dX5_tryMan_1 ?_
  refine lv_iload_n hx hb dX5_tryMan_4 rfl (lv_at hl 1 rfl) ?_
  refine cpVi (rest := []) ⟨hx, hb, hml, hown, hts⟩ hKN (hP.sub (ws' := [(g, .inr (3, [.int g_odds, .int g_pot, .int g_lines, .int g_men, .int g_clauses, .int g_winds, .int g_far0, .int g_far1, .ref g_qsides, .ref g_qgrips, .ref g_qwits, .ref g_qsays, .ref g_qgives0, .ref g_qgives1, .ref g_qfroms, .ref g_qtos]))]) [3] rfl) (g_X3_hasMan l D cA g g_odds g_pot g_lines g_men g_clauses g_winds g_far0 g_far1 g_qsides g_qgrips g_qwits g_qsays g_qgives0 g_qgives1 g_qfroms g_qtos p0 (by omega) (by omega) (by omega) (by omega) (by omega) (by omega) (by omega)) (tb_V tw_888 tw_699 tw_700 tw_104 tw_701) hdX3_hasMan ⟨rfl, rfl, Nat.le_of_ble_eq_true rfl, Nat.le_of_ble_eq_true rfl⟩ ⟨Nat.le_of_ble_eq_true rfl, Nat.le_of_ble_eq_true rfl⟩ rfl rfl rfl hl.1 rfl (Nat.le_of_ble_eq_true rfl) dX5_tryMan_5 (fun r_1 hr_1 => ?_)
  rcases hr_1 with ⟨k_1_0_0, k_1_0_1, k_1_0_2, rfl⟩ | rfl
  · skip
    refine lv_if_ne (tgt := 20) hx hb dX5_tryMan_8 (by decide) (fun c_2 => ?_) (fun c_2 => absurd c_2 (by decide))
    refine lv_aload_n hx hb dX5_tryMan_20 rfl (lv_at hl 0 rfl) ?_
    refine va_get (D := D) (ci := 5) (v := .ref g) (C := RX5) (T := TX5) (N := 6) hx hb hts inX5 hown hKN.1 hP 0 rfl rfl 5 (by decide) (hts _ tw_384) (fun _ h9 => h9) rfl dX5_tryMan_21 ?_
    refine lv_iload_n hx hb dX5_tryMan_24 rfl (lv_at hl 1 rfl) ?_
    refine cpVi (rest := []) ⟨hx, hb, hml, hown, hts⟩ hKN (hP.sub (ws' := [(g, .inr (3, [.int g_odds, .int g_pot, .int g_lines, .int g_men, .int g_clauses, .int g_winds, .int g_far0, .int g_far1, .ref g_qsides, .ref g_qgrips, .ref g_qwits, .ref g_qsays, .ref g_qgives0, .ref g_qgives1, .ref g_qfroms, .ref g_qtos])), (g_qsides, .inl (cA 1, 8, .inl g_csides))]) [3, 4] rfl) (g_X3_sideOf l D cA g g_odds g_pot g_lines g_men g_clauses g_winds g_far0 g_far1 g_qsides g_qgrips g_qwits g_qsays g_qgives0 g_qgives1 g_qfroms g_qtos g_csides p0 (by omega) (by omega) (by omega) (by omega) (by omega) (by omega) (by omega)) (tb_V tw_882 tw_703 tw_704 tw_104 tw_705) hdX3_sideOf ⟨rfl, rfl, Nat.le_of_ble_eq_true rfl, Nat.le_of_ble_eq_true rfl⟩ ⟨Nat.le_of_ble_eq_true rfl, Nat.le_of_ble_eq_true rfl⟩ rfl rfl rfl hl.1 rfl (Nat.le_of_ble_eq_true rfl) dX5_tryMan_25 (fun r_3 hr_3 => ?_)
    rcases hr_3 with ⟨k_3_0_0, k_3_0_1⟩ | rfl
    · skip
      refine lv_if_ne (tgt := 140) hx hb dX5_tryMan_28 (by decide) (fun c_4 => ?_) (fun c_4 => ?_)
      · skip
        have b_6 := i32_bd r_3
        have k_5 := kk_ne rfl zi_0 c_4
        refine lv_aload_n hx hb dX5_tryMan_140 rfl (lv_at hl 0 rfl) ?_
        refine lv_iload_n hx hb dX5_tryMan_141 rfl (lv_at hl 1 rfl) ?_
        refine lv_iconst (v := 1) hx hb dX5_tryMan_142 (by decide) ?_
        refine lv_iadd hx hb dX5_tryMan_143 ?_
        refine lv_topi (fun x_7 ex_7 => ?_)
        have k_8 := ar_add rfl zi_1 ex_7 (by omega) (by omega)
        refine lv_iload_n hx hb dX5_tryMan_144 rfl (lv_at hl 2 rfl) ?_
        refine lv_iload_n hx hb dX5_tryMan_145 rfl (lv_at hl 3 rfl) ?_
        refine lv_iload hx hb dX5_tryMan_146 (lv_at hl 4 rfl) ?_
        refine cmVv (rest := []) (wsC := [(h0, .inr (5, [.ref pa_qsettled, .int pa_greatestSum, .int pa_fairest, .ref pa_qtried, .int pa_mostPairs, .ref g])), (pa_qsettled, .inl (cA 1, 8, .inl pa_csettled)), (pa_qtried, .inl (cA 1, 8, .inl pa_ctried)), (g, .inr (3, [.int g_odds, .int g_pot, .int g_lines, .int g_men, .int g_clauses, .int g_winds, .int g_far0, .int g_far1, .ref g_qsides, .ref g_qgrips, .ref g_qwits, .ref g_qsays, .ref g_qgives0, .ref g_qgives1, .ref g_qfroms, .ref g_qtos])), (g_qsides, .inl (cA 1, 8, .inl g_csides)), (g_qgrips, .inl (cA 1, 8, .inl g_cgrips)), (g_qwits, .inl (cA 1, 8, .inl g_cwits))]) (wr := []) ⟨hx, hb, hml, hown, hts⟩ hKN hP hD hS hA [0, 1, 2, 3, 4, 5, 6] [] rfl rfl (by decide) (by decide) (by decide) (g_X5_tryMan_7 l D cA _ h0 pa_qsettled pa_greatestSum pa_fairest pa_qtried pa_mostPairs g pa_csettled pa_ctried g_odds g_pot g_lines g_men g_clauses g_winds g_far0 g_far1 g_qsides g_qgrips g_qwits g_qsays g_qgives0 g_qgives1 g_qfroms g_qtos g_csides g_cgrips g_cwits x_7 p1 p2 p3 (by omega) (by omega) (by omega) (by omega) (by omega) (by omega) (by omega) (by omega)) (tb_V tw_884 tw_886 tw_13 tw_110 tw_887) hdX5_tryMan ⟨rfl, rfl, Nat.le_of_ble_eq_true rfl, Nat.le_of_ble_eq_true rfl⟩ ⟨Nat.le_of_ble_eq_true rfl, Nat.le_of_ble_eq_true rfl⟩ rfl rfl rfl hl.1 rfl (Nat.le_of_ble_eq_true rfl) dX5_tryMan_148 (fun u_9 H locs hr_9 hP hD hS => ?_)
        have hP : va_P D vwCl [(h0, .inr (5, [.ref pa_qsettled, .int (u_9.2.1 0), .int (u_9.2.1 1), .ref pa_qtried, .int pa_mostPairs, .ref g])), (pa_qsettled, .inl (cA 1, 8, .inl (u_9.2.2.1 0))), (pa_qtried, .inl (cA 1, 8, .inl (u_9.2.2.1 1))), (g, .inr (3, [.int g_odds, .int g_pot, .int g_lines, .int g_men, .int g_clauses, .int g_winds, .int g_far0, .int g_far1, .ref g_qsides, .ref g_qgrips, .ref g_qwits, .ref g_qsays, .ref g_qgives0, .ref g_qgives1, .ref g_qfroms, .ref g_qtos])), (g_qsides, .inl (cA 1, 8, .inl g_csides)), (g_qgrips, .inl (cA 1, 8, .inl g_cgrips)), (g_qwits, .inl (cA 1, 8, .inl g_cwits))] H := hP
        have hD : va_D A [(h0, .inr (5, [.ref pa_qsettled, .int (u_9.2.1 0), .int (u_9.2.1 1), .ref pa_qtried, .int pa_mostPairs, .ref g])), (pa_qsettled, .inl (cA 1, 8, .inl (u_9.2.2.1 0))), (pa_qtried, .inl (cA 1, 8, .inl (u_9.2.2.1 1))), (g, .inr (3, [.int g_odds, .int g_pot, .int g_lines, .int g_men, .int g_clauses, .int g_winds, .int g_far0, .int g_far1, .ref g_qsides, .ref g_qgrips, .ref g_qwits, .ref g_qsays, .ref g_qgives0, .ref g_qgives1, .ref g_qfroms, .ref g_qtos])), (g_qsides, .inl (cA 1, 8, .inl g_csides)), (g_qgrips, .inl (cA 1, 8, .inl g_cgrips)), (g_qwits, .inl (cA 1, 8, .inl g_cwits))] := hD
        have hP9 := hP.sub (ws' := [(h0, .inr (5, [.ref pa_qsettled, .int (u_9.2.1 0), .int (u_9.2.1 1), .ref pa_qtried, .int pa_mostPairs, .ref g])), (pa_qsettled, .inl (cA 1, 8, .inl (u_9.2.2.1 0))), (pa_qtried, .inl (cA 1, 8, .inl (u_9.2.2.1 1))), (g, .inr (3, [.int g_odds, .int g_pot, .int g_lines, .int g_men, .int g_clauses, .int g_winds, .int g_far0, .int g_far1, .ref g_qsides, .ref g_qgrips, .ref g_qwits, .ref g_qsays, .ref g_qgives0, .ref g_qgives1, .ref g_qfroms, .ref g_qtos])), (g_qsides, .inl (cA 1, 8, .inl g_csides)), (g_qgrips, .inl (cA 1, 8, .inl g_cgrips)), (g_qwits, .inl (cA 1, 8, .inl g_cwits))]) [0, 1, 2, 3, 4, 5, 6] rfl
        have hD9 := hD.sub (ws' := [(h0, .inr (5, [.ref pa_qsettled, .int (u_9.2.1 0), .int (u_9.2.1 1), .ref pa_qtried, .int pa_mostPairs, .ref g])), (pa_qsettled, .inl (cA 1, 8, .inl (u_9.2.2.1 0))), (pa_qtried, .inl (cA 1, 8, .inl (u_9.2.2.1 1))), (g, .inr (3, [.int g_odds, .int g_pot, .int g_lines, .int g_men, .int g_clauses, .int g_winds, .int g_far0, .int g_far1, .ref g_qsides, .ref g_qgrips, .ref g_qwits, .ref g_qsays, .ref g_qgives0, .ref g_qgives1, .ref g_qfroms, .ref g_qtos])), (g_qsides, .inl (cA 1, 8, .inl g_csides)), (g_qgrips, .inl (cA 1, 8, .inl g_cgrips)), (g_qwits, .inl (cA 1, 8, .inl g_cwits))]) [0, 1, 2, 3, 4, 5, 6] (by decide) rfl
        exact W.vret hx hb hr (fun t ht hW => ⟨⟨((fun _ => 0), (selI [(u_9.2.1 0), (u_9.2.1 1)]), (selF [(u_9.2.2.1 0), (u_9.2.2.1 1)]), (fun _ _ => 0)), rfl, trivial, by rw [ht]; exact hP9, hD9⟩, hS.F ht⟩) hS.2.2 dX5_tryMan_151
      · skip
        have b_11 := i32_bd r_3
        have k_10 := kk_eq rfl zi_0 c_4
        refine lv_iconst (v := 0) hx hb dX5_tryMan_31 (by decide) ?_
        refine lv_istore (lv' := [(5, .int 0), (0, .ref h0), (1, .int p0), (2, .int p1), (3, .int p2), (4, .int p3)]) hx hb dX5_tryMan_32 hl (by decide) rfl (fun ls hl => ?_)
        have b_241 := i32_bd pa_greatestSum
        have b_242 := i32_bd pa_fairest
        refine loopW (σ := Int32 × Int32 × Int32 × (Nat → Int32) × (Nat → Int32)) (fun _ => []) (fun ⟨L5_240, F1_240, F2_240, F3_240, F4_240⟩ H locs ls => (0 ≤ L5_240.toInt ∧ L5_240.toInt ≤ 8) ∧ va_P D vwCl [(h0, .inr (5, [.ref pa_qsettled, .int F1_240, .int F2_240, .ref pa_qtried, .int pa_mostPairs, .ref g])), (pa_qsettled, .inl (cA 1, 8, .inl F3_240)), (pa_qtried, .inl (cA 1, 8, .inl F4_240)), (g, .inr (3, [.int g_odds, .int g_pot, .int g_lines, .int g_men, .int g_clauses, .int g_winds, .int g_far0, .int g_far1, .ref g_qsides, .ref g_qgrips, .ref g_qwits, .ref g_qsays, .ref g_qgives0, .ref g_qgives1, .ref g_qfroms, .ref g_qtos])), (g_qsides, .inl (cA 1, 8, .inl g_csides)), (g_qgrips, .inl (cA 1, 8, .inl g_cgrips)), (g_qwits, .inl (cA 1, 8, .inl g_cwits))] H ∧ va_D A [(h0, .inr (5, [.ref pa_qsettled, .int F1_240, .int F2_240, .ref pa_qtried, .int pa_mostPairs, .ref g])), (pa_qsettled, .inl (cA 1, 8, .inl F3_240)), (pa_qtried, .inl (cA 1, 8, .inl F4_240)), (g, .inr (3, [.int g_odds, .int g_pot, .int g_lines, .int g_men, .int g_clauses, .int g_winds, .int g_far0, .int g_far1, .ref g_qsides, .ref g_qgrips, .ref g_qwits, .ref g_qsays, .ref g_qgives0, .ref g_qgives1, .ref g_qfroms, .ref g_qtos])), (g_qsides, .inl (cA 1, 8, .inl g_csides)), (g_qgrips, .inl (cA 1, 8, .inl g_cgrips)), (g_qwits, .inl (cA 1, 8, .inl g_cwits))] ∧ va_S A s.heap H locs ∧ lv_has ls 7 [(5, .int L5_240), (0, .ref h0), (1, .int p0), (2, .int p1), (3, .int p2), (4, .int p3)]) (fun ⟨L5_240, F1_240, F2_240, F3_240, F4_240⟩ => (2147483647 - L5_240.toInt).toNat) ?_ ((0, pa_greatestSum, pa_fairest, pa_csettled, pa_ctried) : Int32 × Int32 × Int32 × (Nat → Int32) × (Nat → Int32)) ⟨(by decide), hP, hD, hS, hl⟩
        intro x_240 H locs ls hI_240 ih_240
        obtain ⟨L5_240, F1_240, F2_240, F3_240, F4_240⟩ := x_240
        obtain ⟨k0_240, hP, hD, hS, hl⟩ := hI_240
        have hP : va_P D vwCl [(h0, .inr (5, [.ref pa_qsettled, .int F1_240, .int F2_240, .ref pa_qtried, .int pa_mostPairs, .ref g])), (pa_qsettled, .inl (cA 1, 8, .inl F3_240)), (pa_qtried, .inl (cA 1, 8, .inl F4_240)), (g, .inr (3, [.int g_odds, .int g_pot, .int g_lines, .int g_men, .int g_clauses, .int g_winds, .int g_far0, .int g_far1, .ref g_qsides, .ref g_qgrips, .ref g_qwits, .ref g_qsays, .ref g_qgives0, .ref g_qgives1, .ref g_qfroms, .ref g_qtos])), (g_qsides, .inl (cA 1, 8, .inl g_csides)), (g_qgrips, .inl (cA 1, 8, .inl g_cgrips)), (g_qwits, .inl (cA 1, 8, .inl g_cwits))] H := hP
        have hD : va_D A [(h0, .inr (5, [.ref pa_qsettled, .int F1_240, .int F2_240, .ref pa_qtried, .int pa_mostPairs, .ref g])), (pa_qsettled, .inl (cA 1, 8, .inl F3_240)), (pa_qtried, .inl (cA 1, 8, .inl F4_240)), (g, .inr (3, [.int g_odds, .int g_pot, .int g_lines, .int g_men, .int g_clauses, .int g_winds, .int g_far0, .int g_far1, .ref g_qsides, .ref g_qgrips, .ref g_qwits, .ref g_qsays, .ref g_qgives0, .ref g_qgives1, .ref g_qfroms, .ref g_qtos])), (g_qsides, .inl (cA 1, 8, .inl g_csides)), (g_qgrips, .inl (cA 1, 8, .inl g_cgrips)), (g_qwits, .inl (cA 1, 8, .inl g_cwits))] := hD
        have hl : lv_has ls 7 [(5, .int L5_240), (0, .ref h0), (1, .int p0), (2, .int p1), (3, .int p2), (4, .int p3)] := hl
        refine lv_iload hx hb dX5_tryMan_34 (lv_at hl 0 rfl) ?_
        refine lv_aload_n hx hb dX5_tryMan_36 rfl (lv_at hl 1 rfl) ?_
        refine va_get (D := D) (ci := 5) (v := .ref g) (C := RX5) (T := TX5) (N := 6) hx hb hts inX5 hown hKN.1 hP 0 rfl rfl 5 (by decide) (hts _ tw_384) (fun _ h9 => h9) rfl dX5_tryMan_37 ?_
        refine va_get (D := D) (ci := 3) (v := .int g_men) (C := RX3) (T := TX3) (N := 16) hx hb hts inX3 hown hKN.1 hP 3 rfl rfl 3 (by decide) (hts _ tw_168) (fun _ h9 => h9) rfl dX5_tryMan_40 ?_
        refine lv_icmp_ge (tgt := 140) hx hb dX5_tryMan_43 (by decide) (fun c_243 => ?_) (fun c_243 => ?_)
        · skip
          have k_244 := kk_le rfl rfl c_243
          refine lv_aload_n hx hb dX5_tryMan_140 rfl (lv_at hl 1 rfl) ?_
          refine lv_iload_n hx hb dX5_tryMan_141 rfl (lv_at hl 2 rfl) ?_
          refine lv_iconst (v := 1) hx hb dX5_tryMan_142 (by decide) ?_
          refine lv_iadd hx hb dX5_tryMan_143 ?_
          refine lv_topi (fun x_245 ex_245 => ?_)
          have k_246 := ar_add rfl zi_1 ex_245 (by omega) (by omega)
          refine lv_iload_n hx hb dX5_tryMan_144 rfl (lv_at hl 3 rfl) ?_
          refine lv_iload_n hx hb dX5_tryMan_145 rfl (lv_at hl 4 rfl) ?_
          refine lv_iload hx hb dX5_tryMan_146 (lv_at hl 5 rfl) ?_
          refine cmVv (rest := []) (wsC := [(h0, .inr (5, [.ref pa_qsettled, .int F1_240, .int F2_240, .ref pa_qtried, .int pa_mostPairs, .ref g])), (pa_qsettled, .inl (cA 1, 8, .inl F3_240)), (pa_qtried, .inl (cA 1, 8, .inl F4_240)), (g, .inr (3, [.int g_odds, .int g_pot, .int g_lines, .int g_men, .int g_clauses, .int g_winds, .int g_far0, .int g_far1, .ref g_qsides, .ref g_qgrips, .ref g_qwits, .ref g_qsays, .ref g_qgives0, .ref g_qgives1, .ref g_qfroms, .ref g_qtos])), (g_qsides, .inl (cA 1, 8, .inl g_csides)), (g_qgrips, .inl (cA 1, 8, .inl g_cgrips)), (g_qwits, .inl (cA 1, 8, .inl g_cwits))]) (wr := []) ⟨hx, hb, hml, hown, hts⟩ hKN hP hD hS hA [0, 1, 2, 3, 4, 5, 6] [] rfl rfl (by decide) (by decide) (by decide) (g_X5_tryMan_7 l D cA _ h0 pa_qsettled F1_240 F2_240 pa_qtried pa_mostPairs g F3_240 F4_240 g_odds g_pot g_lines g_men g_clauses g_winds g_far0 g_far1 g_qsides g_qgrips g_qwits g_qsays g_qgives0 g_qgives1 g_qfroms g_qtos g_csides g_cgrips g_cwits x_245 p1 p2 p3 (by omega) (by omega) (by omega) (by omega) (by omega) (by omega) (by omega) (by omega)) (tb_V tw_884 tw_886 tw_13 tw_110 tw_887) hdX5_tryMan ⟨rfl, rfl, Nat.le_of_ble_eq_true rfl, Nat.le_of_ble_eq_true rfl⟩ ⟨Nat.le_of_ble_eq_true rfl, Nat.le_of_ble_eq_true rfl⟩ rfl rfl rfl hl.1 rfl (Nat.le_of_ble_eq_true rfl) dX5_tryMan_148 (fun u_247 H locs hr_247 hP hD hS => ?_)
          have hP : va_P D vwCl [(h0, .inr (5, [.ref pa_qsettled, .int (u_247.2.1 0), .int (u_247.2.1 1), .ref pa_qtried, .int pa_mostPairs, .ref g])), (pa_qsettled, .inl (cA 1, 8, .inl (u_247.2.2.1 0))), (pa_qtried, .inl (cA 1, 8, .inl (u_247.2.2.1 1))), (g, .inr (3, [.int g_odds, .int g_pot, .int g_lines, .int g_men, .int g_clauses, .int g_winds, .int g_far0, .int g_far1, .ref g_qsides, .ref g_qgrips, .ref g_qwits, .ref g_qsays, .ref g_qgives0, .ref g_qgives1, .ref g_qfroms, .ref g_qtos])), (g_qsides, .inl (cA 1, 8, .inl g_csides)), (g_qgrips, .inl (cA 1, 8, .inl g_cgrips)), (g_qwits, .inl (cA 1, 8, .inl g_cwits))] H := hP
          have hD : va_D A [(h0, .inr (5, [.ref pa_qsettled, .int (u_247.2.1 0), .int (u_247.2.1 1), .ref pa_qtried, .int pa_mostPairs, .ref g])), (pa_qsettled, .inl (cA 1, 8, .inl (u_247.2.2.1 0))), (pa_qtried, .inl (cA 1, 8, .inl (u_247.2.2.1 1))), (g, .inr (3, [.int g_odds, .int g_pot, .int g_lines, .int g_men, .int g_clauses, .int g_winds, .int g_far0, .int g_far1, .ref g_qsides, .ref g_qgrips, .ref g_qwits, .ref g_qsays, .ref g_qgives0, .ref g_qgives1, .ref g_qfroms, .ref g_qtos])), (g_qsides, .inl (cA 1, 8, .inl g_csides)), (g_qgrips, .inl (cA 1, 8, .inl g_cgrips)), (g_qwits, .inl (cA 1, 8, .inl g_cwits))] := hD
          have hP9 := hP.sub (ws' := [(h0, .inr (5, [.ref pa_qsettled, .int (u_247.2.1 0), .int (u_247.2.1 1), .ref pa_qtried, .int pa_mostPairs, .ref g])), (pa_qsettled, .inl (cA 1, 8, .inl (u_247.2.2.1 0))), (pa_qtried, .inl (cA 1, 8, .inl (u_247.2.2.1 1))), (g, .inr (3, [.int g_odds, .int g_pot, .int g_lines, .int g_men, .int g_clauses, .int g_winds, .int g_far0, .int g_far1, .ref g_qsides, .ref g_qgrips, .ref g_qwits, .ref g_qsays, .ref g_qgives0, .ref g_qgives1, .ref g_qfroms, .ref g_qtos])), (g_qsides, .inl (cA 1, 8, .inl g_csides)), (g_qgrips, .inl (cA 1, 8, .inl g_cgrips)), (g_qwits, .inl (cA 1, 8, .inl g_cwits))]) [0, 1, 2, 3, 4, 5, 6] rfl
          have hD9 := hD.sub (ws' := [(h0, .inr (5, [.ref pa_qsettled, .int (u_247.2.1 0), .int (u_247.2.1 1), .ref pa_qtried, .int pa_mostPairs, .ref g])), (pa_qsettled, .inl (cA 1, 8, .inl (u_247.2.2.1 0))), (pa_qtried, .inl (cA 1, 8, .inl (u_247.2.2.1 1))), (g, .inr (3, [.int g_odds, .int g_pot, .int g_lines, .int g_men, .int g_clauses, .int g_winds, .int g_far0, .int g_far1, .ref g_qsides, .ref g_qgrips, .ref g_qwits, .ref g_qsays, .ref g_qgives0, .ref g_qgives1, .ref g_qfroms, .ref g_qtos])), (g_qsides, .inl (cA 1, 8, .inl g_csides)), (g_qgrips, .inl (cA 1, 8, .inl g_cgrips)), (g_qwits, .inl (cA 1, 8, .inl g_cwits))]) [0, 1, 2, 3, 4, 5, 6] (by decide) rfl
          exact W.vret hx hb hr (fun t ht hW => ⟨⟨((fun _ => 0), (selI [(u_247.2.1 0), (u_247.2.1 1)]), (selF [(u_247.2.2.1 0), (u_247.2.2.1 1)]), (fun _ _ => 0)), rfl, trivial, by rw [ht]; exact hP9, hD9⟩, hS.F ht⟩) hS.2.2 dX5_tryMan_151
        · skip
          have k_248 := kk_nle rfl rfl c_243
          refine lv_aload_n hx hb dX5_tryMan_46 rfl (lv_at hl 1 rfl) ?_
          refine va_get (D := D) (ci := 5) (v := .ref g) (C := RX5) (T := TX5) (N := 6) hx hb hts inX5 hown hKN.1 hP 0 rfl rfl 5 (by decide) (hts _ tw_384) (fun _ h9 => h9) rfl dX5_tryMan_47 ?_
          refine lv_iload hx hb dX5_tryMan_50 (lv_at hl 0 rfl) ?_
          refine cpVi (rest := []) ⟨hx, hb, hml, hown, hts⟩ hKN (hP.sub (ws' := [(g, .inr (3, [.int g_odds, .int g_pot, .int g_lines, .int g_men, .int g_clauses, .int g_winds, .int g_far0, .int g_far1, .ref g_qsides, .ref g_qgrips, .ref g_qwits, .ref g_qsays, .ref g_qgives0, .ref g_qgives1, .ref g_qfroms, .ref g_qtos])), (g_qsides, .inl (cA 1, 8, .inl g_csides))]) [3, 4] rfl) (g_X3_sideOf l D cA g g_odds g_pot g_lines g_men g_clauses g_winds g_far0 g_far1 g_qsides g_qgrips g_qwits g_qsays g_qgives0 g_qgives1 g_qfroms g_qtos g_csides L5_240 (by omega) (by omega) (by omega) (by omega) (by omega) (by omega) (by omega)) (tb_V tw_882 tw_703 tw_704 tw_104 tw_705) hdX3_sideOf ⟨rfl, rfl, Nat.le_of_ble_eq_true rfl, Nat.le_of_ble_eq_true rfl⟩ ⟨Nat.le_of_ble_eq_true rfl, Nat.le_of_ble_eq_true rfl⟩ rfl rfl rfl hl.1 rfl (Nat.le_of_ble_eq_true rfl) dX5_tryMan_52 (fun r_249 hr_249 => ?_)
          rcases hr_249 with ⟨k_249_0_0, k_249_0_1⟩ | rfl
          · skip
            refine lv_iconst (v := 1) hx hb dX5_tryMan_55 (by decide) ?_
            refine lv_icmp_ne (tgt := 134) hx hb dX5_tryMan_56 (by decide) (fun c_250 => ?_) (fun c_250 => ?_)
            · skip
              have b_252 := i32_bd r_249
              have k_251 := kk_ne rfl zi_1 c_250
              obtain ⟨x_253, ex_253⟩ : ∃ y : Int32, L5_240 + Int32.ofInt 1 = y := ⟨_, rfl⟩
              have k_254 := ar_add (b := 1) rfl zi_1 ex_253.symm (by omega) (by omega)
              refine lv_iinc (v := x_253) (lv' := [(5, .int x_253), (0, .ref h0), (1, .int p0), (2, .int p1), (3, .int p2), (4, .int p3)]) hx hb dX5_tryMan_134 hl (k := 0) rfl ex_253 (by decide) rfl (fun ls hl => ?_)
              refine lv_goto (tgt := 34) hx hb dX5_tryMan_137 (by decide) ?_
              exact ih_240 (x_253, F1_240, F2_240, F3_240, F4_240) _ _ _ ⟨(show 0 ≤ x_253.toInt ∧ x_253.toInt ≤ 8 from by omega), hP.sub [0, 1, 2, 3, 4, 5, 6] rfl, hD.sub [0, 1, 2, 3, 4, 5, 6] (by decide) rfl, hS, lv_sub hl [0, 1, 2, 3, 4, 5] rfl⟩ (by show (2147483647 - x_253.toInt).toNat < (2147483647 - L5_240.toInt).toNat; omega)
            · skip
              have b_256 := i32_bd r_249
              have k_255 := kk_eq rfl zi_1 c_250
              refine lv_aload_n hx hb dX5_tryMan_59 rfl (lv_at hl 1 rfl) ?_
              refine va_get (D := D) (ci := 5) (v := .ref pa_qtried) (C := RX5) (T := TX5) (N := 6) hx hb hts inX5 hown hKN.1 hP 0 rfl rfl 3 (by decide) (hts _ tw_382) (fun _ h9 => h9) rfl dX5_tryMan_60 ?_
              refine lv_iload hx hb dX5_tryMan_63 (lv_at hl 0 rfl) ?_
              refine va_iald hx hb hKN.1 hP 2 1 rfl rfl (vp_in_iff.mpr ⟨by omega, by omega⟩) dX5_tryMan_65 ?_
              refine lv_topi (fun x_257 ex_257 => ?_)
              refine lv_iconst (v := (-1)) hx hb dX5_tryMan_66 (by decide) ?_
              refine lv_icmp_ne (tgt := 134) hx hb dX5_tryMan_67 (by decide) (fun c_258 => ?_) (fun c_258 => ?_)
              · skip
                have b_260 := i32_bd x_257
                have k_259 := kk_ne rfl zi_m1 c_258
                obtain ⟨x_261, ex_261⟩ : ∃ y : Int32, L5_240 + Int32.ofInt 1 = y := ⟨_, rfl⟩
                have k_262 := ar_add (b := 1) rfl zi_1 ex_261.symm (by omega) (by omega)
                refine lv_iinc (v := x_261) (lv' := [(5, .int x_261), (0, .ref h0), (1, .int p0), (2, .int p1), (3, .int p2), (4, .int p3)]) hx hb dX5_tryMan_134 hl (k := 0) rfl ex_261 (by decide) rfl (fun ls hl => ?_)
                refine lv_goto (tgt := 34) hx hb dX5_tryMan_137 (by decide) ?_
                exact ih_240 (x_261, F1_240, F2_240, F3_240, F4_240) _ _ _ ⟨(show 0 ≤ x_261.toInt ∧ x_261.toInt ≤ 8 from by omega), hP.sub [0, 1, 2, 3, 4, 5, 6] rfl, hD.sub [0, 1, 2, 3, 4, 5, 6] (by decide) rfl, hS, lv_sub hl [0, 1, 2, 3, 4, 5] rfl⟩ (by show (2147483647 - x_261.toInt).toNat < (2147483647 - L5_240.toInt).toNat; omega)
              · skip
                have b_264 := i32_bd x_257
                have k_263 := kk_eq rfl zi_m1 c_258
                refine lv_aload_n hx hb dX5_tryMan_70 rfl (lv_at hl 1 rfl) ?_
                refine va_get (D := D) (ci := 5) (v := .ref g) (C := RX5) (T := TX5) (N := 6) hx hb hts inX5 hown hKN.1 hP 0 rfl rfl 5 (by decide) (hts _ tw_384) (fun _ h9 => h9) rfl dX5_tryMan_71 ?_
                refine lv_iload_n hx hb dX5_tryMan_74 rfl (lv_at hl 2 rfl) ?_
                refine lv_iload hx hb dX5_tryMan_75 (lv_at hl 0 rfl) ?_
                refine cpVi (rest := []) ⟨hx, hb, hml, hown, hts⟩ hKN (hP.sub (ws' := [(g, .inr (3, [.int g_odds, .int g_pot, .int g_lines, .int g_men, .int g_clauses, .int g_winds, .int g_far0, .int g_far1, .ref g_qsides, .ref g_qgrips, .ref g_qwits, .ref g_qsays, .ref g_qgives0, .ref g_qgives1, .ref g_qfroms, .ref g_qtos])), (g_qsides, .inl (cA 1, 8, .inl g_csides)), (g_qgrips, .inl (cA 1, 8, .inl g_cgrips)), (g_qwits, .inl (cA 1, 8, .inl g_cwits))]) [3, 4, 5, 6] rfl) (g_X3_holdOrRefusal l D cA g g_odds g_pot g_lines g_men g_clauses g_winds g_far0 g_far1 g_qsides g_qgrips g_qwits g_qsays g_qgives0 g_qgives1 g_qfroms g_qtos g_csides g_cgrips g_cwits p0 L5_240 (by omega) (by omega) (by omega) (by omega) (by omega) (by omega) (by omega)) (tb_V tw_895 tw_844 tw_845 tw_104 tw_846) hdX3_holdOrRefusal ⟨rfl, rfl, Nat.le_of_ble_eq_true rfl, Nat.le_of_ble_eq_true rfl⟩ ⟨Nat.le_of_ble_eq_true rfl, Nat.le_of_ble_eq_true rfl⟩ rfl rfl rfl hl.1 rfl (Nat.le_of_ble_eq_true rfl) dX5_tryMan_77 (fun r_265 hr_265 => ?_)
                refine lv_istore (lv' := [(6, .int r_265), (5, .int L5_240), (0, .ref h0), (1, .int p0), (2, .int p1), (3, .int p2), (4, .int p3)]) hx hb dX5_tryMan_80 hl (by decide) rfl (fun ls hl => ?_)
                refine lv_aload_n hx hb dX5_tryMan_82 rfl (lv_at hl 2 rfl) ?_
                refine va_get (D := D) (ci := 5) (v := .ref pa_qtried) (C := RX5) (T := TX5) (N := 6) hx hb hts inX5 hown hKN.1 hP 0 rfl rfl 3 (by decide) (hts _ tw_382) (fun _ h9 => h9) rfl dX5_tryMan_83 ?_
                refine lv_iload_n hx hb dX5_tryMan_86 rfl (lv_at hl 3 rfl) ?_
                refine lv_iload hx hb dX5_tryMan_87 (lv_at hl 1 rfl) ?_
                refine va_iast hx hb hKN.1 hP hD hS 2 1 rfl rfl (vp_in_iff.mpr ⟨by omega, by omega⟩) dX5_tryMan_89 (fun H locs hP hD hS => ?_)
                have hP : va_P D vwCl [(h0, .inr (5, [.ref pa_qsettled, .int F1_240, .int F2_240, .ref pa_qtried, .int pa_mostPairs, .ref g])), (pa_qsettled, .inl (cA 1, 8, .inl F3_240)), (pa_qtried, .inl (cA 1, 8, .inl (upd F4_240 p0.toNatClampNeg L5_240))), (g, .inr (3, [.int g_odds, .int g_pot, .int g_lines, .int g_men, .int g_clauses, .int g_winds, .int g_far0, .int g_far1, .ref g_qsides, .ref g_qgrips, .ref g_qwits, .ref g_qsays, .ref g_qgives0, .ref g_qgives1, .ref g_qfroms, .ref g_qtos])), (g_qsides, .inl (cA 1, 8, .inl g_csides)), (g_qgrips, .inl (cA 1, 8, .inl g_cgrips)), (g_qwits, .inl (cA 1, 8, .inl g_cwits))] H := hP
                have hD : va_D A [(h0, .inr (5, [.ref pa_qsettled, .int F1_240, .int F2_240, .ref pa_qtried, .int pa_mostPairs, .ref g])), (pa_qsettled, .inl (cA 1, 8, .inl F3_240)), (pa_qtried, .inl (cA 1, 8, .inl (upd F4_240 p0.toNatClampNeg L5_240))), (g, .inr (3, [.int g_odds, .int g_pot, .int g_lines, .int g_men, .int g_clauses, .int g_winds, .int g_far0, .int g_far1, .ref g_qsides, .ref g_qgrips, .ref g_qwits, .ref g_qsays, .ref g_qgives0, .ref g_qgives1, .ref g_qfroms, .ref g_qtos])), (g_qsides, .inl (cA 1, 8, .inl g_csides)), (g_qgrips, .inl (cA 1, 8, .inl g_cgrips)), (g_qwits, .inl (cA 1, 8, .inl g_cwits))] := hD
                generalize ef_266 : (upd F4_240 p0.toNatClampNeg L5_240) = f_266 at hP hD
                refine lv_aload_n hx hb dX5_tryMan_90 rfl (lv_at hl 2 rfl) ?_
                refine va_get (D := D) (ci := 5) (v := .ref pa_qtried) (C := RX5) (T := TX5) (N := 6) hx hb hts inX5 hown hKN.1 hP 0 rfl rfl 3 (by decide) (hts _ tw_382) (fun _ h9 => h9) rfl dX5_tryMan_91 ?_
                refine lv_iload hx hb dX5_tryMan_94 (lv_at hl 1 rfl) ?_
                refine lv_iload_n hx hb dX5_tryMan_96 rfl (lv_at hl 3 rfl) ?_
                refine va_iast hx hb hKN.1 hP hD hS 2 1 rfl rfl (vp_in_iff.mpr ⟨by omega, by omega⟩) dX5_tryMan_97 (fun H locs hP hD hS => ?_)
                have hP : va_P D vwCl [(h0, .inr (5, [.ref pa_qsettled, .int F1_240, .int F2_240, .ref pa_qtried, .int pa_mostPairs, .ref g])), (pa_qsettled, .inl (cA 1, 8, .inl F3_240)), (pa_qtried, .inl (cA 1, 8, .inl (upd f_266 L5_240.toNatClampNeg p0))), (g, .inr (3, [.int g_odds, .int g_pot, .int g_lines, .int g_men, .int g_clauses, .int g_winds, .int g_far0, .int g_far1, .ref g_qsides, .ref g_qgrips, .ref g_qwits, .ref g_qsays, .ref g_qgives0, .ref g_qgives1, .ref g_qfroms, .ref g_qtos])), (g_qsides, .inl (cA 1, 8, .inl g_csides)), (g_qgrips, .inl (cA 1, 8, .inl g_cgrips)), (g_qwits, .inl (cA 1, 8, .inl g_cwits))] H := hP
                have hD : va_D A [(h0, .inr (5, [.ref pa_qsettled, .int F1_240, .int F2_240, .ref pa_qtried, .int pa_mostPairs, .ref g])), (pa_qsettled, .inl (cA 1, 8, .inl F3_240)), (pa_qtried, .inl (cA 1, 8, .inl (upd f_266 L5_240.toNatClampNeg p0))), (g, .inr (3, [.int g_odds, .int g_pot, .int g_lines, .int g_men, .int g_clauses, .int g_winds, .int g_far0, .int g_far1, .ref g_qsides, .ref g_qgrips, .ref g_qwits, .ref g_qsays, .ref g_qgives0, .ref g_qgives1, .ref g_qfroms, .ref g_qtos])), (g_qsides, .inl (cA 1, 8, .inl g_csides)), (g_qgrips, .inl (cA 1, 8, .inl g_cgrips)), (g_qwits, .inl (cA 1, 8, .inl g_cwits))] := hD
                generalize ef_267 : (upd f_266 L5_240.toNatClampNeg p0) = f_267 at hP hD
                refine lv_aload_n hx hb dX5_tryMan_98 rfl (lv_at hl 2 rfl) ?_
                refine lv_iload_n hx hb dX5_tryMan_99 rfl (lv_at hl 3 rfl) ?_
                refine lv_iconst (v := 1) hx hb dX5_tryMan_100 (by decide) ?_
                refine lv_iadd hx hb dX5_tryMan_101 ?_
                refine lv_topi (fun x_268 ex_268 => ?_)
                have k_269 := ar_add rfl zi_1 ex_268 (by omega) (by omega)
                refine lv_iload_n hx hb dX5_tryMan_102 rfl (lv_at hl 4 rfl) ?_
                refine lv_iconst (v := 1) hx hb dX5_tryMan_103 (by decide) ?_
                refine lv_iadd hx hb dX5_tryMan_104 ?_
                refine lv_topi (fun x_270 ex_270 => ?_)
                refine lv_iload_n hx hb dX5_tryMan_105 rfl (lv_at hl 5 rfl) ?_
                refine lv_iload hx hb dX5_tryMan_106 (lv_at hl 0 rfl) ?_
                refine lv_iadd hx hb dX5_tryMan_108 ?_
                refine lv_topi (fun x_272 ex_272 => ?_)
                refine lv_iload hx hb dX5_tryMan_109 (lv_at hl 6 rfl) ?_
                refine lv_iload hx hb dX5_tryMan_111 (lv_at hl 0 rfl) ?_
                refine cpSi (rest := [.int x_272, .int x_270, .int x_268, .ref h0]) ⟨hx, hb, hml, hown, hts⟩ hKN (hP.sub (ws' := []) [] rfl) (g_J9_min_7cf53 l D cA p3 r_265) (tb_S tw_883 tw_555 tw_115 tw_556) hdJ9_min_7cf53 ⟨rfl, rfl, Nat.le_of_ble_eq_true rfl, Nat.le_of_ble_eq_true rfl⟩ ⟨Nat.le_of_ble_eq_true rfl, Nat.le_of_ble_eq_true rfl⟩ rfl hl.1 rfl (Nat.le_of_ble_eq_true rfl) dX5_tryMan_113 (fun r_274 hr_274 => ?_)
                obtain ⟨k_274_0_0, k_274_0_1, k_274_0_2⟩ := hr_274
                refine cmVv (rest := []) (wsC := [(h0, .inr (5, [.ref pa_qsettled, .int F1_240, .int F2_240, .ref pa_qtried, .int pa_mostPairs, .ref g])), (pa_qsettled, .inl (cA 1, 8, .inl F3_240)), (pa_qtried, .inl (cA 1, 8, .inl f_267)), (g, .inr (3, [.int g_odds, .int g_pot, .int g_lines, .int g_men, .int g_clauses, .int g_winds, .int g_far0, .int g_far1, .ref g_qsides, .ref g_qgrips, .ref g_qwits, .ref g_qsays, .ref g_qgives0, .ref g_qgives1, .ref g_qfroms, .ref g_qtos])), (g_qsides, .inl (cA 1, 8, .inl g_csides)), (g_qgrips, .inl (cA 1, 8, .inl g_cgrips)), (g_qwits, .inl (cA 1, 8, .inl g_cwits))]) (wr := []) ⟨hx, hb, hml, hown, hts⟩ hKN hP hD hS hA [0, 1, 2, 3, 4, 5, 6] [] rfl rfl (by decide) (by decide) (by decide) (g_X5_tryMan_7 l D cA _ h0 pa_qsettled F1_240 F2_240 pa_qtried pa_mostPairs g F3_240 f_267 g_odds g_pot g_lines g_men g_clauses g_winds g_far0 g_far1 g_qsides g_qgrips g_qwits g_qsays g_qgives0 g_qgives1 g_qfroms g_qtos g_csides g_cgrips g_cwits x_268 x_270 x_272 r_274 (by omega) (by omega) (by omega) (by omega) (by omega) (by omega) (by omega) (by omega)) (tb_V tw_884 tw_886 tw_13 tw_110 tw_887) hdX5_tryMan ⟨rfl, rfl, Nat.le_of_ble_eq_true rfl, Nat.le_of_ble_eq_true rfl⟩ ⟨Nat.le_of_ble_eq_true rfl, Nat.le_of_ble_eq_true rfl⟩ rfl rfl rfl hl.1 rfl (Nat.le_of_ble_eq_true rfl) dX5_tryMan_116 (fun u_275 H locs hr_275 hP hD hS => ?_)
                have hP : va_P D vwCl [(h0, .inr (5, [.ref pa_qsettled, .int (u_275.2.1 0), .int (u_275.2.1 1), .ref pa_qtried, .int pa_mostPairs, .ref g])), (pa_qsettled, .inl (cA 1, 8, .inl (u_275.2.2.1 0))), (pa_qtried, .inl (cA 1, 8, .inl (u_275.2.2.1 1))), (g, .inr (3, [.int g_odds, .int g_pot, .int g_lines, .int g_men, .int g_clauses, .int g_winds, .int g_far0, .int g_far1, .ref g_qsides, .ref g_qgrips, .ref g_qwits, .ref g_qsays, .ref g_qgives0, .ref g_qgives1, .ref g_qfroms, .ref g_qtos])), (g_qsides, .inl (cA 1, 8, .inl g_csides)), (g_qgrips, .inl (cA 1, 8, .inl g_cgrips)), (g_qwits, .inl (cA 1, 8, .inl g_cwits))] H := hP
                have hD : va_D A [(h0, .inr (5, [.ref pa_qsettled, .int (u_275.2.1 0), .int (u_275.2.1 1), .ref pa_qtried, .int pa_mostPairs, .ref g])), (pa_qsettled, .inl (cA 1, 8, .inl (u_275.2.2.1 0))), (pa_qtried, .inl (cA 1, 8, .inl (u_275.2.2.1 1))), (g, .inr (3, [.int g_odds, .int g_pot, .int g_lines, .int g_men, .int g_clauses, .int g_winds, .int g_far0, .int g_far1, .ref g_qsides, .ref g_qgrips, .ref g_qwits, .ref g_qsays, .ref g_qgives0, .ref g_qgives1, .ref g_qfroms, .ref g_qtos])), (g_qsides, .inl (cA 1, 8, .inl g_csides)), (g_qgrips, .inl (cA 1, 8, .inl g_cgrips)), (g_qwits, .inl (cA 1, 8, .inl g_cwits))] := hD
                refine lv_aload_n hx hb dX5_tryMan_119 rfl (lv_at hl 2 rfl) ?_
                refine va_get (D := D) (ci := 5) (v := .ref pa_qtried) (C := RX5) (T := TX5) (N := 6) hx hb hts inX5 hown hKN.1 hP 0 rfl rfl 3 (by decide) (hts _ tw_382) (fun _ h9 => h9) rfl dX5_tryMan_120 ?_
                refine lv_iload_n hx hb dX5_tryMan_123 rfl (lv_at hl 3 rfl) ?_
                refine lv_iconst (v := (-1)) hx hb dX5_tryMan_124 (by decide) ?_
                refine va_iast hx hb hKN.1 hP hD hS 2 1 rfl rfl (vp_in_iff.mpr ⟨by omega, by omega⟩) dX5_tryMan_125 (fun H locs hP hD hS => ?_)
                have hP : va_P D vwCl [(h0, .inr (5, [.ref pa_qsettled, .int (u_275.2.1 0), .int (u_275.2.1 1), .ref pa_qtried, .int pa_mostPairs, .ref g])), (pa_qsettled, .inl (cA 1, 8, .inl (u_275.2.2.1 0))), (pa_qtried, .inl (cA 1, 8, .inl (upd (u_275.2.2.1 1) p0.toNatClampNeg (-1)))), (g, .inr (3, [.int g_odds, .int g_pot, .int g_lines, .int g_men, .int g_clauses, .int g_winds, .int g_far0, .int g_far1, .ref g_qsides, .ref g_qgrips, .ref g_qwits, .ref g_qsays, .ref g_qgives0, .ref g_qgives1, .ref g_qfroms, .ref g_qtos])), (g_qsides, .inl (cA 1, 8, .inl g_csides)), (g_qgrips, .inl (cA 1, 8, .inl g_cgrips)), (g_qwits, .inl (cA 1, 8, .inl g_cwits))] H := hP
                have hD : va_D A [(h0, .inr (5, [.ref pa_qsettled, .int (u_275.2.1 0), .int (u_275.2.1 1), .ref pa_qtried, .int pa_mostPairs, .ref g])), (pa_qsettled, .inl (cA 1, 8, .inl (u_275.2.2.1 0))), (pa_qtried, .inl (cA 1, 8, .inl (upd (u_275.2.2.1 1) p0.toNatClampNeg (-1)))), (g, .inr (3, [.int g_odds, .int g_pot, .int g_lines, .int g_men, .int g_clauses, .int g_winds, .int g_far0, .int g_far1, .ref g_qsides, .ref g_qgrips, .ref g_qwits, .ref g_qsays, .ref g_qgives0, .ref g_qgives1, .ref g_qfroms, .ref g_qtos])), (g_qsides, .inl (cA 1, 8, .inl g_csides)), (g_qgrips, .inl (cA 1, 8, .inl g_cgrips)), (g_qwits, .inl (cA 1, 8, .inl g_cwits))] := hD
                generalize ef_276 : (upd (u_275.2.2.1 1) p0.toNatClampNeg (-1)) = f_276 at hP hD
                refine lv_aload_n hx hb dX5_tryMan_126 rfl (lv_at hl 2 rfl) ?_
                refine va_get (D := D) (ci := 5) (v := .ref pa_qtried) (C := RX5) (T := TX5) (N := 6) hx hb hts inX5 hown hKN.1 hP 0 rfl rfl 3 (by decide) (hts _ tw_382) (fun _ h9 => h9) rfl dX5_tryMan_127 ?_
                refine lv_iload hx hb dX5_tryMan_130 (lv_at hl 1 rfl) ?_
                refine lv_iconst (v := (-1)) hx hb dX5_tryMan_132 (by decide) ?_
                refine va_iast hx hb hKN.1 hP hD hS 2 1 rfl rfl (vp_in_iff.mpr ⟨by omega, by omega⟩) dX5_tryMan_133 (fun H locs hP hD hS => ?_)
                have hP : va_P D vwCl [(h0, .inr (5, [.ref pa_qsettled, .int (u_275.2.1 0), .int (u_275.2.1 1), .ref pa_qtried, .int pa_mostPairs, .ref g])), (pa_qsettled, .inl (cA 1, 8, .inl (u_275.2.2.1 0))), (pa_qtried, .inl (cA 1, 8, .inl (upd f_276 L5_240.toNatClampNeg (-1)))), (g, .inr (3, [.int g_odds, .int g_pot, .int g_lines, .int g_men, .int g_clauses, .int g_winds, .int g_far0, .int g_far1, .ref g_qsides, .ref g_qgrips, .ref g_qwits, .ref g_qsays, .ref g_qgives0, .ref g_qgives1, .ref g_qfroms, .ref g_qtos])), (g_qsides, .inl (cA 1, 8, .inl g_csides)), (g_qgrips, .inl (cA 1, 8, .inl g_cgrips)), (g_qwits, .inl (cA 1, 8, .inl g_cwits))] H := hP
                have hD : va_D A [(h0, .inr (5, [.ref pa_qsettled, .int (u_275.2.1 0), .int (u_275.2.1 1), .ref pa_qtried, .int pa_mostPairs, .ref g])), (pa_qsettled, .inl (cA 1, 8, .inl (u_275.2.2.1 0))), (pa_qtried, .inl (cA 1, 8, .inl (upd f_276 L5_240.toNatClampNeg (-1)))), (g, .inr (3, [.int g_odds, .int g_pot, .int g_lines, .int g_men, .int g_clauses, .int g_winds, .int g_far0, .int g_far1, .ref g_qsides, .ref g_qgrips, .ref g_qwits, .ref g_qsays, .ref g_qgives0, .ref g_qgives1, .ref g_qfroms, .ref g_qtos])), (g_qsides, .inl (cA 1, 8, .inl g_csides)), (g_qgrips, .inl (cA 1, 8, .inl g_cgrips)), (g_qwits, .inl (cA 1, 8, .inl g_cwits))] := hD
                generalize ef_277 : (upd f_276 L5_240.toNatClampNeg (-1)) = f_277 at hP hD
                obtain ⟨x_278, ex_278⟩ : ∃ y : Int32, L5_240 + Int32.ofInt 1 = y := ⟨_, rfl⟩
                have k_279 := ar_add (b := 1) rfl zi_1 ex_278.symm (by omega) (by omega)
                refine lv_iinc (v := x_278) (lv' := [(5, .int x_278), (6, .int r_265), (0, .ref h0), (1, .int p0), (2, .int p1), (3, .int p2), (4, .int p3)]) hx hb dX5_tryMan_134 hl (k := 1) rfl ex_278 (by decide) rfl (fun ls hl => ?_)
                refine lv_goto (tgt := 34) hx hb dX5_tryMan_137 (by decide) ?_
                exact ih_240 (x_278, (u_275.2.1 0), (u_275.2.1 1), (u_275.2.2.1 0), f_277) _ _ _ ⟨(show 0 ≤ x_278.toInt ∧ x_278.toInt ≤ 8 from by omega), hP.sub [0, 1, 2, 3, 4, 5, 6] rfl, hD.sub [0, 1, 2, 3, 4, 5, 6] (by decide) rfl, hS, lv_sub hl [0, 2, 3, 4, 5, 6] rfl⟩ (by show (2147483647 - x_278.toInt).toNat < (2147483647 - L5_240.toInt).toNat; omega)
          · skip
            refine lv_iconst (v := 1) hx hb dX5_tryMan_55 (by decide) ?_
            refine lv_icmp_ne (tgt := 134) hx hb dX5_tryMan_56 (by decide) (fun c_280 => ?_) (fun c_280 => absurd c_280 (by decide))
            obtain ⟨x_281, ex_281⟩ : ∃ y : Int32, L5_240 + Int32.ofInt 1 = y := ⟨_, rfl⟩
            have k_282 := ar_add (b := 1) rfl zi_1 ex_281.symm (by omega) (by omega)
            refine lv_iinc (v := x_281) (lv' := [(5, .int x_281), (0, .ref h0), (1, .int p0), (2, .int p1), (3, .int p2), (4, .int p3)]) hx hb dX5_tryMan_134 hl (k := 0) rfl ex_281 (by decide) rfl (fun ls hl => ?_)
            refine lv_goto (tgt := 34) hx hb dX5_tryMan_137 (by decide) ?_
            exact ih_240 (x_281, F1_240, F2_240, F3_240, F4_240) _ _ _ ⟨(show 0 ≤ x_281.toInt ∧ x_281.toInt ≤ 8 from by omega), hP.sub [0, 1, 2, 3, 4, 5, 6] rfl, hD.sub [0, 1, 2, 3, 4, 5, 6] (by decide) rfl, hS, lv_sub hl [0, 1, 2, 3, 4, 5] rfl⟩ (by show (2147483647 - x_281.toInt).toNat < (2147483647 - L5_240.toInt).toNat; omega)
    · skip
      refine lv_if_ne (tgt := 140) hx hb dX5_tryMan_28 (by decide) (fun c_283 => ?_) (fun c_283 => absurd c_283 (by decide))
      refine lv_aload_n hx hb dX5_tryMan_140 rfl (lv_at hl 0 rfl) ?_
      refine lv_iload_n hx hb dX5_tryMan_141 rfl (lv_at hl 1 rfl) ?_
      refine lv_iconst (v := 1) hx hb dX5_tryMan_142 (by decide) ?_
      refine lv_iadd hx hb dX5_tryMan_143 ?_
      refine lv_topi (fun x_284 ex_284 => ?_)
      have k_285 := ar_add rfl zi_1 ex_284 (by omega) (by omega)
      refine lv_iload_n hx hb dX5_tryMan_144 rfl (lv_at hl 2 rfl) ?_
      refine lv_iload_n hx hb dX5_tryMan_145 rfl (lv_at hl 3 rfl) ?_
      refine lv_iload hx hb dX5_tryMan_146 (lv_at hl 4 rfl) ?_
      refine cmVv (rest := []) (wsC := [(h0, .inr (5, [.ref pa_qsettled, .int pa_greatestSum, .int pa_fairest, .ref pa_qtried, .int pa_mostPairs, .ref g])), (pa_qsettled, .inl (cA 1, 8, .inl pa_csettled)), (pa_qtried, .inl (cA 1, 8, .inl pa_ctried)), (g, .inr (3, [.int g_odds, .int g_pot, .int g_lines, .int g_men, .int g_clauses, .int g_winds, .int g_far0, .int g_far1, .ref g_qsides, .ref g_qgrips, .ref g_qwits, .ref g_qsays, .ref g_qgives0, .ref g_qgives1, .ref g_qfroms, .ref g_qtos])), (g_qsides, .inl (cA 1, 8, .inl g_csides)), (g_qgrips, .inl (cA 1, 8, .inl g_cgrips)), (g_qwits, .inl (cA 1, 8, .inl g_cwits))]) (wr := []) ⟨hx, hb, hml, hown, hts⟩ hKN hP hD hS hA [0, 1, 2, 3, 4, 5, 6] [] rfl rfl (by decide) (by decide) (by decide) (g_X5_tryMan_7 l D cA _ h0 pa_qsettled pa_greatestSum pa_fairest pa_qtried pa_mostPairs g pa_csettled pa_ctried g_odds g_pot g_lines g_men g_clauses g_winds g_far0 g_far1 g_qsides g_qgrips g_qwits g_qsays g_qgives0 g_qgives1 g_qfroms g_qtos g_csides g_cgrips g_cwits x_284 p1 p2 p3 (by omega) (by omega) (by omega) (by omega) (by omega) (by omega) (by omega) (by omega)) (tb_V tw_884 tw_886 tw_13 tw_110 tw_887) hdX5_tryMan ⟨rfl, rfl, Nat.le_of_ble_eq_true rfl, Nat.le_of_ble_eq_true rfl⟩ ⟨Nat.le_of_ble_eq_true rfl, Nat.le_of_ble_eq_true rfl⟩ rfl rfl rfl hl.1 rfl (Nat.le_of_ble_eq_true rfl) dX5_tryMan_148 (fun u_286 H locs hr_286 hP hD hS => ?_)
      have hP : va_P D vwCl [(h0, .inr (5, [.ref pa_qsettled, .int (u_286.2.1 0), .int (u_286.2.1 1), .ref pa_qtried, .int pa_mostPairs, .ref g])), (pa_qsettled, .inl (cA 1, 8, .inl (u_286.2.2.1 0))), (pa_qtried, .inl (cA 1, 8, .inl (u_286.2.2.1 1))), (g, .inr (3, [.int g_odds, .int g_pot, .int g_lines, .int g_men, .int g_clauses, .int g_winds, .int g_far0, .int g_far1, .ref g_qsides, .ref g_qgrips, .ref g_qwits, .ref g_qsays, .ref g_qgives0, .ref g_qgives1, .ref g_qfroms, .ref g_qtos])), (g_qsides, .inl (cA 1, 8, .inl g_csides)), (g_qgrips, .inl (cA 1, 8, .inl g_cgrips)), (g_qwits, .inl (cA 1, 8, .inl g_cwits))] H := hP
      have hD : va_D A [(h0, .inr (5, [.ref pa_qsettled, .int (u_286.2.1 0), .int (u_286.2.1 1), .ref pa_qtried, .int pa_mostPairs, .ref g])), (pa_qsettled, .inl (cA 1, 8, .inl (u_286.2.2.1 0))), (pa_qtried, .inl (cA 1, 8, .inl (u_286.2.2.1 1))), (g, .inr (3, [.int g_odds, .int g_pot, .int g_lines, .int g_men, .int g_clauses, .int g_winds, .int g_far0, .int g_far1, .ref g_qsides, .ref g_qgrips, .ref g_qwits, .ref g_qsays, .ref g_qgives0, .ref g_qgives1, .ref g_qfroms, .ref g_qtos])), (g_qsides, .inl (cA 1, 8, .inl g_csides)), (g_qgrips, .inl (cA 1, 8, .inl g_cgrips)), (g_qwits, .inl (cA 1, 8, .inl g_cwits))] := hD
      have hP9 := hP.sub (ws' := [(h0, .inr (5, [.ref pa_qsettled, .int (u_286.2.1 0), .int (u_286.2.1 1), .ref pa_qtried, .int pa_mostPairs, .ref g])), (pa_qsettled, .inl (cA 1, 8, .inl (u_286.2.2.1 0))), (pa_qtried, .inl (cA 1, 8, .inl (u_286.2.2.1 1))), (g, .inr (3, [.int g_odds, .int g_pot, .int g_lines, .int g_men, .int g_clauses, .int g_winds, .int g_far0, .int g_far1, .ref g_qsides, .ref g_qgrips, .ref g_qwits, .ref g_qsays, .ref g_qgives0, .ref g_qgives1, .ref g_qfroms, .ref g_qtos])), (g_qsides, .inl (cA 1, 8, .inl g_csides)), (g_qgrips, .inl (cA 1, 8, .inl g_cgrips)), (g_qwits, .inl (cA 1, 8, .inl g_cwits))]) [0, 1, 2, 3, 4, 5, 6] rfl
      have hD9 := hD.sub (ws' := [(h0, .inr (5, [.ref pa_qsettled, .int (u_286.2.1 0), .int (u_286.2.1 1), .ref pa_qtried, .int pa_mostPairs, .ref g])), (pa_qsettled, .inl (cA 1, 8, .inl (u_286.2.2.1 0))), (pa_qtried, .inl (cA 1, 8, .inl (u_286.2.2.1 1))), (g, .inr (3, [.int g_odds, .int g_pot, .int g_lines, .int g_men, .int g_clauses, .int g_winds, .int g_far0, .int g_far1, .ref g_qsides, .ref g_qgrips, .ref g_qwits, .ref g_qsays, .ref g_qgives0, .ref g_qgives1, .ref g_qfroms, .ref g_qtos])), (g_qsides, .inl (cA 1, 8, .inl g_csides)), (g_qgrips, .inl (cA 1, 8, .inl g_cgrips)), (g_qwits, .inl (cA 1, 8, .inl g_cwits))]) [0, 1, 2, 3, 4, 5, 6] (by decide) rfl
      exact W.vret hx hb hr (fun t ht hW => ⟨⟨((fun _ => 0), (selI [(u_286.2.1 0), (u_286.2.1 1)]), (selF [(u_286.2.2.1 0), (u_286.2.2.1 1)]), (fun _ _ => 0)), rfl, trivial, by rw [ht]; exact hP9, hD9⟩, hS.F ht⟩) hS.2.2 dX5_tryMan_151
  · skip
    refine lv_if_ne (tgt := 20) hx hb dX5_tryMan_8 (by decide) (fun c_287 => absurd (by decide) c_287) (fun c_287 => ?_)
    refine lv_aload_n hx hb dX5_tryMan_11 rfl (lv_at hl 0 rfl) ?_
    refine lv_iload_n hx hb dX5_tryMan_12 rfl (lv_at hl 2 rfl) ?_
    refine lv_iload_n hx hb dX5_tryMan_13 rfl (lv_at hl 3 rfl) ?_
    refine lv_iload hx hb dX5_tryMan_14 (lv_at hl 4 rfl) ?_
    refine cmVv (rest := []) (wsC := [(h0, .inr (5, [.ref pa_qsettled, .int pa_greatestSum, .int pa_fairest, .ref pa_qtried, .int pa_mostPairs, .ref g])), (pa_qsettled, .inl (cA 1, 8, .inl pa_csettled)), (pa_qtried, .inl (cA 1, 8, .inl pa_ctried))]) (wr := [(g, .inr (3, [.int g_odds, .int g_pot, .int g_lines, .int g_men, .int g_clauses, .int g_winds, .int g_far0, .int g_far1, .ref g_qsides, .ref g_qgrips, .ref g_qwits, .ref g_qsays, .ref g_qgives0, .ref g_qgives1, .ref g_qfroms, .ref g_qtos])), (g_qsides, .inl (cA 1, 8, .inl g_csides)), (g_qgrips, .inl (cA 1, 8, .inl g_cgrips)), (g_qwits, .inl (cA 1, 8, .inl g_cwits))]) ⟨hx, hb, hml, hown, hts⟩ hKN hP hD hS hA [0, 1, 2] [3, 4, 5, 6] rfl rfl (by decide) (by decide) (by decide) (g_X5_weigh l D cA _ h0 pa_qsettled pa_greatestSum pa_fairest pa_qtried pa_mostPairs g pa_csettled pa_ctried p1 p2 p3) (tb_V tw_889 tw_891 tw_14 tw_110 tw_892) hdX5_weigh ⟨rfl, rfl, Nat.le_of_ble_eq_true rfl, Nat.le_of_ble_eq_true rfl⟩ ⟨Nat.le_of_ble_eq_true rfl, Nat.le_of_ble_eq_true rfl⟩ rfl rfl rfl hl.1 rfl (Nat.le_of_ble_eq_true rfl) dX5_tryMan_16 (fun u_288 H locs hr_288 hP hD hS => ?_)
    have hP : va_P D vwCl [(g, .inr (3, [.int g_odds, .int g_pot, .int g_lines, .int g_men, .int g_clauses, .int g_winds, .int g_far0, .int g_far1, .ref g_qsides, .ref g_qgrips, .ref g_qwits, .ref g_qsays, .ref g_qgives0, .ref g_qgives1, .ref g_qfroms, .ref g_qtos])), (g_qsides, .inl (cA 1, 8, .inl g_csides)), (g_qgrips, .inl (cA 1, 8, .inl g_cgrips)), (g_qwits, .inl (cA 1, 8, .inl g_cwits)), (h0, .inr (5, [.ref pa_qsettled, .int (u_288.2.1 0), .int (u_288.2.1 1), .ref pa_qtried, .int pa_mostPairs, .ref g])), (pa_qsettled, .inl (cA 1, 8, .inl (u_288.2.2.1 0))), (pa_qtried, .inl (cA 1, 8, .inl pa_ctried))] H := hP
    have hD : va_D A [(g, .inr (3, [.int g_odds, .int g_pot, .int g_lines, .int g_men, .int g_clauses, .int g_winds, .int g_far0, .int g_far1, .ref g_qsides, .ref g_qgrips, .ref g_qwits, .ref g_qsays, .ref g_qgives0, .ref g_qgives1, .ref g_qfroms, .ref g_qtos])), (g_qsides, .inl (cA 1, 8, .inl g_csides)), (g_qgrips, .inl (cA 1, 8, .inl g_cgrips)), (g_qwits, .inl (cA 1, 8, .inl g_cwits)), (h0, .inr (5, [.ref pa_qsettled, .int (u_288.2.1 0), .int (u_288.2.1 1), .ref pa_qtried, .int pa_mostPairs, .ref g])), (pa_qsettled, .inl (cA 1, 8, .inl (u_288.2.2.1 0))), (pa_qtried, .inl (cA 1, 8, .inl pa_ctried))] := hD
    have hP9 := hP.sub (ws' := [(h0, .inr (5, [.ref pa_qsettled, .int (u_288.2.1 0), .int (u_288.2.1 1), .ref pa_qtried, .int pa_mostPairs, .ref g])), (pa_qsettled, .inl (cA 1, 8, .inl (u_288.2.2.1 0))), (pa_qtried, .inl (cA 1, 8, .inl pa_ctried)), (g, .inr (3, [.int g_odds, .int g_pot, .int g_lines, .int g_men, .int g_clauses, .int g_winds, .int g_far0, .int g_far1, .ref g_qsides, .ref g_qgrips, .ref g_qwits, .ref g_qsays, .ref g_qgives0, .ref g_qgives1, .ref g_qfroms, .ref g_qtos])), (g_qsides, .inl (cA 1, 8, .inl g_csides)), (g_qgrips, .inl (cA 1, 8, .inl g_cgrips)), (g_qwits, .inl (cA 1, 8, .inl g_cwits))]) [4, 5, 6, 0, 1, 2, 3] rfl
    have hD9 := hD.sub (ws' := [(h0, .inr (5, [.ref pa_qsettled, .int (u_288.2.1 0), .int (u_288.2.1 1), .ref pa_qtried, .int pa_mostPairs, .ref g])), (pa_qsettled, .inl (cA 1, 8, .inl (u_288.2.2.1 0))), (pa_qtried, .inl (cA 1, 8, .inl pa_ctried)), (g, .inr (3, [.int g_odds, .int g_pot, .int g_lines, .int g_men, .int g_clauses, .int g_winds, .int g_far0, .int g_far1, .ref g_qsides, .ref g_qgrips, .ref g_qwits, .ref g_qsays, .ref g_qgives0, .ref g_qgives1, .ref g_qfroms, .ref g_qtos])), (g_qsides, .inl (cA 1, 8, .inl g_csides)), (g_qgrips, .inl (cA 1, 8, .inl g_cgrips)), (g_qwits, .inl (cA 1, 8, .inl g_cwits))]) [4, 5, 6, 0, 1, 2, 3] (by decide) rfl
    exact W.vret hx hb hr (fun t ht hW => ⟨⟨((fun _ => 0), (selI [(u_288.2.1 0), (u_288.2.1 1)]), (selF [(u_288.2.2.1 0), pa_ctried]), (fun _ _ => 0)), rfl, trivial, by rw [ht]; exact hP9, hD9⟩, hS.F ht⟩) hS.2.2 dX5_tryMan_19
set_option maxHeartbeats 8000000 in
set_option maxRecDepth 100000 in
theorem g_X5_tryMan_5 (l : Launch) (D : va_G) (cA : Nat → ClassId) (sz : Nat) (h0 : Nat) (pa_qsettled : Nat) (pa_greatestSum : Int32) (pa_fairest : Int32) (pa_qtried : Nat) (pa_mostPairs : Int32) (g : Nat) (pa_csettled : Nat → Int32) (pa_ctried : Nat → Int32) (g_odds : Int32) (g_pot : Int32) (g_lines : Int32) (g_men : Int32) (g_clauses : Int32) (g_winds : Int32) (g_far0 : Int32) (g_far1 : Int32) (g_qsides : Nat) (g_qgrips : Nat) (g_qwits : Nat) (g_qsays : Nat) (g_qgives0 : Nat) (g_qgives1 : Nat) (g_qfroms : Nat) (g_qtos : Nat) (g_csides : Nat → Int32) (g_cgrips : Nat → Int32) (g_cwits : Nat → Int32) (p0 : Int32) (p1 : Int32) (p2 : Int32) (p3 : Int32) (h_g_odds : -999 ≤ (g_odds : Int32).toInt ∧ (g_odds : Int32).toInt ≤ 999) (h_g_pot : -999 ≤ (g_pot : Int32).toInt ∧ (g_pot : Int32).toInt ≤ 999) (h_g_men : 0 ≤ (g_men : Int32).toInt ∧ (g_men : Int32).toInt ≤ 8) (h_g_clauses : 0 ≤ (g_clauses : Int32).toInt ∧ (g_clauses : Int32).toInt ≤ 7) (h_g_winds : 0 ≤ (g_winds : Int32).toInt ∧ (g_winds : Int32).toInt ≤ 4) (h_g_far0 : -999 ≤ (g_far0 : Int32).toInt ∧ (g_far0 : Int32).toInt ≤ 999) (h_g_far1 : -999 ≤ (g_far1 : Int32).toInt ∧ (g_far1 : Int32).toInt ≤ 999) (h_p0 : 5 ≤ (p0 : Int32).toInt ∧ (p0 : Int32).toInt ≤ 5) : Met l yX5_tryMan (Cond.code yX5_tryMan cX5_tryMan 7 none :: TB) (rmd 5 0 0) (PM D cA sz [(h0, .inr (5, [.ref pa_qsettled, .int pa_greatestSum, .int pa_fairest, .ref pa_qtried, .int pa_mostPairs, .ref g])), (pa_qsettled, .inl (cA 1, 8, .inl pa_csettled)), (pa_qtried, .inl (cA 1, 8, .inl pa_ctried)), (g, .inr (3, [.int g_odds, .int g_pot, .int g_lines, .int g_men, .int g_clauses, .int g_winds, .int g_far0, .int g_far1, .ref g_qsides, .ref g_qgrips, .ref g_qwits, .ref g_qsays, .ref g_qgives0, .ref g_qgives1, .ref g_qfroms, .ref g_qtos])), (g_qsides, .inl (cA 1, 8, .inl g_csides)), (g_qgrips, .inl (cA 1, 8, .inl g_cgrips)), (g_qwits, .inl (cA 1, 8, .inl g_cwits))] [.ref h0, .int p0, .int p1, .int p2, .int p3]) (va_Qv (fun (u : SU) => True) (fun u t => va_P D vwCl [(h0, .inr (5, [.ref pa_qsettled, .int (u.2.1 0), .int (u.2.1 1), .ref pa_qtried, .int pa_mostPairs, .ref g])), (pa_qsettled, .inl (cA 1, 8, .inl (u.2.2.1 0))), (pa_qtried, .inl (cA 1, 8, .inl (u.2.2.1 1))), (g, .inr (3, [.int g_odds, .int g_pot, .int g_lines, .int g_men, .int g_clauses, .int g_winds, .int g_far0, .int g_far1, .ref g_qsides, .ref g_qgrips, .ref g_qwits, .ref g_qsays, .ref g_qgives0, .ref g_qgives1, .ref g_qfroms, .ref g_qtos])), (g_qsides, .inl (cA 1, 8, .inl g_csides)), (g_qgrips, .inl (cA 1, 8, .inl g_cgrips)), (g_qwits, .inl (cA 1, 8, .inl g_cwits))] t.heap ∧ va_D (va_A [(h0, .inr (5, [.ref pa_qsettled, .int pa_greatestSum, .int pa_fairest, .ref pa_qtried, .int pa_mostPairs, .ref g])), (pa_qsettled, .inl (cA 1, 8, .inl pa_csettled)), (pa_qtried, .inl (cA 1, 8, .inl pa_ctried)), (g, .inr (3, [.int g_odds, .int g_pot, .int g_lines, .int g_men, .int g_clauses, .int g_winds, .int g_far0, .int g_far1, .ref g_qsides, .ref g_qgrips, .ref g_qwits, .ref g_qsays, .ref g_qgives0, .ref g_qgives1, .ref g_qfroms, .ref g_qtos])), (g_qsides, .inl (cA 1, 8, .inl g_csides)), (g_qgrips, .inl (cA 1, 8, .inl g_cgrips)), (g_qwits, .inl (cA 1, 8, .inl g_cwits))] sz) [(h0, .inr (5, [.ref pa_qsettled, .int (u.2.1 0), .int (u.2.1 1), .ref pa_qtried, .int pa_mostPairs, .ref g])), (pa_qsettled, .inl (cA 1, 8, .inl (u.2.2.1 0))), (pa_qtried, .inl (cA 1, 8, .inl (u.2.2.1 1))), (g, .inr (3, [.int g_odds, .int g_pot, .int g_lines, .int g_men, .int g_clauses, .int g_winds, .int g_far0, .int g_far1, .ref g_qsides, .ref g_qgrips, .ref g_qwits, .ref g_qsays, .ref g_qgives0, .ref g_qgives1, .ref g_qfroms, .ref g_qtos])), (g_qsides, .inl (cA 1, 8, .inl g_csides)), (g_qgrips, .inl (cA 1, 8, .inl g_cgrips)), (g_qwits, .inl (cA 1, 8, .inl g_cwits))]) (va_A [(h0, .inr (5, [.ref pa_qsettled, .int pa_greatestSum, .int pa_fairest, .ref pa_qtried, .int pa_mostPairs, .ref g])), (pa_qsettled, .inl (cA 1, 8, .inl pa_csettled)), (pa_qtried, .inl (cA 1, 8, .inl pa_ctried)), (g, .inr (3, [.int g_odds, .int g_pot, .int g_lines, .int g_men, .int g_clauses, .int g_winds, .int g_far0, .int g_far1, .ref g_qsides, .ref g_qgrips, .ref g_qwits, .ref g_qsays, .ref g_qgives0, .ref g_qgives1, .ref g_qfroms, .ref g_qtos])), (g_qsides, .inl (cA 1, 8, .inl g_csides)), (g_qgrips, .inl (cA 1, 8, .inl g_cgrips)), (g_qwits, .inl (cA 1, 8, .inl g_cwits))] sz)) 0 0 (va_A [(h0, .inr (5, [.ref pa_qsettled, .int pa_greatestSum, .int pa_fairest, .ref pa_qtried, .int pa_mostPairs, .ref g])), (pa_qsettled, .inl (cA 1, 8, .inl pa_csettled)), (pa_qtried, .inl (cA 1, 8, .inl pa_ctried)), (g, .inr (3, [.int g_odds, .int g_pot, .int g_lines, .int g_men, .int g_clauses, .int g_winds, .int g_far0, .int g_far1, .ref g_qsides, .ref g_qgrips, .ref g_qwits, .ref g_qsays, .ref g_qgives0, .ref g_qgives1, .ref g_qfroms, .ref g_qtos])), (g_qsides, .inl (cA 1, 8, .inl g_csides)), (g_qgrips, .inl (cA 1, 8, .inl g_cgrips)), (g_qwits, .inl (cA 1, 8, .inl g_cwits))] sz) := by
  refine Met.ofW (cc := cX5_tryMan) (maxL := 7) (ret := none) (by decide) rfl ?_
  intro p e s m args below meth c s₁ B hml hv
  obtain ⟨rfl, hsz, hP, hKN, hD0⟩ := hv
  have hx := B.exec
  have hb := B.bytes
  have hr := B.returns
  have hts : ∀ w ∈ TB, w.before _ s = true := fun w h => atoms_spec B.pre w (List.mem_cons_of_mem _ h)
  have hown : s.vm.findClass RX5 = some m.cls := findClass_of_methodNamed B.named
  have hlocks := B.notSynchronized
  subst hsz
  have hD := hD0.self (sz := s.heap.size)
  generalize hAe : va_A [(h0, .inr (5, [.ref pa_qsettled, .int pa_greatestSum, .int pa_fairest, .ref pa_qtried, .int pa_mostPairs, .ref g])), (pa_qsettled, .inl (cA 1, 8, .inl pa_csettled)), (pa_qtried, .inl (cA 1, 8, .inl pa_ctried)), (g, .inr (3, [.int g_odds, .int g_pot, .int g_lines, .int g_men, .int g_clauses, .int g_winds, .int g_far0, .int g_far1, .ref g_qsides, .ref g_qgrips, .ref g_qwits, .ref g_qsays, .ref g_qgives0, .ref g_qgives1, .ref g_qfroms, .ref g_qtos])), (g_qsides, .inl (cA 1, 8, .inl g_csides)), (g_qgrips, .inl (cA 1, 8, .inl g_cgrips)), (g_qwits, .inl (cA 1, 8, .inl g_cwits))] s.heap.size = A at hD ⊢
  have hA : ∀ q : Nat, s.heap.size ≤ q → A q := fun q h => by rw [← hAe]; exact Or.inr h
  have hS : va_S A s.heap s.heap [] := va_S.rf
  have hl := lv_entry ([.ref h0, .int p0, .int p1, .int p2, .int p3]) (n := 7) (Nat.le_of_ble_eq_true rfl)
  rw [lg_entry_eq]
  generalize (lg_sl ([.ref h0, .int p0, .int p1, .int p2, .int p3]) ++ List.replicate (7 - (lg_sl ([.ref h0, .int p0, .int p1, .int p2, .int p3])).length) Slot.unset).toArray = ls at hl ⊢
  have hl : lv_has ls 7 [(0, .ref h0), (1, .int p0), (2, .int p1), (3, .int p2), (4, .int p3)] := hl
  refine lv_aload_n hx hb dX5_tryMan_0 rfl (lv_at hl 0 rfl) ?_
  refine va_get (D := D) (ci := 5) (v := .ref g) (C := RX5) (T := TX5) (N := 6) hx hb hts inX5 hown hKN.1 hP 0 rfl rfl 5 (by decide) (hts _ tw_384) (fun _ h9 => h9) rfl dX5_tryMan_1 ?_
  refine lv_iload_n hx hb dX5_tryMan_4 rfl (lv_at hl 1 rfl) ?_
  refine cpVi (rest := []) ⟨hx, hb, hml, hown, hts⟩ hKN (hP.sub (ws' := [(g, .inr (3, [.int g_odds, .int g_pot, .int g_lines, .int g_men, .int g_clauses, .int g_winds, .int g_far0, .int g_far1, .ref g_qsides, .ref g_qgrips, .ref g_qwits, .ref g_qsays, .ref g_qgives0, .ref g_qgives1, .ref g_qfroms, .ref g_qtos]))]) [3] rfl) (g_X3_hasMan l D cA g g_odds g_pot g_lines g_men g_clauses g_winds g_far0 g_far1 g_qsides g_qgrips g_qwits g_qsays g_qgives0 g_qgives1 g_qfroms g_qtos p0 (by omega) (by omega) (by omega) (by omega) (by omega) (by omega) (by omega)) (tb_V tw_888 tw_699 tw_700 tw_104 tw_701) hdX3_hasMan ⟨rfl, rfl, Nat.le_of_ble_eq_true rfl, Nat.le_of_ble_eq_true rfl⟩ ⟨Nat.le_of_ble_eq_true rfl, Nat.le_of_ble_eq_true rfl⟩ rfl rfl rfl hl.1 rfl (Nat.le_of_ble_eq_true rfl) dX5_tryMan_5 (fun r_1 hr_1 => ?_)
  rcases hr_1 with ⟨k_1_0_0, k_1_0_1, k_1_0_2, rfl⟩ | rfl
  · skip
    refine lv_if_ne (tgt := 20) hx hb dX5_tryMan_8 (by decide) (fun c_2 => ?_) (fun c_2 => absurd c_2 (by decide))
    refine lv_aload_n hx hb dX5_tryMan_20 rfl (lv_at hl 0 rfl) ?_
    refine va_get (D := D) (ci := 5) (v := .ref g) (C := RX5) (T := TX5) (N := 6) hx hb hts inX5 hown hKN.1 hP 0 rfl rfl 5 (by decide) (hts _ tw_384) (fun _ h9 => h9) rfl dX5_tryMan_21 ?_
    refine lv_iload_n hx hb dX5_tryMan_24 rfl (lv_at hl 1 rfl) ?_
    refine cpVi (rest := []) ⟨hx, hb, hml, hown, hts⟩ hKN (hP.sub (ws' := [(g, .inr (3, [.int g_odds, .int g_pot, .int g_lines, .int g_men, .int g_clauses, .int g_winds, .int g_far0, .int g_far1, .ref g_qsides, .ref g_qgrips, .ref g_qwits, .ref g_qsays, .ref g_qgives0, .ref g_qgives1, .ref g_qfroms, .ref g_qtos])), (g_qsides, .inl (cA 1, 8, .inl g_csides))]) [3, 4] rfl) (g_X3_sideOf l D cA g g_odds g_pot g_lines g_men g_clauses g_winds g_far0 g_far1 g_qsides g_qgrips g_qwits g_qsays g_qgives0 g_qgives1 g_qfroms g_qtos g_csides p0 (by omega) (by omega) (by omega) (by omega) (by omega) (by omega) (by omega)) (tb_V tw_882 tw_703 tw_704 tw_104 tw_705) hdX3_sideOf ⟨rfl, rfl, Nat.le_of_ble_eq_true rfl, Nat.le_of_ble_eq_true rfl⟩ ⟨Nat.le_of_ble_eq_true rfl, Nat.le_of_ble_eq_true rfl⟩ rfl rfl rfl hl.1 rfl (Nat.le_of_ble_eq_true rfl) dX5_tryMan_25 (fun r_3 hr_3 => ?_)
    rcases hr_3 with ⟨k_3_0_0, k_3_0_1⟩ | rfl
    · skip
      refine lv_if_ne (tgt := 140) hx hb dX5_tryMan_28 (by decide) (fun c_4 => ?_) (fun c_4 => ?_)
      · skip
        have b_6 := i32_bd r_3
        have k_5 := kk_ne rfl zi_0 c_4
        refine lv_aload_n hx hb dX5_tryMan_140 rfl (lv_at hl 0 rfl) ?_
        refine lv_iload_n hx hb dX5_tryMan_141 rfl (lv_at hl 1 rfl) ?_
        refine lv_iconst (v := 1) hx hb dX5_tryMan_142 (by decide) ?_
        refine lv_iadd hx hb dX5_tryMan_143 ?_
        refine lv_topi (fun x_7 ex_7 => ?_)
        have k_8 := ar_add rfl zi_1 ex_7 (by omega) (by omega)
        refine lv_iload_n hx hb dX5_tryMan_144 rfl (lv_at hl 2 rfl) ?_
        refine lv_iload_n hx hb dX5_tryMan_145 rfl (lv_at hl 3 rfl) ?_
        refine lv_iload hx hb dX5_tryMan_146 (lv_at hl 4 rfl) ?_
        refine cmVv (rest := []) (wsC := [(h0, .inr (5, [.ref pa_qsettled, .int pa_greatestSum, .int pa_fairest, .ref pa_qtried, .int pa_mostPairs, .ref g])), (pa_qsettled, .inl (cA 1, 8, .inl pa_csettled)), (pa_qtried, .inl (cA 1, 8, .inl pa_ctried)), (g, .inr (3, [.int g_odds, .int g_pot, .int g_lines, .int g_men, .int g_clauses, .int g_winds, .int g_far0, .int g_far1, .ref g_qsides, .ref g_qgrips, .ref g_qwits, .ref g_qsays, .ref g_qgives0, .ref g_qgives1, .ref g_qfroms, .ref g_qtos])), (g_qsides, .inl (cA 1, 8, .inl g_csides)), (g_qgrips, .inl (cA 1, 8, .inl g_cgrips)), (g_qwits, .inl (cA 1, 8, .inl g_cwits))]) (wr := []) ⟨hx, hb, hml, hown, hts⟩ hKN hP hD hS hA [0, 1, 2, 3, 4, 5, 6] [] rfl rfl (by decide) (by decide) (by decide) (g_X5_tryMan_6 l D cA _ h0 pa_qsettled pa_greatestSum pa_fairest pa_qtried pa_mostPairs g pa_csettled pa_ctried g_odds g_pot g_lines g_men g_clauses g_winds g_far0 g_far1 g_qsides g_qgrips g_qwits g_qsays g_qgives0 g_qgives1 g_qfroms g_qtos g_csides g_cgrips g_cwits x_7 p1 p2 p3 (by omega) (by omega) (by omega) (by omega) (by omega) (by omega) (by omega) (by omega)) (tb_V tw_884 tw_886 tw_13 tw_110 tw_887) hdX5_tryMan ⟨rfl, rfl, Nat.le_of_ble_eq_true rfl, Nat.le_of_ble_eq_true rfl⟩ ⟨Nat.le_of_ble_eq_true rfl, Nat.le_of_ble_eq_true rfl⟩ rfl rfl rfl hl.1 rfl (Nat.le_of_ble_eq_true rfl) dX5_tryMan_148 (fun u_9 H locs hr_9 hP hD hS => ?_)
        have hP : va_P D vwCl [(h0, .inr (5, [.ref pa_qsettled, .int (u_9.2.1 0), .int (u_9.2.1 1), .ref pa_qtried, .int pa_mostPairs, .ref g])), (pa_qsettled, .inl (cA 1, 8, .inl (u_9.2.2.1 0))), (pa_qtried, .inl (cA 1, 8, .inl (u_9.2.2.1 1))), (g, .inr (3, [.int g_odds, .int g_pot, .int g_lines, .int g_men, .int g_clauses, .int g_winds, .int g_far0, .int g_far1, .ref g_qsides, .ref g_qgrips, .ref g_qwits, .ref g_qsays, .ref g_qgives0, .ref g_qgives1, .ref g_qfroms, .ref g_qtos])), (g_qsides, .inl (cA 1, 8, .inl g_csides)), (g_qgrips, .inl (cA 1, 8, .inl g_cgrips)), (g_qwits, .inl (cA 1, 8, .inl g_cwits))] H := hP
        have hD : va_D A [(h0, .inr (5, [.ref pa_qsettled, .int (u_9.2.1 0), .int (u_9.2.1 1), .ref pa_qtried, .int pa_mostPairs, .ref g])), (pa_qsettled, .inl (cA 1, 8, .inl (u_9.2.2.1 0))), (pa_qtried, .inl (cA 1, 8, .inl (u_9.2.2.1 1))), (g, .inr (3, [.int g_odds, .int g_pot, .int g_lines, .int g_men, .int g_clauses, .int g_winds, .int g_far0, .int g_far1, .ref g_qsides, .ref g_qgrips, .ref g_qwits, .ref g_qsays, .ref g_qgives0, .ref g_qgives1, .ref g_qfroms, .ref g_qtos])), (g_qsides, .inl (cA 1, 8, .inl g_csides)), (g_qgrips, .inl (cA 1, 8, .inl g_cgrips)), (g_qwits, .inl (cA 1, 8, .inl g_cwits))] := hD
        have hP9 := hP.sub (ws' := [(h0, .inr (5, [.ref pa_qsettled, .int (u_9.2.1 0), .int (u_9.2.1 1), .ref pa_qtried, .int pa_mostPairs, .ref g])), (pa_qsettled, .inl (cA 1, 8, .inl (u_9.2.2.1 0))), (pa_qtried, .inl (cA 1, 8, .inl (u_9.2.2.1 1))), (g, .inr (3, [.int g_odds, .int g_pot, .int g_lines, .int g_men, .int g_clauses, .int g_winds, .int g_far0, .int g_far1, .ref g_qsides, .ref g_qgrips, .ref g_qwits, .ref g_qsays, .ref g_qgives0, .ref g_qgives1, .ref g_qfroms, .ref g_qtos])), (g_qsides, .inl (cA 1, 8, .inl g_csides)), (g_qgrips, .inl (cA 1, 8, .inl g_cgrips)), (g_qwits, .inl (cA 1, 8, .inl g_cwits))]) [0, 1, 2, 3, 4, 5, 6] rfl
        have hD9 := hD.sub (ws' := [(h0, .inr (5, [.ref pa_qsettled, .int (u_9.2.1 0), .int (u_9.2.1 1), .ref pa_qtried, .int pa_mostPairs, .ref g])), (pa_qsettled, .inl (cA 1, 8, .inl (u_9.2.2.1 0))), (pa_qtried, .inl (cA 1, 8, .inl (u_9.2.2.1 1))), (g, .inr (3, [.int g_odds, .int g_pot, .int g_lines, .int g_men, .int g_clauses, .int g_winds, .int g_far0, .int g_far1, .ref g_qsides, .ref g_qgrips, .ref g_qwits, .ref g_qsays, .ref g_qgives0, .ref g_qgives1, .ref g_qfroms, .ref g_qtos])), (g_qsides, .inl (cA 1, 8, .inl g_csides)), (g_qgrips, .inl (cA 1, 8, .inl g_cgrips)), (g_qwits, .inl (cA 1, 8, .inl g_cwits))]) [0, 1, 2, 3, 4, 5, 6] (by decide) rfl
        exact W.vret hx hb hr (fun t ht hW => ⟨⟨((fun _ => 0), (selI [(u_9.2.1 0), (u_9.2.1 1)]), (selF [(u_9.2.2.1 0), (u_9.2.2.1 1)]), (fun _ _ => 0)), rfl, trivial, by rw [ht]; exact hP9, hD9⟩, hS.F ht⟩) hS.2.2 dX5_tryMan_151
      · skip
        have b_11 := i32_bd r_3
        have k_10 := kk_eq rfl zi_0 c_4
        refine lv_iconst (v := 0) hx hb dX5_tryMan_31 (by decide) ?_
        refine lv_istore (lv' := [(5, .int 0), (0, .ref h0), (1, .int p0), (2, .int p1), (3, .int p2), (4, .int p3)]) hx hb dX5_tryMan_32 hl (by decide) rfl (fun ls hl => ?_)
        have b_241 := i32_bd pa_greatestSum
        have b_242 := i32_bd pa_fairest
        refine loopW (σ := Int32 × Int32 × Int32 × (Nat → Int32) × (Nat → Int32)) (fun _ => []) (fun ⟨L5_240, F1_240, F2_240, F3_240, F4_240⟩ H locs ls => (0 ≤ L5_240.toInt ∧ L5_240.toInt ≤ 8) ∧ va_P D vwCl [(h0, .inr (5, [.ref pa_qsettled, .int F1_240, .int F2_240, .ref pa_qtried, .int pa_mostPairs, .ref g])), (pa_qsettled, .inl (cA 1, 8, .inl F3_240)), (pa_qtried, .inl (cA 1, 8, .inl F4_240)), (g, .inr (3, [.int g_odds, .int g_pot, .int g_lines, .int g_men, .int g_clauses, .int g_winds, .int g_far0, .int g_far1, .ref g_qsides, .ref g_qgrips, .ref g_qwits, .ref g_qsays, .ref g_qgives0, .ref g_qgives1, .ref g_qfroms, .ref g_qtos])), (g_qsides, .inl (cA 1, 8, .inl g_csides)), (g_qgrips, .inl (cA 1, 8, .inl g_cgrips)), (g_qwits, .inl (cA 1, 8, .inl g_cwits))] H ∧ va_D A [(h0, .inr (5, [.ref pa_qsettled, .int F1_240, .int F2_240, .ref pa_qtried, .int pa_mostPairs, .ref g])), (pa_qsettled, .inl (cA 1, 8, .inl F3_240)), (pa_qtried, .inl (cA 1, 8, .inl F4_240)), (g, .inr (3, [.int g_odds, .int g_pot, .int g_lines, .int g_men, .int g_clauses, .int g_winds, .int g_far0, .int g_far1, .ref g_qsides, .ref g_qgrips, .ref g_qwits, .ref g_qsays, .ref g_qgives0, .ref g_qgives1, .ref g_qfroms, .ref g_qtos])), (g_qsides, .inl (cA 1, 8, .inl g_csides)), (g_qgrips, .inl (cA 1, 8, .inl g_cgrips)), (g_qwits, .inl (cA 1, 8, .inl g_cwits))] ∧ va_S A s.heap H locs ∧ lv_has ls 7 [(5, .int L5_240), (0, .ref h0), (1, .int p0), (2, .int p1), (3, .int p2), (4, .int p3)]) (fun ⟨L5_240, F1_240, F2_240, F3_240, F4_240⟩ => (2147483647 - L5_240.toInt).toNat) ?_ ((0, pa_greatestSum, pa_fairest, pa_csettled, pa_ctried) : Int32 × Int32 × Int32 × (Nat → Int32) × (Nat → Int32)) ⟨(by decide), hP, hD, hS, hl⟩
        intro x_240 H locs ls hI_240 ih_240
        obtain ⟨L5_240, F1_240, F2_240, F3_240, F4_240⟩ := x_240
        obtain ⟨k0_240, hP, hD, hS, hl⟩ := hI_240
        have hP : va_P D vwCl [(h0, .inr (5, [.ref pa_qsettled, .int F1_240, .int F2_240, .ref pa_qtried, .int pa_mostPairs, .ref g])), (pa_qsettled, .inl (cA 1, 8, .inl F3_240)), (pa_qtried, .inl (cA 1, 8, .inl F4_240)), (g, .inr (3, [.int g_odds, .int g_pot, .int g_lines, .int g_men, .int g_clauses, .int g_winds, .int g_far0, .int g_far1, .ref g_qsides, .ref g_qgrips, .ref g_qwits, .ref g_qsays, .ref g_qgives0, .ref g_qgives1, .ref g_qfroms, .ref g_qtos])), (g_qsides, .inl (cA 1, 8, .inl g_csides)), (g_qgrips, .inl (cA 1, 8, .inl g_cgrips)), (g_qwits, .inl (cA 1, 8, .inl g_cwits))] H := hP
        have hD : va_D A [(h0, .inr (5, [.ref pa_qsettled, .int F1_240, .int F2_240, .ref pa_qtried, .int pa_mostPairs, .ref g])), (pa_qsettled, .inl (cA 1, 8, .inl F3_240)), (pa_qtried, .inl (cA 1, 8, .inl F4_240)), (g, .inr (3, [.int g_odds, .int g_pot, .int g_lines, .int g_men, .int g_clauses, .int g_winds, .int g_far0, .int g_far1, .ref g_qsides, .ref g_qgrips, .ref g_qwits, .ref g_qsays, .ref g_qgives0, .ref g_qgives1, .ref g_qfroms, .ref g_qtos])), (g_qsides, .inl (cA 1, 8, .inl g_csides)), (g_qgrips, .inl (cA 1, 8, .inl g_cgrips)), (g_qwits, .inl (cA 1, 8, .inl g_cwits))] := hD
        have hl : lv_has ls 7 [(5, .int L5_240), (0, .ref h0), (1, .int p0), (2, .int p1), (3, .int p2), (4, .int p3)] := hl
        refine lv_iload hx hb dX5_tryMan_34 (lv_at hl 0 rfl) ?_
        refine lv_aload_n hx hb dX5_tryMan_36 rfl (lv_at hl 1 rfl) ?_
        refine va_get (D := D) (ci := 5) (v := .ref g) (C := RX5) (T := TX5) (N := 6) hx hb hts inX5 hown hKN.1 hP 0 rfl rfl 5 (by decide) (hts _ tw_384) (fun _ h9 => h9) rfl dX5_tryMan_37 ?_
        refine va_get (D := D) (ci := 3) (v := .int g_men) (C := RX3) (T := TX3) (N := 16) hx hb hts inX3 hown hKN.1 hP 3 rfl rfl 3 (by decide) (hts _ tw_168) (fun _ h9 => h9) rfl dX5_tryMan_40 ?_
        refine lv_icmp_ge (tgt := 140) hx hb dX5_tryMan_43 (by decide) (fun c_243 => ?_) (fun c_243 => ?_)
        · skip
          have k_244 := kk_le rfl rfl c_243
          refine lv_aload_n hx hb dX5_tryMan_140 rfl (lv_at hl 1 rfl) ?_
          refine lv_iload_n hx hb dX5_tryMan_141 rfl (lv_at hl 2 rfl) ?_
          refine lv_iconst (v := 1) hx hb dX5_tryMan_142 (by decide) ?_
          refine lv_iadd hx hb dX5_tryMan_143 ?_
          refine lv_topi (fun x_245 ex_245 => ?_)
          have k_246 := ar_add rfl zi_1 ex_245 (by omega) (by omega)
          refine lv_iload_n hx hb dX5_tryMan_144 rfl (lv_at hl 3 rfl) ?_
          refine lv_iload_n hx hb dX5_tryMan_145 rfl (lv_at hl 4 rfl) ?_
          refine lv_iload hx hb dX5_tryMan_146 (lv_at hl 5 rfl) ?_
          refine cmVv (rest := []) (wsC := [(h0, .inr (5, [.ref pa_qsettled, .int F1_240, .int F2_240, .ref pa_qtried, .int pa_mostPairs, .ref g])), (pa_qsettled, .inl (cA 1, 8, .inl F3_240)), (pa_qtried, .inl (cA 1, 8, .inl F4_240)), (g, .inr (3, [.int g_odds, .int g_pot, .int g_lines, .int g_men, .int g_clauses, .int g_winds, .int g_far0, .int g_far1, .ref g_qsides, .ref g_qgrips, .ref g_qwits, .ref g_qsays, .ref g_qgives0, .ref g_qgives1, .ref g_qfroms, .ref g_qtos])), (g_qsides, .inl (cA 1, 8, .inl g_csides)), (g_qgrips, .inl (cA 1, 8, .inl g_cgrips)), (g_qwits, .inl (cA 1, 8, .inl g_cwits))]) (wr := []) ⟨hx, hb, hml, hown, hts⟩ hKN hP hD hS hA [0, 1, 2, 3, 4, 5, 6] [] rfl rfl (by decide) (by decide) (by decide) (g_X5_tryMan_6 l D cA _ h0 pa_qsettled F1_240 F2_240 pa_qtried pa_mostPairs g F3_240 F4_240 g_odds g_pot g_lines g_men g_clauses g_winds g_far0 g_far1 g_qsides g_qgrips g_qwits g_qsays g_qgives0 g_qgives1 g_qfroms g_qtos g_csides g_cgrips g_cwits x_245 p1 p2 p3 (by omega) (by omega) (by omega) (by omega) (by omega) (by omega) (by omega) (by omega)) (tb_V tw_884 tw_886 tw_13 tw_110 tw_887) hdX5_tryMan ⟨rfl, rfl, Nat.le_of_ble_eq_true rfl, Nat.le_of_ble_eq_true rfl⟩ ⟨Nat.le_of_ble_eq_true rfl, Nat.le_of_ble_eq_true rfl⟩ rfl rfl rfl hl.1 rfl (Nat.le_of_ble_eq_true rfl) dX5_tryMan_148 (fun u_247 H locs hr_247 hP hD hS => ?_)
          have hP : va_P D vwCl [(h0, .inr (5, [.ref pa_qsettled, .int (u_247.2.1 0), .int (u_247.2.1 1), .ref pa_qtried, .int pa_mostPairs, .ref g])), (pa_qsettled, .inl (cA 1, 8, .inl (u_247.2.2.1 0))), (pa_qtried, .inl (cA 1, 8, .inl (u_247.2.2.1 1))), (g, .inr (3, [.int g_odds, .int g_pot, .int g_lines, .int g_men, .int g_clauses, .int g_winds, .int g_far0, .int g_far1, .ref g_qsides, .ref g_qgrips, .ref g_qwits, .ref g_qsays, .ref g_qgives0, .ref g_qgives1, .ref g_qfroms, .ref g_qtos])), (g_qsides, .inl (cA 1, 8, .inl g_csides)), (g_qgrips, .inl (cA 1, 8, .inl g_cgrips)), (g_qwits, .inl (cA 1, 8, .inl g_cwits))] H := hP
          have hD : va_D A [(h0, .inr (5, [.ref pa_qsettled, .int (u_247.2.1 0), .int (u_247.2.1 1), .ref pa_qtried, .int pa_mostPairs, .ref g])), (pa_qsettled, .inl (cA 1, 8, .inl (u_247.2.2.1 0))), (pa_qtried, .inl (cA 1, 8, .inl (u_247.2.2.1 1))), (g, .inr (3, [.int g_odds, .int g_pot, .int g_lines, .int g_men, .int g_clauses, .int g_winds, .int g_far0, .int g_far1, .ref g_qsides, .ref g_qgrips, .ref g_qwits, .ref g_qsays, .ref g_qgives0, .ref g_qgives1, .ref g_qfroms, .ref g_qtos])), (g_qsides, .inl (cA 1, 8, .inl g_csides)), (g_qgrips, .inl (cA 1, 8, .inl g_cgrips)), (g_qwits, .inl (cA 1, 8, .inl g_cwits))] := hD
          have hP9 := hP.sub (ws' := [(h0, .inr (5, [.ref pa_qsettled, .int (u_247.2.1 0), .int (u_247.2.1 1), .ref pa_qtried, .int pa_mostPairs, .ref g])), (pa_qsettled, .inl (cA 1, 8, .inl (u_247.2.2.1 0))), (pa_qtried, .inl (cA 1, 8, .inl (u_247.2.2.1 1))), (g, .inr (3, [.int g_odds, .int g_pot, .int g_lines, .int g_men, .int g_clauses, .int g_winds, .int g_far0, .int g_far1, .ref g_qsides, .ref g_qgrips, .ref g_qwits, .ref g_qsays, .ref g_qgives0, .ref g_qgives1, .ref g_qfroms, .ref g_qtos])), (g_qsides, .inl (cA 1, 8, .inl g_csides)), (g_qgrips, .inl (cA 1, 8, .inl g_cgrips)), (g_qwits, .inl (cA 1, 8, .inl g_cwits))]) [0, 1, 2, 3, 4, 5, 6] rfl
          have hD9 := hD.sub (ws' := [(h0, .inr (5, [.ref pa_qsettled, .int (u_247.2.1 0), .int (u_247.2.1 1), .ref pa_qtried, .int pa_mostPairs, .ref g])), (pa_qsettled, .inl (cA 1, 8, .inl (u_247.2.2.1 0))), (pa_qtried, .inl (cA 1, 8, .inl (u_247.2.2.1 1))), (g, .inr (3, [.int g_odds, .int g_pot, .int g_lines, .int g_men, .int g_clauses, .int g_winds, .int g_far0, .int g_far1, .ref g_qsides, .ref g_qgrips, .ref g_qwits, .ref g_qsays, .ref g_qgives0, .ref g_qgives1, .ref g_qfroms, .ref g_qtos])), (g_qsides, .inl (cA 1, 8, .inl g_csides)), (g_qgrips, .inl (cA 1, 8, .inl g_cgrips)), (g_qwits, .inl (cA 1, 8, .inl g_cwits))]) [0, 1, 2, 3, 4, 5, 6] (by decide) rfl
          exact W.vret hx hb hr (fun t ht hW => ⟨⟨((fun _ => 0), (selI [(u_247.2.1 0), (u_247.2.1 1)]), (selF [(u_247.2.2.1 0), (u_247.2.2.1 1)]), (fun _ _ => 0)), rfl, trivial, by rw [ht]; exact hP9, hD9⟩, hS.F ht⟩) hS.2.2 dX5_tryMan_151
        · skip
          have k_248 := kk_nle rfl rfl c_243
          refine lv_aload_n hx hb dX5_tryMan_46 rfl (lv_at hl 1 rfl) ?_
          refine va_get (D := D) (ci := 5) (v := .ref g) (C := RX5) (T := TX5) (N := 6) hx hb hts inX5 hown hKN.1 hP 0 rfl rfl 5 (by decide) (hts _ tw_384) (fun _ h9 => h9) rfl dX5_tryMan_47 ?_
          refine lv_iload hx hb dX5_tryMan_50 (lv_at hl 0 rfl) ?_
          refine cpVi (rest := []) ⟨hx, hb, hml, hown, hts⟩ hKN (hP.sub (ws' := [(g, .inr (3, [.int g_odds, .int g_pot, .int g_lines, .int g_men, .int g_clauses, .int g_winds, .int g_far0, .int g_far1, .ref g_qsides, .ref g_qgrips, .ref g_qwits, .ref g_qsays, .ref g_qgives0, .ref g_qgives1, .ref g_qfroms, .ref g_qtos])), (g_qsides, .inl (cA 1, 8, .inl g_csides))]) [3, 4] rfl) (g_X3_sideOf l D cA g g_odds g_pot g_lines g_men g_clauses g_winds g_far0 g_far1 g_qsides g_qgrips g_qwits g_qsays g_qgives0 g_qgives1 g_qfroms g_qtos g_csides L5_240 (by omega) (by omega) (by omega) (by omega) (by omega) (by omega) (by omega)) (tb_V tw_882 tw_703 tw_704 tw_104 tw_705) hdX3_sideOf ⟨rfl, rfl, Nat.le_of_ble_eq_true rfl, Nat.le_of_ble_eq_true rfl⟩ ⟨Nat.le_of_ble_eq_true rfl, Nat.le_of_ble_eq_true rfl⟩ rfl rfl rfl hl.1 rfl (Nat.le_of_ble_eq_true rfl) dX5_tryMan_52 (fun r_249 hr_249 => ?_)
          rcases hr_249 with ⟨k_249_0_0, k_249_0_1⟩ | rfl
          · skip
            refine lv_iconst (v := 1) hx hb dX5_tryMan_55 (by decide) ?_
            refine lv_icmp_ne (tgt := 134) hx hb dX5_tryMan_56 (by decide) (fun c_250 => ?_) (fun c_250 => ?_)
            · skip
              have b_252 := i32_bd r_249
              have k_251 := kk_ne rfl zi_1 c_250
              obtain ⟨x_253, ex_253⟩ : ∃ y : Int32, L5_240 + Int32.ofInt 1 = y := ⟨_, rfl⟩
              have k_254 := ar_add (b := 1) rfl zi_1 ex_253.symm (by omega) (by omega)
              refine lv_iinc (v := x_253) (lv' := [(5, .int x_253), (0, .ref h0), (1, .int p0), (2, .int p1), (3, .int p2), (4, .int p3)]) hx hb dX5_tryMan_134 hl (k := 0) rfl ex_253 (by decide) rfl (fun ls hl => ?_)
              refine lv_goto (tgt := 34) hx hb dX5_tryMan_137 (by decide) ?_
              exact ih_240 (x_253, F1_240, F2_240, F3_240, F4_240) _ _ _ ⟨(show 0 ≤ x_253.toInt ∧ x_253.toInt ≤ 8 from by omega), hP.sub [0, 1, 2, 3, 4, 5, 6] rfl, hD.sub [0, 1, 2, 3, 4, 5, 6] (by decide) rfl, hS, lv_sub hl [0, 1, 2, 3, 4, 5] rfl⟩ (by show (2147483647 - x_253.toInt).toNat < (2147483647 - L5_240.toInt).toNat; omega)
            · skip
              have b_256 := i32_bd r_249
              have k_255 := kk_eq rfl zi_1 c_250
              refine lv_aload_n hx hb dX5_tryMan_59 rfl (lv_at hl 1 rfl) ?_
              refine va_get (D := D) (ci := 5) (v := .ref pa_qtried) (C := RX5) (T := TX5) (N := 6) hx hb hts inX5 hown hKN.1 hP 0 rfl rfl 3 (by decide) (hts _ tw_382) (fun _ h9 => h9) rfl dX5_tryMan_60 ?_
              refine lv_iload hx hb dX5_tryMan_63 (lv_at hl 0 rfl) ?_
              refine va_iald hx hb hKN.1 hP 2 1 rfl rfl (vp_in_iff.mpr ⟨by omega, by omega⟩) dX5_tryMan_65 ?_
              refine lv_topi (fun x_257 ex_257 => ?_)
              refine lv_iconst (v := (-1)) hx hb dX5_tryMan_66 (by decide) ?_
              refine lv_icmp_ne (tgt := 134) hx hb dX5_tryMan_67 (by decide) (fun c_258 => ?_) (fun c_258 => ?_)
              · skip
                have b_260 := i32_bd x_257
                have k_259 := kk_ne rfl zi_m1 c_258
                obtain ⟨x_261, ex_261⟩ : ∃ y : Int32, L5_240 + Int32.ofInt 1 = y := ⟨_, rfl⟩
                have k_262 := ar_add (b := 1) rfl zi_1 ex_261.symm (by omega) (by omega)
                refine lv_iinc (v := x_261) (lv' := [(5, .int x_261), (0, .ref h0), (1, .int p0), (2, .int p1), (3, .int p2), (4, .int p3)]) hx hb dX5_tryMan_134 hl (k := 0) rfl ex_261 (by decide) rfl (fun ls hl => ?_)
                refine lv_goto (tgt := 34) hx hb dX5_tryMan_137 (by decide) ?_
                exact ih_240 (x_261, F1_240, F2_240, F3_240, F4_240) _ _ _ ⟨(show 0 ≤ x_261.toInt ∧ x_261.toInt ≤ 8 from by omega), hP.sub [0, 1, 2, 3, 4, 5, 6] rfl, hD.sub [0, 1, 2, 3, 4, 5, 6] (by decide) rfl, hS, lv_sub hl [0, 1, 2, 3, 4, 5] rfl⟩ (by show (2147483647 - x_261.toInt).toNat < (2147483647 - L5_240.toInt).toNat; omega)
              · skip
                have b_264 := i32_bd x_257
                have k_263 := kk_eq rfl zi_m1 c_258
                refine lv_aload_n hx hb dX5_tryMan_70 rfl (lv_at hl 1 rfl) ?_
                refine va_get (D := D) (ci := 5) (v := .ref g) (C := RX5) (T := TX5) (N := 6) hx hb hts inX5 hown hKN.1 hP 0 rfl rfl 5 (by decide) (hts _ tw_384) (fun _ h9 => h9) rfl dX5_tryMan_71 ?_
                refine lv_iload_n hx hb dX5_tryMan_74 rfl (lv_at hl 2 rfl) ?_
                refine lv_iload hx hb dX5_tryMan_75 (lv_at hl 0 rfl) ?_
                refine cpVi (rest := []) ⟨hx, hb, hml, hown, hts⟩ hKN (hP.sub (ws' := [(g, .inr (3, [.int g_odds, .int g_pot, .int g_lines, .int g_men, .int g_clauses, .int g_winds, .int g_far0, .int g_far1, .ref g_qsides, .ref g_qgrips, .ref g_qwits, .ref g_qsays, .ref g_qgives0, .ref g_qgives1, .ref g_qfroms, .ref g_qtos])), (g_qsides, .inl (cA 1, 8, .inl g_csides)), (g_qgrips, .inl (cA 1, 8, .inl g_cgrips)), (g_qwits, .inl (cA 1, 8, .inl g_cwits))]) [3, 4, 5, 6] rfl) (g_X3_holdOrRefusal l D cA g g_odds g_pot g_lines g_men g_clauses g_winds g_far0 g_far1 g_qsides g_qgrips g_qwits g_qsays g_qgives0 g_qgives1 g_qfroms g_qtos g_csides g_cgrips g_cwits p0 L5_240 (by omega) (by omega) (by omega) (by omega) (by omega) (by omega) (by omega)) (tb_V tw_895 tw_844 tw_845 tw_104 tw_846) hdX3_holdOrRefusal ⟨rfl, rfl, Nat.le_of_ble_eq_true rfl, Nat.le_of_ble_eq_true rfl⟩ ⟨Nat.le_of_ble_eq_true rfl, Nat.le_of_ble_eq_true rfl⟩ rfl rfl rfl hl.1 rfl (Nat.le_of_ble_eq_true rfl) dX5_tryMan_77 (fun r_265 hr_265 => ?_)
                refine lv_istore (lv' := [(6, .int r_265), (5, .int L5_240), (0, .ref h0), (1, .int p0), (2, .int p1), (3, .int p2), (4, .int p3)]) hx hb dX5_tryMan_80 hl (by decide) rfl (fun ls hl => ?_)
                refine lv_aload_n hx hb dX5_tryMan_82 rfl (lv_at hl 2 rfl) ?_
                refine va_get (D := D) (ci := 5) (v := .ref pa_qtried) (C := RX5) (T := TX5) (N := 6) hx hb hts inX5 hown hKN.1 hP 0 rfl rfl 3 (by decide) (hts _ tw_382) (fun _ h9 => h9) rfl dX5_tryMan_83 ?_
                refine lv_iload_n hx hb dX5_tryMan_86 rfl (lv_at hl 3 rfl) ?_
                refine lv_iload hx hb dX5_tryMan_87 (lv_at hl 1 rfl) ?_
                refine va_iast hx hb hKN.1 hP hD hS 2 1 rfl rfl (vp_in_iff.mpr ⟨by omega, by omega⟩) dX5_tryMan_89 (fun H locs hP hD hS => ?_)
                have hP : va_P D vwCl [(h0, .inr (5, [.ref pa_qsettled, .int F1_240, .int F2_240, .ref pa_qtried, .int pa_mostPairs, .ref g])), (pa_qsettled, .inl (cA 1, 8, .inl F3_240)), (pa_qtried, .inl (cA 1, 8, .inl (upd F4_240 p0.toNatClampNeg L5_240))), (g, .inr (3, [.int g_odds, .int g_pot, .int g_lines, .int g_men, .int g_clauses, .int g_winds, .int g_far0, .int g_far1, .ref g_qsides, .ref g_qgrips, .ref g_qwits, .ref g_qsays, .ref g_qgives0, .ref g_qgives1, .ref g_qfroms, .ref g_qtos])), (g_qsides, .inl (cA 1, 8, .inl g_csides)), (g_qgrips, .inl (cA 1, 8, .inl g_cgrips)), (g_qwits, .inl (cA 1, 8, .inl g_cwits))] H := hP
                have hD : va_D A [(h0, .inr (5, [.ref pa_qsettled, .int F1_240, .int F2_240, .ref pa_qtried, .int pa_mostPairs, .ref g])), (pa_qsettled, .inl (cA 1, 8, .inl F3_240)), (pa_qtried, .inl (cA 1, 8, .inl (upd F4_240 p0.toNatClampNeg L5_240))), (g, .inr (3, [.int g_odds, .int g_pot, .int g_lines, .int g_men, .int g_clauses, .int g_winds, .int g_far0, .int g_far1, .ref g_qsides, .ref g_qgrips, .ref g_qwits, .ref g_qsays, .ref g_qgives0, .ref g_qgives1, .ref g_qfroms, .ref g_qtos])), (g_qsides, .inl (cA 1, 8, .inl g_csides)), (g_qgrips, .inl (cA 1, 8, .inl g_cgrips)), (g_qwits, .inl (cA 1, 8, .inl g_cwits))] := hD
                generalize ef_266 : (upd F4_240 p0.toNatClampNeg L5_240) = f_266 at hP hD
                refine lv_aload_n hx hb dX5_tryMan_90 rfl (lv_at hl 2 rfl) ?_
                refine va_get (D := D) (ci := 5) (v := .ref pa_qtried) (C := RX5) (T := TX5) (N := 6) hx hb hts inX5 hown hKN.1 hP 0 rfl rfl 3 (by decide) (hts _ tw_382) (fun _ h9 => h9) rfl dX5_tryMan_91 ?_
                refine lv_iload hx hb dX5_tryMan_94 (lv_at hl 1 rfl) ?_
                refine lv_iload_n hx hb dX5_tryMan_96 rfl (lv_at hl 3 rfl) ?_
                refine va_iast hx hb hKN.1 hP hD hS 2 1 rfl rfl (vp_in_iff.mpr ⟨by omega, by omega⟩) dX5_tryMan_97 (fun H locs hP hD hS => ?_)
                have hP : va_P D vwCl [(h0, .inr (5, [.ref pa_qsettled, .int F1_240, .int F2_240, .ref pa_qtried, .int pa_mostPairs, .ref g])), (pa_qsettled, .inl (cA 1, 8, .inl F3_240)), (pa_qtried, .inl (cA 1, 8, .inl (upd f_266 L5_240.toNatClampNeg p0))), (g, .inr (3, [.int g_odds, .int g_pot, .int g_lines, .int g_men, .int g_clauses, .int g_winds, .int g_far0, .int g_far1, .ref g_qsides, .ref g_qgrips, .ref g_qwits, .ref g_qsays, .ref g_qgives0, .ref g_qgives1, .ref g_qfroms, .ref g_qtos])), (g_qsides, .inl (cA 1, 8, .inl g_csides)), (g_qgrips, .inl (cA 1, 8, .inl g_cgrips)), (g_qwits, .inl (cA 1, 8, .inl g_cwits))] H := hP
                have hD : va_D A [(h0, .inr (5, [.ref pa_qsettled, .int F1_240, .int F2_240, .ref pa_qtried, .int pa_mostPairs, .ref g])), (pa_qsettled, .inl (cA 1, 8, .inl F3_240)), (pa_qtried, .inl (cA 1, 8, .inl (upd f_266 L5_240.toNatClampNeg p0))), (g, .inr (3, [.int g_odds, .int g_pot, .int g_lines, .int g_men, .int g_clauses, .int g_winds, .int g_far0, .int g_far1, .ref g_qsides, .ref g_qgrips, .ref g_qwits, .ref g_qsays, .ref g_qgives0, .ref g_qgives1, .ref g_qfroms, .ref g_qtos])), (g_qsides, .inl (cA 1, 8, .inl g_csides)), (g_qgrips, .inl (cA 1, 8, .inl g_cgrips)), (g_qwits, .inl (cA 1, 8, .inl g_cwits))] := hD
                generalize ef_267 : (upd f_266 L5_240.toNatClampNeg p0) = f_267 at hP hD
                refine lv_aload_n hx hb dX5_tryMan_98 rfl (lv_at hl 2 rfl) ?_
                refine lv_iload_n hx hb dX5_tryMan_99 rfl (lv_at hl 3 rfl) ?_
                refine lv_iconst (v := 1) hx hb dX5_tryMan_100 (by decide) ?_
                refine lv_iadd hx hb dX5_tryMan_101 ?_
                refine lv_topi (fun x_268 ex_268 => ?_)
                have k_269 := ar_add rfl zi_1 ex_268 (by omega) (by omega)
                refine lv_iload_n hx hb dX5_tryMan_102 rfl (lv_at hl 4 rfl) ?_
                refine lv_iconst (v := 1) hx hb dX5_tryMan_103 (by decide) ?_
                refine lv_iadd hx hb dX5_tryMan_104 ?_
                refine lv_topi (fun x_270 ex_270 => ?_)
                refine lv_iload_n hx hb dX5_tryMan_105 rfl (lv_at hl 5 rfl) ?_
                refine lv_iload hx hb dX5_tryMan_106 (lv_at hl 0 rfl) ?_
                refine lv_iadd hx hb dX5_tryMan_108 ?_
                refine lv_topi (fun x_272 ex_272 => ?_)
                refine lv_iload hx hb dX5_tryMan_109 (lv_at hl 6 rfl) ?_
                refine lv_iload hx hb dX5_tryMan_111 (lv_at hl 0 rfl) ?_
                refine cpSi (rest := [.int x_272, .int x_270, .int x_268, .ref h0]) ⟨hx, hb, hml, hown, hts⟩ hKN (hP.sub (ws' := []) [] rfl) (g_J9_min_7cf53 l D cA p3 r_265) (tb_S tw_883 tw_555 tw_115 tw_556) hdJ9_min_7cf53 ⟨rfl, rfl, Nat.le_of_ble_eq_true rfl, Nat.le_of_ble_eq_true rfl⟩ ⟨Nat.le_of_ble_eq_true rfl, Nat.le_of_ble_eq_true rfl⟩ rfl hl.1 rfl (Nat.le_of_ble_eq_true rfl) dX5_tryMan_113 (fun r_274 hr_274 => ?_)
                obtain ⟨k_274_0_0, k_274_0_1, k_274_0_2⟩ := hr_274
                refine cmVv (rest := []) (wsC := [(h0, .inr (5, [.ref pa_qsettled, .int F1_240, .int F2_240, .ref pa_qtried, .int pa_mostPairs, .ref g])), (pa_qsettled, .inl (cA 1, 8, .inl F3_240)), (pa_qtried, .inl (cA 1, 8, .inl f_267)), (g, .inr (3, [.int g_odds, .int g_pot, .int g_lines, .int g_men, .int g_clauses, .int g_winds, .int g_far0, .int g_far1, .ref g_qsides, .ref g_qgrips, .ref g_qwits, .ref g_qsays, .ref g_qgives0, .ref g_qgives1, .ref g_qfroms, .ref g_qtos])), (g_qsides, .inl (cA 1, 8, .inl g_csides)), (g_qgrips, .inl (cA 1, 8, .inl g_cgrips)), (g_qwits, .inl (cA 1, 8, .inl g_cwits))]) (wr := []) ⟨hx, hb, hml, hown, hts⟩ hKN hP hD hS hA [0, 1, 2, 3, 4, 5, 6] [] rfl rfl (by decide) (by decide) (by decide) (g_X5_tryMan_6 l D cA _ h0 pa_qsettled F1_240 F2_240 pa_qtried pa_mostPairs g F3_240 f_267 g_odds g_pot g_lines g_men g_clauses g_winds g_far0 g_far1 g_qsides g_qgrips g_qwits g_qsays g_qgives0 g_qgives1 g_qfroms g_qtos g_csides g_cgrips g_cwits x_268 x_270 x_272 r_274 (by omega) (by omega) (by omega) (by omega) (by omega) (by omega) (by omega) (by omega)) (tb_V tw_884 tw_886 tw_13 tw_110 tw_887) hdX5_tryMan ⟨rfl, rfl, Nat.le_of_ble_eq_true rfl, Nat.le_of_ble_eq_true rfl⟩ ⟨Nat.le_of_ble_eq_true rfl, Nat.le_of_ble_eq_true rfl⟩ rfl rfl rfl hl.1 rfl (Nat.le_of_ble_eq_true rfl) dX5_tryMan_116 (fun u_275 H locs hr_275 hP hD hS => ?_)
                have hP : va_P D vwCl [(h0, .inr (5, [.ref pa_qsettled, .int (u_275.2.1 0), .int (u_275.2.1 1), .ref pa_qtried, .int pa_mostPairs, .ref g])), (pa_qsettled, .inl (cA 1, 8, .inl (u_275.2.2.1 0))), (pa_qtried, .inl (cA 1, 8, .inl (u_275.2.2.1 1))), (g, .inr (3, [.int g_odds, .int g_pot, .int g_lines, .int g_men, .int g_clauses, .int g_winds, .int g_far0, .int g_far1, .ref g_qsides, .ref g_qgrips, .ref g_qwits, .ref g_qsays, .ref g_qgives0, .ref g_qgives1, .ref g_qfroms, .ref g_qtos])), (g_qsides, .inl (cA 1, 8, .inl g_csides)), (g_qgrips, .inl (cA 1, 8, .inl g_cgrips)), (g_qwits, .inl (cA 1, 8, .inl g_cwits))] H := hP
                have hD : va_D A [(h0, .inr (5, [.ref pa_qsettled, .int (u_275.2.1 0), .int (u_275.2.1 1), .ref pa_qtried, .int pa_mostPairs, .ref g])), (pa_qsettled, .inl (cA 1, 8, .inl (u_275.2.2.1 0))), (pa_qtried, .inl (cA 1, 8, .inl (u_275.2.2.1 1))), (g, .inr (3, [.int g_odds, .int g_pot, .int g_lines, .int g_men, .int g_clauses, .int g_winds, .int g_far0, .int g_far1, .ref g_qsides, .ref g_qgrips, .ref g_qwits, .ref g_qsays, .ref g_qgives0, .ref g_qgives1, .ref g_qfroms, .ref g_qtos])), (g_qsides, .inl (cA 1, 8, .inl g_csides)), (g_qgrips, .inl (cA 1, 8, .inl g_cgrips)), (g_qwits, .inl (cA 1, 8, .inl g_cwits))] := hD
                refine lv_aload_n hx hb dX5_tryMan_119 rfl (lv_at hl 2 rfl) ?_
                refine va_get (D := D) (ci := 5) (v := .ref pa_qtried) (C := RX5) (T := TX5) (N := 6) hx hb hts inX5 hown hKN.1 hP 0 rfl rfl 3 (by decide) (hts _ tw_382) (fun _ h9 => h9) rfl dX5_tryMan_120 ?_
                refine lv_iload_n hx hb dX5_tryMan_123 rfl (lv_at hl 3 rfl) ?_
                refine lv_iconst (v := (-1)) hx hb dX5_tryMan_124 (by decide) ?_
                refine va_iast hx hb hKN.1 hP hD hS 2 1 rfl rfl (vp_in_iff.mpr ⟨by omega, by omega⟩) dX5_tryMan_125 (fun H locs hP hD hS => ?_)
                have hP : va_P D vwCl [(h0, .inr (5, [.ref pa_qsettled, .int (u_275.2.1 0), .int (u_275.2.1 1), .ref pa_qtried, .int pa_mostPairs, .ref g])), (pa_qsettled, .inl (cA 1, 8, .inl (u_275.2.2.1 0))), (pa_qtried, .inl (cA 1, 8, .inl (upd (u_275.2.2.1 1) p0.toNatClampNeg (-1)))), (g, .inr (3, [.int g_odds, .int g_pot, .int g_lines, .int g_men, .int g_clauses, .int g_winds, .int g_far0, .int g_far1, .ref g_qsides, .ref g_qgrips, .ref g_qwits, .ref g_qsays, .ref g_qgives0, .ref g_qgives1, .ref g_qfroms, .ref g_qtos])), (g_qsides, .inl (cA 1, 8, .inl g_csides)), (g_qgrips, .inl (cA 1, 8, .inl g_cgrips)), (g_qwits, .inl (cA 1, 8, .inl g_cwits))] H := hP
                have hD : va_D A [(h0, .inr (5, [.ref pa_qsettled, .int (u_275.2.1 0), .int (u_275.2.1 1), .ref pa_qtried, .int pa_mostPairs, .ref g])), (pa_qsettled, .inl (cA 1, 8, .inl (u_275.2.2.1 0))), (pa_qtried, .inl (cA 1, 8, .inl (upd (u_275.2.2.1 1) p0.toNatClampNeg (-1)))), (g, .inr (3, [.int g_odds, .int g_pot, .int g_lines, .int g_men, .int g_clauses, .int g_winds, .int g_far0, .int g_far1, .ref g_qsides, .ref g_qgrips, .ref g_qwits, .ref g_qsays, .ref g_qgives0, .ref g_qgives1, .ref g_qfroms, .ref g_qtos])), (g_qsides, .inl (cA 1, 8, .inl g_csides)), (g_qgrips, .inl (cA 1, 8, .inl g_cgrips)), (g_qwits, .inl (cA 1, 8, .inl g_cwits))] := hD
                generalize ef_276 : (upd (u_275.2.2.1 1) p0.toNatClampNeg (-1)) = f_276 at hP hD
                refine lv_aload_n hx hb dX5_tryMan_126 rfl (lv_at hl 2 rfl) ?_
                refine va_get (D := D) (ci := 5) (v := .ref pa_qtried) (C := RX5) (T := TX5) (N := 6) hx hb hts inX5 hown hKN.1 hP 0 rfl rfl 3 (by decide) (hts _ tw_382) (fun _ h9 => h9) rfl dX5_tryMan_127 ?_
                refine lv_iload hx hb dX5_tryMan_130 (lv_at hl 1 rfl) ?_
                refine lv_iconst (v := (-1)) hx hb dX5_tryMan_132 (by decide) ?_
                refine va_iast hx hb hKN.1 hP hD hS 2 1 rfl rfl (vp_in_iff.mpr ⟨by omega, by omega⟩) dX5_tryMan_133 (fun H locs hP hD hS => ?_)
                have hP : va_P D vwCl [(h0, .inr (5, [.ref pa_qsettled, .int (u_275.2.1 0), .int (u_275.2.1 1), .ref pa_qtried, .int pa_mostPairs, .ref g])), (pa_qsettled, .inl (cA 1, 8, .inl (u_275.2.2.1 0))), (pa_qtried, .inl (cA 1, 8, .inl (upd f_276 L5_240.toNatClampNeg (-1)))), (g, .inr (3, [.int g_odds, .int g_pot, .int g_lines, .int g_men, .int g_clauses, .int g_winds, .int g_far0, .int g_far1, .ref g_qsides, .ref g_qgrips, .ref g_qwits, .ref g_qsays, .ref g_qgives0, .ref g_qgives1, .ref g_qfroms, .ref g_qtos])), (g_qsides, .inl (cA 1, 8, .inl g_csides)), (g_qgrips, .inl (cA 1, 8, .inl g_cgrips)), (g_qwits, .inl (cA 1, 8, .inl g_cwits))] H := hP
                have hD : va_D A [(h0, .inr (5, [.ref pa_qsettled, .int (u_275.2.1 0), .int (u_275.2.1 1), .ref pa_qtried, .int pa_mostPairs, .ref g])), (pa_qsettled, .inl (cA 1, 8, .inl (u_275.2.2.1 0))), (pa_qtried, .inl (cA 1, 8, .inl (upd f_276 L5_240.toNatClampNeg (-1)))), (g, .inr (3, [.int g_odds, .int g_pot, .int g_lines, .int g_men, .int g_clauses, .int g_winds, .int g_far0, .int g_far1, .ref g_qsides, .ref g_qgrips, .ref g_qwits, .ref g_qsays, .ref g_qgives0, .ref g_qgives1, .ref g_qfroms, .ref g_qtos])), (g_qsides, .inl (cA 1, 8, .inl g_csides)), (g_qgrips, .inl (cA 1, 8, .inl g_cgrips)), (g_qwits, .inl (cA 1, 8, .inl g_cwits))] := hD
                generalize ef_277 : (upd f_276 L5_240.toNatClampNeg (-1)) = f_277 at hP hD
                obtain ⟨x_278, ex_278⟩ : ∃ y : Int32, L5_240 + Int32.ofInt 1 = y := ⟨_, rfl⟩
                have k_279 := ar_add (b := 1) rfl zi_1 ex_278.symm (by omega) (by omega)
                refine lv_iinc (v := x_278) (lv' := [(5, .int x_278), (6, .int r_265), (0, .ref h0), (1, .int p0), (2, .int p1), (3, .int p2), (4, .int p3)]) hx hb dX5_tryMan_134 hl (k := 1) rfl ex_278 (by decide) rfl (fun ls hl => ?_)
                refine lv_goto (tgt := 34) hx hb dX5_tryMan_137 (by decide) ?_
                exact ih_240 (x_278, (u_275.2.1 0), (u_275.2.1 1), (u_275.2.2.1 0), f_277) _ _ _ ⟨(show 0 ≤ x_278.toInt ∧ x_278.toInt ≤ 8 from by omega), hP.sub [0, 1, 2, 3, 4, 5, 6] rfl, hD.sub [0, 1, 2, 3, 4, 5, 6] (by decide) rfl, hS, lv_sub hl [0, 2, 3, 4, 5, 6] rfl⟩ (by show (2147483647 - x_278.toInt).toNat < (2147483647 - L5_240.toInt).toNat; omega)
          · skip
            refine lv_iconst (v := 1) hx hb dX5_tryMan_55 (by decide) ?_
            refine lv_icmp_ne (tgt := 134) hx hb dX5_tryMan_56 (by decide) (fun c_280 => ?_) (fun c_280 => absurd c_280 (by decide))
            obtain ⟨x_281, ex_281⟩ : ∃ y : Int32, L5_240 + Int32.ofInt 1 = y := ⟨_, rfl⟩
            have k_282 := ar_add (b := 1) rfl zi_1 ex_281.symm (by omega) (by omega)
            refine lv_iinc (v := x_281) (lv' := [(5, .int x_281), (0, .ref h0), (1, .int p0), (2, .int p1), (3, .int p2), (4, .int p3)]) hx hb dX5_tryMan_134 hl (k := 0) rfl ex_281 (by decide) rfl (fun ls hl => ?_)
            refine lv_goto (tgt := 34) hx hb dX5_tryMan_137 (by decide) ?_
            exact ih_240 (x_281, F1_240, F2_240, F3_240, F4_240) _ _ _ ⟨(show 0 ≤ x_281.toInt ∧ x_281.toInt ≤ 8 from by omega), hP.sub [0, 1, 2, 3, 4, 5, 6] rfl, hD.sub [0, 1, 2, 3, 4, 5, 6] (by decide) rfl, hS, lv_sub hl [0, 1, 2, 3, 4, 5] rfl⟩ (by show (2147483647 - x_281.toInt).toNat < (2147483647 - L5_240.toInt).toNat; omega)
    · skip
      refine lv_if_ne (tgt := 140) hx hb dX5_tryMan_28 (by decide) (fun c_283 => ?_) (fun c_283 => absurd c_283 (by decide))
      refine lv_aload_n hx hb dX5_tryMan_140 rfl (lv_at hl 0 rfl) ?_
      refine lv_iload_n hx hb dX5_tryMan_141 rfl (lv_at hl 1 rfl) ?_
      refine lv_iconst (v := 1) hx hb dX5_tryMan_142 (by decide) ?_
      refine lv_iadd hx hb dX5_tryMan_143 ?_
      refine lv_topi (fun x_284 ex_284 => ?_)
      have k_285 := ar_add rfl zi_1 ex_284 (by omega) (by omega)
      refine lv_iload_n hx hb dX5_tryMan_144 rfl (lv_at hl 2 rfl) ?_
      refine lv_iload_n hx hb dX5_tryMan_145 rfl (lv_at hl 3 rfl) ?_
      refine lv_iload hx hb dX5_tryMan_146 (lv_at hl 4 rfl) ?_
      refine cmVv (rest := []) (wsC := [(h0, .inr (5, [.ref pa_qsettled, .int pa_greatestSum, .int pa_fairest, .ref pa_qtried, .int pa_mostPairs, .ref g])), (pa_qsettled, .inl (cA 1, 8, .inl pa_csettled)), (pa_qtried, .inl (cA 1, 8, .inl pa_ctried)), (g, .inr (3, [.int g_odds, .int g_pot, .int g_lines, .int g_men, .int g_clauses, .int g_winds, .int g_far0, .int g_far1, .ref g_qsides, .ref g_qgrips, .ref g_qwits, .ref g_qsays, .ref g_qgives0, .ref g_qgives1, .ref g_qfroms, .ref g_qtos])), (g_qsides, .inl (cA 1, 8, .inl g_csides)), (g_qgrips, .inl (cA 1, 8, .inl g_cgrips)), (g_qwits, .inl (cA 1, 8, .inl g_cwits))]) (wr := []) ⟨hx, hb, hml, hown, hts⟩ hKN hP hD hS hA [0, 1, 2, 3, 4, 5, 6] [] rfl rfl (by decide) (by decide) (by decide) (g_X5_tryMan_6 l D cA _ h0 pa_qsettled pa_greatestSum pa_fairest pa_qtried pa_mostPairs g pa_csettled pa_ctried g_odds g_pot g_lines g_men g_clauses g_winds g_far0 g_far1 g_qsides g_qgrips g_qwits g_qsays g_qgives0 g_qgives1 g_qfroms g_qtos g_csides g_cgrips g_cwits x_284 p1 p2 p3 (by omega) (by omega) (by omega) (by omega) (by omega) (by omega) (by omega) (by omega)) (tb_V tw_884 tw_886 tw_13 tw_110 tw_887) hdX5_tryMan ⟨rfl, rfl, Nat.le_of_ble_eq_true rfl, Nat.le_of_ble_eq_true rfl⟩ ⟨Nat.le_of_ble_eq_true rfl, Nat.le_of_ble_eq_true rfl⟩ rfl rfl rfl hl.1 rfl (Nat.le_of_ble_eq_true rfl) dX5_tryMan_148 (fun u_286 H locs hr_286 hP hD hS => ?_)
      have hP : va_P D vwCl [(h0, .inr (5, [.ref pa_qsettled, .int (u_286.2.1 0), .int (u_286.2.1 1), .ref pa_qtried, .int pa_mostPairs, .ref g])), (pa_qsettled, .inl (cA 1, 8, .inl (u_286.2.2.1 0))), (pa_qtried, .inl (cA 1, 8, .inl (u_286.2.2.1 1))), (g, .inr (3, [.int g_odds, .int g_pot, .int g_lines, .int g_men, .int g_clauses, .int g_winds, .int g_far0, .int g_far1, .ref g_qsides, .ref g_qgrips, .ref g_qwits, .ref g_qsays, .ref g_qgives0, .ref g_qgives1, .ref g_qfroms, .ref g_qtos])), (g_qsides, .inl (cA 1, 8, .inl g_csides)), (g_qgrips, .inl (cA 1, 8, .inl g_cgrips)), (g_qwits, .inl (cA 1, 8, .inl g_cwits))] H := hP
      have hD : va_D A [(h0, .inr (5, [.ref pa_qsettled, .int (u_286.2.1 0), .int (u_286.2.1 1), .ref pa_qtried, .int pa_mostPairs, .ref g])), (pa_qsettled, .inl (cA 1, 8, .inl (u_286.2.2.1 0))), (pa_qtried, .inl (cA 1, 8, .inl (u_286.2.2.1 1))), (g, .inr (3, [.int g_odds, .int g_pot, .int g_lines, .int g_men, .int g_clauses, .int g_winds, .int g_far0, .int g_far1, .ref g_qsides, .ref g_qgrips, .ref g_qwits, .ref g_qsays, .ref g_qgives0, .ref g_qgives1, .ref g_qfroms, .ref g_qtos])), (g_qsides, .inl (cA 1, 8, .inl g_csides)), (g_qgrips, .inl (cA 1, 8, .inl g_cgrips)), (g_qwits, .inl (cA 1, 8, .inl g_cwits))] := hD
      have hP9 := hP.sub (ws' := [(h0, .inr (5, [.ref pa_qsettled, .int (u_286.2.1 0), .int (u_286.2.1 1), .ref pa_qtried, .int pa_mostPairs, .ref g])), (pa_qsettled, .inl (cA 1, 8, .inl (u_286.2.2.1 0))), (pa_qtried, .inl (cA 1, 8, .inl (u_286.2.2.1 1))), (g, .inr (3, [.int g_odds, .int g_pot, .int g_lines, .int g_men, .int g_clauses, .int g_winds, .int g_far0, .int g_far1, .ref g_qsides, .ref g_qgrips, .ref g_qwits, .ref g_qsays, .ref g_qgives0, .ref g_qgives1, .ref g_qfroms, .ref g_qtos])), (g_qsides, .inl (cA 1, 8, .inl g_csides)), (g_qgrips, .inl (cA 1, 8, .inl g_cgrips)), (g_qwits, .inl (cA 1, 8, .inl g_cwits))]) [0, 1, 2, 3, 4, 5, 6] rfl
      have hD9 := hD.sub (ws' := [(h0, .inr (5, [.ref pa_qsettled, .int (u_286.2.1 0), .int (u_286.2.1 1), .ref pa_qtried, .int pa_mostPairs, .ref g])), (pa_qsettled, .inl (cA 1, 8, .inl (u_286.2.2.1 0))), (pa_qtried, .inl (cA 1, 8, .inl (u_286.2.2.1 1))), (g, .inr (3, [.int g_odds, .int g_pot, .int g_lines, .int g_men, .int g_clauses, .int g_winds, .int g_far0, .int g_far1, .ref g_qsides, .ref g_qgrips, .ref g_qwits, .ref g_qsays, .ref g_qgives0, .ref g_qgives1, .ref g_qfroms, .ref g_qtos])), (g_qsides, .inl (cA 1, 8, .inl g_csides)), (g_qgrips, .inl (cA 1, 8, .inl g_cgrips)), (g_qwits, .inl (cA 1, 8, .inl g_cwits))]) [0, 1, 2, 3, 4, 5, 6] (by decide) rfl
      exact W.vret hx hb hr (fun t ht hW => ⟨⟨((fun _ => 0), (selI [(u_286.2.1 0), (u_286.2.1 1)]), (selF [(u_286.2.2.1 0), (u_286.2.2.1 1)]), (fun _ _ => 0)), rfl, trivial, by rw [ht]; exact hP9, hD9⟩, hS.F ht⟩) hS.2.2 dX5_tryMan_151
  · skip
    refine lv_if_ne (tgt := 20) hx hb dX5_tryMan_8 (by decide) (fun c_287 => absurd (by decide) c_287) (fun c_287 => ?_)
    refine lv_aload_n hx hb dX5_tryMan_11 rfl (lv_at hl 0 rfl) ?_
    refine lv_iload_n hx hb dX5_tryMan_12 rfl (lv_at hl 2 rfl) ?_
    refine lv_iload_n hx hb dX5_tryMan_13 rfl (lv_at hl 3 rfl) ?_
    refine lv_iload hx hb dX5_tryMan_14 (lv_at hl 4 rfl) ?_
    refine cmVv (rest := []) (wsC := [(h0, .inr (5, [.ref pa_qsettled, .int pa_greatestSum, .int pa_fairest, .ref pa_qtried, .int pa_mostPairs, .ref g])), (pa_qsettled, .inl (cA 1, 8, .inl pa_csettled)), (pa_qtried, .inl (cA 1, 8, .inl pa_ctried))]) (wr := [(g, .inr (3, [.int g_odds, .int g_pot, .int g_lines, .int g_men, .int g_clauses, .int g_winds, .int g_far0, .int g_far1, .ref g_qsides, .ref g_qgrips, .ref g_qwits, .ref g_qsays, .ref g_qgives0, .ref g_qgives1, .ref g_qfroms, .ref g_qtos])), (g_qsides, .inl (cA 1, 8, .inl g_csides)), (g_qgrips, .inl (cA 1, 8, .inl g_cgrips)), (g_qwits, .inl (cA 1, 8, .inl g_cwits))]) ⟨hx, hb, hml, hown, hts⟩ hKN hP hD hS hA [0, 1, 2] [3, 4, 5, 6] rfl rfl (by decide) (by decide) (by decide) (g_X5_weigh l D cA _ h0 pa_qsettled pa_greatestSum pa_fairest pa_qtried pa_mostPairs g pa_csettled pa_ctried p1 p2 p3) (tb_V tw_889 tw_891 tw_14 tw_110 tw_892) hdX5_weigh ⟨rfl, rfl, Nat.le_of_ble_eq_true rfl, Nat.le_of_ble_eq_true rfl⟩ ⟨Nat.le_of_ble_eq_true rfl, Nat.le_of_ble_eq_true rfl⟩ rfl rfl rfl hl.1 rfl (Nat.le_of_ble_eq_true rfl) dX5_tryMan_16 (fun u_288 H locs hr_288 hP hD hS => ?_)
    have hP : va_P D vwCl [(g, .inr (3, [.int g_odds, .int g_pot, .int g_lines, .int g_men, .int g_clauses, .int g_winds, .int g_far0, .int g_far1, .ref g_qsides, .ref g_qgrips, .ref g_qwits, .ref g_qsays, .ref g_qgives0, .ref g_qgives1, .ref g_qfroms, .ref g_qtos])), (g_qsides, .inl (cA 1, 8, .inl g_csides)), (g_qgrips, .inl (cA 1, 8, .inl g_cgrips)), (g_qwits, .inl (cA 1, 8, .inl g_cwits)), (h0, .inr (5, [.ref pa_qsettled, .int (u_288.2.1 0), .int (u_288.2.1 1), .ref pa_qtried, .int pa_mostPairs, .ref g])), (pa_qsettled, .inl (cA 1, 8, .inl (u_288.2.2.1 0))), (pa_qtried, .inl (cA 1, 8, .inl pa_ctried))] H := hP
    have hD : va_D A [(g, .inr (3, [.int g_odds, .int g_pot, .int g_lines, .int g_men, .int g_clauses, .int g_winds, .int g_far0, .int g_far1, .ref g_qsides, .ref g_qgrips, .ref g_qwits, .ref g_qsays, .ref g_qgives0, .ref g_qgives1, .ref g_qfroms, .ref g_qtos])), (g_qsides, .inl (cA 1, 8, .inl g_csides)), (g_qgrips, .inl (cA 1, 8, .inl g_cgrips)), (g_qwits, .inl (cA 1, 8, .inl g_cwits)), (h0, .inr (5, [.ref pa_qsettled, .int (u_288.2.1 0), .int (u_288.2.1 1), .ref pa_qtried, .int pa_mostPairs, .ref g])), (pa_qsettled, .inl (cA 1, 8, .inl (u_288.2.2.1 0))), (pa_qtried, .inl (cA 1, 8, .inl pa_ctried))] := hD
    have hP9 := hP.sub (ws' := [(h0, .inr (5, [.ref pa_qsettled, .int (u_288.2.1 0), .int (u_288.2.1 1), .ref pa_qtried, .int pa_mostPairs, .ref g])), (pa_qsettled, .inl (cA 1, 8, .inl (u_288.2.2.1 0))), (pa_qtried, .inl (cA 1, 8, .inl pa_ctried)), (g, .inr (3, [.int g_odds, .int g_pot, .int g_lines, .int g_men, .int g_clauses, .int g_winds, .int g_far0, .int g_far1, .ref g_qsides, .ref g_qgrips, .ref g_qwits, .ref g_qsays, .ref g_qgives0, .ref g_qgives1, .ref g_qfroms, .ref g_qtos])), (g_qsides, .inl (cA 1, 8, .inl g_csides)), (g_qgrips, .inl (cA 1, 8, .inl g_cgrips)), (g_qwits, .inl (cA 1, 8, .inl g_cwits))]) [4, 5, 6, 0, 1, 2, 3] rfl
    have hD9 := hD.sub (ws' := [(h0, .inr (5, [.ref pa_qsettled, .int (u_288.2.1 0), .int (u_288.2.1 1), .ref pa_qtried, .int pa_mostPairs, .ref g])), (pa_qsettled, .inl (cA 1, 8, .inl (u_288.2.2.1 0))), (pa_qtried, .inl (cA 1, 8, .inl pa_ctried)), (g, .inr (3, [.int g_odds, .int g_pot, .int g_lines, .int g_men, .int g_clauses, .int g_winds, .int g_far0, .int g_far1, .ref g_qsides, .ref g_qgrips, .ref g_qwits, .ref g_qsays, .ref g_qgives0, .ref g_qgives1, .ref g_qfroms, .ref g_qtos])), (g_qsides, .inl (cA 1, 8, .inl g_csides)), (g_qgrips, .inl (cA 1, 8, .inl g_cgrips)), (g_qwits, .inl (cA 1, 8, .inl g_cwits))]) [4, 5, 6, 0, 1, 2, 3] (by decide) rfl
    exact W.vret hx hb hr (fun t ht hW => ⟨⟨((fun _ => 0), (selI [(u_288.2.1 0), (u_288.2.1 1)]), (selF [(u_288.2.2.1 0), pa_ctried]), (fun _ _ => 0)), rfl, trivial, by rw [ht]; exact hP9, hD9⟩, hS.F ht⟩) hS.2.2 dX5_tryMan_19
set_option maxHeartbeats 8000000 in
set_option maxRecDepth 100000 in
theorem g_X5_tryMan_4 (l : Launch) (D : va_G) (cA : Nat → ClassId) (sz : Nat) (h0 : Nat) (pa_qsettled : Nat) (pa_greatestSum : Int32) (pa_fairest : Int32) (pa_qtried : Nat) (pa_mostPairs : Int32) (g : Nat) (pa_csettled : Nat → Int32) (pa_ctried : Nat → Int32) (g_odds : Int32) (g_pot : Int32) (g_lines : Int32) (g_men : Int32) (g_clauses : Int32) (g_winds : Int32) (g_far0 : Int32) (g_far1 : Int32) (g_qsides : Nat) (g_qgrips : Nat) (g_qwits : Nat) (g_qsays : Nat) (g_qgives0 : Nat) (g_qgives1 : Nat) (g_qfroms : Nat) (g_qtos : Nat) (g_csides : Nat → Int32) (g_cgrips : Nat → Int32) (g_cwits : Nat → Int32) (p0 : Int32) (p1 : Int32) (p2 : Int32) (p3 : Int32) (h_g_odds : -999 ≤ (g_odds : Int32).toInt ∧ (g_odds : Int32).toInt ≤ 999) (h_g_pot : -999 ≤ (g_pot : Int32).toInt ∧ (g_pot : Int32).toInt ≤ 999) (h_g_men : 0 ≤ (g_men : Int32).toInt ∧ (g_men : Int32).toInt ≤ 8) (h_g_clauses : 0 ≤ (g_clauses : Int32).toInt ∧ (g_clauses : Int32).toInt ≤ 7) (h_g_winds : 0 ≤ (g_winds : Int32).toInt ∧ (g_winds : Int32).toInt ≤ 4) (h_g_far0 : -999 ≤ (g_far0 : Int32).toInt ∧ (g_far0 : Int32).toInt ≤ 999) (h_g_far1 : -999 ≤ (g_far1 : Int32).toInt ∧ (g_far1 : Int32).toInt ≤ 999) (h_p0 : 4 ≤ (p0 : Int32).toInt ∧ (p0 : Int32).toInt ≤ 4) : Met l yX5_tryMan (Cond.code yX5_tryMan cX5_tryMan 7 none :: TB) (rmd 6 0 0) (PM D cA sz [(h0, .inr (5, [.ref pa_qsettled, .int pa_greatestSum, .int pa_fairest, .ref pa_qtried, .int pa_mostPairs, .ref g])), (pa_qsettled, .inl (cA 1, 8, .inl pa_csettled)), (pa_qtried, .inl (cA 1, 8, .inl pa_ctried)), (g, .inr (3, [.int g_odds, .int g_pot, .int g_lines, .int g_men, .int g_clauses, .int g_winds, .int g_far0, .int g_far1, .ref g_qsides, .ref g_qgrips, .ref g_qwits, .ref g_qsays, .ref g_qgives0, .ref g_qgives1, .ref g_qfroms, .ref g_qtos])), (g_qsides, .inl (cA 1, 8, .inl g_csides)), (g_qgrips, .inl (cA 1, 8, .inl g_cgrips)), (g_qwits, .inl (cA 1, 8, .inl g_cwits))] [.ref h0, .int p0, .int p1, .int p2, .int p3]) (va_Qv (fun (u : SU) => True) (fun u t => va_P D vwCl [(h0, .inr (5, [.ref pa_qsettled, .int (u.2.1 0), .int (u.2.1 1), .ref pa_qtried, .int pa_mostPairs, .ref g])), (pa_qsettled, .inl (cA 1, 8, .inl (u.2.2.1 0))), (pa_qtried, .inl (cA 1, 8, .inl (u.2.2.1 1))), (g, .inr (3, [.int g_odds, .int g_pot, .int g_lines, .int g_men, .int g_clauses, .int g_winds, .int g_far0, .int g_far1, .ref g_qsides, .ref g_qgrips, .ref g_qwits, .ref g_qsays, .ref g_qgives0, .ref g_qgives1, .ref g_qfroms, .ref g_qtos])), (g_qsides, .inl (cA 1, 8, .inl g_csides)), (g_qgrips, .inl (cA 1, 8, .inl g_cgrips)), (g_qwits, .inl (cA 1, 8, .inl g_cwits))] t.heap ∧ va_D (va_A [(h0, .inr (5, [.ref pa_qsettled, .int pa_greatestSum, .int pa_fairest, .ref pa_qtried, .int pa_mostPairs, .ref g])), (pa_qsettled, .inl (cA 1, 8, .inl pa_csettled)), (pa_qtried, .inl (cA 1, 8, .inl pa_ctried)), (g, .inr (3, [.int g_odds, .int g_pot, .int g_lines, .int g_men, .int g_clauses, .int g_winds, .int g_far0, .int g_far1, .ref g_qsides, .ref g_qgrips, .ref g_qwits, .ref g_qsays, .ref g_qgives0, .ref g_qgives1, .ref g_qfroms, .ref g_qtos])), (g_qsides, .inl (cA 1, 8, .inl g_csides)), (g_qgrips, .inl (cA 1, 8, .inl g_cgrips)), (g_qwits, .inl (cA 1, 8, .inl g_cwits))] sz) [(h0, .inr (5, [.ref pa_qsettled, .int (u.2.1 0), .int (u.2.1 1), .ref pa_qtried, .int pa_mostPairs, .ref g])), (pa_qsettled, .inl (cA 1, 8, .inl (u.2.2.1 0))), (pa_qtried, .inl (cA 1, 8, .inl (u.2.2.1 1))), (g, .inr (3, [.int g_odds, .int g_pot, .int g_lines, .int g_men, .int g_clauses, .int g_winds, .int g_far0, .int g_far1, .ref g_qsides, .ref g_qgrips, .ref g_qwits, .ref g_qsays, .ref g_qgives0, .ref g_qgives1, .ref g_qfroms, .ref g_qtos])), (g_qsides, .inl (cA 1, 8, .inl g_csides)), (g_qgrips, .inl (cA 1, 8, .inl g_cgrips)), (g_qwits, .inl (cA 1, 8, .inl g_cwits))]) (va_A [(h0, .inr (5, [.ref pa_qsettled, .int pa_greatestSum, .int pa_fairest, .ref pa_qtried, .int pa_mostPairs, .ref g])), (pa_qsettled, .inl (cA 1, 8, .inl pa_csettled)), (pa_qtried, .inl (cA 1, 8, .inl pa_ctried)), (g, .inr (3, [.int g_odds, .int g_pot, .int g_lines, .int g_men, .int g_clauses, .int g_winds, .int g_far0, .int g_far1, .ref g_qsides, .ref g_qgrips, .ref g_qwits, .ref g_qsays, .ref g_qgives0, .ref g_qgives1, .ref g_qfroms, .ref g_qtos])), (g_qsides, .inl (cA 1, 8, .inl g_csides)), (g_qgrips, .inl (cA 1, 8, .inl g_cgrips)), (g_qwits, .inl (cA 1, 8, .inl g_cwits))] sz)) 0 0 (va_A [(h0, .inr (5, [.ref pa_qsettled, .int pa_greatestSum, .int pa_fairest, .ref pa_qtried, .int pa_mostPairs, .ref g])), (pa_qsettled, .inl (cA 1, 8, .inl pa_csettled)), (pa_qtried, .inl (cA 1, 8, .inl pa_ctried)), (g, .inr (3, [.int g_odds, .int g_pot, .int g_lines, .int g_men, .int g_clauses, .int g_winds, .int g_far0, .int g_far1, .ref g_qsides, .ref g_qgrips, .ref g_qwits, .ref g_qsays, .ref g_qgives0, .ref g_qgives1, .ref g_qfroms, .ref g_qtos])), (g_qsides, .inl (cA 1, 8, .inl g_csides)), (g_qgrips, .inl (cA 1, 8, .inl g_cgrips)), (g_qwits, .inl (cA 1, 8, .inl g_cwits))] sz) := by
  refine Met.ofW (cc := cX5_tryMan) (maxL := 7) (ret := none) (by decide) rfl ?_
  intro p e s m args below meth c s₁ B hml hv
  obtain ⟨rfl, hsz, hP, hKN, hD0⟩ := hv
  have hx := B.exec
  have hb := B.bytes
  have hr := B.returns
  have hts : ∀ w ∈ TB, w.before _ s = true := fun w h => atoms_spec B.pre w (List.mem_cons_of_mem _ h)
  have hown : s.vm.findClass RX5 = some m.cls := findClass_of_methodNamed B.named
  have hlocks := B.notSynchronized
  subst hsz
  have hD := hD0.self (sz := s.heap.size)
  generalize hAe : va_A [(h0, .inr (5, [.ref pa_qsettled, .int pa_greatestSum, .int pa_fairest, .ref pa_qtried, .int pa_mostPairs, .ref g])), (pa_qsettled, .inl (cA 1, 8, .inl pa_csettled)), (pa_qtried, .inl (cA 1, 8, .inl pa_ctried)), (g, .inr (3, [.int g_odds, .int g_pot, .int g_lines, .int g_men, .int g_clauses, .int g_winds, .int g_far0, .int g_far1, .ref g_qsides, .ref g_qgrips, .ref g_qwits, .ref g_qsays, .ref g_qgives0, .ref g_qgives1, .ref g_qfroms, .ref g_qtos])), (g_qsides, .inl (cA 1, 8, .inl g_csides)), (g_qgrips, .inl (cA 1, 8, .inl g_cgrips)), (g_qwits, .inl (cA 1, 8, .inl g_cwits))] s.heap.size = A at hD ⊢
  have hA : ∀ q : Nat, s.heap.size ≤ q → A q := fun q h => by rw [← hAe]; exact Or.inr h
  have hS : va_S A s.heap s.heap [] := va_S.rf
  have hl := lv_entry ([.ref h0, .int p0, .int p1, .int p2, .int p3]) (n := 7) (Nat.le_of_ble_eq_true rfl)
  rw [lg_entry_eq]
  generalize (lg_sl ([.ref h0, .int p0, .int p1, .int p2, .int p3]) ++ List.replicate (7 - (lg_sl ([.ref h0, .int p0, .int p1, .int p2, .int p3])).length) Slot.unset).toArray = ls at hl ⊢
  have hl : lv_has ls 7 [(0, .ref h0), (1, .int p0), (2, .int p1), (3, .int p2), (4, .int p3)] := hl
  refine lv_aload_n hx hb dX5_tryMan_0 rfl (lv_at hl 0 rfl) ?_
  refine va_get (D := D) (ci := 5) (v := .ref g) (C := RX5) (T := TX5) (N := 6) hx hb hts inX5 hown hKN.1 hP 0 rfl rfl 5 (by decide) (hts _ tw_384) (fun _ h9 => h9) rfl dX5_tryMan_1 ?_
  refine lv_iload_n hx hb dX5_tryMan_4 rfl (lv_at hl 1 rfl) ?_
  refine cpVi (rest := []) ⟨hx, hb, hml, hown, hts⟩ hKN (hP.sub (ws' := [(g, .inr (3, [.int g_odds, .int g_pot, .int g_lines, .int g_men, .int g_clauses, .int g_winds, .int g_far0, .int g_far1, .ref g_qsides, .ref g_qgrips, .ref g_qwits, .ref g_qsays, .ref g_qgives0, .ref g_qgives1, .ref g_qfroms, .ref g_qtos]))]) [3] rfl) (g_X3_hasMan l D cA g g_odds g_pot g_lines g_men g_clauses g_winds g_far0 g_far1 g_qsides g_qgrips g_qwits g_qsays g_qgives0 g_qgives1 g_qfroms g_qtos p0 (by omega) (by omega) (by omega) (by omega) (by omega) (by omega) (by omega)) (tb_V tw_888 tw_699 tw_700 tw_104 tw_701) hdX3_hasMan ⟨rfl, rfl, Nat.le_of_ble_eq_true rfl, Nat.le_of_ble_eq_true rfl⟩ ⟨Nat.le_of_ble_eq_true rfl, Nat.le_of_ble_eq_true rfl⟩ rfl rfl rfl hl.1 rfl (Nat.le_of_ble_eq_true rfl) dX5_tryMan_5 (fun r_1 hr_1 => ?_)
  rcases hr_1 with ⟨k_1_0_0, k_1_0_1, k_1_0_2, rfl⟩ | rfl
  · skip
    refine lv_if_ne (tgt := 20) hx hb dX5_tryMan_8 (by decide) (fun c_2 => ?_) (fun c_2 => absurd c_2 (by decide))
    refine lv_aload_n hx hb dX5_tryMan_20 rfl (lv_at hl 0 rfl) ?_
    refine va_get (D := D) (ci := 5) (v := .ref g) (C := RX5) (T := TX5) (N := 6) hx hb hts inX5 hown hKN.1 hP 0 rfl rfl 5 (by decide) (hts _ tw_384) (fun _ h9 => h9) rfl dX5_tryMan_21 ?_
    refine lv_iload_n hx hb dX5_tryMan_24 rfl (lv_at hl 1 rfl) ?_
    refine cpVi (rest := []) ⟨hx, hb, hml, hown, hts⟩ hKN (hP.sub (ws' := [(g, .inr (3, [.int g_odds, .int g_pot, .int g_lines, .int g_men, .int g_clauses, .int g_winds, .int g_far0, .int g_far1, .ref g_qsides, .ref g_qgrips, .ref g_qwits, .ref g_qsays, .ref g_qgives0, .ref g_qgives1, .ref g_qfroms, .ref g_qtos])), (g_qsides, .inl (cA 1, 8, .inl g_csides))]) [3, 4] rfl) (g_X3_sideOf l D cA g g_odds g_pot g_lines g_men g_clauses g_winds g_far0 g_far1 g_qsides g_qgrips g_qwits g_qsays g_qgives0 g_qgives1 g_qfroms g_qtos g_csides p0 (by omega) (by omega) (by omega) (by omega) (by omega) (by omega) (by omega)) (tb_V tw_882 tw_703 tw_704 tw_104 tw_705) hdX3_sideOf ⟨rfl, rfl, Nat.le_of_ble_eq_true rfl, Nat.le_of_ble_eq_true rfl⟩ ⟨Nat.le_of_ble_eq_true rfl, Nat.le_of_ble_eq_true rfl⟩ rfl rfl rfl hl.1 rfl (Nat.le_of_ble_eq_true rfl) dX5_tryMan_25 (fun r_3 hr_3 => ?_)
    rcases hr_3 with ⟨k_3_0_0, k_3_0_1⟩ | rfl
    · skip
      refine lv_if_ne (tgt := 140) hx hb dX5_tryMan_28 (by decide) (fun c_4 => ?_) (fun c_4 => ?_)
      · skip
        have b_6 := i32_bd r_3
        have k_5 := kk_ne rfl zi_0 c_4
        refine lv_aload_n hx hb dX5_tryMan_140 rfl (lv_at hl 0 rfl) ?_
        refine lv_iload_n hx hb dX5_tryMan_141 rfl (lv_at hl 1 rfl) ?_
        refine lv_iconst (v := 1) hx hb dX5_tryMan_142 (by decide) ?_
        refine lv_iadd hx hb dX5_tryMan_143 ?_
        refine lv_topi (fun x_7 ex_7 => ?_)
        have k_8 := ar_add rfl zi_1 ex_7 (by omega) (by omega)
        refine lv_iload_n hx hb dX5_tryMan_144 rfl (lv_at hl 2 rfl) ?_
        refine lv_iload_n hx hb dX5_tryMan_145 rfl (lv_at hl 3 rfl) ?_
        refine lv_iload hx hb dX5_tryMan_146 (lv_at hl 4 rfl) ?_
        refine cmVv (rest := []) (wsC := [(h0, .inr (5, [.ref pa_qsettled, .int pa_greatestSum, .int pa_fairest, .ref pa_qtried, .int pa_mostPairs, .ref g])), (pa_qsettled, .inl (cA 1, 8, .inl pa_csettled)), (pa_qtried, .inl (cA 1, 8, .inl pa_ctried)), (g, .inr (3, [.int g_odds, .int g_pot, .int g_lines, .int g_men, .int g_clauses, .int g_winds, .int g_far0, .int g_far1, .ref g_qsides, .ref g_qgrips, .ref g_qwits, .ref g_qsays, .ref g_qgives0, .ref g_qgives1, .ref g_qfroms, .ref g_qtos])), (g_qsides, .inl (cA 1, 8, .inl g_csides)), (g_qgrips, .inl (cA 1, 8, .inl g_cgrips)), (g_qwits, .inl (cA 1, 8, .inl g_cwits))]) (wr := []) ⟨hx, hb, hml, hown, hts⟩ hKN hP hD hS hA [0, 1, 2, 3, 4, 5, 6] [] rfl rfl (by decide) (by decide) (by decide) (g_X5_tryMan_5 l D cA _ h0 pa_qsettled pa_greatestSum pa_fairest pa_qtried pa_mostPairs g pa_csettled pa_ctried g_odds g_pot g_lines g_men g_clauses g_winds g_far0 g_far1 g_qsides g_qgrips g_qwits g_qsays g_qgives0 g_qgives1 g_qfroms g_qtos g_csides g_cgrips g_cwits x_7 p1 p2 p3 (by omega) (by omega) (by omega) (by omega) (by omega) (by omega) (by omega) (by omega)) (tb_V tw_884 tw_886 tw_13 tw_110 tw_887) hdX5_tryMan ⟨rfl, rfl, Nat.le_of_ble_eq_true rfl, Nat.le_of_ble_eq_true rfl⟩ ⟨Nat.le_of_ble_eq_true rfl, Nat.le_of_ble_eq_true rfl⟩ rfl rfl rfl hl.1 rfl (Nat.le_of_ble_eq_true rfl) dX5_tryMan_148 (fun u_9 H locs hr_9 hP hD hS => ?_)
        have hP : va_P D vwCl [(h0, .inr (5, [.ref pa_qsettled, .int (u_9.2.1 0), .int (u_9.2.1 1), .ref pa_qtried, .int pa_mostPairs, .ref g])), (pa_qsettled, .inl (cA 1, 8, .inl (u_9.2.2.1 0))), (pa_qtried, .inl (cA 1, 8, .inl (u_9.2.2.1 1))), (g, .inr (3, [.int g_odds, .int g_pot, .int g_lines, .int g_men, .int g_clauses, .int g_winds, .int g_far0, .int g_far1, .ref g_qsides, .ref g_qgrips, .ref g_qwits, .ref g_qsays, .ref g_qgives0, .ref g_qgives1, .ref g_qfroms, .ref g_qtos])), (g_qsides, .inl (cA 1, 8, .inl g_csides)), (g_qgrips, .inl (cA 1, 8, .inl g_cgrips)), (g_qwits, .inl (cA 1, 8, .inl g_cwits))] H := hP
        have hD : va_D A [(h0, .inr (5, [.ref pa_qsettled, .int (u_9.2.1 0), .int (u_9.2.1 1), .ref pa_qtried, .int pa_mostPairs, .ref g])), (pa_qsettled, .inl (cA 1, 8, .inl (u_9.2.2.1 0))), (pa_qtried, .inl (cA 1, 8, .inl (u_9.2.2.1 1))), (g, .inr (3, [.int g_odds, .int g_pot, .int g_lines, .int g_men, .int g_clauses, .int g_winds, .int g_far0, .int g_far1, .ref g_qsides, .ref g_qgrips, .ref g_qwits, .ref g_qsays, .ref g_qgives0, .ref g_qgives1, .ref g_qfroms, .ref g_qtos])), (g_qsides, .inl (cA 1, 8, .inl g_csides)), (g_qgrips, .inl (cA 1, 8, .inl g_cgrips)), (g_qwits, .inl (cA 1, 8, .inl g_cwits))] := hD
        have hP9 := hP.sub (ws' := [(h0, .inr (5, [.ref pa_qsettled, .int (u_9.2.1 0), .int (u_9.2.1 1), .ref pa_qtried, .int pa_mostPairs, .ref g])), (pa_qsettled, .inl (cA 1, 8, .inl (u_9.2.2.1 0))), (pa_qtried, .inl (cA 1, 8, .inl (u_9.2.2.1 1))), (g, .inr (3, [.int g_odds, .int g_pot, .int g_lines, .int g_men, .int g_clauses, .int g_winds, .int g_far0, .int g_far1, .ref g_qsides, .ref g_qgrips, .ref g_qwits, .ref g_qsays, .ref g_qgives0, .ref g_qgives1, .ref g_qfroms, .ref g_qtos])), (g_qsides, .inl (cA 1, 8, .inl g_csides)), (g_qgrips, .inl (cA 1, 8, .inl g_cgrips)), (g_qwits, .inl (cA 1, 8, .inl g_cwits))]) [0, 1, 2, 3, 4, 5, 6] rfl
        have hD9 := hD.sub (ws' := [(h0, .inr (5, [.ref pa_qsettled, .int (u_9.2.1 0), .int (u_9.2.1 1), .ref pa_qtried, .int pa_mostPairs, .ref g])), (pa_qsettled, .inl (cA 1, 8, .inl (u_9.2.2.1 0))), (pa_qtried, .inl (cA 1, 8, .inl (u_9.2.2.1 1))), (g, .inr (3, [.int g_odds, .int g_pot, .int g_lines, .int g_men, .int g_clauses, .int g_winds, .int g_far0, .int g_far1, .ref g_qsides, .ref g_qgrips, .ref g_qwits, .ref g_qsays, .ref g_qgives0, .ref g_qgives1, .ref g_qfroms, .ref g_qtos])), (g_qsides, .inl (cA 1, 8, .inl g_csides)), (g_qgrips, .inl (cA 1, 8, .inl g_cgrips)), (g_qwits, .inl (cA 1, 8, .inl g_cwits))]) [0, 1, 2, 3, 4, 5, 6] (by decide) rfl
        exact W.vret hx hb hr (fun t ht hW => ⟨⟨((fun _ => 0), (selI [(u_9.2.1 0), (u_9.2.1 1)]), (selF [(u_9.2.2.1 0), (u_9.2.2.1 1)]), (fun _ _ => 0)), rfl, trivial, by rw [ht]; exact hP9, hD9⟩, hS.F ht⟩) hS.2.2 dX5_tryMan_151
      · skip
        have b_11 := i32_bd r_3
        have k_10 := kk_eq rfl zi_0 c_4
        refine lv_iconst (v := 0) hx hb dX5_tryMan_31 (by decide) ?_
        refine lv_istore (lv' := [(5, .int 0), (0, .ref h0), (1, .int p0), (2, .int p1), (3, .int p2), (4, .int p3)]) hx hb dX5_tryMan_32 hl (by decide) rfl (fun ls hl => ?_)
        have b_241 := i32_bd pa_greatestSum
        have b_242 := i32_bd pa_fairest
        refine loopW (σ := Int32 × Int32 × Int32 × (Nat → Int32) × (Nat → Int32)) (fun _ => []) (fun ⟨L5_240, F1_240, F2_240, F3_240, F4_240⟩ H locs ls => (0 ≤ L5_240.toInt ∧ L5_240.toInt ≤ 8) ∧ va_P D vwCl [(h0, .inr (5, [.ref pa_qsettled, .int F1_240, .int F2_240, .ref pa_qtried, .int pa_mostPairs, .ref g])), (pa_qsettled, .inl (cA 1, 8, .inl F3_240)), (pa_qtried, .inl (cA 1, 8, .inl F4_240)), (g, .inr (3, [.int g_odds, .int g_pot, .int g_lines, .int g_men, .int g_clauses, .int g_winds, .int g_far0, .int g_far1, .ref g_qsides, .ref g_qgrips, .ref g_qwits, .ref g_qsays, .ref g_qgives0, .ref g_qgives1, .ref g_qfroms, .ref g_qtos])), (g_qsides, .inl (cA 1, 8, .inl g_csides)), (g_qgrips, .inl (cA 1, 8, .inl g_cgrips)), (g_qwits, .inl (cA 1, 8, .inl g_cwits))] H ∧ va_D A [(h0, .inr (5, [.ref pa_qsettled, .int F1_240, .int F2_240, .ref pa_qtried, .int pa_mostPairs, .ref g])), (pa_qsettled, .inl (cA 1, 8, .inl F3_240)), (pa_qtried, .inl (cA 1, 8, .inl F4_240)), (g, .inr (3, [.int g_odds, .int g_pot, .int g_lines, .int g_men, .int g_clauses, .int g_winds, .int g_far0, .int g_far1, .ref g_qsides, .ref g_qgrips, .ref g_qwits, .ref g_qsays, .ref g_qgives0, .ref g_qgives1, .ref g_qfroms, .ref g_qtos])), (g_qsides, .inl (cA 1, 8, .inl g_csides)), (g_qgrips, .inl (cA 1, 8, .inl g_cgrips)), (g_qwits, .inl (cA 1, 8, .inl g_cwits))] ∧ va_S A s.heap H locs ∧ lv_has ls 7 [(5, .int L5_240), (0, .ref h0), (1, .int p0), (2, .int p1), (3, .int p2), (4, .int p3)]) (fun ⟨L5_240, F1_240, F2_240, F3_240, F4_240⟩ => (2147483647 - L5_240.toInt).toNat) ?_ ((0, pa_greatestSum, pa_fairest, pa_csettled, pa_ctried) : Int32 × Int32 × Int32 × (Nat → Int32) × (Nat → Int32)) ⟨(by decide), hP, hD, hS, hl⟩
        intro x_240 H locs ls hI_240 ih_240
        obtain ⟨L5_240, F1_240, F2_240, F3_240, F4_240⟩ := x_240
        obtain ⟨k0_240, hP, hD, hS, hl⟩ := hI_240
        have hP : va_P D vwCl [(h0, .inr (5, [.ref pa_qsettled, .int F1_240, .int F2_240, .ref pa_qtried, .int pa_mostPairs, .ref g])), (pa_qsettled, .inl (cA 1, 8, .inl F3_240)), (pa_qtried, .inl (cA 1, 8, .inl F4_240)), (g, .inr (3, [.int g_odds, .int g_pot, .int g_lines, .int g_men, .int g_clauses, .int g_winds, .int g_far0, .int g_far1, .ref g_qsides, .ref g_qgrips, .ref g_qwits, .ref g_qsays, .ref g_qgives0, .ref g_qgives1, .ref g_qfroms, .ref g_qtos])), (g_qsides, .inl (cA 1, 8, .inl g_csides)), (g_qgrips, .inl (cA 1, 8, .inl g_cgrips)), (g_qwits, .inl (cA 1, 8, .inl g_cwits))] H := hP
        have hD : va_D A [(h0, .inr (5, [.ref pa_qsettled, .int F1_240, .int F2_240, .ref pa_qtried, .int pa_mostPairs, .ref g])), (pa_qsettled, .inl (cA 1, 8, .inl F3_240)), (pa_qtried, .inl (cA 1, 8, .inl F4_240)), (g, .inr (3, [.int g_odds, .int g_pot, .int g_lines, .int g_men, .int g_clauses, .int g_winds, .int g_far0, .int g_far1, .ref g_qsides, .ref g_qgrips, .ref g_qwits, .ref g_qsays, .ref g_qgives0, .ref g_qgives1, .ref g_qfroms, .ref g_qtos])), (g_qsides, .inl (cA 1, 8, .inl g_csides)), (g_qgrips, .inl (cA 1, 8, .inl g_cgrips)), (g_qwits, .inl (cA 1, 8, .inl g_cwits))] := hD
        have hl : lv_has ls 7 [(5, .int L5_240), (0, .ref h0), (1, .int p0), (2, .int p1), (3, .int p2), (4, .int p3)] := hl
        refine lv_iload hx hb dX5_tryMan_34 (lv_at hl 0 rfl) ?_
        refine lv_aload_n hx hb dX5_tryMan_36 rfl (lv_at hl 1 rfl) ?_
        refine va_get (D := D) (ci := 5) (v := .ref g) (C := RX5) (T := TX5) (N := 6) hx hb hts inX5 hown hKN.1 hP 0 rfl rfl 5 (by decide) (hts _ tw_384) (fun _ h9 => h9) rfl dX5_tryMan_37 ?_
        refine va_get (D := D) (ci := 3) (v := .int g_men) (C := RX3) (T := TX3) (N := 16) hx hb hts inX3 hown hKN.1 hP 3 rfl rfl 3 (by decide) (hts _ tw_168) (fun _ h9 => h9) rfl dX5_tryMan_40 ?_
        refine lv_icmp_ge (tgt := 140) hx hb dX5_tryMan_43 (by decide) (fun c_243 => ?_) (fun c_243 => ?_)
        · skip
          have k_244 := kk_le rfl rfl c_243
          refine lv_aload_n hx hb dX5_tryMan_140 rfl (lv_at hl 1 rfl) ?_
          refine lv_iload_n hx hb dX5_tryMan_141 rfl (lv_at hl 2 rfl) ?_
          refine lv_iconst (v := 1) hx hb dX5_tryMan_142 (by decide) ?_
          refine lv_iadd hx hb dX5_tryMan_143 ?_
          refine lv_topi (fun x_245 ex_245 => ?_)
          have k_246 := ar_add rfl zi_1 ex_245 (by omega) (by omega)
          refine lv_iload_n hx hb dX5_tryMan_144 rfl (lv_at hl 3 rfl) ?_
          refine lv_iload_n hx hb dX5_tryMan_145 rfl (lv_at hl 4 rfl) ?_
          refine lv_iload hx hb dX5_tryMan_146 (lv_at hl 5 rfl) ?_
          refine cmVv (rest := []) (wsC := [(h0, .inr (5, [.ref pa_qsettled, .int F1_240, .int F2_240, .ref pa_qtried, .int pa_mostPairs, .ref g])), (pa_qsettled, .inl (cA 1, 8, .inl F3_240)), (pa_qtried, .inl (cA 1, 8, .inl F4_240)), (g, .inr (3, [.int g_odds, .int g_pot, .int g_lines, .int g_men, .int g_clauses, .int g_winds, .int g_far0, .int g_far1, .ref g_qsides, .ref g_qgrips, .ref g_qwits, .ref g_qsays, .ref g_qgives0, .ref g_qgives1, .ref g_qfroms, .ref g_qtos])), (g_qsides, .inl (cA 1, 8, .inl g_csides)), (g_qgrips, .inl (cA 1, 8, .inl g_cgrips)), (g_qwits, .inl (cA 1, 8, .inl g_cwits))]) (wr := []) ⟨hx, hb, hml, hown, hts⟩ hKN hP hD hS hA [0, 1, 2, 3, 4, 5, 6] [] rfl rfl (by decide) (by decide) (by decide) (g_X5_tryMan_5 l D cA _ h0 pa_qsettled F1_240 F2_240 pa_qtried pa_mostPairs g F3_240 F4_240 g_odds g_pot g_lines g_men g_clauses g_winds g_far0 g_far1 g_qsides g_qgrips g_qwits g_qsays g_qgives0 g_qgives1 g_qfroms g_qtos g_csides g_cgrips g_cwits x_245 p1 p2 p3 (by omega) (by omega) (by omega) (by omega) (by omega) (by omega) (by omega) (by omega)) (tb_V tw_884 tw_886 tw_13 tw_110 tw_887) hdX5_tryMan ⟨rfl, rfl, Nat.le_of_ble_eq_true rfl, Nat.le_of_ble_eq_true rfl⟩ ⟨Nat.le_of_ble_eq_true rfl, Nat.le_of_ble_eq_true rfl⟩ rfl rfl rfl hl.1 rfl (Nat.le_of_ble_eq_true rfl) dX5_tryMan_148 (fun u_247 H locs hr_247 hP hD hS => ?_)
          have hP : va_P D vwCl [(h0, .inr (5, [.ref pa_qsettled, .int (u_247.2.1 0), .int (u_247.2.1 1), .ref pa_qtried, .int pa_mostPairs, .ref g])), (pa_qsettled, .inl (cA 1, 8, .inl (u_247.2.2.1 0))), (pa_qtried, .inl (cA 1, 8, .inl (u_247.2.2.1 1))), (g, .inr (3, [.int g_odds, .int g_pot, .int g_lines, .int g_men, .int g_clauses, .int g_winds, .int g_far0, .int g_far1, .ref g_qsides, .ref g_qgrips, .ref g_qwits, .ref g_qsays, .ref g_qgives0, .ref g_qgives1, .ref g_qfroms, .ref g_qtos])), (g_qsides, .inl (cA 1, 8, .inl g_csides)), (g_qgrips, .inl (cA 1, 8, .inl g_cgrips)), (g_qwits, .inl (cA 1, 8, .inl g_cwits))] H := hP
          have hD : va_D A [(h0, .inr (5, [.ref pa_qsettled, .int (u_247.2.1 0), .int (u_247.2.1 1), .ref pa_qtried, .int pa_mostPairs, .ref g])), (pa_qsettled, .inl (cA 1, 8, .inl (u_247.2.2.1 0))), (pa_qtried, .inl (cA 1, 8, .inl (u_247.2.2.1 1))), (g, .inr (3, [.int g_odds, .int g_pot, .int g_lines, .int g_men, .int g_clauses, .int g_winds, .int g_far0, .int g_far1, .ref g_qsides, .ref g_qgrips, .ref g_qwits, .ref g_qsays, .ref g_qgives0, .ref g_qgives1, .ref g_qfroms, .ref g_qtos])), (g_qsides, .inl (cA 1, 8, .inl g_csides)), (g_qgrips, .inl (cA 1, 8, .inl g_cgrips)), (g_qwits, .inl (cA 1, 8, .inl g_cwits))] := hD
          have hP9 := hP.sub (ws' := [(h0, .inr (5, [.ref pa_qsettled, .int (u_247.2.1 0), .int (u_247.2.1 1), .ref pa_qtried, .int pa_mostPairs, .ref g])), (pa_qsettled, .inl (cA 1, 8, .inl (u_247.2.2.1 0))), (pa_qtried, .inl (cA 1, 8, .inl (u_247.2.2.1 1))), (g, .inr (3, [.int g_odds, .int g_pot, .int g_lines, .int g_men, .int g_clauses, .int g_winds, .int g_far0, .int g_far1, .ref g_qsides, .ref g_qgrips, .ref g_qwits, .ref g_qsays, .ref g_qgives0, .ref g_qgives1, .ref g_qfroms, .ref g_qtos])), (g_qsides, .inl (cA 1, 8, .inl g_csides)), (g_qgrips, .inl (cA 1, 8, .inl g_cgrips)), (g_qwits, .inl (cA 1, 8, .inl g_cwits))]) [0, 1, 2, 3, 4, 5, 6] rfl
          have hD9 := hD.sub (ws' := [(h0, .inr (5, [.ref pa_qsettled, .int (u_247.2.1 0), .int (u_247.2.1 1), .ref pa_qtried, .int pa_mostPairs, .ref g])), (pa_qsettled, .inl (cA 1, 8, .inl (u_247.2.2.1 0))), (pa_qtried, .inl (cA 1, 8, .inl (u_247.2.2.1 1))), (g, .inr (3, [.int g_odds, .int g_pot, .int g_lines, .int g_men, .int g_clauses, .int g_winds, .int g_far0, .int g_far1, .ref g_qsides, .ref g_qgrips, .ref g_qwits, .ref g_qsays, .ref g_qgives0, .ref g_qgives1, .ref g_qfroms, .ref g_qtos])), (g_qsides, .inl (cA 1, 8, .inl g_csides)), (g_qgrips, .inl (cA 1, 8, .inl g_cgrips)), (g_qwits, .inl (cA 1, 8, .inl g_cwits))]) [0, 1, 2, 3, 4, 5, 6] (by decide) rfl
          exact W.vret hx hb hr (fun t ht hW => ⟨⟨((fun _ => 0), (selI [(u_247.2.1 0), (u_247.2.1 1)]), (selF [(u_247.2.2.1 0), (u_247.2.2.1 1)]), (fun _ _ => 0)), rfl, trivial, by rw [ht]; exact hP9, hD9⟩, hS.F ht⟩) hS.2.2 dX5_tryMan_151
        · skip
          have k_248 := kk_nle rfl rfl c_243
          refine lv_aload_n hx hb dX5_tryMan_46 rfl (lv_at hl 1 rfl) ?_
          refine va_get (D := D) (ci := 5) (v := .ref g) (C := RX5) (T := TX5) (N := 6) hx hb hts inX5 hown hKN.1 hP 0 rfl rfl 5 (by decide) (hts _ tw_384) (fun _ h9 => h9) rfl dX5_tryMan_47 ?_
          refine lv_iload hx hb dX5_tryMan_50 (lv_at hl 0 rfl) ?_
          refine cpVi (rest := []) ⟨hx, hb, hml, hown, hts⟩ hKN (hP.sub (ws' := [(g, .inr (3, [.int g_odds, .int g_pot, .int g_lines, .int g_men, .int g_clauses, .int g_winds, .int g_far0, .int g_far1, .ref g_qsides, .ref g_qgrips, .ref g_qwits, .ref g_qsays, .ref g_qgives0, .ref g_qgives1, .ref g_qfroms, .ref g_qtos])), (g_qsides, .inl (cA 1, 8, .inl g_csides))]) [3, 4] rfl) (g_X3_sideOf l D cA g g_odds g_pot g_lines g_men g_clauses g_winds g_far0 g_far1 g_qsides g_qgrips g_qwits g_qsays g_qgives0 g_qgives1 g_qfroms g_qtos g_csides L5_240 (by omega) (by omega) (by omega) (by omega) (by omega) (by omega) (by omega)) (tb_V tw_882 tw_703 tw_704 tw_104 tw_705) hdX3_sideOf ⟨rfl, rfl, Nat.le_of_ble_eq_true rfl, Nat.le_of_ble_eq_true rfl⟩ ⟨Nat.le_of_ble_eq_true rfl, Nat.le_of_ble_eq_true rfl⟩ rfl rfl rfl hl.1 rfl (Nat.le_of_ble_eq_true rfl) dX5_tryMan_52 (fun r_249 hr_249 => ?_)
          rcases hr_249 with ⟨k_249_0_0, k_249_0_1⟩ | rfl
          · skip
            refine lv_iconst (v := 1) hx hb dX5_tryMan_55 (by decide) ?_
            refine lv_icmp_ne (tgt := 134) hx hb dX5_tryMan_56 (by decide) (fun c_250 => ?_) (fun c_250 => ?_)
            · skip
              have b_252 := i32_bd r_249
              have k_251 := kk_ne rfl zi_1 c_250
              obtain ⟨x_253, ex_253⟩ : ∃ y : Int32, L5_240 + Int32.ofInt 1 = y := ⟨_, rfl⟩
              have k_254 := ar_add (b := 1) rfl zi_1 ex_253.symm (by omega) (by omega)
              refine lv_iinc (v := x_253) (lv' := [(5, .int x_253), (0, .ref h0), (1, .int p0), (2, .int p1), (3, .int p2), (4, .int p3)]) hx hb dX5_tryMan_134 hl (k := 0) rfl ex_253 (by decide) rfl (fun ls hl => ?_)
              refine lv_goto (tgt := 34) hx hb dX5_tryMan_137 (by decide) ?_
              exact ih_240 (x_253, F1_240, F2_240, F3_240, F4_240) _ _ _ ⟨(show 0 ≤ x_253.toInt ∧ x_253.toInt ≤ 8 from by omega), hP.sub [0, 1, 2, 3, 4, 5, 6] rfl, hD.sub [0, 1, 2, 3, 4, 5, 6] (by decide) rfl, hS, lv_sub hl [0, 1, 2, 3, 4, 5] rfl⟩ (by show (2147483647 - x_253.toInt).toNat < (2147483647 - L5_240.toInt).toNat; omega)
            · skip
              have b_256 := i32_bd r_249
              have k_255 := kk_eq rfl zi_1 c_250
              refine lv_aload_n hx hb dX5_tryMan_59 rfl (lv_at hl 1 rfl) ?_
              refine va_get (D := D) (ci := 5) (v := .ref pa_qtried) (C := RX5) (T := TX5) (N := 6) hx hb hts inX5 hown hKN.1 hP 0 rfl rfl 3 (by decide) (hts _ tw_382) (fun _ h9 => h9) rfl dX5_tryMan_60 ?_
              refine lv_iload hx hb dX5_tryMan_63 (lv_at hl 0 rfl) ?_
              refine va_iald hx hb hKN.1 hP 2 1 rfl rfl (vp_in_iff.mpr ⟨by omega, by omega⟩) dX5_tryMan_65 ?_
              refine lv_topi (fun x_257 ex_257 => ?_)
              refine lv_iconst (v := (-1)) hx hb dX5_tryMan_66 (by decide) ?_
              refine lv_icmp_ne (tgt := 134) hx hb dX5_tryMan_67 (by decide) (fun c_258 => ?_) (fun c_258 => ?_)
              · skip
                have b_260 := i32_bd x_257
                have k_259 := kk_ne rfl zi_m1 c_258
                obtain ⟨x_261, ex_261⟩ : ∃ y : Int32, L5_240 + Int32.ofInt 1 = y := ⟨_, rfl⟩
                have k_262 := ar_add (b := 1) rfl zi_1 ex_261.symm (by omega) (by omega)
                refine lv_iinc (v := x_261) (lv' := [(5, .int x_261), (0, .ref h0), (1, .int p0), (2, .int p1), (3, .int p2), (4, .int p3)]) hx hb dX5_tryMan_134 hl (k := 0) rfl ex_261 (by decide) rfl (fun ls hl => ?_)
                refine lv_goto (tgt := 34) hx hb dX5_tryMan_137 (by decide) ?_
                exact ih_240 (x_261, F1_240, F2_240, F3_240, F4_240) _ _ _ ⟨(show 0 ≤ x_261.toInt ∧ x_261.toInt ≤ 8 from by omega), hP.sub [0, 1, 2, 3, 4, 5, 6] rfl, hD.sub [0, 1, 2, 3, 4, 5, 6] (by decide) rfl, hS, lv_sub hl [0, 1, 2, 3, 4, 5] rfl⟩ (by show (2147483647 - x_261.toInt).toNat < (2147483647 - L5_240.toInt).toNat; omega)
              · skip
                have b_264 := i32_bd x_257
                have k_263 := kk_eq rfl zi_m1 c_258
                refine lv_aload_n hx hb dX5_tryMan_70 rfl (lv_at hl 1 rfl) ?_
                refine va_get (D := D) (ci := 5) (v := .ref g) (C := RX5) (T := TX5) (N := 6) hx hb hts inX5 hown hKN.1 hP 0 rfl rfl 5 (by decide) (hts _ tw_384) (fun _ h9 => h9) rfl dX5_tryMan_71 ?_
                refine lv_iload_n hx hb dX5_tryMan_74 rfl (lv_at hl 2 rfl) ?_
                refine lv_iload hx hb dX5_tryMan_75 (lv_at hl 0 rfl) ?_
                refine cpVi (rest := []) ⟨hx, hb, hml, hown, hts⟩ hKN (hP.sub (ws' := [(g, .inr (3, [.int g_odds, .int g_pot, .int g_lines, .int g_men, .int g_clauses, .int g_winds, .int g_far0, .int g_far1, .ref g_qsides, .ref g_qgrips, .ref g_qwits, .ref g_qsays, .ref g_qgives0, .ref g_qgives1, .ref g_qfroms, .ref g_qtos])), (g_qsides, .inl (cA 1, 8, .inl g_csides)), (g_qgrips, .inl (cA 1, 8, .inl g_cgrips)), (g_qwits, .inl (cA 1, 8, .inl g_cwits))]) [3, 4, 5, 6] rfl) (g_X3_holdOrRefusal l D cA g g_odds g_pot g_lines g_men g_clauses g_winds g_far0 g_far1 g_qsides g_qgrips g_qwits g_qsays g_qgives0 g_qgives1 g_qfroms g_qtos g_csides g_cgrips g_cwits p0 L5_240 (by omega) (by omega) (by omega) (by omega) (by omega) (by omega) (by omega)) (tb_V tw_895 tw_844 tw_845 tw_104 tw_846) hdX3_holdOrRefusal ⟨rfl, rfl, Nat.le_of_ble_eq_true rfl, Nat.le_of_ble_eq_true rfl⟩ ⟨Nat.le_of_ble_eq_true rfl, Nat.le_of_ble_eq_true rfl⟩ rfl rfl rfl hl.1 rfl (Nat.le_of_ble_eq_true rfl) dX5_tryMan_77 (fun r_265 hr_265 => ?_)
                refine lv_istore (lv' := [(6, .int r_265), (5, .int L5_240), (0, .ref h0), (1, .int p0), (2, .int p1), (3, .int p2), (4, .int p3)]) hx hb dX5_tryMan_80 hl (by decide) rfl (fun ls hl => ?_)
                refine lv_aload_n hx hb dX5_tryMan_82 rfl (lv_at hl 2 rfl) ?_
                refine va_get (D := D) (ci := 5) (v := .ref pa_qtried) (C := RX5) (T := TX5) (N := 6) hx hb hts inX5 hown hKN.1 hP 0 rfl rfl 3 (by decide) (hts _ tw_382) (fun _ h9 => h9) rfl dX5_tryMan_83 ?_
                refine lv_iload_n hx hb dX5_tryMan_86 rfl (lv_at hl 3 rfl) ?_
                refine lv_iload hx hb dX5_tryMan_87 (lv_at hl 1 rfl) ?_
                refine va_iast hx hb hKN.1 hP hD hS 2 1 rfl rfl (vp_in_iff.mpr ⟨by omega, by omega⟩) dX5_tryMan_89 (fun H locs hP hD hS => ?_)
                have hP : va_P D vwCl [(h0, .inr (5, [.ref pa_qsettled, .int F1_240, .int F2_240, .ref pa_qtried, .int pa_mostPairs, .ref g])), (pa_qsettled, .inl (cA 1, 8, .inl F3_240)), (pa_qtried, .inl (cA 1, 8, .inl (upd F4_240 p0.toNatClampNeg L5_240))), (g, .inr (3, [.int g_odds, .int g_pot, .int g_lines, .int g_men, .int g_clauses, .int g_winds, .int g_far0, .int g_far1, .ref g_qsides, .ref g_qgrips, .ref g_qwits, .ref g_qsays, .ref g_qgives0, .ref g_qgives1, .ref g_qfroms, .ref g_qtos])), (g_qsides, .inl (cA 1, 8, .inl g_csides)), (g_qgrips, .inl (cA 1, 8, .inl g_cgrips)), (g_qwits, .inl (cA 1, 8, .inl g_cwits))] H := hP
                have hD : va_D A [(h0, .inr (5, [.ref pa_qsettled, .int F1_240, .int F2_240, .ref pa_qtried, .int pa_mostPairs, .ref g])), (pa_qsettled, .inl (cA 1, 8, .inl F3_240)), (pa_qtried, .inl (cA 1, 8, .inl (upd F4_240 p0.toNatClampNeg L5_240))), (g, .inr (3, [.int g_odds, .int g_pot, .int g_lines, .int g_men, .int g_clauses, .int g_winds, .int g_far0, .int g_far1, .ref g_qsides, .ref g_qgrips, .ref g_qwits, .ref g_qsays, .ref g_qgives0, .ref g_qgives1, .ref g_qfroms, .ref g_qtos])), (g_qsides, .inl (cA 1, 8, .inl g_csides)), (g_qgrips, .inl (cA 1, 8, .inl g_cgrips)), (g_qwits, .inl (cA 1, 8, .inl g_cwits))] := hD
                generalize ef_266 : (upd F4_240 p0.toNatClampNeg L5_240) = f_266 at hP hD
                refine lv_aload_n hx hb dX5_tryMan_90 rfl (lv_at hl 2 rfl) ?_
                refine va_get (D := D) (ci := 5) (v := .ref pa_qtried) (C := RX5) (T := TX5) (N := 6) hx hb hts inX5 hown hKN.1 hP 0 rfl rfl 3 (by decide) (hts _ tw_382) (fun _ h9 => h9) rfl dX5_tryMan_91 ?_
                refine lv_iload hx hb dX5_tryMan_94 (lv_at hl 1 rfl) ?_
                refine lv_iload_n hx hb dX5_tryMan_96 rfl (lv_at hl 3 rfl) ?_
                refine va_iast hx hb hKN.1 hP hD hS 2 1 rfl rfl (vp_in_iff.mpr ⟨by omega, by omega⟩) dX5_tryMan_97 (fun H locs hP hD hS => ?_)
                have hP : va_P D vwCl [(h0, .inr (5, [.ref pa_qsettled, .int F1_240, .int F2_240, .ref pa_qtried, .int pa_mostPairs, .ref g])), (pa_qsettled, .inl (cA 1, 8, .inl F3_240)), (pa_qtried, .inl (cA 1, 8, .inl (upd f_266 L5_240.toNatClampNeg p0))), (g, .inr (3, [.int g_odds, .int g_pot, .int g_lines, .int g_men, .int g_clauses, .int g_winds, .int g_far0, .int g_far1, .ref g_qsides, .ref g_qgrips, .ref g_qwits, .ref g_qsays, .ref g_qgives0, .ref g_qgives1, .ref g_qfroms, .ref g_qtos])), (g_qsides, .inl (cA 1, 8, .inl g_csides)), (g_qgrips, .inl (cA 1, 8, .inl g_cgrips)), (g_qwits, .inl (cA 1, 8, .inl g_cwits))] H := hP
                have hD : va_D A [(h0, .inr (5, [.ref pa_qsettled, .int F1_240, .int F2_240, .ref pa_qtried, .int pa_mostPairs, .ref g])), (pa_qsettled, .inl (cA 1, 8, .inl F3_240)), (pa_qtried, .inl (cA 1, 8, .inl (upd f_266 L5_240.toNatClampNeg p0))), (g, .inr (3, [.int g_odds, .int g_pot, .int g_lines, .int g_men, .int g_clauses, .int g_winds, .int g_far0, .int g_far1, .ref g_qsides, .ref g_qgrips, .ref g_qwits, .ref g_qsays, .ref g_qgives0, .ref g_qgives1, .ref g_qfroms, .ref g_qtos])), (g_qsides, .inl (cA 1, 8, .inl g_csides)), (g_qgrips, .inl (cA 1, 8, .inl g_cgrips)), (g_qwits, .inl (cA 1, 8, .inl g_cwits))] := hD
                generalize ef_267 : (upd f_266 L5_240.toNatClampNeg p0) = f_267 at hP hD
                refine lv_aload_n hx hb dX5_tryMan_98 rfl (lv_at hl 2 rfl) ?_
                refine lv_iload_n hx hb dX5_tryMan_99 rfl (lv_at hl 3 rfl) ?_
                refine lv_iconst (v := 1) hx hb dX5_tryMan_100 (by decide) ?_
                refine lv_iadd hx hb dX5_tryMan_101 ?_
                refine lv_topi (fun x_268 ex_268 => ?_)
                have k_269 := ar_add rfl zi_1 ex_268 (by omega) (by omega)
                refine lv_iload_n hx hb dX5_tryMan_102 rfl (lv_at hl 4 rfl) ?_
                refine lv_iconst (v := 1) hx hb dX5_tryMan_103 (by decide) ?_
                refine lv_iadd hx hb dX5_tryMan_104 ?_
                refine lv_topi (fun x_270 ex_270 => ?_)
                refine lv_iload_n hx hb dX5_tryMan_105 rfl (lv_at hl 5 rfl) ?_
                refine lv_iload hx hb dX5_tryMan_106 (lv_at hl 0 rfl) ?_
                refine lv_iadd hx hb dX5_tryMan_108 ?_
                refine lv_topi (fun x_272 ex_272 => ?_)
                refine lv_iload hx hb dX5_tryMan_109 (lv_at hl 6 rfl) ?_
                refine lv_iload hx hb dX5_tryMan_111 (lv_at hl 0 rfl) ?_
                refine cpSi (rest := [.int x_272, .int x_270, .int x_268, .ref h0]) ⟨hx, hb, hml, hown, hts⟩ hKN (hP.sub (ws' := []) [] rfl) (g_J9_min_7cf53 l D cA p3 r_265) (tb_S tw_883 tw_555 tw_115 tw_556) hdJ9_min_7cf53 ⟨rfl, rfl, Nat.le_of_ble_eq_true rfl, Nat.le_of_ble_eq_true rfl⟩ ⟨Nat.le_of_ble_eq_true rfl, Nat.le_of_ble_eq_true rfl⟩ rfl hl.1 rfl (Nat.le_of_ble_eq_true rfl) dX5_tryMan_113 (fun r_274 hr_274 => ?_)
                obtain ⟨k_274_0_0, k_274_0_1, k_274_0_2⟩ := hr_274
                refine cmVv (rest := []) (wsC := [(h0, .inr (5, [.ref pa_qsettled, .int F1_240, .int F2_240, .ref pa_qtried, .int pa_mostPairs, .ref g])), (pa_qsettled, .inl (cA 1, 8, .inl F3_240)), (pa_qtried, .inl (cA 1, 8, .inl f_267)), (g, .inr (3, [.int g_odds, .int g_pot, .int g_lines, .int g_men, .int g_clauses, .int g_winds, .int g_far0, .int g_far1, .ref g_qsides, .ref g_qgrips, .ref g_qwits, .ref g_qsays, .ref g_qgives0, .ref g_qgives1, .ref g_qfroms, .ref g_qtos])), (g_qsides, .inl (cA 1, 8, .inl g_csides)), (g_qgrips, .inl (cA 1, 8, .inl g_cgrips)), (g_qwits, .inl (cA 1, 8, .inl g_cwits))]) (wr := []) ⟨hx, hb, hml, hown, hts⟩ hKN hP hD hS hA [0, 1, 2, 3, 4, 5, 6] [] rfl rfl (by decide) (by decide) (by decide) (g_X5_tryMan_5 l D cA _ h0 pa_qsettled F1_240 F2_240 pa_qtried pa_mostPairs g F3_240 f_267 g_odds g_pot g_lines g_men g_clauses g_winds g_far0 g_far1 g_qsides g_qgrips g_qwits g_qsays g_qgives0 g_qgives1 g_qfroms g_qtos g_csides g_cgrips g_cwits x_268 x_270 x_272 r_274 (by omega) (by omega) (by omega) (by omega) (by omega) (by omega) (by omega) (by omega)) (tb_V tw_884 tw_886 tw_13 tw_110 tw_887) hdX5_tryMan ⟨rfl, rfl, Nat.le_of_ble_eq_true rfl, Nat.le_of_ble_eq_true rfl⟩ ⟨Nat.le_of_ble_eq_true rfl, Nat.le_of_ble_eq_true rfl⟩ rfl rfl rfl hl.1 rfl (Nat.le_of_ble_eq_true rfl) dX5_tryMan_116 (fun u_275 H locs hr_275 hP hD hS => ?_)
                have hP : va_P D vwCl [(h0, .inr (5, [.ref pa_qsettled, .int (u_275.2.1 0), .int (u_275.2.1 1), .ref pa_qtried, .int pa_mostPairs, .ref g])), (pa_qsettled, .inl (cA 1, 8, .inl (u_275.2.2.1 0))), (pa_qtried, .inl (cA 1, 8, .inl (u_275.2.2.1 1))), (g, .inr (3, [.int g_odds, .int g_pot, .int g_lines, .int g_men, .int g_clauses, .int g_winds, .int g_far0, .int g_far1, .ref g_qsides, .ref g_qgrips, .ref g_qwits, .ref g_qsays, .ref g_qgives0, .ref g_qgives1, .ref g_qfroms, .ref g_qtos])), (g_qsides, .inl (cA 1, 8, .inl g_csides)), (g_qgrips, .inl (cA 1, 8, .inl g_cgrips)), (g_qwits, .inl (cA 1, 8, .inl g_cwits))] H := hP
                have hD : va_D A [(h0, .inr (5, [.ref pa_qsettled, .int (u_275.2.1 0), .int (u_275.2.1 1), .ref pa_qtried, .int pa_mostPairs, .ref g])), (pa_qsettled, .inl (cA 1, 8, .inl (u_275.2.2.1 0))), (pa_qtried, .inl (cA 1, 8, .inl (u_275.2.2.1 1))), (g, .inr (3, [.int g_odds, .int g_pot, .int g_lines, .int g_men, .int g_clauses, .int g_winds, .int g_far0, .int g_far1, .ref g_qsides, .ref g_qgrips, .ref g_qwits, .ref g_qsays, .ref g_qgives0, .ref g_qgives1, .ref g_qfroms, .ref g_qtos])), (g_qsides, .inl (cA 1, 8, .inl g_csides)), (g_qgrips, .inl (cA 1, 8, .inl g_cgrips)), (g_qwits, .inl (cA 1, 8, .inl g_cwits))] := hD
                refine lv_aload_n hx hb dX5_tryMan_119 rfl (lv_at hl 2 rfl) ?_
                refine va_get (D := D) (ci := 5) (v := .ref pa_qtried) (C := RX5) (T := TX5) (N := 6) hx hb hts inX5 hown hKN.1 hP 0 rfl rfl 3 (by decide) (hts _ tw_382) (fun _ h9 => h9) rfl dX5_tryMan_120 ?_
                refine lv_iload_n hx hb dX5_tryMan_123 rfl (lv_at hl 3 rfl) ?_
                refine lv_iconst (v := (-1)) hx hb dX5_tryMan_124 (by decide) ?_
                refine va_iast hx hb hKN.1 hP hD hS 2 1 rfl rfl (vp_in_iff.mpr ⟨by omega, by omega⟩) dX5_tryMan_125 (fun H locs hP hD hS => ?_)
                have hP : va_P D vwCl [(h0, .inr (5, [.ref pa_qsettled, .int (u_275.2.1 0), .int (u_275.2.1 1), .ref pa_qtried, .int pa_mostPairs, .ref g])), (pa_qsettled, .inl (cA 1, 8, .inl (u_275.2.2.1 0))), (pa_qtried, .inl (cA 1, 8, .inl (upd (u_275.2.2.1 1) p0.toNatClampNeg (-1)))), (g, .inr (3, [.int g_odds, .int g_pot, .int g_lines, .int g_men, .int g_clauses, .int g_winds, .int g_far0, .int g_far1, .ref g_qsides, .ref g_qgrips, .ref g_qwits, .ref g_qsays, .ref g_qgives0, .ref g_qgives1, .ref g_qfroms, .ref g_qtos])), (g_qsides, .inl (cA 1, 8, .inl g_csides)), (g_qgrips, .inl (cA 1, 8, .inl g_cgrips)), (g_qwits, .inl (cA 1, 8, .inl g_cwits))] H := hP
                have hD : va_D A [(h0, .inr (5, [.ref pa_qsettled, .int (u_275.2.1 0), .int (u_275.2.1 1), .ref pa_qtried, .int pa_mostPairs, .ref g])), (pa_qsettled, .inl (cA 1, 8, .inl (u_275.2.2.1 0))), (pa_qtried, .inl (cA 1, 8, .inl (upd (u_275.2.2.1 1) p0.toNatClampNeg (-1)))), (g, .inr (3, [.int g_odds, .int g_pot, .int g_lines, .int g_men, .int g_clauses, .int g_winds, .int g_far0, .int g_far1, .ref g_qsides, .ref g_qgrips, .ref g_qwits, .ref g_qsays, .ref g_qgives0, .ref g_qgives1, .ref g_qfroms, .ref g_qtos])), (g_qsides, .inl (cA 1, 8, .inl g_csides)), (g_qgrips, .inl (cA 1, 8, .inl g_cgrips)), (g_qwits, .inl (cA 1, 8, .inl g_cwits))] := hD
                generalize ef_276 : (upd (u_275.2.2.1 1) p0.toNatClampNeg (-1)) = f_276 at hP hD
                refine lv_aload_n hx hb dX5_tryMan_126 rfl (lv_at hl 2 rfl) ?_
                refine va_get (D := D) (ci := 5) (v := .ref pa_qtried) (C := RX5) (T := TX5) (N := 6) hx hb hts inX5 hown hKN.1 hP 0 rfl rfl 3 (by decide) (hts _ tw_382) (fun _ h9 => h9) rfl dX5_tryMan_127 ?_
                refine lv_iload hx hb dX5_tryMan_130 (lv_at hl 1 rfl) ?_
                refine lv_iconst (v := (-1)) hx hb dX5_tryMan_132 (by decide) ?_
                refine va_iast hx hb hKN.1 hP hD hS 2 1 rfl rfl (vp_in_iff.mpr ⟨by omega, by omega⟩) dX5_tryMan_133 (fun H locs hP hD hS => ?_)
                have hP : va_P D vwCl [(h0, .inr (5, [.ref pa_qsettled, .int (u_275.2.1 0), .int (u_275.2.1 1), .ref pa_qtried, .int pa_mostPairs, .ref g])), (pa_qsettled, .inl (cA 1, 8, .inl (u_275.2.2.1 0))), (pa_qtried, .inl (cA 1, 8, .inl (upd f_276 L5_240.toNatClampNeg (-1)))), (g, .inr (3, [.int g_odds, .int g_pot, .int g_lines, .int g_men, .int g_clauses, .int g_winds, .int g_far0, .int g_far1, .ref g_qsides, .ref g_qgrips, .ref g_qwits, .ref g_qsays, .ref g_qgives0, .ref g_qgives1, .ref g_qfroms, .ref g_qtos])), (g_qsides, .inl (cA 1, 8, .inl g_csides)), (g_qgrips, .inl (cA 1, 8, .inl g_cgrips)), (g_qwits, .inl (cA 1, 8, .inl g_cwits))] H := hP
                have hD : va_D A [(h0, .inr (5, [.ref pa_qsettled, .int (u_275.2.1 0), .int (u_275.2.1 1), .ref pa_qtried, .int pa_mostPairs, .ref g])), (pa_qsettled, .inl (cA 1, 8, .inl (u_275.2.2.1 0))), (pa_qtried, .inl (cA 1, 8, .inl (upd f_276 L5_240.toNatClampNeg (-1)))), (g, .inr (3, [.int g_odds, .int g_pot, .int g_lines, .int g_men, .int g_clauses, .int g_winds, .int g_far0, .int g_far1, .ref g_qsides, .ref g_qgrips, .ref g_qwits, .ref g_qsays, .ref g_qgives0, .ref g_qgives1, .ref g_qfroms, .ref g_qtos])), (g_qsides, .inl (cA 1, 8, .inl g_csides)), (g_qgrips, .inl (cA 1, 8, .inl g_cgrips)), (g_qwits, .inl (cA 1, 8, .inl g_cwits))] := hD
                generalize ef_277 : (upd f_276 L5_240.toNatClampNeg (-1)) = f_277 at hP hD
                obtain ⟨x_278, ex_278⟩ : ∃ y : Int32, L5_240 + Int32.ofInt 1 = y := ⟨_, rfl⟩
                have k_279 := ar_add (b := 1) rfl zi_1 ex_278.symm (by omega) (by omega)
                refine lv_iinc (v := x_278) (lv' := [(5, .int x_278), (6, .int r_265), (0, .ref h0), (1, .int p0), (2, .int p1), (3, .int p2), (4, .int p3)]) hx hb dX5_tryMan_134 hl (k := 1) rfl ex_278 (by decide) rfl (fun ls hl => ?_)
                refine lv_goto (tgt := 34) hx hb dX5_tryMan_137 (by decide) ?_
                exact ih_240 (x_278, (u_275.2.1 0), (u_275.2.1 1), (u_275.2.2.1 0), f_277) _ _ _ ⟨(show 0 ≤ x_278.toInt ∧ x_278.toInt ≤ 8 from by omega), hP.sub [0, 1, 2, 3, 4, 5, 6] rfl, hD.sub [0, 1, 2, 3, 4, 5, 6] (by decide) rfl, hS, lv_sub hl [0, 2, 3, 4, 5, 6] rfl⟩ (by show (2147483647 - x_278.toInt).toNat < (2147483647 - L5_240.toInt).toNat; omega)
          · skip
            refine lv_iconst (v := 1) hx hb dX5_tryMan_55 (by decide) ?_
            refine lv_icmp_ne (tgt := 134) hx hb dX5_tryMan_56 (by decide) (fun c_280 => ?_) (fun c_280 => absurd c_280 (by decide))
            obtain ⟨x_281, ex_281⟩ : ∃ y : Int32, L5_240 + Int32.ofInt 1 = y := ⟨_, rfl⟩
            have k_282 := ar_add (b := 1) rfl zi_1 ex_281.symm (by omega) (by omega)
            refine lv_iinc (v := x_281) (lv' := [(5, .int x_281), (0, .ref h0), (1, .int p0), (2, .int p1), (3, .int p2), (4, .int p3)]) hx hb dX5_tryMan_134 hl (k := 0) rfl ex_281 (by decide) rfl (fun ls hl => ?_)
            refine lv_goto (tgt := 34) hx hb dX5_tryMan_137 (by decide) ?_
            exact ih_240 (x_281, F1_240, F2_240, F3_240, F4_240) _ _ _ ⟨(show 0 ≤ x_281.toInt ∧ x_281.toInt ≤ 8 from by omega), hP.sub [0, 1, 2, 3, 4, 5, 6] rfl, hD.sub [0, 1, 2, 3, 4, 5, 6] (by decide) rfl, hS, lv_sub hl [0, 1, 2, 3, 4, 5] rfl⟩ (by show (2147483647 - x_281.toInt).toNat < (2147483647 - L5_240.toInt).toNat; omega)
    · skip
      refine lv_if_ne (tgt := 140) hx hb dX5_tryMan_28 (by decide) (fun c_283 => ?_) (fun c_283 => absurd c_283 (by decide))
      refine lv_aload_n hx hb dX5_tryMan_140 rfl (lv_at hl 0 rfl) ?_
      refine lv_iload_n hx hb dX5_tryMan_141 rfl (lv_at hl 1 rfl) ?_
      refine lv_iconst (v := 1) hx hb dX5_tryMan_142 (by decide) ?_
      refine lv_iadd hx hb dX5_tryMan_143 ?_
      refine lv_topi (fun x_284 ex_284 => ?_)
      have k_285 := ar_add rfl zi_1 ex_284 (by omega) (by omega)
      refine lv_iload_n hx hb dX5_tryMan_144 rfl (lv_at hl 2 rfl) ?_
      refine lv_iload_n hx hb dX5_tryMan_145 rfl (lv_at hl 3 rfl) ?_
      refine lv_iload hx hb dX5_tryMan_146 (lv_at hl 4 rfl) ?_
      refine cmVv (rest := []) (wsC := [(h0, .inr (5, [.ref pa_qsettled, .int pa_greatestSum, .int pa_fairest, .ref pa_qtried, .int pa_mostPairs, .ref g])), (pa_qsettled, .inl (cA 1, 8, .inl pa_csettled)), (pa_qtried, .inl (cA 1, 8, .inl pa_ctried)), (g, .inr (3, [.int g_odds, .int g_pot, .int g_lines, .int g_men, .int g_clauses, .int g_winds, .int g_far0, .int g_far1, .ref g_qsides, .ref g_qgrips, .ref g_qwits, .ref g_qsays, .ref g_qgives0, .ref g_qgives1, .ref g_qfroms, .ref g_qtos])), (g_qsides, .inl (cA 1, 8, .inl g_csides)), (g_qgrips, .inl (cA 1, 8, .inl g_cgrips)), (g_qwits, .inl (cA 1, 8, .inl g_cwits))]) (wr := []) ⟨hx, hb, hml, hown, hts⟩ hKN hP hD hS hA [0, 1, 2, 3, 4, 5, 6] [] rfl rfl (by decide) (by decide) (by decide) (g_X5_tryMan_5 l D cA _ h0 pa_qsettled pa_greatestSum pa_fairest pa_qtried pa_mostPairs g pa_csettled pa_ctried g_odds g_pot g_lines g_men g_clauses g_winds g_far0 g_far1 g_qsides g_qgrips g_qwits g_qsays g_qgives0 g_qgives1 g_qfroms g_qtos g_csides g_cgrips g_cwits x_284 p1 p2 p3 (by omega) (by omega) (by omega) (by omega) (by omega) (by omega) (by omega) (by omega)) (tb_V tw_884 tw_886 tw_13 tw_110 tw_887) hdX5_tryMan ⟨rfl, rfl, Nat.le_of_ble_eq_true rfl, Nat.le_of_ble_eq_true rfl⟩ ⟨Nat.le_of_ble_eq_true rfl, Nat.le_of_ble_eq_true rfl⟩ rfl rfl rfl hl.1 rfl (Nat.le_of_ble_eq_true rfl) dX5_tryMan_148 (fun u_286 H locs hr_286 hP hD hS => ?_)
      have hP : va_P D vwCl [(h0, .inr (5, [.ref pa_qsettled, .int (u_286.2.1 0), .int (u_286.2.1 1), .ref pa_qtried, .int pa_mostPairs, .ref g])), (pa_qsettled, .inl (cA 1, 8, .inl (u_286.2.2.1 0))), (pa_qtried, .inl (cA 1, 8, .inl (u_286.2.2.1 1))), (g, .inr (3, [.int g_odds, .int g_pot, .int g_lines, .int g_men, .int g_clauses, .int g_winds, .int g_far0, .int g_far1, .ref g_qsides, .ref g_qgrips, .ref g_qwits, .ref g_qsays, .ref g_qgives0, .ref g_qgives1, .ref g_qfroms, .ref g_qtos])), (g_qsides, .inl (cA 1, 8, .inl g_csides)), (g_qgrips, .inl (cA 1, 8, .inl g_cgrips)), (g_qwits, .inl (cA 1, 8, .inl g_cwits))] H := hP
      have hD : va_D A [(h0, .inr (5, [.ref pa_qsettled, .int (u_286.2.1 0), .int (u_286.2.1 1), .ref pa_qtried, .int pa_mostPairs, .ref g])), (pa_qsettled, .inl (cA 1, 8, .inl (u_286.2.2.1 0))), (pa_qtried, .inl (cA 1, 8, .inl (u_286.2.2.1 1))), (g, .inr (3, [.int g_odds, .int g_pot, .int g_lines, .int g_men, .int g_clauses, .int g_winds, .int g_far0, .int g_far1, .ref g_qsides, .ref g_qgrips, .ref g_qwits, .ref g_qsays, .ref g_qgives0, .ref g_qgives1, .ref g_qfroms, .ref g_qtos])), (g_qsides, .inl (cA 1, 8, .inl g_csides)), (g_qgrips, .inl (cA 1, 8, .inl g_cgrips)), (g_qwits, .inl (cA 1, 8, .inl g_cwits))] := hD
      have hP9 := hP.sub (ws' := [(h0, .inr (5, [.ref pa_qsettled, .int (u_286.2.1 0), .int (u_286.2.1 1), .ref pa_qtried, .int pa_mostPairs, .ref g])), (pa_qsettled, .inl (cA 1, 8, .inl (u_286.2.2.1 0))), (pa_qtried, .inl (cA 1, 8, .inl (u_286.2.2.1 1))), (g, .inr (3, [.int g_odds, .int g_pot, .int g_lines, .int g_men, .int g_clauses, .int g_winds, .int g_far0, .int g_far1, .ref g_qsides, .ref g_qgrips, .ref g_qwits, .ref g_qsays, .ref g_qgives0, .ref g_qgives1, .ref g_qfroms, .ref g_qtos])), (g_qsides, .inl (cA 1, 8, .inl g_csides)), (g_qgrips, .inl (cA 1, 8, .inl g_cgrips)), (g_qwits, .inl (cA 1, 8, .inl g_cwits))]) [0, 1, 2, 3, 4, 5, 6] rfl
      have hD9 := hD.sub (ws' := [(h0, .inr (5, [.ref pa_qsettled, .int (u_286.2.1 0), .int (u_286.2.1 1), .ref pa_qtried, .int pa_mostPairs, .ref g])), (pa_qsettled, .inl (cA 1, 8, .inl (u_286.2.2.1 0))), (pa_qtried, .inl (cA 1, 8, .inl (u_286.2.2.1 1))), (g, .inr (3, [.int g_odds, .int g_pot, .int g_lines, .int g_men, .int g_clauses, .int g_winds, .int g_far0, .int g_far1, .ref g_qsides, .ref g_qgrips, .ref g_qwits, .ref g_qsays, .ref g_qgives0, .ref g_qgives1, .ref g_qfroms, .ref g_qtos])), (g_qsides, .inl (cA 1, 8, .inl g_csides)), (g_qgrips, .inl (cA 1, 8, .inl g_cgrips)), (g_qwits, .inl (cA 1, 8, .inl g_cwits))]) [0, 1, 2, 3, 4, 5, 6] (by decide) rfl
      exact W.vret hx hb hr (fun t ht hW => ⟨⟨((fun _ => 0), (selI [(u_286.2.1 0), (u_286.2.1 1)]), (selF [(u_286.2.2.1 0), (u_286.2.2.1 1)]), (fun _ _ => 0)), rfl, trivial, by rw [ht]; exact hP9, hD9⟩, hS.F ht⟩) hS.2.2 dX5_tryMan_151
  · skip
    refine lv_if_ne (tgt := 20) hx hb dX5_tryMan_8 (by decide) (fun c_287 => absurd (by decide) c_287) (fun c_287 => ?_)
    refine lv_aload_n hx hb dX5_tryMan_11 rfl (lv_at hl 0 rfl) ?_
    refine lv_iload_n hx hb dX5_tryMan_12 rfl (lv_at hl 2 rfl) ?_
    refine lv_iload_n hx hb dX5_tryMan_13 rfl (lv_at hl 3 rfl) ?_
    refine lv_iload hx hb dX5_tryMan_14 (lv_at hl 4 rfl) ?_
    refine cmVv (rest := []) (wsC := [(h0, .inr (5, [.ref pa_qsettled, .int pa_greatestSum, .int pa_fairest, .ref pa_qtried, .int pa_mostPairs, .ref g])), (pa_qsettled, .inl (cA 1, 8, .inl pa_csettled)), (pa_qtried, .inl (cA 1, 8, .inl pa_ctried))]) (wr := [(g, .inr (3, [.int g_odds, .int g_pot, .int g_lines, .int g_men, .int g_clauses, .int g_winds, .int g_far0, .int g_far1, .ref g_qsides, .ref g_qgrips, .ref g_qwits, .ref g_qsays, .ref g_qgives0, .ref g_qgives1, .ref g_qfroms, .ref g_qtos])), (g_qsides, .inl (cA 1, 8, .inl g_csides)), (g_qgrips, .inl (cA 1, 8, .inl g_cgrips)), (g_qwits, .inl (cA 1, 8, .inl g_cwits))]) ⟨hx, hb, hml, hown, hts⟩ hKN hP hD hS hA [0, 1, 2] [3, 4, 5, 6] rfl rfl (by decide) (by decide) (by decide) (g_X5_weigh l D cA _ h0 pa_qsettled pa_greatestSum pa_fairest pa_qtried pa_mostPairs g pa_csettled pa_ctried p1 p2 p3) (tb_V tw_889 tw_891 tw_14 tw_110 tw_892) hdX5_weigh ⟨rfl, rfl, Nat.le_of_ble_eq_true rfl, Nat.le_of_ble_eq_true rfl⟩ ⟨Nat.le_of_ble_eq_true rfl, Nat.le_of_ble_eq_true rfl⟩ rfl rfl rfl hl.1 rfl (Nat.le_of_ble_eq_true rfl) dX5_tryMan_16 (fun u_288 H locs hr_288 hP hD hS => ?_)
    have hP : va_P D vwCl [(g, .inr (3, [.int g_odds, .int g_pot, .int g_lines, .int g_men, .int g_clauses, .int g_winds, .int g_far0, .int g_far1, .ref g_qsides, .ref g_qgrips, .ref g_qwits, .ref g_qsays, .ref g_qgives0, .ref g_qgives1, .ref g_qfroms, .ref g_qtos])), (g_qsides, .inl (cA 1, 8, .inl g_csides)), (g_qgrips, .inl (cA 1, 8, .inl g_cgrips)), (g_qwits, .inl (cA 1, 8, .inl g_cwits)), (h0, .inr (5, [.ref pa_qsettled, .int (u_288.2.1 0), .int (u_288.2.1 1), .ref pa_qtried, .int pa_mostPairs, .ref g])), (pa_qsettled, .inl (cA 1, 8, .inl (u_288.2.2.1 0))), (pa_qtried, .inl (cA 1, 8, .inl pa_ctried))] H := hP
    have hD : va_D A [(g, .inr (3, [.int g_odds, .int g_pot, .int g_lines, .int g_men, .int g_clauses, .int g_winds, .int g_far0, .int g_far1, .ref g_qsides, .ref g_qgrips, .ref g_qwits, .ref g_qsays, .ref g_qgives0, .ref g_qgives1, .ref g_qfroms, .ref g_qtos])), (g_qsides, .inl (cA 1, 8, .inl g_csides)), (g_qgrips, .inl (cA 1, 8, .inl g_cgrips)), (g_qwits, .inl (cA 1, 8, .inl g_cwits)), (h0, .inr (5, [.ref pa_qsettled, .int (u_288.2.1 0), .int (u_288.2.1 1), .ref pa_qtried, .int pa_mostPairs, .ref g])), (pa_qsettled, .inl (cA 1, 8, .inl (u_288.2.2.1 0))), (pa_qtried, .inl (cA 1, 8, .inl pa_ctried))] := hD
    have hP9 := hP.sub (ws' := [(h0, .inr (5, [.ref pa_qsettled, .int (u_288.2.1 0), .int (u_288.2.1 1), .ref pa_qtried, .int pa_mostPairs, .ref g])), (pa_qsettled, .inl (cA 1, 8, .inl (u_288.2.2.1 0))), (pa_qtried, .inl (cA 1, 8, .inl pa_ctried)), (g, .inr (3, [.int g_odds, .int g_pot, .int g_lines, .int g_men, .int g_clauses, .int g_winds, .int g_far0, .int g_far1, .ref g_qsides, .ref g_qgrips, .ref g_qwits, .ref g_qsays, .ref g_qgives0, .ref g_qgives1, .ref g_qfroms, .ref g_qtos])), (g_qsides, .inl (cA 1, 8, .inl g_csides)), (g_qgrips, .inl (cA 1, 8, .inl g_cgrips)), (g_qwits, .inl (cA 1, 8, .inl g_cwits))]) [4, 5, 6, 0, 1, 2, 3] rfl
    have hD9 := hD.sub (ws' := [(h0, .inr (5, [.ref pa_qsettled, .int (u_288.2.1 0), .int (u_288.2.1 1), .ref pa_qtried, .int pa_mostPairs, .ref g])), (pa_qsettled, .inl (cA 1, 8, .inl (u_288.2.2.1 0))), (pa_qtried, .inl (cA 1, 8, .inl pa_ctried)), (g, .inr (3, [.int g_odds, .int g_pot, .int g_lines, .int g_men, .int g_clauses, .int g_winds, .int g_far0, .int g_far1, .ref g_qsides, .ref g_qgrips, .ref g_qwits, .ref g_qsays, .ref g_qgives0, .ref g_qgives1, .ref g_qfroms, .ref g_qtos])), (g_qsides, .inl (cA 1, 8, .inl g_csides)), (g_qgrips, .inl (cA 1, 8, .inl g_cgrips)), (g_qwits, .inl (cA 1, 8, .inl g_cwits))]) [4, 5, 6, 0, 1, 2, 3] (by decide) rfl
    exact W.vret hx hb hr (fun t ht hW => ⟨⟨((fun _ => 0), (selI [(u_288.2.1 0), (u_288.2.1 1)]), (selF [(u_288.2.2.1 0), pa_ctried]), (fun _ _ => 0)), rfl, trivial, by rw [ht]; exact hP9, hD9⟩, hS.F ht⟩) hS.2.2 dX5_tryMan_19
set_option maxHeartbeats 8000000 in
set_option maxRecDepth 100000 in
theorem g_X5_tryMan_3 (l : Launch) (D : va_G) (cA : Nat → ClassId) (sz : Nat) (h0 : Nat) (pa_qsettled : Nat) (pa_greatestSum : Int32) (pa_fairest : Int32) (pa_qtried : Nat) (pa_mostPairs : Int32) (g : Nat) (pa_csettled : Nat → Int32) (pa_ctried : Nat → Int32) (g_odds : Int32) (g_pot : Int32) (g_lines : Int32) (g_men : Int32) (g_clauses : Int32) (g_winds : Int32) (g_far0 : Int32) (g_far1 : Int32) (g_qsides : Nat) (g_qgrips : Nat) (g_qwits : Nat) (g_qsays : Nat) (g_qgives0 : Nat) (g_qgives1 : Nat) (g_qfroms : Nat) (g_qtos : Nat) (g_csides : Nat → Int32) (g_cgrips : Nat → Int32) (g_cwits : Nat → Int32) (p0 : Int32) (p1 : Int32) (p2 : Int32) (p3 : Int32) (h_g_odds : -999 ≤ (g_odds : Int32).toInt ∧ (g_odds : Int32).toInt ≤ 999) (h_g_pot : -999 ≤ (g_pot : Int32).toInt ∧ (g_pot : Int32).toInt ≤ 999) (h_g_men : 0 ≤ (g_men : Int32).toInt ∧ (g_men : Int32).toInt ≤ 8) (h_g_clauses : 0 ≤ (g_clauses : Int32).toInt ∧ (g_clauses : Int32).toInt ≤ 7) (h_g_winds : 0 ≤ (g_winds : Int32).toInt ∧ (g_winds : Int32).toInt ≤ 4) (h_g_far0 : -999 ≤ (g_far0 : Int32).toInt ∧ (g_far0 : Int32).toInt ≤ 999) (h_g_far1 : -999 ≤ (g_far1 : Int32).toInt ∧ (g_far1 : Int32).toInt ≤ 999) (h_p0 : 3 ≤ (p0 : Int32).toInt ∧ (p0 : Int32).toInt ≤ 3) : Met l yX5_tryMan (Cond.code yX5_tryMan cX5_tryMan 7 none :: TB) (rmd 7 0 0) (PM D cA sz [(h0, .inr (5, [.ref pa_qsettled, .int pa_greatestSum, .int pa_fairest, .ref pa_qtried, .int pa_mostPairs, .ref g])), (pa_qsettled, .inl (cA 1, 8, .inl pa_csettled)), (pa_qtried, .inl (cA 1, 8, .inl pa_ctried)), (g, .inr (3, [.int g_odds, .int g_pot, .int g_lines, .int g_men, .int g_clauses, .int g_winds, .int g_far0, .int g_far1, .ref g_qsides, .ref g_qgrips, .ref g_qwits, .ref g_qsays, .ref g_qgives0, .ref g_qgives1, .ref g_qfroms, .ref g_qtos])), (g_qsides, .inl (cA 1, 8, .inl g_csides)), (g_qgrips, .inl (cA 1, 8, .inl g_cgrips)), (g_qwits, .inl (cA 1, 8, .inl g_cwits))] [.ref h0, .int p0, .int p1, .int p2, .int p3]) (va_Qv (fun (u : SU) => True) (fun u t => va_P D vwCl [(h0, .inr (5, [.ref pa_qsettled, .int (u.2.1 0), .int (u.2.1 1), .ref pa_qtried, .int pa_mostPairs, .ref g])), (pa_qsettled, .inl (cA 1, 8, .inl (u.2.2.1 0))), (pa_qtried, .inl (cA 1, 8, .inl (u.2.2.1 1))), (g, .inr (3, [.int g_odds, .int g_pot, .int g_lines, .int g_men, .int g_clauses, .int g_winds, .int g_far0, .int g_far1, .ref g_qsides, .ref g_qgrips, .ref g_qwits, .ref g_qsays, .ref g_qgives0, .ref g_qgives1, .ref g_qfroms, .ref g_qtos])), (g_qsides, .inl (cA 1, 8, .inl g_csides)), (g_qgrips, .inl (cA 1, 8, .inl g_cgrips)), (g_qwits, .inl (cA 1, 8, .inl g_cwits))] t.heap ∧ va_D (va_A [(h0, .inr (5, [.ref pa_qsettled, .int pa_greatestSum, .int pa_fairest, .ref pa_qtried, .int pa_mostPairs, .ref g])), (pa_qsettled, .inl (cA 1, 8, .inl pa_csettled)), (pa_qtried, .inl (cA 1, 8, .inl pa_ctried)), (g, .inr (3, [.int g_odds, .int g_pot, .int g_lines, .int g_men, .int g_clauses, .int g_winds, .int g_far0, .int g_far1, .ref g_qsides, .ref g_qgrips, .ref g_qwits, .ref g_qsays, .ref g_qgives0, .ref g_qgives1, .ref g_qfroms, .ref g_qtos])), (g_qsides, .inl (cA 1, 8, .inl g_csides)), (g_qgrips, .inl (cA 1, 8, .inl g_cgrips)), (g_qwits, .inl (cA 1, 8, .inl g_cwits))] sz) [(h0, .inr (5, [.ref pa_qsettled, .int (u.2.1 0), .int (u.2.1 1), .ref pa_qtried, .int pa_mostPairs, .ref g])), (pa_qsettled, .inl (cA 1, 8, .inl (u.2.2.1 0))), (pa_qtried, .inl (cA 1, 8, .inl (u.2.2.1 1))), (g, .inr (3, [.int g_odds, .int g_pot, .int g_lines, .int g_men, .int g_clauses, .int g_winds, .int g_far0, .int g_far1, .ref g_qsides, .ref g_qgrips, .ref g_qwits, .ref g_qsays, .ref g_qgives0, .ref g_qgives1, .ref g_qfroms, .ref g_qtos])), (g_qsides, .inl (cA 1, 8, .inl g_csides)), (g_qgrips, .inl (cA 1, 8, .inl g_cgrips)), (g_qwits, .inl (cA 1, 8, .inl g_cwits))]) (va_A [(h0, .inr (5, [.ref pa_qsettled, .int pa_greatestSum, .int pa_fairest, .ref pa_qtried, .int pa_mostPairs, .ref g])), (pa_qsettled, .inl (cA 1, 8, .inl pa_csettled)), (pa_qtried, .inl (cA 1, 8, .inl pa_ctried)), (g, .inr (3, [.int g_odds, .int g_pot, .int g_lines, .int g_men, .int g_clauses, .int g_winds, .int g_far0, .int g_far1, .ref g_qsides, .ref g_qgrips, .ref g_qwits, .ref g_qsays, .ref g_qgives0, .ref g_qgives1, .ref g_qfroms, .ref g_qtos])), (g_qsides, .inl (cA 1, 8, .inl g_csides)), (g_qgrips, .inl (cA 1, 8, .inl g_cgrips)), (g_qwits, .inl (cA 1, 8, .inl g_cwits))] sz)) 0 0 (va_A [(h0, .inr (5, [.ref pa_qsettled, .int pa_greatestSum, .int pa_fairest, .ref pa_qtried, .int pa_mostPairs, .ref g])), (pa_qsettled, .inl (cA 1, 8, .inl pa_csettled)), (pa_qtried, .inl (cA 1, 8, .inl pa_ctried)), (g, .inr (3, [.int g_odds, .int g_pot, .int g_lines, .int g_men, .int g_clauses, .int g_winds, .int g_far0, .int g_far1, .ref g_qsides, .ref g_qgrips, .ref g_qwits, .ref g_qsays, .ref g_qgives0, .ref g_qgives1, .ref g_qfroms, .ref g_qtos])), (g_qsides, .inl (cA 1, 8, .inl g_csides)), (g_qgrips, .inl (cA 1, 8, .inl g_cgrips)), (g_qwits, .inl (cA 1, 8, .inl g_cwits))] sz) := by
  refine Met.ofW (cc := cX5_tryMan) (maxL := 7) (ret := none) (by decide) rfl ?_
  intro p e s m args below meth c s₁ B hml hv
  obtain ⟨rfl, hsz, hP, hKN, hD0⟩ := hv
  have hx := B.exec
  have hb := B.bytes
  have hr := B.returns
  have hts : ∀ w ∈ TB, w.before _ s = true := fun w h => atoms_spec B.pre w (List.mem_cons_of_mem _ h)
  have hown : s.vm.findClass RX5 = some m.cls := findClass_of_methodNamed B.named
  have hlocks := B.notSynchronized
  subst hsz
  have hD := hD0.self (sz := s.heap.size)
  generalize hAe : va_A [(h0, .inr (5, [.ref pa_qsettled, .int pa_greatestSum, .int pa_fairest, .ref pa_qtried, .int pa_mostPairs, .ref g])), (pa_qsettled, .inl (cA 1, 8, .inl pa_csettled)), (pa_qtried, .inl (cA 1, 8, .inl pa_ctried)), (g, .inr (3, [.int g_odds, .int g_pot, .int g_lines, .int g_men, .int g_clauses, .int g_winds, .int g_far0, .int g_far1, .ref g_qsides, .ref g_qgrips, .ref g_qwits, .ref g_qsays, .ref g_qgives0, .ref g_qgives1, .ref g_qfroms, .ref g_qtos])), (g_qsides, .inl (cA 1, 8, .inl g_csides)), (g_qgrips, .inl (cA 1, 8, .inl g_cgrips)), (g_qwits, .inl (cA 1, 8, .inl g_cwits))] s.heap.size = A at hD ⊢
  have hA : ∀ q : Nat, s.heap.size ≤ q → A q := fun q h => by rw [← hAe]; exact Or.inr h
  have hS : va_S A s.heap s.heap [] := va_S.rf
  have hl := lv_entry ([.ref h0, .int p0, .int p1, .int p2, .int p3]) (n := 7) (Nat.le_of_ble_eq_true rfl)
  rw [lg_entry_eq]
  generalize (lg_sl ([.ref h0, .int p0, .int p1, .int p2, .int p3]) ++ List.replicate (7 - (lg_sl ([.ref h0, .int p0, .int p1, .int p2, .int p3])).length) Slot.unset).toArray = ls at hl ⊢
  have hl : lv_has ls 7 [(0, .ref h0), (1, .int p0), (2, .int p1), (3, .int p2), (4, .int p3)] := hl
  refine lv_aload_n hx hb dX5_tryMan_0 rfl (lv_at hl 0 rfl) ?_
  refine va_get (D := D) (ci := 5) (v := .ref g) (C := RX5) (T := TX5) (N := 6) hx hb hts inX5 hown hKN.1 hP 0 rfl rfl 5 (by decide) (hts _ tw_384) (fun _ h9 => h9) rfl dX5_tryMan_1 ?_
  refine lv_iload_n hx hb dX5_tryMan_4 rfl (lv_at hl 1 rfl) ?_
  refine cpVi (rest := []) ⟨hx, hb, hml, hown, hts⟩ hKN (hP.sub (ws' := [(g, .inr (3, [.int g_odds, .int g_pot, .int g_lines, .int g_men, .int g_clauses, .int g_winds, .int g_far0, .int g_far1, .ref g_qsides, .ref g_qgrips, .ref g_qwits, .ref g_qsays, .ref g_qgives0, .ref g_qgives1, .ref g_qfroms, .ref g_qtos]))]) [3] rfl) (g_X3_hasMan l D cA g g_odds g_pot g_lines g_men g_clauses g_winds g_far0 g_far1 g_qsides g_qgrips g_qwits g_qsays g_qgives0 g_qgives1 g_qfroms g_qtos p0 (by omega) (by omega) (by omega) (by omega) (by omega) (by omega) (by omega)) (tb_V tw_888 tw_699 tw_700 tw_104 tw_701) hdX3_hasMan ⟨rfl, rfl, Nat.le_of_ble_eq_true rfl, Nat.le_of_ble_eq_true rfl⟩ ⟨Nat.le_of_ble_eq_true rfl, Nat.le_of_ble_eq_true rfl⟩ rfl rfl rfl hl.1 rfl (Nat.le_of_ble_eq_true rfl) dX5_tryMan_5 (fun r_1 hr_1 => ?_)
  rcases hr_1 with ⟨k_1_0_0, k_1_0_1, k_1_0_2, rfl⟩ | rfl
  · skip
    refine lv_if_ne (tgt := 20) hx hb dX5_tryMan_8 (by decide) (fun c_2 => ?_) (fun c_2 => absurd c_2 (by decide))
    refine lv_aload_n hx hb dX5_tryMan_20 rfl (lv_at hl 0 rfl) ?_
    refine va_get (D := D) (ci := 5) (v := .ref g) (C := RX5) (T := TX5) (N := 6) hx hb hts inX5 hown hKN.1 hP 0 rfl rfl 5 (by decide) (hts _ tw_384) (fun _ h9 => h9) rfl dX5_tryMan_21 ?_
    refine lv_iload_n hx hb dX5_tryMan_24 rfl (lv_at hl 1 rfl) ?_
    refine cpVi (rest := []) ⟨hx, hb, hml, hown, hts⟩ hKN (hP.sub (ws' := [(g, .inr (3, [.int g_odds, .int g_pot, .int g_lines, .int g_men, .int g_clauses, .int g_winds, .int g_far0, .int g_far1, .ref g_qsides, .ref g_qgrips, .ref g_qwits, .ref g_qsays, .ref g_qgives0, .ref g_qgives1, .ref g_qfroms, .ref g_qtos])), (g_qsides, .inl (cA 1, 8, .inl g_csides))]) [3, 4] rfl) (g_X3_sideOf l D cA g g_odds g_pot g_lines g_men g_clauses g_winds g_far0 g_far1 g_qsides g_qgrips g_qwits g_qsays g_qgives0 g_qgives1 g_qfroms g_qtos g_csides p0 (by omega) (by omega) (by omega) (by omega) (by omega) (by omega) (by omega)) (tb_V tw_882 tw_703 tw_704 tw_104 tw_705) hdX3_sideOf ⟨rfl, rfl, Nat.le_of_ble_eq_true rfl, Nat.le_of_ble_eq_true rfl⟩ ⟨Nat.le_of_ble_eq_true rfl, Nat.le_of_ble_eq_true rfl⟩ rfl rfl rfl hl.1 rfl (Nat.le_of_ble_eq_true rfl) dX5_tryMan_25 (fun r_3 hr_3 => ?_)
    rcases hr_3 with ⟨k_3_0_0, k_3_0_1⟩ | rfl
    · skip
      refine lv_if_ne (tgt := 140) hx hb dX5_tryMan_28 (by decide) (fun c_4 => ?_) (fun c_4 => ?_)
      · skip
        have b_6 := i32_bd r_3
        have k_5 := kk_ne rfl zi_0 c_4
        refine lv_aload_n hx hb dX5_tryMan_140 rfl (lv_at hl 0 rfl) ?_
        refine lv_iload_n hx hb dX5_tryMan_141 rfl (lv_at hl 1 rfl) ?_
        refine lv_iconst (v := 1) hx hb dX5_tryMan_142 (by decide) ?_
        refine lv_iadd hx hb dX5_tryMan_143 ?_
        refine lv_topi (fun x_7 ex_7 => ?_)
        have k_8 := ar_add rfl zi_1 ex_7 (by omega) (by omega)
        refine lv_iload_n hx hb dX5_tryMan_144 rfl (lv_at hl 2 rfl) ?_
        refine lv_iload_n hx hb dX5_tryMan_145 rfl (lv_at hl 3 rfl) ?_
        refine lv_iload hx hb dX5_tryMan_146 (lv_at hl 4 rfl) ?_
        refine cmVv (rest := []) (wsC := [(h0, .inr (5, [.ref pa_qsettled, .int pa_greatestSum, .int pa_fairest, .ref pa_qtried, .int pa_mostPairs, .ref g])), (pa_qsettled, .inl (cA 1, 8, .inl pa_csettled)), (pa_qtried, .inl (cA 1, 8, .inl pa_ctried)), (g, .inr (3, [.int g_odds, .int g_pot, .int g_lines, .int g_men, .int g_clauses, .int g_winds, .int g_far0, .int g_far1, .ref g_qsides, .ref g_qgrips, .ref g_qwits, .ref g_qsays, .ref g_qgives0, .ref g_qgives1, .ref g_qfroms, .ref g_qtos])), (g_qsides, .inl (cA 1, 8, .inl g_csides)), (g_qgrips, .inl (cA 1, 8, .inl g_cgrips)), (g_qwits, .inl (cA 1, 8, .inl g_cwits))]) (wr := []) ⟨hx, hb, hml, hown, hts⟩ hKN hP hD hS hA [0, 1, 2, 3, 4, 5, 6] [] rfl rfl (by decide) (by decide) (by decide) (g_X5_tryMan_4 l D cA _ h0 pa_qsettled pa_greatestSum pa_fairest pa_qtried pa_mostPairs g pa_csettled pa_ctried g_odds g_pot g_lines g_men g_clauses g_winds g_far0 g_far1 g_qsides g_qgrips g_qwits g_qsays g_qgives0 g_qgives1 g_qfroms g_qtos g_csides g_cgrips g_cwits x_7 p1 p2 p3 (by omega) (by omega) (by omega) (by omega) (by omega) (by omega) (by omega) (by omega)) (tb_V tw_884 tw_886 tw_13 tw_110 tw_887) hdX5_tryMan ⟨rfl, rfl, Nat.le_of_ble_eq_true rfl, Nat.le_of_ble_eq_true rfl⟩ ⟨Nat.le_of_ble_eq_true rfl, Nat.le_of_ble_eq_true rfl⟩ rfl rfl rfl hl.1 rfl (Nat.le_of_ble_eq_true rfl) dX5_tryMan_148 (fun u_9 H locs hr_9 hP hD hS => ?_)
        have hP : va_P D vwCl [(h0, .inr (5, [.ref pa_qsettled, .int (u_9.2.1 0), .int (u_9.2.1 1), .ref pa_qtried, .int pa_mostPairs, .ref g])), (pa_qsettled, .inl (cA 1, 8, .inl (u_9.2.2.1 0))), (pa_qtried, .inl (cA 1, 8, .inl (u_9.2.2.1 1))), (g, .inr (3, [.int g_odds, .int g_pot, .int g_lines, .int g_men, .int g_clauses, .int g_winds, .int g_far0, .int g_far1, .ref g_qsides, .ref g_qgrips, .ref g_qwits, .ref g_qsays, .ref g_qgives0, .ref g_qgives1, .ref g_qfroms, .ref g_qtos])), (g_qsides, .inl (cA 1, 8, .inl g_csides)), (g_qgrips, .inl (cA 1, 8, .inl g_cgrips)), (g_qwits, .inl (cA 1, 8, .inl g_cwits))] H := hP
        have hD : va_D A [(h0, .inr (5, [.ref pa_qsettled, .int (u_9.2.1 0), .int (u_9.2.1 1), .ref pa_qtried, .int pa_mostPairs, .ref g])), (pa_qsettled, .inl (cA 1, 8, .inl (u_9.2.2.1 0))), (pa_qtried, .inl (cA 1, 8, .inl (u_9.2.2.1 1))), (g, .inr (3, [.int g_odds, .int g_pot, .int g_lines, .int g_men, .int g_clauses, .int g_winds, .int g_far0, .int g_far1, .ref g_qsides, .ref g_qgrips, .ref g_qwits, .ref g_qsays, .ref g_qgives0, .ref g_qgives1, .ref g_qfroms, .ref g_qtos])), (g_qsides, .inl (cA 1, 8, .inl g_csides)), (g_qgrips, .inl (cA 1, 8, .inl g_cgrips)), (g_qwits, .inl (cA 1, 8, .inl g_cwits))] := hD
        have hP9 := hP.sub (ws' := [(h0, .inr (5, [.ref pa_qsettled, .int (u_9.2.1 0), .int (u_9.2.1 1), .ref pa_qtried, .int pa_mostPairs, .ref g])), (pa_qsettled, .inl (cA 1, 8, .inl (u_9.2.2.1 0))), (pa_qtried, .inl (cA 1, 8, .inl (u_9.2.2.1 1))), (g, .inr (3, [.int g_odds, .int g_pot, .int g_lines, .int g_men, .int g_clauses, .int g_winds, .int g_far0, .int g_far1, .ref g_qsides, .ref g_qgrips, .ref g_qwits, .ref g_qsays, .ref g_qgives0, .ref g_qgives1, .ref g_qfroms, .ref g_qtos])), (g_qsides, .inl (cA 1, 8, .inl g_csides)), (g_qgrips, .inl (cA 1, 8, .inl g_cgrips)), (g_qwits, .inl (cA 1, 8, .inl g_cwits))]) [0, 1, 2, 3, 4, 5, 6] rfl
        have hD9 := hD.sub (ws' := [(h0, .inr (5, [.ref pa_qsettled, .int (u_9.2.1 0), .int (u_9.2.1 1), .ref pa_qtried, .int pa_mostPairs, .ref g])), (pa_qsettled, .inl (cA 1, 8, .inl (u_9.2.2.1 0))), (pa_qtried, .inl (cA 1, 8, .inl (u_9.2.2.1 1))), (g, .inr (3, [.int g_odds, .int g_pot, .int g_lines, .int g_men, .int g_clauses, .int g_winds, .int g_far0, .int g_far1, .ref g_qsides, .ref g_qgrips, .ref g_qwits, .ref g_qsays, .ref g_qgives0, .ref g_qgives1, .ref g_qfroms, .ref g_qtos])), (g_qsides, .inl (cA 1, 8, .inl g_csides)), (g_qgrips, .inl (cA 1, 8, .inl g_cgrips)), (g_qwits, .inl (cA 1, 8, .inl g_cwits))]) [0, 1, 2, 3, 4, 5, 6] (by decide) rfl
        exact W.vret hx hb hr (fun t ht hW => ⟨⟨((fun _ => 0), (selI [(u_9.2.1 0), (u_9.2.1 1)]), (selF [(u_9.2.2.1 0), (u_9.2.2.1 1)]), (fun _ _ => 0)), rfl, trivial, by rw [ht]; exact hP9, hD9⟩, hS.F ht⟩) hS.2.2 dX5_tryMan_151
      · skip
        have b_11 := i32_bd r_3
        have k_10 := kk_eq rfl zi_0 c_4
        refine lv_iconst (v := 0) hx hb dX5_tryMan_31 (by decide) ?_
        refine lv_istore (lv' := [(5, .int 0), (0, .ref h0), (1, .int p0), (2, .int p1), (3, .int p2), (4, .int p3)]) hx hb dX5_tryMan_32 hl (by decide) rfl (fun ls hl => ?_)
        have b_241 := i32_bd pa_greatestSum
        have b_242 := i32_bd pa_fairest
        refine loopW (σ := Int32 × Int32 × Int32 × (Nat → Int32) × (Nat → Int32)) (fun _ => []) (fun ⟨L5_240, F1_240, F2_240, F3_240, F4_240⟩ H locs ls => (0 ≤ L5_240.toInt ∧ L5_240.toInt ≤ 8) ∧ va_P D vwCl [(h0, .inr (5, [.ref pa_qsettled, .int F1_240, .int F2_240, .ref pa_qtried, .int pa_mostPairs, .ref g])), (pa_qsettled, .inl (cA 1, 8, .inl F3_240)), (pa_qtried, .inl (cA 1, 8, .inl F4_240)), (g, .inr (3, [.int g_odds, .int g_pot, .int g_lines, .int g_men, .int g_clauses, .int g_winds, .int g_far0, .int g_far1, .ref g_qsides, .ref g_qgrips, .ref g_qwits, .ref g_qsays, .ref g_qgives0, .ref g_qgives1, .ref g_qfroms, .ref g_qtos])), (g_qsides, .inl (cA 1, 8, .inl g_csides)), (g_qgrips, .inl (cA 1, 8, .inl g_cgrips)), (g_qwits, .inl (cA 1, 8, .inl g_cwits))] H ∧ va_D A [(h0, .inr (5, [.ref pa_qsettled, .int F1_240, .int F2_240, .ref pa_qtried, .int pa_mostPairs, .ref g])), (pa_qsettled, .inl (cA 1, 8, .inl F3_240)), (pa_qtried, .inl (cA 1, 8, .inl F4_240)), (g, .inr (3, [.int g_odds, .int g_pot, .int g_lines, .int g_men, .int g_clauses, .int g_winds, .int g_far0, .int g_far1, .ref g_qsides, .ref g_qgrips, .ref g_qwits, .ref g_qsays, .ref g_qgives0, .ref g_qgives1, .ref g_qfroms, .ref g_qtos])), (g_qsides, .inl (cA 1, 8, .inl g_csides)), (g_qgrips, .inl (cA 1, 8, .inl g_cgrips)), (g_qwits, .inl (cA 1, 8, .inl g_cwits))] ∧ va_S A s.heap H locs ∧ lv_has ls 7 [(5, .int L5_240), (0, .ref h0), (1, .int p0), (2, .int p1), (3, .int p2), (4, .int p3)]) (fun ⟨L5_240, F1_240, F2_240, F3_240, F4_240⟩ => (2147483647 - L5_240.toInt).toNat) ?_ ((0, pa_greatestSum, pa_fairest, pa_csettled, pa_ctried) : Int32 × Int32 × Int32 × (Nat → Int32) × (Nat → Int32)) ⟨(by decide), hP, hD, hS, hl⟩
        intro x_240 H locs ls hI_240 ih_240
        obtain ⟨L5_240, F1_240, F2_240, F3_240, F4_240⟩ := x_240
        obtain ⟨k0_240, hP, hD, hS, hl⟩ := hI_240
        have hP : va_P D vwCl [(h0, .inr (5, [.ref pa_qsettled, .int F1_240, .int F2_240, .ref pa_qtried, .int pa_mostPairs, .ref g])), (pa_qsettled, .inl (cA 1, 8, .inl F3_240)), (pa_qtried, .inl (cA 1, 8, .inl F4_240)), (g, .inr (3, [.int g_odds, .int g_pot, .int g_lines, .int g_men, .int g_clauses, .int g_winds, .int g_far0, .int g_far1, .ref g_qsides, .ref g_qgrips, .ref g_qwits, .ref g_qsays, .ref g_qgives0, .ref g_qgives1, .ref g_qfroms, .ref g_qtos])), (g_qsides, .inl (cA 1, 8, .inl g_csides)), (g_qgrips, .inl (cA 1, 8, .inl g_cgrips)), (g_qwits, .inl (cA 1, 8, .inl g_cwits))] H := hP
        have hD : va_D A [(h0, .inr (5, [.ref pa_qsettled, .int F1_240, .int F2_240, .ref pa_qtried, .int pa_mostPairs, .ref g])), (pa_qsettled, .inl (cA 1, 8, .inl F3_240)), (pa_qtried, .inl (cA 1, 8, .inl F4_240)), (g, .inr (3, [.int g_odds, .int g_pot, .int g_lines, .int g_men, .int g_clauses, .int g_winds, .int g_far0, .int g_far1, .ref g_qsides, .ref g_qgrips, .ref g_qwits, .ref g_qsays, .ref g_qgives0, .ref g_qgives1, .ref g_qfroms, .ref g_qtos])), (g_qsides, .inl (cA 1, 8, .inl g_csides)), (g_qgrips, .inl (cA 1, 8, .inl g_cgrips)), (g_qwits, .inl (cA 1, 8, .inl g_cwits))] := hD
        have hl : lv_has ls 7 [(5, .int L5_240), (0, .ref h0), (1, .int p0), (2, .int p1), (3, .int p2), (4, .int p3)] := hl
        refine lv_iload hx hb dX5_tryMan_34 (lv_at hl 0 rfl) ?_
        refine lv_aload_n hx hb dX5_tryMan_36 rfl (lv_at hl 1 rfl) ?_
        refine va_get (D := D) (ci := 5) (v := .ref g) (C := RX5) (T := TX5) (N := 6) hx hb hts inX5 hown hKN.1 hP 0 rfl rfl 5 (by decide) (hts _ tw_384) (fun _ h9 => h9) rfl dX5_tryMan_37 ?_
        refine va_get (D := D) (ci := 3) (v := .int g_men) (C := RX3) (T := TX3) (N := 16) hx hb hts inX3 hown hKN.1 hP 3 rfl rfl 3 (by decide) (hts _ tw_168) (fun _ h9 => h9) rfl dX5_tryMan_40 ?_
        refine lv_icmp_ge (tgt := 140) hx hb dX5_tryMan_43 (by decide) (fun c_243 => ?_) (fun c_243 => ?_)
        · skip
          have k_244 := kk_le rfl rfl c_243
          refine lv_aload_n hx hb dX5_tryMan_140 rfl (lv_at hl 1 rfl) ?_
          refine lv_iload_n hx hb dX5_tryMan_141 rfl (lv_at hl 2 rfl) ?_
          refine lv_iconst (v := 1) hx hb dX5_tryMan_142 (by decide) ?_
          refine lv_iadd hx hb dX5_tryMan_143 ?_
          refine lv_topi (fun x_245 ex_245 => ?_)
          have k_246 := ar_add rfl zi_1 ex_245 (by omega) (by omega)
          refine lv_iload_n hx hb dX5_tryMan_144 rfl (lv_at hl 3 rfl) ?_
          refine lv_iload_n hx hb dX5_tryMan_145 rfl (lv_at hl 4 rfl) ?_
          refine lv_iload hx hb dX5_tryMan_146 (lv_at hl 5 rfl) ?_
          refine cmVv (rest := []) (wsC := [(h0, .inr (5, [.ref pa_qsettled, .int F1_240, .int F2_240, .ref pa_qtried, .int pa_mostPairs, .ref g])), (pa_qsettled, .inl (cA 1, 8, .inl F3_240)), (pa_qtried, .inl (cA 1, 8, .inl F4_240)), (g, .inr (3, [.int g_odds, .int g_pot, .int g_lines, .int g_men, .int g_clauses, .int g_winds, .int g_far0, .int g_far1, .ref g_qsides, .ref g_qgrips, .ref g_qwits, .ref g_qsays, .ref g_qgives0, .ref g_qgives1, .ref g_qfroms, .ref g_qtos])), (g_qsides, .inl (cA 1, 8, .inl g_csides)), (g_qgrips, .inl (cA 1, 8, .inl g_cgrips)), (g_qwits, .inl (cA 1, 8, .inl g_cwits))]) (wr := []) ⟨hx, hb, hml, hown, hts⟩ hKN hP hD hS hA [0, 1, 2, 3, 4, 5, 6] [] rfl rfl (by decide) (by decide) (by decide) (g_X5_tryMan_4 l D cA _ h0 pa_qsettled F1_240 F2_240 pa_qtried pa_mostPairs g F3_240 F4_240 g_odds g_pot g_lines g_men g_clauses g_winds g_far0 g_far1 g_qsides g_qgrips g_qwits g_qsays g_qgives0 g_qgives1 g_qfroms g_qtos g_csides g_cgrips g_cwits x_245 p1 p2 p3 (by omega) (by omega) (by omega) (by omega) (by omega) (by omega) (by omega) (by omega)) (tb_V tw_884 tw_886 tw_13 tw_110 tw_887) hdX5_tryMan ⟨rfl, rfl, Nat.le_of_ble_eq_true rfl, Nat.le_of_ble_eq_true rfl⟩ ⟨Nat.le_of_ble_eq_true rfl, Nat.le_of_ble_eq_true rfl⟩ rfl rfl rfl hl.1 rfl (Nat.le_of_ble_eq_true rfl) dX5_tryMan_148 (fun u_247 H locs hr_247 hP hD hS => ?_)
          have hP : va_P D vwCl [(h0, .inr (5, [.ref pa_qsettled, .int (u_247.2.1 0), .int (u_247.2.1 1), .ref pa_qtried, .int pa_mostPairs, .ref g])), (pa_qsettled, .inl (cA 1, 8, .inl (u_247.2.2.1 0))), (pa_qtried, .inl (cA 1, 8, .inl (u_247.2.2.1 1))), (g, .inr (3, [.int g_odds, .int g_pot, .int g_lines, .int g_men, .int g_clauses, .int g_winds, .int g_far0, .int g_far1, .ref g_qsides, .ref g_qgrips, .ref g_qwits, .ref g_qsays, .ref g_qgives0, .ref g_qgives1, .ref g_qfroms, .ref g_qtos])), (g_qsides, .inl (cA 1, 8, .inl g_csides)), (g_qgrips, .inl (cA 1, 8, .inl g_cgrips)), (g_qwits, .inl (cA 1, 8, .inl g_cwits))] H := hP
          have hD : va_D A [(h0, .inr (5, [.ref pa_qsettled, .int (u_247.2.1 0), .int (u_247.2.1 1), .ref pa_qtried, .int pa_mostPairs, .ref g])), (pa_qsettled, .inl (cA 1, 8, .inl (u_247.2.2.1 0))), (pa_qtried, .inl (cA 1, 8, .inl (u_247.2.2.1 1))), (g, .inr (3, [.int g_odds, .int g_pot, .int g_lines, .int g_men, .int g_clauses, .int g_winds, .int g_far0, .int g_far1, .ref g_qsides, .ref g_qgrips, .ref g_qwits, .ref g_qsays, .ref g_qgives0, .ref g_qgives1, .ref g_qfroms, .ref g_qtos])), (g_qsides, .inl (cA 1, 8, .inl g_csides)), (g_qgrips, .inl (cA 1, 8, .inl g_cgrips)), (g_qwits, .inl (cA 1, 8, .inl g_cwits))] := hD
          have hP9 := hP.sub (ws' := [(h0, .inr (5, [.ref pa_qsettled, .int (u_247.2.1 0), .int (u_247.2.1 1), .ref pa_qtried, .int pa_mostPairs, .ref g])), (pa_qsettled, .inl (cA 1, 8, .inl (u_247.2.2.1 0))), (pa_qtried, .inl (cA 1, 8, .inl (u_247.2.2.1 1))), (g, .inr (3, [.int g_odds, .int g_pot, .int g_lines, .int g_men, .int g_clauses, .int g_winds, .int g_far0, .int g_far1, .ref g_qsides, .ref g_qgrips, .ref g_qwits, .ref g_qsays, .ref g_qgives0, .ref g_qgives1, .ref g_qfroms, .ref g_qtos])), (g_qsides, .inl (cA 1, 8, .inl g_csides)), (g_qgrips, .inl (cA 1, 8, .inl g_cgrips)), (g_qwits, .inl (cA 1, 8, .inl g_cwits))]) [0, 1, 2, 3, 4, 5, 6] rfl
          have hD9 := hD.sub (ws' := [(h0, .inr (5, [.ref pa_qsettled, .int (u_247.2.1 0), .int (u_247.2.1 1), .ref pa_qtried, .int pa_mostPairs, .ref g])), (pa_qsettled, .inl (cA 1, 8, .inl (u_247.2.2.1 0))), (pa_qtried, .inl (cA 1, 8, .inl (u_247.2.2.1 1))), (g, .inr (3, [.int g_odds, .int g_pot, .int g_lines, .int g_men, .int g_clauses, .int g_winds, .int g_far0, .int g_far1, .ref g_qsides, .ref g_qgrips, .ref g_qwits, .ref g_qsays, .ref g_qgives0, .ref g_qgives1, .ref g_qfroms, .ref g_qtos])), (g_qsides, .inl (cA 1, 8, .inl g_csides)), (g_qgrips, .inl (cA 1, 8, .inl g_cgrips)), (g_qwits, .inl (cA 1, 8, .inl g_cwits))]) [0, 1, 2, 3, 4, 5, 6] (by decide) rfl
          exact W.vret hx hb hr (fun t ht hW => ⟨⟨((fun _ => 0), (selI [(u_247.2.1 0), (u_247.2.1 1)]), (selF [(u_247.2.2.1 0), (u_247.2.2.1 1)]), (fun _ _ => 0)), rfl, trivial, by rw [ht]; exact hP9, hD9⟩, hS.F ht⟩) hS.2.2 dX5_tryMan_151
        · skip
          have k_248 := kk_nle rfl rfl c_243
          refine lv_aload_n hx hb dX5_tryMan_46 rfl (lv_at hl 1 rfl) ?_
          refine va_get (D := D) (ci := 5) (v := .ref g) (C := RX5) (T := TX5) (N := 6) hx hb hts inX5 hown hKN.1 hP 0 rfl rfl 5 (by decide) (hts _ tw_384) (fun _ h9 => h9) rfl dX5_tryMan_47 ?_
          refine lv_iload hx hb dX5_tryMan_50 (lv_at hl 0 rfl) ?_
          refine cpVi (rest := []) ⟨hx, hb, hml, hown, hts⟩ hKN (hP.sub (ws' := [(g, .inr (3, [.int g_odds, .int g_pot, .int g_lines, .int g_men, .int g_clauses, .int g_winds, .int g_far0, .int g_far1, .ref g_qsides, .ref g_qgrips, .ref g_qwits, .ref g_qsays, .ref g_qgives0, .ref g_qgives1, .ref g_qfroms, .ref g_qtos])), (g_qsides, .inl (cA 1, 8, .inl g_csides))]) [3, 4] rfl) (g_X3_sideOf l D cA g g_odds g_pot g_lines g_men g_clauses g_winds g_far0 g_far1 g_qsides g_qgrips g_qwits g_qsays g_qgives0 g_qgives1 g_qfroms g_qtos g_csides L5_240 (by omega) (by omega) (by omega) (by omega) (by omega) (by omega) (by omega)) (tb_V tw_882 tw_703 tw_704 tw_104 tw_705) hdX3_sideOf ⟨rfl, rfl, Nat.le_of_ble_eq_true rfl, Nat.le_of_ble_eq_true rfl⟩ ⟨Nat.le_of_ble_eq_true rfl, Nat.le_of_ble_eq_true rfl⟩ rfl rfl rfl hl.1 rfl (Nat.le_of_ble_eq_true rfl) dX5_tryMan_52 (fun r_249 hr_249 => ?_)
          rcases hr_249 with ⟨k_249_0_0, k_249_0_1⟩ | rfl
          · skip
            refine lv_iconst (v := 1) hx hb dX5_tryMan_55 (by decide) ?_
            refine lv_icmp_ne (tgt := 134) hx hb dX5_tryMan_56 (by decide) (fun c_250 => ?_) (fun c_250 => ?_)
            · skip
              have b_252 := i32_bd r_249
              have k_251 := kk_ne rfl zi_1 c_250
              obtain ⟨x_253, ex_253⟩ : ∃ y : Int32, L5_240 + Int32.ofInt 1 = y := ⟨_, rfl⟩
              have k_254 := ar_add (b := 1) rfl zi_1 ex_253.symm (by omega) (by omega)
              refine lv_iinc (v := x_253) (lv' := [(5, .int x_253), (0, .ref h0), (1, .int p0), (2, .int p1), (3, .int p2), (4, .int p3)]) hx hb dX5_tryMan_134 hl (k := 0) rfl ex_253 (by decide) rfl (fun ls hl => ?_)
              refine lv_goto (tgt := 34) hx hb dX5_tryMan_137 (by decide) ?_
              exact ih_240 (x_253, F1_240, F2_240, F3_240, F4_240) _ _ _ ⟨(show 0 ≤ x_253.toInt ∧ x_253.toInt ≤ 8 from by omega), hP.sub [0, 1, 2, 3, 4, 5, 6] rfl, hD.sub [0, 1, 2, 3, 4, 5, 6] (by decide) rfl, hS, lv_sub hl [0, 1, 2, 3, 4, 5] rfl⟩ (by show (2147483647 - x_253.toInt).toNat < (2147483647 - L5_240.toInt).toNat; omega)
            · skip
              have b_256 := i32_bd r_249
              have k_255 := kk_eq rfl zi_1 c_250
              refine lv_aload_n hx hb dX5_tryMan_59 rfl (lv_at hl 1 rfl) ?_
              refine va_get (D := D) (ci := 5) (v := .ref pa_qtried) (C := RX5) (T := TX5) (N := 6) hx hb hts inX5 hown hKN.1 hP 0 rfl rfl 3 (by decide) (hts _ tw_382) (fun _ h9 => h9) rfl dX5_tryMan_60 ?_
              refine lv_iload hx hb dX5_tryMan_63 (lv_at hl 0 rfl) ?_
              refine va_iald hx hb hKN.1 hP 2 1 rfl rfl (vp_in_iff.mpr ⟨by omega, by omega⟩) dX5_tryMan_65 ?_
              refine lv_topi (fun x_257 ex_257 => ?_)
              refine lv_iconst (v := (-1)) hx hb dX5_tryMan_66 (by decide) ?_
              refine lv_icmp_ne (tgt := 134) hx hb dX5_tryMan_67 (by decide) (fun c_258 => ?_) (fun c_258 => ?_)
              · skip
                have b_260 := i32_bd x_257
                have k_259 := kk_ne rfl zi_m1 c_258
                obtain ⟨x_261, ex_261⟩ : ∃ y : Int32, L5_240 + Int32.ofInt 1 = y := ⟨_, rfl⟩
                have k_262 := ar_add (b := 1) rfl zi_1 ex_261.symm (by omega) (by omega)
                refine lv_iinc (v := x_261) (lv' := [(5, .int x_261), (0, .ref h0), (1, .int p0), (2, .int p1), (3, .int p2), (4, .int p3)]) hx hb dX5_tryMan_134 hl (k := 0) rfl ex_261 (by decide) rfl (fun ls hl => ?_)
                refine lv_goto (tgt := 34) hx hb dX5_tryMan_137 (by decide) ?_
                exact ih_240 (x_261, F1_240, F2_240, F3_240, F4_240) _ _ _ ⟨(show 0 ≤ x_261.toInt ∧ x_261.toInt ≤ 8 from by omega), hP.sub [0, 1, 2, 3, 4, 5, 6] rfl, hD.sub [0, 1, 2, 3, 4, 5, 6] (by decide) rfl, hS, lv_sub hl [0, 1, 2, 3, 4, 5] rfl⟩ (by show (2147483647 - x_261.toInt).toNat < (2147483647 - L5_240.toInt).toNat; omega)
              · skip
                have b_264 := i32_bd x_257
                have k_263 := kk_eq rfl zi_m1 c_258
                refine lv_aload_n hx hb dX5_tryMan_70 rfl (lv_at hl 1 rfl) ?_
                refine va_get (D := D) (ci := 5) (v := .ref g) (C := RX5) (T := TX5) (N := 6) hx hb hts inX5 hown hKN.1 hP 0 rfl rfl 5 (by decide) (hts _ tw_384) (fun _ h9 => h9) rfl dX5_tryMan_71 ?_
                refine lv_iload_n hx hb dX5_tryMan_74 rfl (lv_at hl 2 rfl) ?_
                refine lv_iload hx hb dX5_tryMan_75 (lv_at hl 0 rfl) ?_
                refine cpVi (rest := []) ⟨hx, hb, hml, hown, hts⟩ hKN (hP.sub (ws' := [(g, .inr (3, [.int g_odds, .int g_pot, .int g_lines, .int g_men, .int g_clauses, .int g_winds, .int g_far0, .int g_far1, .ref g_qsides, .ref g_qgrips, .ref g_qwits, .ref g_qsays, .ref g_qgives0, .ref g_qgives1, .ref g_qfroms, .ref g_qtos])), (g_qsides, .inl (cA 1, 8, .inl g_csides)), (g_qgrips, .inl (cA 1, 8, .inl g_cgrips)), (g_qwits, .inl (cA 1, 8, .inl g_cwits))]) [3, 4, 5, 6] rfl) (g_X3_holdOrRefusal l D cA g g_odds g_pot g_lines g_men g_clauses g_winds g_far0 g_far1 g_qsides g_qgrips g_qwits g_qsays g_qgives0 g_qgives1 g_qfroms g_qtos g_csides g_cgrips g_cwits p0 L5_240 (by omega) (by omega) (by omega) (by omega) (by omega) (by omega) (by omega)) (tb_V tw_895 tw_844 tw_845 tw_104 tw_846) hdX3_holdOrRefusal ⟨rfl, rfl, Nat.le_of_ble_eq_true rfl, Nat.le_of_ble_eq_true rfl⟩ ⟨Nat.le_of_ble_eq_true rfl, Nat.le_of_ble_eq_true rfl⟩ rfl rfl rfl hl.1 rfl (Nat.le_of_ble_eq_true rfl) dX5_tryMan_77 (fun r_265 hr_265 => ?_)
                refine lv_istore (lv' := [(6, .int r_265), (5, .int L5_240), (0, .ref h0), (1, .int p0), (2, .int p1), (3, .int p2), (4, .int p3)]) hx hb dX5_tryMan_80 hl (by decide) rfl (fun ls hl => ?_)
                refine lv_aload_n hx hb dX5_tryMan_82 rfl (lv_at hl 2 rfl) ?_
                refine va_get (D := D) (ci := 5) (v := .ref pa_qtried) (C := RX5) (T := TX5) (N := 6) hx hb hts inX5 hown hKN.1 hP 0 rfl rfl 3 (by decide) (hts _ tw_382) (fun _ h9 => h9) rfl dX5_tryMan_83 ?_
                refine lv_iload_n hx hb dX5_tryMan_86 rfl (lv_at hl 3 rfl) ?_
                refine lv_iload hx hb dX5_tryMan_87 (lv_at hl 1 rfl) ?_
                refine va_iast hx hb hKN.1 hP hD hS 2 1 rfl rfl (vp_in_iff.mpr ⟨by omega, by omega⟩) dX5_tryMan_89 (fun H locs hP hD hS => ?_)
                have hP : va_P D vwCl [(h0, .inr (5, [.ref pa_qsettled, .int F1_240, .int F2_240, .ref pa_qtried, .int pa_mostPairs, .ref g])), (pa_qsettled, .inl (cA 1, 8, .inl F3_240)), (pa_qtried, .inl (cA 1, 8, .inl (upd F4_240 p0.toNatClampNeg L5_240))), (g, .inr (3, [.int g_odds, .int g_pot, .int g_lines, .int g_men, .int g_clauses, .int g_winds, .int g_far0, .int g_far1, .ref g_qsides, .ref g_qgrips, .ref g_qwits, .ref g_qsays, .ref g_qgives0, .ref g_qgives1, .ref g_qfroms, .ref g_qtos])), (g_qsides, .inl (cA 1, 8, .inl g_csides)), (g_qgrips, .inl (cA 1, 8, .inl g_cgrips)), (g_qwits, .inl (cA 1, 8, .inl g_cwits))] H := hP
                have hD : va_D A [(h0, .inr (5, [.ref pa_qsettled, .int F1_240, .int F2_240, .ref pa_qtried, .int pa_mostPairs, .ref g])), (pa_qsettled, .inl (cA 1, 8, .inl F3_240)), (pa_qtried, .inl (cA 1, 8, .inl (upd F4_240 p0.toNatClampNeg L5_240))), (g, .inr (3, [.int g_odds, .int g_pot, .int g_lines, .int g_men, .int g_clauses, .int g_winds, .int g_far0, .int g_far1, .ref g_qsides, .ref g_qgrips, .ref g_qwits, .ref g_qsays, .ref g_qgives0, .ref g_qgives1, .ref g_qfroms, .ref g_qtos])), (g_qsides, .inl (cA 1, 8, .inl g_csides)), (g_qgrips, .inl (cA 1, 8, .inl g_cgrips)), (g_qwits, .inl (cA 1, 8, .inl g_cwits))] := hD
                generalize ef_266 : (upd F4_240 p0.toNatClampNeg L5_240) = f_266 at hP hD
                refine lv_aload_n hx hb dX5_tryMan_90 rfl (lv_at hl 2 rfl) ?_
                refine va_get (D := D) (ci := 5) (v := .ref pa_qtried) (C := RX5) (T := TX5) (N := 6) hx hb hts inX5 hown hKN.1 hP 0 rfl rfl 3 (by decide) (hts _ tw_382) (fun _ h9 => h9) rfl dX5_tryMan_91 ?_
                refine lv_iload hx hb dX5_tryMan_94 (lv_at hl 1 rfl) ?_
                refine lv_iload_n hx hb dX5_tryMan_96 rfl (lv_at hl 3 rfl) ?_
                refine va_iast hx hb hKN.1 hP hD hS 2 1 rfl rfl (vp_in_iff.mpr ⟨by omega, by omega⟩) dX5_tryMan_97 (fun H locs hP hD hS => ?_)
                have hP : va_P D vwCl [(h0, .inr (5, [.ref pa_qsettled, .int F1_240, .int F2_240, .ref pa_qtried, .int pa_mostPairs, .ref g])), (pa_qsettled, .inl (cA 1, 8, .inl F3_240)), (pa_qtried, .inl (cA 1, 8, .inl (upd f_266 L5_240.toNatClampNeg p0))), (g, .inr (3, [.int g_odds, .int g_pot, .int g_lines, .int g_men, .int g_clauses, .int g_winds, .int g_far0, .int g_far1, .ref g_qsides, .ref g_qgrips, .ref g_qwits, .ref g_qsays, .ref g_qgives0, .ref g_qgives1, .ref g_qfroms, .ref g_qtos])), (g_qsides, .inl (cA 1, 8, .inl g_csides)), (g_qgrips, .inl (cA 1, 8, .inl g_cgrips)), (g_qwits, .inl (cA 1, 8, .inl g_cwits))] H := hP
                have hD : va_D A [(h0, .inr (5, [.ref pa_qsettled, .int F1_240, .int F2_240, .ref pa_qtried, .int pa_mostPairs, .ref g])), (pa_qsettled, .inl (cA 1, 8, .inl F3_240)), (pa_qtried, .inl (cA 1, 8, .inl (upd f_266 L5_240.toNatClampNeg p0))), (g, .inr (3, [.int g_odds, .int g_pot, .int g_lines, .int g_men, .int g_clauses, .int g_winds, .int g_far0, .int g_far1, .ref g_qsides, .ref g_qgrips, .ref g_qwits, .ref g_qsays, .ref g_qgives0, .ref g_qgives1, .ref g_qfroms, .ref g_qtos])), (g_qsides, .inl (cA 1, 8, .inl g_csides)), (g_qgrips, .inl (cA 1, 8, .inl g_cgrips)), (g_qwits, .inl (cA 1, 8, .inl g_cwits))] := hD
                generalize ef_267 : (upd f_266 L5_240.toNatClampNeg p0) = f_267 at hP hD
                refine lv_aload_n hx hb dX5_tryMan_98 rfl (lv_at hl 2 rfl) ?_
                refine lv_iload_n hx hb dX5_tryMan_99 rfl (lv_at hl 3 rfl) ?_
                refine lv_iconst (v := 1) hx hb dX5_tryMan_100 (by decide) ?_
                refine lv_iadd hx hb dX5_tryMan_101 ?_
                refine lv_topi (fun x_268 ex_268 => ?_)
                have k_269 := ar_add rfl zi_1 ex_268 (by omega) (by omega)
                refine lv_iload_n hx hb dX5_tryMan_102 rfl (lv_at hl 4 rfl) ?_
                refine lv_iconst (v := 1) hx hb dX5_tryMan_103 (by decide) ?_
                refine lv_iadd hx hb dX5_tryMan_104 ?_
                refine lv_topi (fun x_270 ex_270 => ?_)
                refine lv_iload_n hx hb dX5_tryMan_105 rfl (lv_at hl 5 rfl) ?_
                refine lv_iload hx hb dX5_tryMan_106 (lv_at hl 0 rfl) ?_
                refine lv_iadd hx hb dX5_tryMan_108 ?_
                refine lv_topi (fun x_272 ex_272 => ?_)
                refine lv_iload hx hb dX5_tryMan_109 (lv_at hl 6 rfl) ?_
                refine lv_iload hx hb dX5_tryMan_111 (lv_at hl 0 rfl) ?_
                refine cpSi (rest := [.int x_272, .int x_270, .int x_268, .ref h0]) ⟨hx, hb, hml, hown, hts⟩ hKN (hP.sub (ws' := []) [] rfl) (g_J9_min_7cf53 l D cA p3 r_265) (tb_S tw_883 tw_555 tw_115 tw_556) hdJ9_min_7cf53 ⟨rfl, rfl, Nat.le_of_ble_eq_true rfl, Nat.le_of_ble_eq_true rfl⟩ ⟨Nat.le_of_ble_eq_true rfl, Nat.le_of_ble_eq_true rfl⟩ rfl hl.1 rfl (Nat.le_of_ble_eq_true rfl) dX5_tryMan_113 (fun r_274 hr_274 => ?_)
                obtain ⟨k_274_0_0, k_274_0_1, k_274_0_2⟩ := hr_274
                refine cmVv (rest := []) (wsC := [(h0, .inr (5, [.ref pa_qsettled, .int F1_240, .int F2_240, .ref pa_qtried, .int pa_mostPairs, .ref g])), (pa_qsettled, .inl (cA 1, 8, .inl F3_240)), (pa_qtried, .inl (cA 1, 8, .inl f_267)), (g, .inr (3, [.int g_odds, .int g_pot, .int g_lines, .int g_men, .int g_clauses, .int g_winds, .int g_far0, .int g_far1, .ref g_qsides, .ref g_qgrips, .ref g_qwits, .ref g_qsays, .ref g_qgives0, .ref g_qgives1, .ref g_qfroms, .ref g_qtos])), (g_qsides, .inl (cA 1, 8, .inl g_csides)), (g_qgrips, .inl (cA 1, 8, .inl g_cgrips)), (g_qwits, .inl (cA 1, 8, .inl g_cwits))]) (wr := []) ⟨hx, hb, hml, hown, hts⟩ hKN hP hD hS hA [0, 1, 2, 3, 4, 5, 6] [] rfl rfl (by decide) (by decide) (by decide) (g_X5_tryMan_4 l D cA _ h0 pa_qsettled F1_240 F2_240 pa_qtried pa_mostPairs g F3_240 f_267 g_odds g_pot g_lines g_men g_clauses g_winds g_far0 g_far1 g_qsides g_qgrips g_qwits g_qsays g_qgives0 g_qgives1 g_qfroms g_qtos g_csides g_cgrips g_cwits x_268 x_270 x_272 r_274 (by omega) (by omega) (by omega) (by omega) (by omega) (by omega) (by omega) (by omega)) (tb_V tw_884 tw_886 tw_13 tw_110 tw_887) hdX5_tryMan ⟨rfl, rfl, Nat.le_of_ble_eq_true rfl, Nat.le_of_ble_eq_true rfl⟩ ⟨Nat.le_of_ble_eq_true rfl, Nat.le_of_ble_eq_true rfl⟩ rfl rfl rfl hl.1 rfl (Nat.le_of_ble_eq_true rfl) dX5_tryMan_116 (fun u_275 H locs hr_275 hP hD hS => ?_)
                have hP : va_P D vwCl [(h0, .inr (5, [.ref pa_qsettled, .int (u_275.2.1 0), .int (u_275.2.1 1), .ref pa_qtried, .int pa_mostPairs, .ref g])), (pa_qsettled, .inl (cA 1, 8, .inl (u_275.2.2.1 0))), (pa_qtried, .inl (cA 1, 8, .inl (u_275.2.2.1 1))), (g, .inr (3, [.int g_odds, .int g_pot, .int g_lines, .int g_men, .int g_clauses, .int g_winds, .int g_far0, .int g_far1, .ref g_qsides, .ref g_qgrips, .ref g_qwits, .ref g_qsays, .ref g_qgives0, .ref g_qgives1, .ref g_qfroms, .ref g_qtos])), (g_qsides, .inl (cA 1, 8, .inl g_csides)), (g_qgrips, .inl (cA 1, 8, .inl g_cgrips)), (g_qwits, .inl (cA 1, 8, .inl g_cwits))] H := hP
                have hD : va_D A [(h0, .inr (5, [.ref pa_qsettled, .int (u_275.2.1 0), .int (u_275.2.1 1), .ref pa_qtried, .int pa_mostPairs, .ref g])), (pa_qsettled, .inl (cA 1, 8, .inl (u_275.2.2.1 0))), (pa_qtried, .inl (cA 1, 8, .inl (u_275.2.2.1 1))), (g, .inr (3, [.int g_odds, .int g_pot, .int g_lines, .int g_men, .int g_clauses, .int g_winds, .int g_far0, .int g_far1, .ref g_qsides, .ref g_qgrips, .ref g_qwits, .ref g_qsays, .ref g_qgives0, .ref g_qgives1, .ref g_qfroms, .ref g_qtos])), (g_qsides, .inl (cA 1, 8, .inl g_csides)), (g_qgrips, .inl (cA 1, 8, .inl g_cgrips)), (g_qwits, .inl (cA 1, 8, .inl g_cwits))] := hD
                refine lv_aload_n hx hb dX5_tryMan_119 rfl (lv_at hl 2 rfl) ?_
                refine va_get (D := D) (ci := 5) (v := .ref pa_qtried) (C := RX5) (T := TX5) (N := 6) hx hb hts inX5 hown hKN.1 hP 0 rfl rfl 3 (by decide) (hts _ tw_382) (fun _ h9 => h9) rfl dX5_tryMan_120 ?_
                refine lv_iload_n hx hb dX5_tryMan_123 rfl (lv_at hl 3 rfl) ?_
                refine lv_iconst (v := (-1)) hx hb dX5_tryMan_124 (by decide) ?_
                refine va_iast hx hb hKN.1 hP hD hS 2 1 rfl rfl (vp_in_iff.mpr ⟨by omega, by omega⟩) dX5_tryMan_125 (fun H locs hP hD hS => ?_)
                have hP : va_P D vwCl [(h0, .inr (5, [.ref pa_qsettled, .int (u_275.2.1 0), .int (u_275.2.1 1), .ref pa_qtried, .int pa_mostPairs, .ref g])), (pa_qsettled, .inl (cA 1, 8, .inl (u_275.2.2.1 0))), (pa_qtried, .inl (cA 1, 8, .inl (upd (u_275.2.2.1 1) p0.toNatClampNeg (-1)))), (g, .inr (3, [.int g_odds, .int g_pot, .int g_lines, .int g_men, .int g_clauses, .int g_winds, .int g_far0, .int g_far1, .ref g_qsides, .ref g_qgrips, .ref g_qwits, .ref g_qsays, .ref g_qgives0, .ref g_qgives1, .ref g_qfroms, .ref g_qtos])), (g_qsides, .inl (cA 1, 8, .inl g_csides)), (g_qgrips, .inl (cA 1, 8, .inl g_cgrips)), (g_qwits, .inl (cA 1, 8, .inl g_cwits))] H := hP
                have hD : va_D A [(h0, .inr (5, [.ref pa_qsettled, .int (u_275.2.1 0), .int (u_275.2.1 1), .ref pa_qtried, .int pa_mostPairs, .ref g])), (pa_qsettled, .inl (cA 1, 8, .inl (u_275.2.2.1 0))), (pa_qtried, .inl (cA 1, 8, .inl (upd (u_275.2.2.1 1) p0.toNatClampNeg (-1)))), (g, .inr (3, [.int g_odds, .int g_pot, .int g_lines, .int g_men, .int g_clauses, .int g_winds, .int g_far0, .int g_far1, .ref g_qsides, .ref g_qgrips, .ref g_qwits, .ref g_qsays, .ref g_qgives0, .ref g_qgives1, .ref g_qfroms, .ref g_qtos])), (g_qsides, .inl (cA 1, 8, .inl g_csides)), (g_qgrips, .inl (cA 1, 8, .inl g_cgrips)), (g_qwits, .inl (cA 1, 8, .inl g_cwits))] := hD
                generalize ef_276 : (upd (u_275.2.2.1 1) p0.toNatClampNeg (-1)) = f_276 at hP hD
                refine lv_aload_n hx hb dX5_tryMan_126 rfl (lv_at hl 2 rfl) ?_
                refine va_get (D := D) (ci := 5) (v := .ref pa_qtried) (C := RX5) (T := TX5) (N := 6) hx hb hts inX5 hown hKN.1 hP 0 rfl rfl 3 (by decide) (hts _ tw_382) (fun _ h9 => h9) rfl dX5_tryMan_127 ?_
                refine lv_iload hx hb dX5_tryMan_130 (lv_at hl 1 rfl) ?_
                refine lv_iconst (v := (-1)) hx hb dX5_tryMan_132 (by decide) ?_
                refine va_iast hx hb hKN.1 hP hD hS 2 1 rfl rfl (vp_in_iff.mpr ⟨by omega, by omega⟩) dX5_tryMan_133 (fun H locs hP hD hS => ?_)
                have hP : va_P D vwCl [(h0, .inr (5, [.ref pa_qsettled, .int (u_275.2.1 0), .int (u_275.2.1 1), .ref pa_qtried, .int pa_mostPairs, .ref g])), (pa_qsettled, .inl (cA 1, 8, .inl (u_275.2.2.1 0))), (pa_qtried, .inl (cA 1, 8, .inl (upd f_276 L5_240.toNatClampNeg (-1)))), (g, .inr (3, [.int g_odds, .int g_pot, .int g_lines, .int g_men, .int g_clauses, .int g_winds, .int g_far0, .int g_far1, .ref g_qsides, .ref g_qgrips, .ref g_qwits, .ref g_qsays, .ref g_qgives0, .ref g_qgives1, .ref g_qfroms, .ref g_qtos])), (g_qsides, .inl (cA 1, 8, .inl g_csides)), (g_qgrips, .inl (cA 1, 8, .inl g_cgrips)), (g_qwits, .inl (cA 1, 8, .inl g_cwits))] H := hP
                have hD : va_D A [(h0, .inr (5, [.ref pa_qsettled, .int (u_275.2.1 0), .int (u_275.2.1 1), .ref pa_qtried, .int pa_mostPairs, .ref g])), (pa_qsettled, .inl (cA 1, 8, .inl (u_275.2.2.1 0))), (pa_qtried, .inl (cA 1, 8, .inl (upd f_276 L5_240.toNatClampNeg (-1)))), (g, .inr (3, [.int g_odds, .int g_pot, .int g_lines, .int g_men, .int g_clauses, .int g_winds, .int g_far0, .int g_far1, .ref g_qsides, .ref g_qgrips, .ref g_qwits, .ref g_qsays, .ref g_qgives0, .ref g_qgives1, .ref g_qfroms, .ref g_qtos])), (g_qsides, .inl (cA 1, 8, .inl g_csides)), (g_qgrips, .inl (cA 1, 8, .inl g_cgrips)), (g_qwits, .inl (cA 1, 8, .inl g_cwits))] := hD
                generalize ef_277 : (upd f_276 L5_240.toNatClampNeg (-1)) = f_277 at hP hD
                obtain ⟨x_278, ex_278⟩ : ∃ y : Int32, L5_240 + Int32.ofInt 1 = y := ⟨_, rfl⟩
                have k_279 := ar_add (b := 1) rfl zi_1 ex_278.symm (by omega) (by omega)
                refine lv_iinc (v := x_278) (lv' := [(5, .int x_278), (6, .int r_265), (0, .ref h0), (1, .int p0), (2, .int p1), (3, .int p2), (4, .int p3)]) hx hb dX5_tryMan_134 hl (k := 1) rfl ex_278 (by decide) rfl (fun ls hl => ?_)
                refine lv_goto (tgt := 34) hx hb dX5_tryMan_137 (by decide) ?_
                exact ih_240 (x_278, (u_275.2.1 0), (u_275.2.1 1), (u_275.2.2.1 0), f_277) _ _ _ ⟨(show 0 ≤ x_278.toInt ∧ x_278.toInt ≤ 8 from by omega), hP.sub [0, 1, 2, 3, 4, 5, 6] rfl, hD.sub [0, 1, 2, 3, 4, 5, 6] (by decide) rfl, hS, lv_sub hl [0, 2, 3, 4, 5, 6] rfl⟩ (by show (2147483647 - x_278.toInt).toNat < (2147483647 - L5_240.toInt).toNat; omega)
          · skip
            refine lv_iconst (v := 1) hx hb dX5_tryMan_55 (by decide) ?_
            refine lv_icmp_ne (tgt := 134) hx hb dX5_tryMan_56 (by decide) (fun c_280 => ?_) (fun c_280 => absurd c_280 (by decide))
            obtain ⟨x_281, ex_281⟩ : ∃ y : Int32, L5_240 + Int32.ofInt 1 = y := ⟨_, rfl⟩
            have k_282 := ar_add (b := 1) rfl zi_1 ex_281.symm (by omega) (by omega)
            refine lv_iinc (v := x_281) (lv' := [(5, .int x_281), (0, .ref h0), (1, .int p0), (2, .int p1), (3, .int p2), (4, .int p3)]) hx hb dX5_tryMan_134 hl (k := 0) rfl ex_281 (by decide) rfl (fun ls hl => ?_)
            refine lv_goto (tgt := 34) hx hb dX5_tryMan_137 (by decide) ?_
            exact ih_240 (x_281, F1_240, F2_240, F3_240, F4_240) _ _ _ ⟨(show 0 ≤ x_281.toInt ∧ x_281.toInt ≤ 8 from by omega), hP.sub [0, 1, 2, 3, 4, 5, 6] rfl, hD.sub [0, 1, 2, 3, 4, 5, 6] (by decide) rfl, hS, lv_sub hl [0, 1, 2, 3, 4, 5] rfl⟩ (by show (2147483647 - x_281.toInt).toNat < (2147483647 - L5_240.toInt).toNat; omega)
    · skip
      refine lv_if_ne (tgt := 140) hx hb dX5_tryMan_28 (by decide) (fun c_283 => ?_) (fun c_283 => absurd c_283 (by decide))
      refine lv_aload_n hx hb dX5_tryMan_140 rfl (lv_at hl 0 rfl) ?_
      refine lv_iload_n hx hb dX5_tryMan_141 rfl (lv_at hl 1 rfl) ?_
      refine lv_iconst (v := 1) hx hb dX5_tryMan_142 (by decide) ?_
      refine lv_iadd hx hb dX5_tryMan_143 ?_
      refine lv_topi (fun x_284 ex_284 => ?_)
      have k_285 := ar_add rfl zi_1 ex_284 (by omega) (by omega)
      refine lv_iload_n hx hb dX5_tryMan_144 rfl (lv_at hl 2 rfl) ?_
      refine lv_iload_n hx hb dX5_tryMan_145 rfl (lv_at hl 3 rfl) ?_
      refine lv_iload hx hb dX5_tryMan_146 (lv_at hl 4 rfl) ?_
      refine cmVv (rest := []) (wsC := [(h0, .inr (5, [.ref pa_qsettled, .int pa_greatestSum, .int pa_fairest, .ref pa_qtried, .int pa_mostPairs, .ref g])), (pa_qsettled, .inl (cA 1, 8, .inl pa_csettled)), (pa_qtried, .inl (cA 1, 8, .inl pa_ctried)), (g, .inr (3, [.int g_odds, .int g_pot, .int g_lines, .int g_men, .int g_clauses, .int g_winds, .int g_far0, .int g_far1, .ref g_qsides, .ref g_qgrips, .ref g_qwits, .ref g_qsays, .ref g_qgives0, .ref g_qgives1, .ref g_qfroms, .ref g_qtos])), (g_qsides, .inl (cA 1, 8, .inl g_csides)), (g_qgrips, .inl (cA 1, 8, .inl g_cgrips)), (g_qwits, .inl (cA 1, 8, .inl g_cwits))]) (wr := []) ⟨hx, hb, hml, hown, hts⟩ hKN hP hD hS hA [0, 1, 2, 3, 4, 5, 6] [] rfl rfl (by decide) (by decide) (by decide) (g_X5_tryMan_4 l D cA _ h0 pa_qsettled pa_greatestSum pa_fairest pa_qtried pa_mostPairs g pa_csettled pa_ctried g_odds g_pot g_lines g_men g_clauses g_winds g_far0 g_far1 g_qsides g_qgrips g_qwits g_qsays g_qgives0 g_qgives1 g_qfroms g_qtos g_csides g_cgrips g_cwits x_284 p1 p2 p3 (by omega) (by omega) (by omega) (by omega) (by omega) (by omega) (by omega) (by omega)) (tb_V tw_884 tw_886 tw_13 tw_110 tw_887) hdX5_tryMan ⟨rfl, rfl, Nat.le_of_ble_eq_true rfl, Nat.le_of_ble_eq_true rfl⟩ ⟨Nat.le_of_ble_eq_true rfl, Nat.le_of_ble_eq_true rfl⟩ rfl rfl rfl hl.1 rfl (Nat.le_of_ble_eq_true rfl) dX5_tryMan_148 (fun u_286 H locs hr_286 hP hD hS => ?_)
      have hP : va_P D vwCl [(h0, .inr (5, [.ref pa_qsettled, .int (u_286.2.1 0), .int (u_286.2.1 1), .ref pa_qtried, .int pa_mostPairs, .ref g])), (pa_qsettled, .inl (cA 1, 8, .inl (u_286.2.2.1 0))), (pa_qtried, .inl (cA 1, 8, .inl (u_286.2.2.1 1))), (g, .inr (3, [.int g_odds, .int g_pot, .int g_lines, .int g_men, .int g_clauses, .int g_winds, .int g_far0, .int g_far1, .ref g_qsides, .ref g_qgrips, .ref g_qwits, .ref g_qsays, .ref g_qgives0, .ref g_qgives1, .ref g_qfroms, .ref g_qtos])), (g_qsides, .inl (cA 1, 8, .inl g_csides)), (g_qgrips, .inl (cA 1, 8, .inl g_cgrips)), (g_qwits, .inl (cA 1, 8, .inl g_cwits))] H := hP
      have hD : va_D A [(h0, .inr (5, [.ref pa_qsettled, .int (u_286.2.1 0), .int (u_286.2.1 1), .ref pa_qtried, .int pa_mostPairs, .ref g])), (pa_qsettled, .inl (cA 1, 8, .inl (u_286.2.2.1 0))), (pa_qtried, .inl (cA 1, 8, .inl (u_286.2.2.1 1))), (g, .inr (3, [.int g_odds, .int g_pot, .int g_lines, .int g_men, .int g_clauses, .int g_winds, .int g_far0, .int g_far1, .ref g_qsides, .ref g_qgrips, .ref g_qwits, .ref g_qsays, .ref g_qgives0, .ref g_qgives1, .ref g_qfroms, .ref g_qtos])), (g_qsides, .inl (cA 1, 8, .inl g_csides)), (g_qgrips, .inl (cA 1, 8, .inl g_cgrips)), (g_qwits, .inl (cA 1, 8, .inl g_cwits))] := hD
      have hP9 := hP.sub (ws' := [(h0, .inr (5, [.ref pa_qsettled, .int (u_286.2.1 0), .int (u_286.2.1 1), .ref pa_qtried, .int pa_mostPairs, .ref g])), (pa_qsettled, .inl (cA 1, 8, .inl (u_286.2.2.1 0))), (pa_qtried, .inl (cA 1, 8, .inl (u_286.2.2.1 1))), (g, .inr (3, [.int g_odds, .int g_pot, .int g_lines, .int g_men, .int g_clauses, .int g_winds, .int g_far0, .int g_far1, .ref g_qsides, .ref g_qgrips, .ref g_qwits, .ref g_qsays, .ref g_qgives0, .ref g_qgives1, .ref g_qfroms, .ref g_qtos])), (g_qsides, .inl (cA 1, 8, .inl g_csides)), (g_qgrips, .inl (cA 1, 8, .inl g_cgrips)), (g_qwits, .inl (cA 1, 8, .inl g_cwits))]) [0, 1, 2, 3, 4, 5, 6] rfl
      have hD9 := hD.sub (ws' := [(h0, .inr (5, [.ref pa_qsettled, .int (u_286.2.1 0), .int (u_286.2.1 1), .ref pa_qtried, .int pa_mostPairs, .ref g])), (pa_qsettled, .inl (cA 1, 8, .inl (u_286.2.2.1 0))), (pa_qtried, .inl (cA 1, 8, .inl (u_286.2.2.1 1))), (g, .inr (3, [.int g_odds, .int g_pot, .int g_lines, .int g_men, .int g_clauses, .int g_winds, .int g_far0, .int g_far1, .ref g_qsides, .ref g_qgrips, .ref g_qwits, .ref g_qsays, .ref g_qgives0, .ref g_qgives1, .ref g_qfroms, .ref g_qtos])), (g_qsides, .inl (cA 1, 8, .inl g_csides)), (g_qgrips, .inl (cA 1, 8, .inl g_cgrips)), (g_qwits, .inl (cA 1, 8, .inl g_cwits))]) [0, 1, 2, 3, 4, 5, 6] (by decide) rfl
      exact W.vret hx hb hr (fun t ht hW => ⟨⟨((fun _ => 0), (selI [(u_286.2.1 0), (u_286.2.1 1)]), (selF [(u_286.2.2.1 0), (u_286.2.2.1 1)]), (fun _ _ => 0)), rfl, trivial, by rw [ht]; exact hP9, hD9⟩, hS.F ht⟩) hS.2.2 dX5_tryMan_151
  · skip
    refine lv_if_ne (tgt := 20) hx hb dX5_tryMan_8 (by decide) (fun c_287 => absurd (by decide) c_287) (fun c_287 => ?_)
    refine lv_aload_n hx hb dX5_tryMan_11 rfl (lv_at hl 0 rfl) ?_
    refine lv_iload_n hx hb dX5_tryMan_12 rfl (lv_at hl 2 rfl) ?_
    refine lv_iload_n hx hb dX5_tryMan_13 rfl (lv_at hl 3 rfl) ?_
    refine lv_iload hx hb dX5_tryMan_14 (lv_at hl 4 rfl) ?_
    refine cmVv (rest := []) (wsC := [(h0, .inr (5, [.ref pa_qsettled, .int pa_greatestSum, .int pa_fairest, .ref pa_qtried, .int pa_mostPairs, .ref g])), (pa_qsettled, .inl (cA 1, 8, .inl pa_csettled)), (pa_qtried, .inl (cA 1, 8, .inl pa_ctried))]) (wr := [(g, .inr (3, [.int g_odds, .int g_pot, .int g_lines, .int g_men, .int g_clauses, .int g_winds, .int g_far0, .int g_far1, .ref g_qsides, .ref g_qgrips, .ref g_qwits, .ref g_qsays, .ref g_qgives0, .ref g_qgives1, .ref g_qfroms, .ref g_qtos])), (g_qsides, .inl (cA 1, 8, .inl g_csides)), (g_qgrips, .inl (cA 1, 8, .inl g_cgrips)), (g_qwits, .inl (cA 1, 8, .inl g_cwits))]) ⟨hx, hb, hml, hown, hts⟩ hKN hP hD hS hA [0, 1, 2] [3, 4, 5, 6] rfl rfl (by decide) (by decide) (by decide) (g_X5_weigh l D cA _ h0 pa_qsettled pa_greatestSum pa_fairest pa_qtried pa_mostPairs g pa_csettled pa_ctried p1 p2 p3) (tb_V tw_889 tw_891 tw_14 tw_110 tw_892) hdX5_weigh ⟨rfl, rfl, Nat.le_of_ble_eq_true rfl, Nat.le_of_ble_eq_true rfl⟩ ⟨Nat.le_of_ble_eq_true rfl, Nat.le_of_ble_eq_true rfl⟩ rfl rfl rfl hl.1 rfl (Nat.le_of_ble_eq_true rfl) dX5_tryMan_16 (fun u_288 H locs hr_288 hP hD hS => ?_)
    have hP : va_P D vwCl [(g, .inr (3, [.int g_odds, .int g_pot, .int g_lines, .int g_men, .int g_clauses, .int g_winds, .int g_far0, .int g_far1, .ref g_qsides, .ref g_qgrips, .ref g_qwits, .ref g_qsays, .ref g_qgives0, .ref g_qgives1, .ref g_qfroms, .ref g_qtos])), (g_qsides, .inl (cA 1, 8, .inl g_csides)), (g_qgrips, .inl (cA 1, 8, .inl g_cgrips)), (g_qwits, .inl (cA 1, 8, .inl g_cwits)), (h0, .inr (5, [.ref pa_qsettled, .int (u_288.2.1 0), .int (u_288.2.1 1), .ref pa_qtried, .int pa_mostPairs, .ref g])), (pa_qsettled, .inl (cA 1, 8, .inl (u_288.2.2.1 0))), (pa_qtried, .inl (cA 1, 8, .inl pa_ctried))] H := hP
    have hD : va_D A [(g, .inr (3, [.int g_odds, .int g_pot, .int g_lines, .int g_men, .int g_clauses, .int g_winds, .int g_far0, .int g_far1, .ref g_qsides, .ref g_qgrips, .ref g_qwits, .ref g_qsays, .ref g_qgives0, .ref g_qgives1, .ref g_qfroms, .ref g_qtos])), (g_qsides, .inl (cA 1, 8, .inl g_csides)), (g_qgrips, .inl (cA 1, 8, .inl g_cgrips)), (g_qwits, .inl (cA 1, 8, .inl g_cwits)), (h0, .inr (5, [.ref pa_qsettled, .int (u_288.2.1 0), .int (u_288.2.1 1), .ref pa_qtried, .int pa_mostPairs, .ref g])), (pa_qsettled, .inl (cA 1, 8, .inl (u_288.2.2.1 0))), (pa_qtried, .inl (cA 1, 8, .inl pa_ctried))] := hD
    have hP9 := hP.sub (ws' := [(h0, .inr (5, [.ref pa_qsettled, .int (u_288.2.1 0), .int (u_288.2.1 1), .ref pa_qtried, .int pa_mostPairs, .ref g])), (pa_qsettled, .inl (cA 1, 8, .inl (u_288.2.2.1 0))), (pa_qtried, .inl (cA 1, 8, .inl pa_ctried)), (g, .inr (3, [.int g_odds, .int g_pot, .int g_lines, .int g_men, .int g_clauses, .int g_winds, .int g_far0, .int g_far1, .ref g_qsides, .ref g_qgrips, .ref g_qwits, .ref g_qsays, .ref g_qgives0, .ref g_qgives1, .ref g_qfroms, .ref g_qtos])), (g_qsides, .inl (cA 1, 8, .inl g_csides)), (g_qgrips, .inl (cA 1, 8, .inl g_cgrips)), (g_qwits, .inl (cA 1, 8, .inl g_cwits))]) [4, 5, 6, 0, 1, 2, 3] rfl
    have hD9 := hD.sub (ws' := [(h0, .inr (5, [.ref pa_qsettled, .int (u_288.2.1 0), .int (u_288.2.1 1), .ref pa_qtried, .int pa_mostPairs, .ref g])), (pa_qsettled, .inl (cA 1, 8, .inl (u_288.2.2.1 0))), (pa_qtried, .inl (cA 1, 8, .inl pa_ctried)), (g, .inr (3, [.int g_odds, .int g_pot, .int g_lines, .int g_men, .int g_clauses, .int g_winds, .int g_far0, .int g_far1, .ref g_qsides, .ref g_qgrips, .ref g_qwits, .ref g_qsays, .ref g_qgives0, .ref g_qgives1, .ref g_qfroms, .ref g_qtos])), (g_qsides, .inl (cA 1, 8, .inl g_csides)), (g_qgrips, .inl (cA 1, 8, .inl g_cgrips)), (g_qwits, .inl (cA 1, 8, .inl g_cwits))]) [4, 5, 6, 0, 1, 2, 3] (by decide) rfl
    exact W.vret hx hb hr (fun t ht hW => ⟨⟨((fun _ => 0), (selI [(u_288.2.1 0), (u_288.2.1 1)]), (selF [(u_288.2.2.1 0), pa_ctried]), (fun _ _ => 0)), rfl, trivial, by rw [ht]; exact hP9, hD9⟩, hS.F ht⟩) hS.2.2 dX5_tryMan_19
set_option maxHeartbeats 8000000 in
set_option maxRecDepth 100000 in
theorem g_X5_tryMan_2 (l : Launch) (D : va_G) (cA : Nat → ClassId) (sz : Nat) (h0 : Nat) (pa_qsettled : Nat) (pa_greatestSum : Int32) (pa_fairest : Int32) (pa_qtried : Nat) (pa_mostPairs : Int32) (g : Nat) (pa_csettled : Nat → Int32) (pa_ctried : Nat → Int32) (g_odds : Int32) (g_pot : Int32) (g_lines : Int32) (g_men : Int32) (g_clauses : Int32) (g_winds : Int32) (g_far0 : Int32) (g_far1 : Int32) (g_qsides : Nat) (g_qgrips : Nat) (g_qwits : Nat) (g_qsays : Nat) (g_qgives0 : Nat) (g_qgives1 : Nat) (g_qfroms : Nat) (g_qtos : Nat) (g_csides : Nat → Int32) (g_cgrips : Nat → Int32) (g_cwits : Nat → Int32) (p0 : Int32) (p1 : Int32) (p2 : Int32) (p3 : Int32) (h_g_odds : -999 ≤ (g_odds : Int32).toInt ∧ (g_odds : Int32).toInt ≤ 999) (h_g_pot : -999 ≤ (g_pot : Int32).toInt ∧ (g_pot : Int32).toInt ≤ 999) (h_g_men : 0 ≤ (g_men : Int32).toInt ∧ (g_men : Int32).toInt ≤ 8) (h_g_clauses : 0 ≤ (g_clauses : Int32).toInt ∧ (g_clauses : Int32).toInt ≤ 7) (h_g_winds : 0 ≤ (g_winds : Int32).toInt ∧ (g_winds : Int32).toInt ≤ 4) (h_g_far0 : -999 ≤ (g_far0 : Int32).toInt ∧ (g_far0 : Int32).toInt ≤ 999) (h_g_far1 : -999 ≤ (g_far1 : Int32).toInt ∧ (g_far1 : Int32).toInt ≤ 999) (h_p0 : 2 ≤ (p0 : Int32).toInt ∧ (p0 : Int32).toInt ≤ 2) : Met l yX5_tryMan (Cond.code yX5_tryMan cX5_tryMan 7 none :: TB) (rmd 8 0 0) (PM D cA sz [(h0, .inr (5, [.ref pa_qsettled, .int pa_greatestSum, .int pa_fairest, .ref pa_qtried, .int pa_mostPairs, .ref g])), (pa_qsettled, .inl (cA 1, 8, .inl pa_csettled)), (pa_qtried, .inl (cA 1, 8, .inl pa_ctried)), (g, .inr (3, [.int g_odds, .int g_pot, .int g_lines, .int g_men, .int g_clauses, .int g_winds, .int g_far0, .int g_far1, .ref g_qsides, .ref g_qgrips, .ref g_qwits, .ref g_qsays, .ref g_qgives0, .ref g_qgives1, .ref g_qfroms, .ref g_qtos])), (g_qsides, .inl (cA 1, 8, .inl g_csides)), (g_qgrips, .inl (cA 1, 8, .inl g_cgrips)), (g_qwits, .inl (cA 1, 8, .inl g_cwits))] [.ref h0, .int p0, .int p1, .int p2, .int p3]) (va_Qv (fun (u : SU) => True) (fun u t => va_P D vwCl [(h0, .inr (5, [.ref pa_qsettled, .int (u.2.1 0), .int (u.2.1 1), .ref pa_qtried, .int pa_mostPairs, .ref g])), (pa_qsettled, .inl (cA 1, 8, .inl (u.2.2.1 0))), (pa_qtried, .inl (cA 1, 8, .inl (u.2.2.1 1))), (g, .inr (3, [.int g_odds, .int g_pot, .int g_lines, .int g_men, .int g_clauses, .int g_winds, .int g_far0, .int g_far1, .ref g_qsides, .ref g_qgrips, .ref g_qwits, .ref g_qsays, .ref g_qgives0, .ref g_qgives1, .ref g_qfroms, .ref g_qtos])), (g_qsides, .inl (cA 1, 8, .inl g_csides)), (g_qgrips, .inl (cA 1, 8, .inl g_cgrips)), (g_qwits, .inl (cA 1, 8, .inl g_cwits))] t.heap ∧ va_D (va_A [(h0, .inr (5, [.ref pa_qsettled, .int pa_greatestSum, .int pa_fairest, .ref pa_qtried, .int pa_mostPairs, .ref g])), (pa_qsettled, .inl (cA 1, 8, .inl pa_csettled)), (pa_qtried, .inl (cA 1, 8, .inl pa_ctried)), (g, .inr (3, [.int g_odds, .int g_pot, .int g_lines, .int g_men, .int g_clauses, .int g_winds, .int g_far0, .int g_far1, .ref g_qsides, .ref g_qgrips, .ref g_qwits, .ref g_qsays, .ref g_qgives0, .ref g_qgives1, .ref g_qfroms, .ref g_qtos])), (g_qsides, .inl (cA 1, 8, .inl g_csides)), (g_qgrips, .inl (cA 1, 8, .inl g_cgrips)), (g_qwits, .inl (cA 1, 8, .inl g_cwits))] sz) [(h0, .inr (5, [.ref pa_qsettled, .int (u.2.1 0), .int (u.2.1 1), .ref pa_qtried, .int pa_mostPairs, .ref g])), (pa_qsettled, .inl (cA 1, 8, .inl (u.2.2.1 0))), (pa_qtried, .inl (cA 1, 8, .inl (u.2.2.1 1))), (g, .inr (3, [.int g_odds, .int g_pot, .int g_lines, .int g_men, .int g_clauses, .int g_winds, .int g_far0, .int g_far1, .ref g_qsides, .ref g_qgrips, .ref g_qwits, .ref g_qsays, .ref g_qgives0, .ref g_qgives1, .ref g_qfroms, .ref g_qtos])), (g_qsides, .inl (cA 1, 8, .inl g_csides)), (g_qgrips, .inl (cA 1, 8, .inl g_cgrips)), (g_qwits, .inl (cA 1, 8, .inl g_cwits))]) (va_A [(h0, .inr (5, [.ref pa_qsettled, .int pa_greatestSum, .int pa_fairest, .ref pa_qtried, .int pa_mostPairs, .ref g])), (pa_qsettled, .inl (cA 1, 8, .inl pa_csettled)), (pa_qtried, .inl (cA 1, 8, .inl pa_ctried)), (g, .inr (3, [.int g_odds, .int g_pot, .int g_lines, .int g_men, .int g_clauses, .int g_winds, .int g_far0, .int g_far1, .ref g_qsides, .ref g_qgrips, .ref g_qwits, .ref g_qsays, .ref g_qgives0, .ref g_qgives1, .ref g_qfroms, .ref g_qtos])), (g_qsides, .inl (cA 1, 8, .inl g_csides)), (g_qgrips, .inl (cA 1, 8, .inl g_cgrips)), (g_qwits, .inl (cA 1, 8, .inl g_cwits))] sz)) 0 0 (va_A [(h0, .inr (5, [.ref pa_qsettled, .int pa_greatestSum, .int pa_fairest, .ref pa_qtried, .int pa_mostPairs, .ref g])), (pa_qsettled, .inl (cA 1, 8, .inl pa_csettled)), (pa_qtried, .inl (cA 1, 8, .inl pa_ctried)), (g, .inr (3, [.int g_odds, .int g_pot, .int g_lines, .int g_men, .int g_clauses, .int g_winds, .int g_far0, .int g_far1, .ref g_qsides, .ref g_qgrips, .ref g_qwits, .ref g_qsays, .ref g_qgives0, .ref g_qgives1, .ref g_qfroms, .ref g_qtos])), (g_qsides, .inl (cA 1, 8, .inl g_csides)), (g_qgrips, .inl (cA 1, 8, .inl g_cgrips)), (g_qwits, .inl (cA 1, 8, .inl g_cwits))] sz) := by
  refine Met.ofW (cc := cX5_tryMan) (maxL := 7) (ret := none) (by decide) rfl ?_
  intro p e s m args below meth c s₁ B hml hv
  obtain ⟨rfl, hsz, hP, hKN, hD0⟩ := hv
  have hx := B.exec
  have hb := B.bytes
  have hr := B.returns
  have hts : ∀ w ∈ TB, w.before _ s = true := fun w h => atoms_spec B.pre w (List.mem_cons_of_mem _ h)
  have hown : s.vm.findClass RX5 = some m.cls := findClass_of_methodNamed B.named
  have hlocks := B.notSynchronized
  subst hsz
  have hD := hD0.self (sz := s.heap.size)
  generalize hAe : va_A [(h0, .inr (5, [.ref pa_qsettled, .int pa_greatestSum, .int pa_fairest, .ref pa_qtried, .int pa_mostPairs, .ref g])), (pa_qsettled, .inl (cA 1, 8, .inl pa_csettled)), (pa_qtried, .inl (cA 1, 8, .inl pa_ctried)), (g, .inr (3, [.int g_odds, .int g_pot, .int g_lines, .int g_men, .int g_clauses, .int g_winds, .int g_far0, .int g_far1, .ref g_qsides, .ref g_qgrips, .ref g_qwits, .ref g_qsays, .ref g_qgives0, .ref g_qgives1, .ref g_qfroms, .ref g_qtos])), (g_qsides, .inl (cA 1, 8, .inl g_csides)), (g_qgrips, .inl (cA 1, 8, .inl g_cgrips)), (g_qwits, .inl (cA 1, 8, .inl g_cwits))] s.heap.size = A at hD ⊢
  have hA : ∀ q : Nat, s.heap.size ≤ q → A q := fun q h => by rw [← hAe]; exact Or.inr h
  have hS : va_S A s.heap s.heap [] := va_S.rf
  have hl := lv_entry ([.ref h0, .int p0, .int p1, .int p2, .int p3]) (n := 7) (Nat.le_of_ble_eq_true rfl)
  rw [lg_entry_eq]
  generalize (lg_sl ([.ref h0, .int p0, .int p1, .int p2, .int p3]) ++ List.replicate (7 - (lg_sl ([.ref h0, .int p0, .int p1, .int p2, .int p3])).length) Slot.unset).toArray = ls at hl ⊢
  have hl : lv_has ls 7 [(0, .ref h0), (1, .int p0), (2, .int p1), (3, .int p2), (4, .int p3)] := hl
  refine lv_aload_n hx hb dX5_tryMan_0 rfl (lv_at hl 0 rfl) ?_
  refine va_get (D := D) (ci := 5) (v := .ref g) (C := RX5) (T := TX5) (N := 6) hx hb hts inX5 hown hKN.1 hP 0 rfl rfl 5 (by decide) (hts _ tw_384) (fun _ h9 => h9) rfl dX5_tryMan_1 ?_
  refine lv_iload_n hx hb dX5_tryMan_4 rfl (lv_at hl 1 rfl) ?_
  refine cpVi (rest := []) ⟨hx, hb, hml, hown, hts⟩ hKN (hP.sub (ws' := [(g, .inr (3, [.int g_odds, .int g_pot, .int g_lines, .int g_men, .int g_clauses, .int g_winds, .int g_far0, .int g_far1, .ref g_qsides, .ref g_qgrips, .ref g_qwits, .ref g_qsays, .ref g_qgives0, .ref g_qgives1, .ref g_qfroms, .ref g_qtos]))]) [3] rfl) (g_X3_hasMan l D cA g g_odds g_pot g_lines g_men g_clauses g_winds g_far0 g_far1 g_qsides g_qgrips g_qwits g_qsays g_qgives0 g_qgives1 g_qfroms g_qtos p0 (by omega) (by omega) (by omega) (by omega) (by omega) (by omega) (by omega)) (tb_V tw_888 tw_699 tw_700 tw_104 tw_701) hdX3_hasMan ⟨rfl, rfl, Nat.le_of_ble_eq_true rfl, Nat.le_of_ble_eq_true rfl⟩ ⟨Nat.le_of_ble_eq_true rfl, Nat.le_of_ble_eq_true rfl⟩ rfl rfl rfl hl.1 rfl (Nat.le_of_ble_eq_true rfl) dX5_tryMan_5 (fun r_1 hr_1 => ?_)
  rcases hr_1 with ⟨k_1_0_0, k_1_0_1, k_1_0_2, rfl⟩ | rfl
  · skip
    refine lv_if_ne (tgt := 20) hx hb dX5_tryMan_8 (by decide) (fun c_2 => ?_) (fun c_2 => absurd c_2 (by decide))
    refine lv_aload_n hx hb dX5_tryMan_20 rfl (lv_at hl 0 rfl) ?_
    refine va_get (D := D) (ci := 5) (v := .ref g) (C := RX5) (T := TX5) (N := 6) hx hb hts inX5 hown hKN.1 hP 0 rfl rfl 5 (by decide) (hts _ tw_384) (fun _ h9 => h9) rfl dX5_tryMan_21 ?_
    refine lv_iload_n hx hb dX5_tryMan_24 rfl (lv_at hl 1 rfl) ?_
    refine cpVi (rest := []) ⟨hx, hb, hml, hown, hts⟩ hKN (hP.sub (ws' := [(g, .inr (3, [.int g_odds, .int g_pot, .int g_lines, .int g_men, .int g_clauses, .int g_winds, .int g_far0, .int g_far1, .ref g_qsides, .ref g_qgrips, .ref g_qwits, .ref g_qsays, .ref g_qgives0, .ref g_qgives1, .ref g_qfroms, .ref g_qtos])), (g_qsides, .inl (cA 1, 8, .inl g_csides))]) [3, 4] rfl) (g_X3_sideOf l D cA g g_odds g_pot g_lines g_men g_clauses g_winds g_far0 g_far1 g_qsides g_qgrips g_qwits g_qsays g_qgives0 g_qgives1 g_qfroms g_qtos g_csides p0 (by omega) (by omega) (by omega) (by omega) (by omega) (by omega) (by omega)) (tb_V tw_882 tw_703 tw_704 tw_104 tw_705) hdX3_sideOf ⟨rfl, rfl, Nat.le_of_ble_eq_true rfl, Nat.le_of_ble_eq_true rfl⟩ ⟨Nat.le_of_ble_eq_true rfl, Nat.le_of_ble_eq_true rfl⟩ rfl rfl rfl hl.1 rfl (Nat.le_of_ble_eq_true rfl) dX5_tryMan_25 (fun r_3 hr_3 => ?_)
    rcases hr_3 with ⟨k_3_0_0, k_3_0_1⟩ | rfl
    · skip
      refine lv_if_ne (tgt := 140) hx hb dX5_tryMan_28 (by decide) (fun c_4 => ?_) (fun c_4 => ?_)
      · skip
        have b_6 := i32_bd r_3
        have k_5 := kk_ne rfl zi_0 c_4
        refine lv_aload_n hx hb dX5_tryMan_140 rfl (lv_at hl 0 rfl) ?_
        refine lv_iload_n hx hb dX5_tryMan_141 rfl (lv_at hl 1 rfl) ?_
        refine lv_iconst (v := 1) hx hb dX5_tryMan_142 (by decide) ?_
        refine lv_iadd hx hb dX5_tryMan_143 ?_
        refine lv_topi (fun x_7 ex_7 => ?_)
        have k_8 := ar_add rfl zi_1 ex_7 (by omega) (by omega)
        refine lv_iload_n hx hb dX5_tryMan_144 rfl (lv_at hl 2 rfl) ?_
        refine lv_iload_n hx hb dX5_tryMan_145 rfl (lv_at hl 3 rfl) ?_
        refine lv_iload hx hb dX5_tryMan_146 (lv_at hl 4 rfl) ?_
        refine cmVv (rest := []) (wsC := [(h0, .inr (5, [.ref pa_qsettled, .int pa_greatestSum, .int pa_fairest, .ref pa_qtried, .int pa_mostPairs, .ref g])), (pa_qsettled, .inl (cA 1, 8, .inl pa_csettled)), (pa_qtried, .inl (cA 1, 8, .inl pa_ctried)), (g, .inr (3, [.int g_odds, .int g_pot, .int g_lines, .int g_men, .int g_clauses, .int g_winds, .int g_far0, .int g_far1, .ref g_qsides, .ref g_qgrips, .ref g_qwits, .ref g_qsays, .ref g_qgives0, .ref g_qgives1, .ref g_qfroms, .ref g_qtos])), (g_qsides, .inl (cA 1, 8, .inl g_csides)), (g_qgrips, .inl (cA 1, 8, .inl g_cgrips)), (g_qwits, .inl (cA 1, 8, .inl g_cwits))]) (wr := []) ⟨hx, hb, hml, hown, hts⟩ hKN hP hD hS hA [0, 1, 2, 3, 4, 5, 6] [] rfl rfl (by decide) (by decide) (by decide) (g_X5_tryMan_3 l D cA _ h0 pa_qsettled pa_greatestSum pa_fairest pa_qtried pa_mostPairs g pa_csettled pa_ctried g_odds g_pot g_lines g_men g_clauses g_winds g_far0 g_far1 g_qsides g_qgrips g_qwits g_qsays g_qgives0 g_qgives1 g_qfroms g_qtos g_csides g_cgrips g_cwits x_7 p1 p2 p3 (by omega) (by omega) (by omega) (by omega) (by omega) (by omega) (by omega) (by omega)) (tb_V tw_884 tw_886 tw_13 tw_110 tw_887) hdX5_tryMan ⟨rfl, rfl, Nat.le_of_ble_eq_true rfl, Nat.le_of_ble_eq_true rfl⟩ ⟨Nat.le_of_ble_eq_true rfl, Nat.le_of_ble_eq_true rfl⟩ rfl rfl rfl hl.1 rfl (Nat.le_of_ble_eq_true rfl) dX5_tryMan_148 (fun u_9 H locs hr_9 hP hD hS => ?_)
        have hP : va_P D vwCl [(h0, .inr (5, [.ref pa_qsettled, .int (u_9.2.1 0), .int (u_9.2.1 1), .ref pa_qtried, .int pa_mostPairs, .ref g])), (pa_qsettled, .inl (cA 1, 8, .inl (u_9.2.2.1 0))), (pa_qtried, .inl (cA 1, 8, .inl (u_9.2.2.1 1))), (g, .inr (3, [.int g_odds, .int g_pot, .int g_lines, .int g_men, .int g_clauses, .int g_winds, .int g_far0, .int g_far1, .ref g_qsides, .ref g_qgrips, .ref g_qwits, .ref g_qsays, .ref g_qgives0, .ref g_qgives1, .ref g_qfroms, .ref g_qtos])), (g_qsides, .inl (cA 1, 8, .inl g_csides)), (g_qgrips, .inl (cA 1, 8, .inl g_cgrips)), (g_qwits, .inl (cA 1, 8, .inl g_cwits))] H := hP
        have hD : va_D A [(h0, .inr (5, [.ref pa_qsettled, .int (u_9.2.1 0), .int (u_9.2.1 1), .ref pa_qtried, .int pa_mostPairs, .ref g])), (pa_qsettled, .inl (cA 1, 8, .inl (u_9.2.2.1 0))), (pa_qtried, .inl (cA 1, 8, .inl (u_9.2.2.1 1))), (g, .inr (3, [.int g_odds, .int g_pot, .int g_lines, .int g_men, .int g_clauses, .int g_winds, .int g_far0, .int g_far1, .ref g_qsides, .ref g_qgrips, .ref g_qwits, .ref g_qsays, .ref g_qgives0, .ref g_qgives1, .ref g_qfroms, .ref g_qtos])), (g_qsides, .inl (cA 1, 8, .inl g_csides)), (g_qgrips, .inl (cA 1, 8, .inl g_cgrips)), (g_qwits, .inl (cA 1, 8, .inl g_cwits))] := hD
        have hP9 := hP.sub (ws' := [(h0, .inr (5, [.ref pa_qsettled, .int (u_9.2.1 0), .int (u_9.2.1 1), .ref pa_qtried, .int pa_mostPairs, .ref g])), (pa_qsettled, .inl (cA 1, 8, .inl (u_9.2.2.1 0))), (pa_qtried, .inl (cA 1, 8, .inl (u_9.2.2.1 1))), (g, .inr (3, [.int g_odds, .int g_pot, .int g_lines, .int g_men, .int g_clauses, .int g_winds, .int g_far0, .int g_far1, .ref g_qsides, .ref g_qgrips, .ref g_qwits, .ref g_qsays, .ref g_qgives0, .ref g_qgives1, .ref g_qfroms, .ref g_qtos])), (g_qsides, .inl (cA 1, 8, .inl g_csides)), (g_qgrips, .inl (cA 1, 8, .inl g_cgrips)), (g_qwits, .inl (cA 1, 8, .inl g_cwits))]) [0, 1, 2, 3, 4, 5, 6] rfl
        have hD9 := hD.sub (ws' := [(h0, .inr (5, [.ref pa_qsettled, .int (u_9.2.1 0), .int (u_9.2.1 1), .ref pa_qtried, .int pa_mostPairs, .ref g])), (pa_qsettled, .inl (cA 1, 8, .inl (u_9.2.2.1 0))), (pa_qtried, .inl (cA 1, 8, .inl (u_9.2.2.1 1))), (g, .inr (3, [.int g_odds, .int g_pot, .int g_lines, .int g_men, .int g_clauses, .int g_winds, .int g_far0, .int g_far1, .ref g_qsides, .ref g_qgrips, .ref g_qwits, .ref g_qsays, .ref g_qgives0, .ref g_qgives1, .ref g_qfroms, .ref g_qtos])), (g_qsides, .inl (cA 1, 8, .inl g_csides)), (g_qgrips, .inl (cA 1, 8, .inl g_cgrips)), (g_qwits, .inl (cA 1, 8, .inl g_cwits))]) [0, 1, 2, 3, 4, 5, 6] (by decide) rfl
        exact W.vret hx hb hr (fun t ht hW => ⟨⟨((fun _ => 0), (selI [(u_9.2.1 0), (u_9.2.1 1)]), (selF [(u_9.2.2.1 0), (u_9.2.2.1 1)]), (fun _ _ => 0)), rfl, trivial, by rw [ht]; exact hP9, hD9⟩, hS.F ht⟩) hS.2.2 dX5_tryMan_151
      · skip
        have b_11 := i32_bd r_3
        have k_10 := kk_eq rfl zi_0 c_4
        refine lv_iconst (v := 0) hx hb dX5_tryMan_31 (by decide) ?_
        refine lv_istore (lv' := [(5, .int 0), (0, .ref h0), (1, .int p0), (2, .int p1), (3, .int p2), (4, .int p3)]) hx hb dX5_tryMan_32 hl (by decide) rfl (fun ls hl => ?_)
        have b_241 := i32_bd pa_greatestSum
        have b_242 := i32_bd pa_fairest
        refine loopW (σ := Int32 × Int32 × Int32 × (Nat → Int32) × (Nat → Int32)) (fun _ => []) (fun ⟨L5_240, F1_240, F2_240, F3_240, F4_240⟩ H locs ls => (0 ≤ L5_240.toInt ∧ L5_240.toInt ≤ 8) ∧ va_P D vwCl [(h0, .inr (5, [.ref pa_qsettled, .int F1_240, .int F2_240, .ref pa_qtried, .int pa_mostPairs, .ref g])), (pa_qsettled, .inl (cA 1, 8, .inl F3_240)), (pa_qtried, .inl (cA 1, 8, .inl F4_240)), (g, .inr (3, [.int g_odds, .int g_pot, .int g_lines, .int g_men, .int g_clauses, .int g_winds, .int g_far0, .int g_far1, .ref g_qsides, .ref g_qgrips, .ref g_qwits, .ref g_qsays, .ref g_qgives0, .ref g_qgives1, .ref g_qfroms, .ref g_qtos])), (g_qsides, .inl (cA 1, 8, .inl g_csides)), (g_qgrips, .inl (cA 1, 8, .inl g_cgrips)), (g_qwits, .inl (cA 1, 8, .inl g_cwits))] H ∧ va_D A [(h0, .inr (5, [.ref pa_qsettled, .int F1_240, .int F2_240, .ref pa_qtried, .int pa_mostPairs, .ref g])), (pa_qsettled, .inl (cA 1, 8, .inl F3_240)), (pa_qtried, .inl (cA 1, 8, .inl F4_240)), (g, .inr (3, [.int g_odds, .int g_pot, .int g_lines, .int g_men, .int g_clauses, .int g_winds, .int g_far0, .int g_far1, .ref g_qsides, .ref g_qgrips, .ref g_qwits, .ref g_qsays, .ref g_qgives0, .ref g_qgives1, .ref g_qfroms, .ref g_qtos])), (g_qsides, .inl (cA 1, 8, .inl g_csides)), (g_qgrips, .inl (cA 1, 8, .inl g_cgrips)), (g_qwits, .inl (cA 1, 8, .inl g_cwits))] ∧ va_S A s.heap H locs ∧ lv_has ls 7 [(5, .int L5_240), (0, .ref h0), (1, .int p0), (2, .int p1), (3, .int p2), (4, .int p3)]) (fun ⟨L5_240, F1_240, F2_240, F3_240, F4_240⟩ => (2147483647 - L5_240.toInt).toNat) ?_ ((0, pa_greatestSum, pa_fairest, pa_csettled, pa_ctried) : Int32 × Int32 × Int32 × (Nat → Int32) × (Nat → Int32)) ⟨(by decide), hP, hD, hS, hl⟩
        intro x_240 H locs ls hI_240 ih_240
        obtain ⟨L5_240, F1_240, F2_240, F3_240, F4_240⟩ := x_240
        obtain ⟨k0_240, hP, hD, hS, hl⟩ := hI_240
        have hP : va_P D vwCl [(h0, .inr (5, [.ref pa_qsettled, .int F1_240, .int F2_240, .ref pa_qtried, .int pa_mostPairs, .ref g])), (pa_qsettled, .inl (cA 1, 8, .inl F3_240)), (pa_qtried, .inl (cA 1, 8, .inl F4_240)), (g, .inr (3, [.int g_odds, .int g_pot, .int g_lines, .int g_men, .int g_clauses, .int g_winds, .int g_far0, .int g_far1, .ref g_qsides, .ref g_qgrips, .ref g_qwits, .ref g_qsays, .ref g_qgives0, .ref g_qgives1, .ref g_qfroms, .ref g_qtos])), (g_qsides, .inl (cA 1, 8, .inl g_csides)), (g_qgrips, .inl (cA 1, 8, .inl g_cgrips)), (g_qwits, .inl (cA 1, 8, .inl g_cwits))] H := hP
        have hD : va_D A [(h0, .inr (5, [.ref pa_qsettled, .int F1_240, .int F2_240, .ref pa_qtried, .int pa_mostPairs, .ref g])), (pa_qsettled, .inl (cA 1, 8, .inl F3_240)), (pa_qtried, .inl (cA 1, 8, .inl F4_240)), (g, .inr (3, [.int g_odds, .int g_pot, .int g_lines, .int g_men, .int g_clauses, .int g_winds, .int g_far0, .int g_far1, .ref g_qsides, .ref g_qgrips, .ref g_qwits, .ref g_qsays, .ref g_qgives0, .ref g_qgives1, .ref g_qfroms, .ref g_qtos])), (g_qsides, .inl (cA 1, 8, .inl g_csides)), (g_qgrips, .inl (cA 1, 8, .inl g_cgrips)), (g_qwits, .inl (cA 1, 8, .inl g_cwits))] := hD
        have hl : lv_has ls 7 [(5, .int L5_240), (0, .ref h0), (1, .int p0), (2, .int p1), (3, .int p2), (4, .int p3)] := hl
        refine lv_iload hx hb dX5_tryMan_34 (lv_at hl 0 rfl) ?_
        refine lv_aload_n hx hb dX5_tryMan_36 rfl (lv_at hl 1 rfl) ?_
        refine va_get (D := D) (ci := 5) (v := .ref g) (C := RX5) (T := TX5) (N := 6) hx hb hts inX5 hown hKN.1 hP 0 rfl rfl 5 (by decide) (hts _ tw_384) (fun _ h9 => h9) rfl dX5_tryMan_37 ?_
        refine va_get (D := D) (ci := 3) (v := .int g_men) (C := RX3) (T := TX3) (N := 16) hx hb hts inX3 hown hKN.1 hP 3 rfl rfl 3 (by decide) (hts _ tw_168) (fun _ h9 => h9) rfl dX5_tryMan_40 ?_
        refine lv_icmp_ge (tgt := 140) hx hb dX5_tryMan_43 (by decide) (fun c_243 => ?_) (fun c_243 => ?_)
        · skip
          have k_244 := kk_le rfl rfl c_243
          refine lv_aload_n hx hb dX5_tryMan_140 rfl (lv_at hl 1 rfl) ?_
          refine lv_iload_n hx hb dX5_tryMan_141 rfl (lv_at hl 2 rfl) ?_
          refine lv_iconst (v := 1) hx hb dX5_tryMan_142 (by decide) ?_
          refine lv_iadd hx hb dX5_tryMan_143 ?_
          refine lv_topi (fun x_245 ex_245 => ?_)
          have k_246 := ar_add rfl zi_1 ex_245 (by omega) (by omega)
          refine lv_iload_n hx hb dX5_tryMan_144 rfl (lv_at hl 3 rfl) ?_
          refine lv_iload_n hx hb dX5_tryMan_145 rfl (lv_at hl 4 rfl) ?_
          refine lv_iload hx hb dX5_tryMan_146 (lv_at hl 5 rfl) ?_
          refine cmVv (rest := []) (wsC := [(h0, .inr (5, [.ref pa_qsettled, .int F1_240, .int F2_240, .ref pa_qtried, .int pa_mostPairs, .ref g])), (pa_qsettled, .inl (cA 1, 8, .inl F3_240)), (pa_qtried, .inl (cA 1, 8, .inl F4_240)), (g, .inr (3, [.int g_odds, .int g_pot, .int g_lines, .int g_men, .int g_clauses, .int g_winds, .int g_far0, .int g_far1, .ref g_qsides, .ref g_qgrips, .ref g_qwits, .ref g_qsays, .ref g_qgives0, .ref g_qgives1, .ref g_qfroms, .ref g_qtos])), (g_qsides, .inl (cA 1, 8, .inl g_csides)), (g_qgrips, .inl (cA 1, 8, .inl g_cgrips)), (g_qwits, .inl (cA 1, 8, .inl g_cwits))]) (wr := []) ⟨hx, hb, hml, hown, hts⟩ hKN hP hD hS hA [0, 1, 2, 3, 4, 5, 6] [] rfl rfl (by decide) (by decide) (by decide) (g_X5_tryMan_3 l D cA _ h0 pa_qsettled F1_240 F2_240 pa_qtried pa_mostPairs g F3_240 F4_240 g_odds g_pot g_lines g_men g_clauses g_winds g_far0 g_far1 g_qsides g_qgrips g_qwits g_qsays g_qgives0 g_qgives1 g_qfroms g_qtos g_csides g_cgrips g_cwits x_245 p1 p2 p3 (by omega) (by omega) (by omega) (by omega) (by omega) (by omega) (by omega) (by omega)) (tb_V tw_884 tw_886 tw_13 tw_110 tw_887) hdX5_tryMan ⟨rfl, rfl, Nat.le_of_ble_eq_true rfl, Nat.le_of_ble_eq_true rfl⟩ ⟨Nat.le_of_ble_eq_true rfl, Nat.le_of_ble_eq_true rfl⟩ rfl rfl rfl hl.1 rfl (Nat.le_of_ble_eq_true rfl) dX5_tryMan_148 (fun u_247 H locs hr_247 hP hD hS => ?_)
          have hP : va_P D vwCl [(h0, .inr (5, [.ref pa_qsettled, .int (u_247.2.1 0), .int (u_247.2.1 1), .ref pa_qtried, .int pa_mostPairs, .ref g])), (pa_qsettled, .inl (cA 1, 8, .inl (u_247.2.2.1 0))), (pa_qtried, .inl (cA 1, 8, .inl (u_247.2.2.1 1))), (g, .inr (3, [.int g_odds, .int g_pot, .int g_lines, .int g_men, .int g_clauses, .int g_winds, .int g_far0, .int g_far1, .ref g_qsides, .ref g_qgrips, .ref g_qwits, .ref g_qsays, .ref g_qgives0, .ref g_qgives1, .ref g_qfroms, .ref g_qtos])), (g_qsides, .inl (cA 1, 8, .inl g_csides)), (g_qgrips, .inl (cA 1, 8, .inl g_cgrips)), (g_qwits, .inl (cA 1, 8, .inl g_cwits))] H := hP
          have hD : va_D A [(h0, .inr (5, [.ref pa_qsettled, .int (u_247.2.1 0), .int (u_247.2.1 1), .ref pa_qtried, .int pa_mostPairs, .ref g])), (pa_qsettled, .inl (cA 1, 8, .inl (u_247.2.2.1 0))), (pa_qtried, .inl (cA 1, 8, .inl (u_247.2.2.1 1))), (g, .inr (3, [.int g_odds, .int g_pot, .int g_lines, .int g_men, .int g_clauses, .int g_winds, .int g_far0, .int g_far1, .ref g_qsides, .ref g_qgrips, .ref g_qwits, .ref g_qsays, .ref g_qgives0, .ref g_qgives1, .ref g_qfroms, .ref g_qtos])), (g_qsides, .inl (cA 1, 8, .inl g_csides)), (g_qgrips, .inl (cA 1, 8, .inl g_cgrips)), (g_qwits, .inl (cA 1, 8, .inl g_cwits))] := hD
          have hP9 := hP.sub (ws' := [(h0, .inr (5, [.ref pa_qsettled, .int (u_247.2.1 0), .int (u_247.2.1 1), .ref pa_qtried, .int pa_mostPairs, .ref g])), (pa_qsettled, .inl (cA 1, 8, .inl (u_247.2.2.1 0))), (pa_qtried, .inl (cA 1, 8, .inl (u_247.2.2.1 1))), (g, .inr (3, [.int g_odds, .int g_pot, .int g_lines, .int g_men, .int g_clauses, .int g_winds, .int g_far0, .int g_far1, .ref g_qsides, .ref g_qgrips, .ref g_qwits, .ref g_qsays, .ref g_qgives0, .ref g_qgives1, .ref g_qfroms, .ref g_qtos])), (g_qsides, .inl (cA 1, 8, .inl g_csides)), (g_qgrips, .inl (cA 1, 8, .inl g_cgrips)), (g_qwits, .inl (cA 1, 8, .inl g_cwits))]) [0, 1, 2, 3, 4, 5, 6] rfl
          have hD9 := hD.sub (ws' := [(h0, .inr (5, [.ref pa_qsettled, .int (u_247.2.1 0), .int (u_247.2.1 1), .ref pa_qtried, .int pa_mostPairs, .ref g])), (pa_qsettled, .inl (cA 1, 8, .inl (u_247.2.2.1 0))), (pa_qtried, .inl (cA 1, 8, .inl (u_247.2.2.1 1))), (g, .inr (3, [.int g_odds, .int g_pot, .int g_lines, .int g_men, .int g_clauses, .int g_winds, .int g_far0, .int g_far1, .ref g_qsides, .ref g_qgrips, .ref g_qwits, .ref g_qsays, .ref g_qgives0, .ref g_qgives1, .ref g_qfroms, .ref g_qtos])), (g_qsides, .inl (cA 1, 8, .inl g_csides)), (g_qgrips, .inl (cA 1, 8, .inl g_cgrips)), (g_qwits, .inl (cA 1, 8, .inl g_cwits))]) [0, 1, 2, 3, 4, 5, 6] (by decide) rfl
          exact W.vret hx hb hr (fun t ht hW => ⟨⟨((fun _ => 0), (selI [(u_247.2.1 0), (u_247.2.1 1)]), (selF [(u_247.2.2.1 0), (u_247.2.2.1 1)]), (fun _ _ => 0)), rfl, trivial, by rw [ht]; exact hP9, hD9⟩, hS.F ht⟩) hS.2.2 dX5_tryMan_151
        · skip
          have k_248 := kk_nle rfl rfl c_243
          refine lv_aload_n hx hb dX5_tryMan_46 rfl (lv_at hl 1 rfl) ?_
          refine va_get (D := D) (ci := 5) (v := .ref g) (C := RX5) (T := TX5) (N := 6) hx hb hts inX5 hown hKN.1 hP 0 rfl rfl 5 (by decide) (hts _ tw_384) (fun _ h9 => h9) rfl dX5_tryMan_47 ?_
          refine lv_iload hx hb dX5_tryMan_50 (lv_at hl 0 rfl) ?_
          refine cpVi (rest := []) ⟨hx, hb, hml, hown, hts⟩ hKN (hP.sub (ws' := [(g, .inr (3, [.int g_odds, .int g_pot, .int g_lines, .int g_men, .int g_clauses, .int g_winds, .int g_far0, .int g_far1, .ref g_qsides, .ref g_qgrips, .ref g_qwits, .ref g_qsays, .ref g_qgives0, .ref g_qgives1, .ref g_qfroms, .ref g_qtos])), (g_qsides, .inl (cA 1, 8, .inl g_csides))]) [3, 4] rfl) (g_X3_sideOf l D cA g g_odds g_pot g_lines g_men g_clauses g_winds g_far0 g_far1 g_qsides g_qgrips g_qwits g_qsays g_qgives0 g_qgives1 g_qfroms g_qtos g_csides L5_240 (by omega) (by omega) (by omega) (by omega) (by omega) (by omega) (by omega)) (tb_V tw_882 tw_703 tw_704 tw_104 tw_705) hdX3_sideOf ⟨rfl, rfl, Nat.le_of_ble_eq_true rfl, Nat.le_of_ble_eq_true rfl⟩ ⟨Nat.le_of_ble_eq_true rfl, Nat.le_of_ble_eq_true rfl⟩ rfl rfl rfl hl.1 rfl (Nat.le_of_ble_eq_true rfl) dX5_tryMan_52 (fun r_249 hr_249 => ?_)
          rcases hr_249 with ⟨k_249_0_0, k_249_0_1⟩ | rfl
          · skip
            refine lv_iconst (v := 1) hx hb dX5_tryMan_55 (by decide) ?_
            refine lv_icmp_ne (tgt := 134) hx hb dX5_tryMan_56 (by decide) (fun c_250 => ?_) (fun c_250 => ?_)
            · skip
              have b_252 := i32_bd r_249
              have k_251 := kk_ne rfl zi_1 c_250
              obtain ⟨x_253, ex_253⟩ : ∃ y : Int32, L5_240 + Int32.ofInt 1 = y := ⟨_, rfl⟩
              have k_254 := ar_add (b := 1) rfl zi_1 ex_253.symm (by omega) (by omega)
              refine lv_iinc (v := x_253) (lv' := [(5, .int x_253), (0, .ref h0), (1, .int p0), (2, .int p1), (3, .int p2), (4, .int p3)]) hx hb dX5_tryMan_134 hl (k := 0) rfl ex_253 (by decide) rfl (fun ls hl => ?_)
              refine lv_goto (tgt := 34) hx hb dX5_tryMan_137 (by decide) ?_
              exact ih_240 (x_253, F1_240, F2_240, F3_240, F4_240) _ _ _ ⟨(show 0 ≤ x_253.toInt ∧ x_253.toInt ≤ 8 from by omega), hP.sub [0, 1, 2, 3, 4, 5, 6] rfl, hD.sub [0, 1, 2, 3, 4, 5, 6] (by decide) rfl, hS, lv_sub hl [0, 1, 2, 3, 4, 5] rfl⟩ (by show (2147483647 - x_253.toInt).toNat < (2147483647 - L5_240.toInt).toNat; omega)
            · skip
              have b_256 := i32_bd r_249
              have k_255 := kk_eq rfl zi_1 c_250
              refine lv_aload_n hx hb dX5_tryMan_59 rfl (lv_at hl 1 rfl) ?_
              refine va_get (D := D) (ci := 5) (v := .ref pa_qtried) (C := RX5) (T := TX5) (N := 6) hx hb hts inX5 hown hKN.1 hP 0 rfl rfl 3 (by decide) (hts _ tw_382) (fun _ h9 => h9) rfl dX5_tryMan_60 ?_
              refine lv_iload hx hb dX5_tryMan_63 (lv_at hl 0 rfl) ?_
              refine va_iald hx hb hKN.1 hP 2 1 rfl rfl (vp_in_iff.mpr ⟨by omega, by omega⟩) dX5_tryMan_65 ?_
              refine lv_topi (fun x_257 ex_257 => ?_)
              refine lv_iconst (v := (-1)) hx hb dX5_tryMan_66 (by decide) ?_
              refine lv_icmp_ne (tgt := 134) hx hb dX5_tryMan_67 (by decide) (fun c_258 => ?_) (fun c_258 => ?_)
              · skip
                have b_260 := i32_bd x_257
                have k_259 := kk_ne rfl zi_m1 c_258
                obtain ⟨x_261, ex_261⟩ : ∃ y : Int32, L5_240 + Int32.ofInt 1 = y := ⟨_, rfl⟩
                have k_262 := ar_add (b := 1) rfl zi_1 ex_261.symm (by omega) (by omega)
                refine lv_iinc (v := x_261) (lv' := [(5, .int x_261), (0, .ref h0), (1, .int p0), (2, .int p1), (3, .int p2), (4, .int p3)]) hx hb dX5_tryMan_134 hl (k := 0) rfl ex_261 (by decide) rfl (fun ls hl => ?_)
                refine lv_goto (tgt := 34) hx hb dX5_tryMan_137 (by decide) ?_
                exact ih_240 (x_261, F1_240, F2_240, F3_240, F4_240) _ _ _ ⟨(show 0 ≤ x_261.toInt ∧ x_261.toInt ≤ 8 from by omega), hP.sub [0, 1, 2, 3, 4, 5, 6] rfl, hD.sub [0, 1, 2, 3, 4, 5, 6] (by decide) rfl, hS, lv_sub hl [0, 1, 2, 3, 4, 5] rfl⟩ (by show (2147483647 - x_261.toInt).toNat < (2147483647 - L5_240.toInt).toNat; omega)
              · skip
                have b_264 := i32_bd x_257
                have k_263 := kk_eq rfl zi_m1 c_258
                refine lv_aload_n hx hb dX5_tryMan_70 rfl (lv_at hl 1 rfl) ?_
                refine va_get (D := D) (ci := 5) (v := .ref g) (C := RX5) (T := TX5) (N := 6) hx hb hts inX5 hown hKN.1 hP 0 rfl rfl 5 (by decide) (hts _ tw_384) (fun _ h9 => h9) rfl dX5_tryMan_71 ?_
                refine lv_iload_n hx hb dX5_tryMan_74 rfl (lv_at hl 2 rfl) ?_
                refine lv_iload hx hb dX5_tryMan_75 (lv_at hl 0 rfl) ?_
                refine cpVi (rest := []) ⟨hx, hb, hml, hown, hts⟩ hKN (hP.sub (ws' := [(g, .inr (3, [.int g_odds, .int g_pot, .int g_lines, .int g_men, .int g_clauses, .int g_winds, .int g_far0, .int g_far1, .ref g_qsides, .ref g_qgrips, .ref g_qwits, .ref g_qsays, .ref g_qgives0, .ref g_qgives1, .ref g_qfroms, .ref g_qtos])), (g_qsides, .inl (cA 1, 8, .inl g_csides)), (g_qgrips, .inl (cA 1, 8, .inl g_cgrips)), (g_qwits, .inl (cA 1, 8, .inl g_cwits))]) [3, 4, 5, 6] rfl) (g_X3_holdOrRefusal l D cA g g_odds g_pot g_lines g_men g_clauses g_winds g_far0 g_far1 g_qsides g_qgrips g_qwits g_qsays g_qgives0 g_qgives1 g_qfroms g_qtos g_csides g_cgrips g_cwits p0 L5_240 (by omega) (by omega) (by omega) (by omega) (by omega) (by omega) (by omega)) (tb_V tw_895 tw_844 tw_845 tw_104 tw_846) hdX3_holdOrRefusal ⟨rfl, rfl, Nat.le_of_ble_eq_true rfl, Nat.le_of_ble_eq_true rfl⟩ ⟨Nat.le_of_ble_eq_true rfl, Nat.le_of_ble_eq_true rfl⟩ rfl rfl rfl hl.1 rfl (Nat.le_of_ble_eq_true rfl) dX5_tryMan_77 (fun r_265 hr_265 => ?_)
                refine lv_istore (lv' := [(6, .int r_265), (5, .int L5_240), (0, .ref h0), (1, .int p0), (2, .int p1), (3, .int p2), (4, .int p3)]) hx hb dX5_tryMan_80 hl (by decide) rfl (fun ls hl => ?_)
                refine lv_aload_n hx hb dX5_tryMan_82 rfl (lv_at hl 2 rfl) ?_
                refine va_get (D := D) (ci := 5) (v := .ref pa_qtried) (C := RX5) (T := TX5) (N := 6) hx hb hts inX5 hown hKN.1 hP 0 rfl rfl 3 (by decide) (hts _ tw_382) (fun _ h9 => h9) rfl dX5_tryMan_83 ?_
                refine lv_iload_n hx hb dX5_tryMan_86 rfl (lv_at hl 3 rfl) ?_
                refine lv_iload hx hb dX5_tryMan_87 (lv_at hl 1 rfl) ?_
                refine va_iast hx hb hKN.1 hP hD hS 2 1 rfl rfl (vp_in_iff.mpr ⟨by omega, by omega⟩) dX5_tryMan_89 (fun H locs hP hD hS => ?_)
                have hP : va_P D vwCl [(h0, .inr (5, [.ref pa_qsettled, .int F1_240, .int F2_240, .ref pa_qtried, .int pa_mostPairs, .ref g])), (pa_qsettled, .inl (cA 1, 8, .inl F3_240)), (pa_qtried, .inl (cA 1, 8, .inl (upd F4_240 p0.toNatClampNeg L5_240))), (g, .inr (3, [.int g_odds, .int g_pot, .int g_lines, .int g_men, .int g_clauses, .int g_winds, .int g_far0, .int g_far1, .ref g_qsides, .ref g_qgrips, .ref g_qwits, .ref g_qsays, .ref g_qgives0, .ref g_qgives1, .ref g_qfroms, .ref g_qtos])), (g_qsides, .inl (cA 1, 8, .inl g_csides)), (g_qgrips, .inl (cA 1, 8, .inl g_cgrips)), (g_qwits, .inl (cA 1, 8, .inl g_cwits))] H := hP
                have hD : va_D A [(h0, .inr (5, [.ref pa_qsettled, .int F1_240, .int F2_240, .ref pa_qtried, .int pa_mostPairs, .ref g])), (pa_qsettled, .inl (cA 1, 8, .inl F3_240)), (pa_qtried, .inl (cA 1, 8, .inl (upd F4_240 p0.toNatClampNeg L5_240))), (g, .inr (3, [.int g_odds, .int g_pot, .int g_lines, .int g_men, .int g_clauses, .int g_winds, .int g_far0, .int g_far1, .ref g_qsides, .ref g_qgrips, .ref g_qwits, .ref g_qsays, .ref g_qgives0, .ref g_qgives1, .ref g_qfroms, .ref g_qtos])), (g_qsides, .inl (cA 1, 8, .inl g_csides)), (g_qgrips, .inl (cA 1, 8, .inl g_cgrips)), (g_qwits, .inl (cA 1, 8, .inl g_cwits))] := hD
                generalize ef_266 : (upd F4_240 p0.toNatClampNeg L5_240) = f_266 at hP hD
                refine lv_aload_n hx hb dX5_tryMan_90 rfl (lv_at hl 2 rfl) ?_
                refine va_get (D := D) (ci := 5) (v := .ref pa_qtried) (C := RX5) (T := TX5) (N := 6) hx hb hts inX5 hown hKN.1 hP 0 rfl rfl 3 (by decide) (hts _ tw_382) (fun _ h9 => h9) rfl dX5_tryMan_91 ?_
                refine lv_iload hx hb dX5_tryMan_94 (lv_at hl 1 rfl) ?_
                refine lv_iload_n hx hb dX5_tryMan_96 rfl (lv_at hl 3 rfl) ?_
                refine va_iast hx hb hKN.1 hP hD hS 2 1 rfl rfl (vp_in_iff.mpr ⟨by omega, by omega⟩) dX5_tryMan_97 (fun H locs hP hD hS => ?_)
                have hP : va_P D vwCl [(h0, .inr (5, [.ref pa_qsettled, .int F1_240, .int F2_240, .ref pa_qtried, .int pa_mostPairs, .ref g])), (pa_qsettled, .inl (cA 1, 8, .inl F3_240)), (pa_qtried, .inl (cA 1, 8, .inl (upd f_266 L5_240.toNatClampNeg p0))), (g, .inr (3, [.int g_odds, .int g_pot, .int g_lines, .int g_men, .int g_clauses, .int g_winds, .int g_far0, .int g_far1, .ref g_qsides, .ref g_qgrips, .ref g_qwits, .ref g_qsays, .ref g_qgives0, .ref g_qgives1, .ref g_qfroms, .ref g_qtos])), (g_qsides, .inl (cA 1, 8, .inl g_csides)), (g_qgrips, .inl (cA 1, 8, .inl g_cgrips)), (g_qwits, .inl (cA 1, 8, .inl g_cwits))] H := hP
                have hD : va_D A [(h0, .inr (5, [.ref pa_qsettled, .int F1_240, .int F2_240, .ref pa_qtried, .int pa_mostPairs, .ref g])), (pa_qsettled, .inl (cA 1, 8, .inl F3_240)), (pa_qtried, .inl (cA 1, 8, .inl (upd f_266 L5_240.toNatClampNeg p0))), (g, .inr (3, [.int g_odds, .int g_pot, .int g_lines, .int g_men, .int g_clauses, .int g_winds, .int g_far0, .int g_far1, .ref g_qsides, .ref g_qgrips, .ref g_qwits, .ref g_qsays, .ref g_qgives0, .ref g_qgives1, .ref g_qfroms, .ref g_qtos])), (g_qsides, .inl (cA 1, 8, .inl g_csides)), (g_qgrips, .inl (cA 1, 8, .inl g_cgrips)), (g_qwits, .inl (cA 1, 8, .inl g_cwits))] := hD
                generalize ef_267 : (upd f_266 L5_240.toNatClampNeg p0) = f_267 at hP hD
                refine lv_aload_n hx hb dX5_tryMan_98 rfl (lv_at hl 2 rfl) ?_
                refine lv_iload_n hx hb dX5_tryMan_99 rfl (lv_at hl 3 rfl) ?_
                refine lv_iconst (v := 1) hx hb dX5_tryMan_100 (by decide) ?_
                refine lv_iadd hx hb dX5_tryMan_101 ?_
                refine lv_topi (fun x_268 ex_268 => ?_)
                have k_269 := ar_add rfl zi_1 ex_268 (by omega) (by omega)
                refine lv_iload_n hx hb dX5_tryMan_102 rfl (lv_at hl 4 rfl) ?_
                refine lv_iconst (v := 1) hx hb dX5_tryMan_103 (by decide) ?_
                refine lv_iadd hx hb dX5_tryMan_104 ?_
                refine lv_topi (fun x_270 ex_270 => ?_)
                refine lv_iload_n hx hb dX5_tryMan_105 rfl (lv_at hl 5 rfl) ?_
                refine lv_iload hx hb dX5_tryMan_106 (lv_at hl 0 rfl) ?_
                refine lv_iadd hx hb dX5_tryMan_108 ?_
                refine lv_topi (fun x_272 ex_272 => ?_)
                refine lv_iload hx hb dX5_tryMan_109 (lv_at hl 6 rfl) ?_
                refine lv_iload hx hb dX5_tryMan_111 (lv_at hl 0 rfl) ?_
                refine cpSi (rest := [.int x_272, .int x_270, .int x_268, .ref h0]) ⟨hx, hb, hml, hown, hts⟩ hKN (hP.sub (ws' := []) [] rfl) (g_J9_min_7cf53 l D cA p3 r_265) (tb_S tw_883 tw_555 tw_115 tw_556) hdJ9_min_7cf53 ⟨rfl, rfl, Nat.le_of_ble_eq_true rfl, Nat.le_of_ble_eq_true rfl⟩ ⟨Nat.le_of_ble_eq_true rfl, Nat.le_of_ble_eq_true rfl⟩ rfl hl.1 rfl (Nat.le_of_ble_eq_true rfl) dX5_tryMan_113 (fun r_274 hr_274 => ?_)
                obtain ⟨k_274_0_0, k_274_0_1, k_274_0_2⟩ := hr_274
                refine cmVv (rest := []) (wsC := [(h0, .inr (5, [.ref pa_qsettled, .int F1_240, .int F2_240, .ref pa_qtried, .int pa_mostPairs, .ref g])), (pa_qsettled, .inl (cA 1, 8, .inl F3_240)), (pa_qtried, .inl (cA 1, 8, .inl f_267)), (g, .inr (3, [.int g_odds, .int g_pot, .int g_lines, .int g_men, .int g_clauses, .int g_winds, .int g_far0, .int g_far1, .ref g_qsides, .ref g_qgrips, .ref g_qwits, .ref g_qsays, .ref g_qgives0, .ref g_qgives1, .ref g_qfroms, .ref g_qtos])), (g_qsides, .inl (cA 1, 8, .inl g_csides)), (g_qgrips, .inl (cA 1, 8, .inl g_cgrips)), (g_qwits, .inl (cA 1, 8, .inl g_cwits))]) (wr := []) ⟨hx, hb, hml, hown, hts⟩ hKN hP hD hS hA [0, 1, 2, 3, 4, 5, 6] [] rfl rfl (by decide) (by decide) (by decide) (g_X5_tryMan_3 l D cA _ h0 pa_qsettled F1_240 F2_240 pa_qtried pa_mostPairs g F3_240 f_267 g_odds g_pot g_lines g_men g_clauses g_winds g_far0 g_far1 g_qsides g_qgrips g_qwits g_qsays g_qgives0 g_qgives1 g_qfroms g_qtos g_csides g_cgrips g_cwits x_268 x_270 x_272 r_274 (by omega) (by omega) (by omega) (by omega) (by omega) (by omega) (by omega) (by omega)) (tb_V tw_884 tw_886 tw_13 tw_110 tw_887) hdX5_tryMan ⟨rfl, rfl, Nat.le_of_ble_eq_true rfl, Nat.le_of_ble_eq_true rfl⟩ ⟨Nat.le_of_ble_eq_true rfl, Nat.le_of_ble_eq_true rfl⟩ rfl rfl rfl hl.1 rfl (Nat.le_of_ble_eq_true rfl) dX5_tryMan_116 (fun u_275 H locs hr_275 hP hD hS => ?_)
                have hP : va_P D vwCl [(h0, .inr (5, [.ref pa_qsettled, .int (u_275.2.1 0), .int (u_275.2.1 1), .ref pa_qtried, .int pa_mostPairs, .ref g])), (pa_qsettled, .inl (cA 1, 8, .inl (u_275.2.2.1 0))), (pa_qtried, .inl (cA 1, 8, .inl (u_275.2.2.1 1))), (g, .inr (3, [.int g_odds, .int g_pot, .int g_lines, .int g_men, .int g_clauses, .int g_winds, .int g_far0, .int g_far1, .ref g_qsides, .ref g_qgrips, .ref g_qwits, .ref g_qsays, .ref g_qgives0, .ref g_qgives1, .ref g_qfroms, .ref g_qtos])), (g_qsides, .inl (cA 1, 8, .inl g_csides)), (g_qgrips, .inl (cA 1, 8, .inl g_cgrips)), (g_qwits, .inl (cA 1, 8, .inl g_cwits))] H := hP
                have hD : va_D A [(h0, .inr (5, [.ref pa_qsettled, .int (u_275.2.1 0), .int (u_275.2.1 1), .ref pa_qtried, .int pa_mostPairs, .ref g])), (pa_qsettled, .inl (cA 1, 8, .inl (u_275.2.2.1 0))), (pa_qtried, .inl (cA 1, 8, .inl (u_275.2.2.1 1))), (g, .inr (3, [.int g_odds, .int g_pot, .int g_lines, .int g_men, .int g_clauses, .int g_winds, .int g_far0, .int g_far1, .ref g_qsides, .ref g_qgrips, .ref g_qwits, .ref g_qsays, .ref g_qgives0, .ref g_qgives1, .ref g_qfroms, .ref g_qtos])), (g_qsides, .inl (cA 1, 8, .inl g_csides)), (g_qgrips, .inl (cA 1, 8, .inl g_cgrips)), (g_qwits, .inl (cA 1, 8, .inl g_cwits))] := hD
                refine lv_aload_n hx hb dX5_tryMan_119 rfl (lv_at hl 2 rfl) ?_
                refine va_get (D := D) (ci := 5) (v := .ref pa_qtried) (C := RX5) (T := TX5) (N := 6) hx hb hts inX5 hown hKN.1 hP 0 rfl rfl 3 (by decide) (hts _ tw_382) (fun _ h9 => h9) rfl dX5_tryMan_120 ?_
                refine lv_iload_n hx hb dX5_tryMan_123 rfl (lv_at hl 3 rfl) ?_
                refine lv_iconst (v := (-1)) hx hb dX5_tryMan_124 (by decide) ?_
                refine va_iast hx hb hKN.1 hP hD hS 2 1 rfl rfl (vp_in_iff.mpr ⟨by omega, by omega⟩) dX5_tryMan_125 (fun H locs hP hD hS => ?_)
                have hP : va_P D vwCl [(h0, .inr (5, [.ref pa_qsettled, .int (u_275.2.1 0), .int (u_275.2.1 1), .ref pa_qtried, .int pa_mostPairs, .ref g])), (pa_qsettled, .inl (cA 1, 8, .inl (u_275.2.2.1 0))), (pa_qtried, .inl (cA 1, 8, .inl (upd (u_275.2.2.1 1) p0.toNatClampNeg (-1)))), (g, .inr (3, [.int g_odds, .int g_pot, .int g_lines, .int g_men, .int g_clauses, .int g_winds, .int g_far0, .int g_far1, .ref g_qsides, .ref g_qgrips, .ref g_qwits, .ref g_qsays, .ref g_qgives0, .ref g_qgives1, .ref g_qfroms, .ref g_qtos])), (g_qsides, .inl (cA 1, 8, .inl g_csides)), (g_qgrips, .inl (cA 1, 8, .inl g_cgrips)), (g_qwits, .inl (cA 1, 8, .inl g_cwits))] H := hP
                have hD : va_D A [(h0, .inr (5, [.ref pa_qsettled, .int (u_275.2.1 0), .int (u_275.2.1 1), .ref pa_qtried, .int pa_mostPairs, .ref g])), (pa_qsettled, .inl (cA 1, 8, .inl (u_275.2.2.1 0))), (pa_qtried, .inl (cA 1, 8, .inl (upd (u_275.2.2.1 1) p0.toNatClampNeg (-1)))), (g, .inr (3, [.int g_odds, .int g_pot, .int g_lines, .int g_men, .int g_clauses, .int g_winds, .int g_far0, .int g_far1, .ref g_qsides, .ref g_qgrips, .ref g_qwits, .ref g_qsays, .ref g_qgives0, .ref g_qgives1, .ref g_qfroms, .ref g_qtos])), (g_qsides, .inl (cA 1, 8, .inl g_csides)), (g_qgrips, .inl (cA 1, 8, .inl g_cgrips)), (g_qwits, .inl (cA 1, 8, .inl g_cwits))] := hD
                generalize ef_276 : (upd (u_275.2.2.1 1) p0.toNatClampNeg (-1)) = f_276 at hP hD
                refine lv_aload_n hx hb dX5_tryMan_126 rfl (lv_at hl 2 rfl) ?_
                refine va_get (D := D) (ci := 5) (v := .ref pa_qtried) (C := RX5) (T := TX5) (N := 6) hx hb hts inX5 hown hKN.1 hP 0 rfl rfl 3 (by decide) (hts _ tw_382) (fun _ h9 => h9) rfl dX5_tryMan_127 ?_
                refine lv_iload hx hb dX5_tryMan_130 (lv_at hl 1 rfl) ?_
                refine lv_iconst (v := (-1)) hx hb dX5_tryMan_132 (by decide) ?_
                refine va_iast hx hb hKN.1 hP hD hS 2 1 rfl rfl (vp_in_iff.mpr ⟨by omega, by omega⟩) dX5_tryMan_133 (fun H locs hP hD hS => ?_)
                have hP : va_P D vwCl [(h0, .inr (5, [.ref pa_qsettled, .int (u_275.2.1 0), .int (u_275.2.1 1), .ref pa_qtried, .int pa_mostPairs, .ref g])), (pa_qsettled, .inl (cA 1, 8, .inl (u_275.2.2.1 0))), (pa_qtried, .inl (cA 1, 8, .inl (upd f_276 L5_240.toNatClampNeg (-1)))), (g, .inr (3, [.int g_odds, .int g_pot, .int g_lines, .int g_men, .int g_clauses, .int g_winds, .int g_far0, .int g_far1, .ref g_qsides, .ref g_qgrips, .ref g_qwits, .ref g_qsays, .ref g_qgives0, .ref g_qgives1, .ref g_qfroms, .ref g_qtos])), (g_qsides, .inl (cA 1, 8, .inl g_csides)), (g_qgrips, .inl (cA 1, 8, .inl g_cgrips)), (g_qwits, .inl (cA 1, 8, .inl g_cwits))] H := hP
                have hD : va_D A [(h0, .inr (5, [.ref pa_qsettled, .int (u_275.2.1 0), .int (u_275.2.1 1), .ref pa_qtried, .int pa_mostPairs, .ref g])), (pa_qsettled, .inl (cA 1, 8, .inl (u_275.2.2.1 0))), (pa_qtried, .inl (cA 1, 8, .inl (upd f_276 L5_240.toNatClampNeg (-1)))), (g, .inr (3, [.int g_odds, .int g_pot, .int g_lines, .int g_men, .int g_clauses, .int g_winds, .int g_far0, .int g_far1, .ref g_qsides, .ref g_qgrips, .ref g_qwits, .ref g_qsays, .ref g_qgives0, .ref g_qgives1, .ref g_qfroms, .ref g_qtos])), (g_qsides, .inl (cA 1, 8, .inl g_csides)), (g_qgrips, .inl (cA 1, 8, .inl g_cgrips)), (g_qwits, .inl (cA 1, 8, .inl g_cwits))] := hD
                generalize ef_277 : (upd f_276 L5_240.toNatClampNeg (-1)) = f_277 at hP hD
                obtain ⟨x_278, ex_278⟩ : ∃ y : Int32, L5_240 + Int32.ofInt 1 = y := ⟨_, rfl⟩
                have k_279 := ar_add (b := 1) rfl zi_1 ex_278.symm (by omega) (by omega)
                refine lv_iinc (v := x_278) (lv' := [(5, .int x_278), (6, .int r_265), (0, .ref h0), (1, .int p0), (2, .int p1), (3, .int p2), (4, .int p3)]) hx hb dX5_tryMan_134 hl (k := 1) rfl ex_278 (by decide) rfl (fun ls hl => ?_)
                refine lv_goto (tgt := 34) hx hb dX5_tryMan_137 (by decide) ?_
                exact ih_240 (x_278, (u_275.2.1 0), (u_275.2.1 1), (u_275.2.2.1 0), f_277) _ _ _ ⟨(show 0 ≤ x_278.toInt ∧ x_278.toInt ≤ 8 from by omega), hP.sub [0, 1, 2, 3, 4, 5, 6] rfl, hD.sub [0, 1, 2, 3, 4, 5, 6] (by decide) rfl, hS, lv_sub hl [0, 2, 3, 4, 5, 6] rfl⟩ (by show (2147483647 - x_278.toInt).toNat < (2147483647 - L5_240.toInt).toNat; omega)
          · skip
            refine lv_iconst (v := 1) hx hb dX5_tryMan_55 (by decide) ?_
            refine lv_icmp_ne (tgt := 134) hx hb dX5_tryMan_56 (by decide) (fun c_280 => ?_) (fun c_280 => absurd c_280 (by decide))
            obtain ⟨x_281, ex_281⟩ : ∃ y : Int32, L5_240 + Int32.ofInt 1 = y := ⟨_, rfl⟩
            have k_282 := ar_add (b := 1) rfl zi_1 ex_281.symm (by omega) (by omega)
            refine lv_iinc (v := x_281) (lv' := [(5, .int x_281), (0, .ref h0), (1, .int p0), (2, .int p1), (3, .int p2), (4, .int p3)]) hx hb dX5_tryMan_134 hl (k := 0) rfl ex_281 (by decide) rfl (fun ls hl => ?_)
            refine lv_goto (tgt := 34) hx hb dX5_tryMan_137 (by decide) ?_
            exact ih_240 (x_281, F1_240, F2_240, F3_240, F4_240) _ _ _ ⟨(show 0 ≤ x_281.toInt ∧ x_281.toInt ≤ 8 from by omega), hP.sub [0, 1, 2, 3, 4, 5, 6] rfl, hD.sub [0, 1, 2, 3, 4, 5, 6] (by decide) rfl, hS, lv_sub hl [0, 1, 2, 3, 4, 5] rfl⟩ (by show (2147483647 - x_281.toInt).toNat < (2147483647 - L5_240.toInt).toNat; omega)
    · skip
      refine lv_if_ne (tgt := 140) hx hb dX5_tryMan_28 (by decide) (fun c_283 => ?_) (fun c_283 => absurd c_283 (by decide))
      refine lv_aload_n hx hb dX5_tryMan_140 rfl (lv_at hl 0 rfl) ?_
      refine lv_iload_n hx hb dX5_tryMan_141 rfl (lv_at hl 1 rfl) ?_
      refine lv_iconst (v := 1) hx hb dX5_tryMan_142 (by decide) ?_
      refine lv_iadd hx hb dX5_tryMan_143 ?_
      refine lv_topi (fun x_284 ex_284 => ?_)
      have k_285 := ar_add rfl zi_1 ex_284 (by omega) (by omega)
      refine lv_iload_n hx hb dX5_tryMan_144 rfl (lv_at hl 2 rfl) ?_
      refine lv_iload_n hx hb dX5_tryMan_145 rfl (lv_at hl 3 rfl) ?_
      refine lv_iload hx hb dX5_tryMan_146 (lv_at hl 4 rfl) ?_
      refine cmVv (rest := []) (wsC := [(h0, .inr (5, [.ref pa_qsettled, .int pa_greatestSum, .int pa_fairest, .ref pa_qtried, .int pa_mostPairs, .ref g])), (pa_qsettled, .inl (cA 1, 8, .inl pa_csettled)), (pa_qtried, .inl (cA 1, 8, .inl pa_ctried)), (g, .inr (3, [.int g_odds, .int g_pot, .int g_lines, .int g_men, .int g_clauses, .int g_winds, .int g_far0, .int g_far1, .ref g_qsides, .ref g_qgrips, .ref g_qwits, .ref g_qsays, .ref g_qgives0, .ref g_qgives1, .ref g_qfroms, .ref g_qtos])), (g_qsides, .inl (cA 1, 8, .inl g_csides)), (g_qgrips, .inl (cA 1, 8, .inl g_cgrips)), (g_qwits, .inl (cA 1, 8, .inl g_cwits))]) (wr := []) ⟨hx, hb, hml, hown, hts⟩ hKN hP hD hS hA [0, 1, 2, 3, 4, 5, 6] [] rfl rfl (by decide) (by decide) (by decide) (g_X5_tryMan_3 l D cA _ h0 pa_qsettled pa_greatestSum pa_fairest pa_qtried pa_mostPairs g pa_csettled pa_ctried g_odds g_pot g_lines g_men g_clauses g_winds g_far0 g_far1 g_qsides g_qgrips g_qwits g_qsays g_qgives0 g_qgives1 g_qfroms g_qtos g_csides g_cgrips g_cwits x_284 p1 p2 p3 (by omega) (by omega) (by omega) (by omega) (by omega) (by omega) (by omega) (by omega)) (tb_V tw_884 tw_886 tw_13 tw_110 tw_887) hdX5_tryMan ⟨rfl, rfl, Nat.le_of_ble_eq_true rfl, Nat.le_of_ble_eq_true rfl⟩ ⟨Nat.le_of_ble_eq_true rfl, Nat.le_of_ble_eq_true rfl⟩ rfl rfl rfl hl.1 rfl (Nat.le_of_ble_eq_true rfl) dX5_tryMan_148 (fun u_286 H locs hr_286 hP hD hS => ?_)
      have hP : va_P D vwCl [(h0, .inr (5, [.ref pa_qsettled, .int (u_286.2.1 0), .int (u_286.2.1 1), .ref pa_qtried, .int pa_mostPairs, .ref g])), (pa_qsettled, .inl (cA 1, 8, .inl (u_286.2.2.1 0))), (pa_qtried, .inl (cA 1, 8, .inl (u_286.2.2.1 1))), (g, .inr (3, [.int g_odds, .int g_pot, .int g_lines, .int g_men, .int g_clauses, .int g_winds, .int g_far0, .int g_far1, .ref g_qsides, .ref g_qgrips, .ref g_qwits, .ref g_qsays, .ref g_qgives0, .ref g_qgives1, .ref g_qfroms, .ref g_qtos])), (g_qsides, .inl (cA 1, 8, .inl g_csides)), (g_qgrips, .inl (cA 1, 8, .inl g_cgrips)), (g_qwits, .inl (cA 1, 8, .inl g_cwits))] H := hP
      have hD : va_D A [(h0, .inr (5, [.ref pa_qsettled, .int (u_286.2.1 0), .int (u_286.2.1 1), .ref pa_qtried, .int pa_mostPairs, .ref g])), (pa_qsettled, .inl (cA 1, 8, .inl (u_286.2.2.1 0))), (pa_qtried, .inl (cA 1, 8, .inl (u_286.2.2.1 1))), (g, .inr (3, [.int g_odds, .int g_pot, .int g_lines, .int g_men, .int g_clauses, .int g_winds, .int g_far0, .int g_far1, .ref g_qsides, .ref g_qgrips, .ref g_qwits, .ref g_qsays, .ref g_qgives0, .ref g_qgives1, .ref g_qfroms, .ref g_qtos])), (g_qsides, .inl (cA 1, 8, .inl g_csides)), (g_qgrips, .inl (cA 1, 8, .inl g_cgrips)), (g_qwits, .inl (cA 1, 8, .inl g_cwits))] := hD
      have hP9 := hP.sub (ws' := [(h0, .inr (5, [.ref pa_qsettled, .int (u_286.2.1 0), .int (u_286.2.1 1), .ref pa_qtried, .int pa_mostPairs, .ref g])), (pa_qsettled, .inl (cA 1, 8, .inl (u_286.2.2.1 0))), (pa_qtried, .inl (cA 1, 8, .inl (u_286.2.2.1 1))), (g, .inr (3, [.int g_odds, .int g_pot, .int g_lines, .int g_men, .int g_clauses, .int g_winds, .int g_far0, .int g_far1, .ref g_qsides, .ref g_qgrips, .ref g_qwits, .ref g_qsays, .ref g_qgives0, .ref g_qgives1, .ref g_qfroms, .ref g_qtos])), (g_qsides, .inl (cA 1, 8, .inl g_csides)), (g_qgrips, .inl (cA 1, 8, .inl g_cgrips)), (g_qwits, .inl (cA 1, 8, .inl g_cwits))]) [0, 1, 2, 3, 4, 5, 6] rfl
      have hD9 := hD.sub (ws' := [(h0, .inr (5, [.ref pa_qsettled, .int (u_286.2.1 0), .int (u_286.2.1 1), .ref pa_qtried, .int pa_mostPairs, .ref g])), (pa_qsettled, .inl (cA 1, 8, .inl (u_286.2.2.1 0))), (pa_qtried, .inl (cA 1, 8, .inl (u_286.2.2.1 1))), (g, .inr (3, [.int g_odds, .int g_pot, .int g_lines, .int g_men, .int g_clauses, .int g_winds, .int g_far0, .int g_far1, .ref g_qsides, .ref g_qgrips, .ref g_qwits, .ref g_qsays, .ref g_qgives0, .ref g_qgives1, .ref g_qfroms, .ref g_qtos])), (g_qsides, .inl (cA 1, 8, .inl g_csides)), (g_qgrips, .inl (cA 1, 8, .inl g_cgrips)), (g_qwits, .inl (cA 1, 8, .inl g_cwits))]) [0, 1, 2, 3, 4, 5, 6] (by decide) rfl
      exact W.vret hx hb hr (fun t ht hW => ⟨⟨((fun _ => 0), (selI [(u_286.2.1 0), (u_286.2.1 1)]), (selF [(u_286.2.2.1 0), (u_286.2.2.1 1)]), (fun _ _ => 0)), rfl, trivial, by rw [ht]; exact hP9, hD9⟩, hS.F ht⟩) hS.2.2 dX5_tryMan_151
  · skip
    refine lv_if_ne (tgt := 20) hx hb dX5_tryMan_8 (by decide) (fun c_287 => absurd (by decide) c_287) (fun c_287 => ?_)
    refine lv_aload_n hx hb dX5_tryMan_11 rfl (lv_at hl 0 rfl) ?_
    refine lv_iload_n hx hb dX5_tryMan_12 rfl (lv_at hl 2 rfl) ?_
    refine lv_iload_n hx hb dX5_tryMan_13 rfl (lv_at hl 3 rfl) ?_
    refine lv_iload hx hb dX5_tryMan_14 (lv_at hl 4 rfl) ?_
    refine cmVv (rest := []) (wsC := [(h0, .inr (5, [.ref pa_qsettled, .int pa_greatestSum, .int pa_fairest, .ref pa_qtried, .int pa_mostPairs, .ref g])), (pa_qsettled, .inl (cA 1, 8, .inl pa_csettled)), (pa_qtried, .inl (cA 1, 8, .inl pa_ctried))]) (wr := [(g, .inr (3, [.int g_odds, .int g_pot, .int g_lines, .int g_men, .int g_clauses, .int g_winds, .int g_far0, .int g_far1, .ref g_qsides, .ref g_qgrips, .ref g_qwits, .ref g_qsays, .ref g_qgives0, .ref g_qgives1, .ref g_qfroms, .ref g_qtos])), (g_qsides, .inl (cA 1, 8, .inl g_csides)), (g_qgrips, .inl (cA 1, 8, .inl g_cgrips)), (g_qwits, .inl (cA 1, 8, .inl g_cwits))]) ⟨hx, hb, hml, hown, hts⟩ hKN hP hD hS hA [0, 1, 2] [3, 4, 5, 6] rfl rfl (by decide) (by decide) (by decide) (g_X5_weigh l D cA _ h0 pa_qsettled pa_greatestSum pa_fairest pa_qtried pa_mostPairs g pa_csettled pa_ctried p1 p2 p3) (tb_V tw_889 tw_891 tw_14 tw_110 tw_892) hdX5_weigh ⟨rfl, rfl, Nat.le_of_ble_eq_true rfl, Nat.le_of_ble_eq_true rfl⟩ ⟨Nat.le_of_ble_eq_true rfl, Nat.le_of_ble_eq_true rfl⟩ rfl rfl rfl hl.1 rfl (Nat.le_of_ble_eq_true rfl) dX5_tryMan_16 (fun u_288 H locs hr_288 hP hD hS => ?_)
    have hP : va_P D vwCl [(g, .inr (3, [.int g_odds, .int g_pot, .int g_lines, .int g_men, .int g_clauses, .int g_winds, .int g_far0, .int g_far1, .ref g_qsides, .ref g_qgrips, .ref g_qwits, .ref g_qsays, .ref g_qgives0, .ref g_qgives1, .ref g_qfroms, .ref g_qtos])), (g_qsides, .inl (cA 1, 8, .inl g_csides)), (g_qgrips, .inl (cA 1, 8, .inl g_cgrips)), (g_qwits, .inl (cA 1, 8, .inl g_cwits)), (h0, .inr (5, [.ref pa_qsettled, .int (u_288.2.1 0), .int (u_288.2.1 1), .ref pa_qtried, .int pa_mostPairs, .ref g])), (pa_qsettled, .inl (cA 1, 8, .inl (u_288.2.2.1 0))), (pa_qtried, .inl (cA 1, 8, .inl pa_ctried))] H := hP
    have hD : va_D A [(g, .inr (3, [.int g_odds, .int g_pot, .int g_lines, .int g_men, .int g_clauses, .int g_winds, .int g_far0, .int g_far1, .ref g_qsides, .ref g_qgrips, .ref g_qwits, .ref g_qsays, .ref g_qgives0, .ref g_qgives1, .ref g_qfroms, .ref g_qtos])), (g_qsides, .inl (cA 1, 8, .inl g_csides)), (g_qgrips, .inl (cA 1, 8, .inl g_cgrips)), (g_qwits, .inl (cA 1, 8, .inl g_cwits)), (h0, .inr (5, [.ref pa_qsettled, .int (u_288.2.1 0), .int (u_288.2.1 1), .ref pa_qtried, .int pa_mostPairs, .ref g])), (pa_qsettled, .inl (cA 1, 8, .inl (u_288.2.2.1 0))), (pa_qtried, .inl (cA 1, 8, .inl pa_ctried))] := hD
    have hP9 := hP.sub (ws' := [(h0, .inr (5, [.ref pa_qsettled, .int (u_288.2.1 0), .int (u_288.2.1 1), .ref pa_qtried, .int pa_mostPairs, .ref g])), (pa_qsettled, .inl (cA 1, 8, .inl (u_288.2.2.1 0))), (pa_qtried, .inl (cA 1, 8, .inl pa_ctried)), (g, .inr (3, [.int g_odds, .int g_pot, .int g_lines, .int g_men, .int g_clauses, .int g_winds, .int g_far0, .int g_far1, .ref g_qsides, .ref g_qgrips, .ref g_qwits, .ref g_qsays, .ref g_qgives0, .ref g_qgives1, .ref g_qfroms, .ref g_qtos])), (g_qsides, .inl (cA 1, 8, .inl g_csides)), (g_qgrips, .inl (cA 1, 8, .inl g_cgrips)), (g_qwits, .inl (cA 1, 8, .inl g_cwits))]) [4, 5, 6, 0, 1, 2, 3] rfl
    have hD9 := hD.sub (ws' := [(h0, .inr (5, [.ref pa_qsettled, .int (u_288.2.1 0), .int (u_288.2.1 1), .ref pa_qtried, .int pa_mostPairs, .ref g])), (pa_qsettled, .inl (cA 1, 8, .inl (u_288.2.2.1 0))), (pa_qtried, .inl (cA 1, 8, .inl pa_ctried)), (g, .inr (3, [.int g_odds, .int g_pot, .int g_lines, .int g_men, .int g_clauses, .int g_winds, .int g_far0, .int g_far1, .ref g_qsides, .ref g_qgrips, .ref g_qwits, .ref g_qsays, .ref g_qgives0, .ref g_qgives1, .ref g_qfroms, .ref g_qtos])), (g_qsides, .inl (cA 1, 8, .inl g_csides)), (g_qgrips, .inl (cA 1, 8, .inl g_cgrips)), (g_qwits, .inl (cA 1, 8, .inl g_cwits))]) [4, 5, 6, 0, 1, 2, 3] (by decide) rfl
    exact W.vret hx hb hr (fun t ht hW => ⟨⟨((fun _ => 0), (selI [(u_288.2.1 0), (u_288.2.1 1)]), (selF [(u_288.2.2.1 0), pa_ctried]), (fun _ _ => 0)), rfl, trivial, by rw [ht]; exact hP9, hD9⟩, hS.F ht⟩) hS.2.2 dX5_tryMan_19
set_option maxHeartbeats 8000000 in
set_option maxRecDepth 100000 in
theorem g_X5_tryMan_1 (l : Launch) (D : va_G) (cA : Nat → ClassId) (sz : Nat) (h0 : Nat) (pa_qsettled : Nat) (pa_greatestSum : Int32) (pa_fairest : Int32) (pa_qtried : Nat) (pa_mostPairs : Int32) (g : Nat) (pa_csettled : Nat → Int32) (pa_ctried : Nat → Int32) (g_odds : Int32) (g_pot : Int32) (g_lines : Int32) (g_men : Int32) (g_clauses : Int32) (g_winds : Int32) (g_far0 : Int32) (g_far1 : Int32) (g_qsides : Nat) (g_qgrips : Nat) (g_qwits : Nat) (g_qsays : Nat) (g_qgives0 : Nat) (g_qgives1 : Nat) (g_qfroms : Nat) (g_qtos : Nat) (g_csides : Nat → Int32) (g_cgrips : Nat → Int32) (g_cwits : Nat → Int32) (p0 : Int32) (p1 : Int32) (p2 : Int32) (p3 : Int32) (h_g_odds : -999 ≤ (g_odds : Int32).toInt ∧ (g_odds : Int32).toInt ≤ 999) (h_g_pot : -999 ≤ (g_pot : Int32).toInt ∧ (g_pot : Int32).toInt ≤ 999) (h_g_men : 0 ≤ (g_men : Int32).toInt ∧ (g_men : Int32).toInt ≤ 8) (h_g_clauses : 0 ≤ (g_clauses : Int32).toInt ∧ (g_clauses : Int32).toInt ≤ 7) (h_g_winds : 0 ≤ (g_winds : Int32).toInt ∧ (g_winds : Int32).toInt ≤ 4) (h_g_far0 : -999 ≤ (g_far0 : Int32).toInt ∧ (g_far0 : Int32).toInt ≤ 999) (h_g_far1 : -999 ≤ (g_far1 : Int32).toInt ∧ (g_far1 : Int32).toInt ≤ 999) (h_p0 : 1 ≤ (p0 : Int32).toInt ∧ (p0 : Int32).toInt ≤ 1) : Met l yX5_tryMan (Cond.code yX5_tryMan cX5_tryMan 7 none :: TB) (rmd 9 0 0) (PM D cA sz [(h0, .inr (5, [.ref pa_qsettled, .int pa_greatestSum, .int pa_fairest, .ref pa_qtried, .int pa_mostPairs, .ref g])), (pa_qsettled, .inl (cA 1, 8, .inl pa_csettled)), (pa_qtried, .inl (cA 1, 8, .inl pa_ctried)), (g, .inr (3, [.int g_odds, .int g_pot, .int g_lines, .int g_men, .int g_clauses, .int g_winds, .int g_far0, .int g_far1, .ref g_qsides, .ref g_qgrips, .ref g_qwits, .ref g_qsays, .ref g_qgives0, .ref g_qgives1, .ref g_qfroms, .ref g_qtos])), (g_qsides, .inl (cA 1, 8, .inl g_csides)), (g_qgrips, .inl (cA 1, 8, .inl g_cgrips)), (g_qwits, .inl (cA 1, 8, .inl g_cwits))] [.ref h0, .int p0, .int p1, .int p2, .int p3]) (va_Qv (fun (u : SU) => True) (fun u t => va_P D vwCl [(h0, .inr (5, [.ref pa_qsettled, .int (u.2.1 0), .int (u.2.1 1), .ref pa_qtried, .int pa_mostPairs, .ref g])), (pa_qsettled, .inl (cA 1, 8, .inl (u.2.2.1 0))), (pa_qtried, .inl (cA 1, 8, .inl (u.2.2.1 1))), (g, .inr (3, [.int g_odds, .int g_pot, .int g_lines, .int g_men, .int g_clauses, .int g_winds, .int g_far0, .int g_far1, .ref g_qsides, .ref g_qgrips, .ref g_qwits, .ref g_qsays, .ref g_qgives0, .ref g_qgives1, .ref g_qfroms, .ref g_qtos])), (g_qsides, .inl (cA 1, 8, .inl g_csides)), (g_qgrips, .inl (cA 1, 8, .inl g_cgrips)), (g_qwits, .inl (cA 1, 8, .inl g_cwits))] t.heap ∧ va_D (va_A [(h0, .inr (5, [.ref pa_qsettled, .int pa_greatestSum, .int pa_fairest, .ref pa_qtried, .int pa_mostPairs, .ref g])), (pa_qsettled, .inl (cA 1, 8, .inl pa_csettled)), (pa_qtried, .inl (cA 1, 8, .inl pa_ctried)), (g, .inr (3, [.int g_odds, .int g_pot, .int g_lines, .int g_men, .int g_clauses, .int g_winds, .int g_far0, .int g_far1, .ref g_qsides, .ref g_qgrips, .ref g_qwits, .ref g_qsays, .ref g_qgives0, .ref g_qgives1, .ref g_qfroms, .ref g_qtos])), (g_qsides, .inl (cA 1, 8, .inl g_csides)), (g_qgrips, .inl (cA 1, 8, .inl g_cgrips)), (g_qwits, .inl (cA 1, 8, .inl g_cwits))] sz) [(h0, .inr (5, [.ref pa_qsettled, .int (u.2.1 0), .int (u.2.1 1), .ref pa_qtried, .int pa_mostPairs, .ref g])), (pa_qsettled, .inl (cA 1, 8, .inl (u.2.2.1 0))), (pa_qtried, .inl (cA 1, 8, .inl (u.2.2.1 1))), (g, .inr (3, [.int g_odds, .int g_pot, .int g_lines, .int g_men, .int g_clauses, .int g_winds, .int g_far0, .int g_far1, .ref g_qsides, .ref g_qgrips, .ref g_qwits, .ref g_qsays, .ref g_qgives0, .ref g_qgives1, .ref g_qfroms, .ref g_qtos])), (g_qsides, .inl (cA 1, 8, .inl g_csides)), (g_qgrips, .inl (cA 1, 8, .inl g_cgrips)), (g_qwits, .inl (cA 1, 8, .inl g_cwits))]) (va_A [(h0, .inr (5, [.ref pa_qsettled, .int pa_greatestSum, .int pa_fairest, .ref pa_qtried, .int pa_mostPairs, .ref g])), (pa_qsettled, .inl (cA 1, 8, .inl pa_csettled)), (pa_qtried, .inl (cA 1, 8, .inl pa_ctried)), (g, .inr (3, [.int g_odds, .int g_pot, .int g_lines, .int g_men, .int g_clauses, .int g_winds, .int g_far0, .int g_far1, .ref g_qsides, .ref g_qgrips, .ref g_qwits, .ref g_qsays, .ref g_qgives0, .ref g_qgives1, .ref g_qfroms, .ref g_qtos])), (g_qsides, .inl (cA 1, 8, .inl g_csides)), (g_qgrips, .inl (cA 1, 8, .inl g_cgrips)), (g_qwits, .inl (cA 1, 8, .inl g_cwits))] sz)) 0 0 (va_A [(h0, .inr (5, [.ref pa_qsettled, .int pa_greatestSum, .int pa_fairest, .ref pa_qtried, .int pa_mostPairs, .ref g])), (pa_qsettled, .inl (cA 1, 8, .inl pa_csettled)), (pa_qtried, .inl (cA 1, 8, .inl pa_ctried)), (g, .inr (3, [.int g_odds, .int g_pot, .int g_lines, .int g_men, .int g_clauses, .int g_winds, .int g_far0, .int g_far1, .ref g_qsides, .ref g_qgrips, .ref g_qwits, .ref g_qsays, .ref g_qgives0, .ref g_qgives1, .ref g_qfroms, .ref g_qtos])), (g_qsides, .inl (cA 1, 8, .inl g_csides)), (g_qgrips, .inl (cA 1, 8, .inl g_cgrips)), (g_qwits, .inl (cA 1, 8, .inl g_cwits))] sz) := by
  refine Met.ofW (cc := cX5_tryMan) (maxL := 7) (ret := none) (by decide) rfl ?_
  intro p e s m args below meth c s₁ B hml hv
  obtain ⟨rfl, hsz, hP, hKN, hD0⟩ := hv
  have hx := B.exec
  have hb := B.bytes
  have hr := B.returns
  have hts : ∀ w ∈ TB, w.before _ s = true := fun w h => atoms_spec B.pre w (List.mem_cons_of_mem _ h)
  have hown : s.vm.findClass RX5 = some m.cls := findClass_of_methodNamed B.named
  have hlocks := B.notSynchronized
  subst hsz
  have hD := hD0.self (sz := s.heap.size)
  generalize hAe : va_A [(h0, .inr (5, [.ref pa_qsettled, .int pa_greatestSum, .int pa_fairest, .ref pa_qtried, .int pa_mostPairs, .ref g])), (pa_qsettled, .inl (cA 1, 8, .inl pa_csettled)), (pa_qtried, .inl (cA 1, 8, .inl pa_ctried)), (g, .inr (3, [.int g_odds, .int g_pot, .int g_lines, .int g_men, .int g_clauses, .int g_winds, .int g_far0, .int g_far1, .ref g_qsides, .ref g_qgrips, .ref g_qwits, .ref g_qsays, .ref g_qgives0, .ref g_qgives1, .ref g_qfroms, .ref g_qtos])), (g_qsides, .inl (cA 1, 8, .inl g_csides)), (g_qgrips, .inl (cA 1, 8, .inl g_cgrips)), (g_qwits, .inl (cA 1, 8, .inl g_cwits))] s.heap.size = A at hD ⊢
  have hA : ∀ q : Nat, s.heap.size ≤ q → A q := fun q h => by rw [← hAe]; exact Or.inr h
  have hS : va_S A s.heap s.heap [] := va_S.rf
  have hl := lv_entry ([.ref h0, .int p0, .int p1, .int p2, .int p3]) (n := 7) (Nat.le_of_ble_eq_true rfl)
  rw [lg_entry_eq]
  generalize (lg_sl ([.ref h0, .int p0, .int p1, .int p2, .int p3]) ++ List.replicate (7 - (lg_sl ([.ref h0, .int p0, .int p1, .int p2, .int p3])).length) Slot.unset).toArray = ls at hl ⊢
  have hl : lv_has ls 7 [(0, .ref h0), (1, .int p0), (2, .int p1), (3, .int p2), (4, .int p3)] := hl
  refine lv_aload_n hx hb dX5_tryMan_0 rfl (lv_at hl 0 rfl) ?_
  refine va_get (D := D) (ci := 5) (v := .ref g) (C := RX5) (T := TX5) (N := 6) hx hb hts inX5 hown hKN.1 hP 0 rfl rfl 5 (by decide) (hts _ tw_384) (fun _ h9 => h9) rfl dX5_tryMan_1 ?_
  refine lv_iload_n hx hb dX5_tryMan_4 rfl (lv_at hl 1 rfl) ?_
  refine cpVi (rest := []) ⟨hx, hb, hml, hown, hts⟩ hKN (hP.sub (ws' := [(g, .inr (3, [.int g_odds, .int g_pot, .int g_lines, .int g_men, .int g_clauses, .int g_winds, .int g_far0, .int g_far1, .ref g_qsides, .ref g_qgrips, .ref g_qwits, .ref g_qsays, .ref g_qgives0, .ref g_qgives1, .ref g_qfroms, .ref g_qtos]))]) [3] rfl) (g_X3_hasMan l D cA g g_odds g_pot g_lines g_men g_clauses g_winds g_far0 g_far1 g_qsides g_qgrips g_qwits g_qsays g_qgives0 g_qgives1 g_qfroms g_qtos p0 (by omega) (by omega) (by omega) (by omega) (by omega) (by omega) (by omega)) (tb_V tw_888 tw_699 tw_700 tw_104 tw_701) hdX3_hasMan ⟨rfl, rfl, Nat.le_of_ble_eq_true rfl, Nat.le_of_ble_eq_true rfl⟩ ⟨Nat.le_of_ble_eq_true rfl, Nat.le_of_ble_eq_true rfl⟩ rfl rfl rfl hl.1 rfl (Nat.le_of_ble_eq_true rfl) dX5_tryMan_5 (fun r_1 hr_1 => ?_)
  rcases hr_1 with ⟨k_1_0_0, k_1_0_1, k_1_0_2, rfl⟩ | rfl
  · skip
    refine lv_if_ne (tgt := 20) hx hb dX5_tryMan_8 (by decide) (fun c_2 => ?_) (fun c_2 => absurd c_2 (by decide))
    refine lv_aload_n hx hb dX5_tryMan_20 rfl (lv_at hl 0 rfl) ?_
    refine va_get (D := D) (ci := 5) (v := .ref g) (C := RX5) (T := TX5) (N := 6) hx hb hts inX5 hown hKN.1 hP 0 rfl rfl 5 (by decide) (hts _ tw_384) (fun _ h9 => h9) rfl dX5_tryMan_21 ?_
    refine lv_iload_n hx hb dX5_tryMan_24 rfl (lv_at hl 1 rfl) ?_
    refine cpVi (rest := []) ⟨hx, hb, hml, hown, hts⟩ hKN (hP.sub (ws' := [(g, .inr (3, [.int g_odds, .int g_pot, .int g_lines, .int g_men, .int g_clauses, .int g_winds, .int g_far0, .int g_far1, .ref g_qsides, .ref g_qgrips, .ref g_qwits, .ref g_qsays, .ref g_qgives0, .ref g_qgives1, .ref g_qfroms, .ref g_qtos])), (g_qsides, .inl (cA 1, 8, .inl g_csides))]) [3, 4] rfl) (g_X3_sideOf l D cA g g_odds g_pot g_lines g_men g_clauses g_winds g_far0 g_far1 g_qsides g_qgrips g_qwits g_qsays g_qgives0 g_qgives1 g_qfroms g_qtos g_csides p0 (by omega) (by omega) (by omega) (by omega) (by omega) (by omega) (by omega)) (tb_V tw_882 tw_703 tw_704 tw_104 tw_705) hdX3_sideOf ⟨rfl, rfl, Nat.le_of_ble_eq_true rfl, Nat.le_of_ble_eq_true rfl⟩ ⟨Nat.le_of_ble_eq_true rfl, Nat.le_of_ble_eq_true rfl⟩ rfl rfl rfl hl.1 rfl (Nat.le_of_ble_eq_true rfl) dX5_tryMan_25 (fun r_3 hr_3 => ?_)
    rcases hr_3 with ⟨k_3_0_0, k_3_0_1⟩ | rfl
    · skip
      refine lv_if_ne (tgt := 140) hx hb dX5_tryMan_28 (by decide) (fun c_4 => ?_) (fun c_4 => ?_)
      · skip
        have b_6 := i32_bd r_3
        have k_5 := kk_ne rfl zi_0 c_4
        refine lv_aload_n hx hb dX5_tryMan_140 rfl (lv_at hl 0 rfl) ?_
        refine lv_iload_n hx hb dX5_tryMan_141 rfl (lv_at hl 1 rfl) ?_
        refine lv_iconst (v := 1) hx hb dX5_tryMan_142 (by decide) ?_
        refine lv_iadd hx hb dX5_tryMan_143 ?_
        refine lv_topi (fun x_7 ex_7 => ?_)
        have k_8 := ar_add rfl zi_1 ex_7 (by omega) (by omega)
        refine lv_iload_n hx hb dX5_tryMan_144 rfl (lv_at hl 2 rfl) ?_
        refine lv_iload_n hx hb dX5_tryMan_145 rfl (lv_at hl 3 rfl) ?_
        refine lv_iload hx hb dX5_tryMan_146 (lv_at hl 4 rfl) ?_
        refine cmVv (rest := []) (wsC := [(h0, .inr (5, [.ref pa_qsettled, .int pa_greatestSum, .int pa_fairest, .ref pa_qtried, .int pa_mostPairs, .ref g])), (pa_qsettled, .inl (cA 1, 8, .inl pa_csettled)), (pa_qtried, .inl (cA 1, 8, .inl pa_ctried)), (g, .inr (3, [.int g_odds, .int g_pot, .int g_lines, .int g_men, .int g_clauses, .int g_winds, .int g_far0, .int g_far1, .ref g_qsides, .ref g_qgrips, .ref g_qwits, .ref g_qsays, .ref g_qgives0, .ref g_qgives1, .ref g_qfroms, .ref g_qtos])), (g_qsides, .inl (cA 1, 8, .inl g_csides)), (g_qgrips, .inl (cA 1, 8, .inl g_cgrips)), (g_qwits, .inl (cA 1, 8, .inl g_cwits))]) (wr := []) ⟨hx, hb, hml, hown, hts⟩ hKN hP hD hS hA [0, 1, 2, 3, 4, 5, 6] [] rfl rfl (by decide) (by decide) (by decide) (g_X5_tryMan_2 l D cA _ h0 pa_qsettled pa_greatestSum pa_fairest pa_qtried pa_mostPairs g pa_csettled pa_ctried g_odds g_pot g_lines g_men g_clauses g_winds g_far0 g_far1 g_qsides g_qgrips g_qwits g_qsays g_qgives0 g_qgives1 g_qfroms g_qtos g_csides g_cgrips g_cwits x_7 p1 p2 p3 (by omega) (by omega) (by omega) (by omega) (by omega) (by omega) (by omega) (by omega)) (tb_V tw_884 tw_886 tw_13 tw_110 tw_887) hdX5_tryMan ⟨rfl, rfl, Nat.le_of_ble_eq_true rfl, Nat.le_of_ble_eq_true rfl⟩ ⟨Nat.le_of_ble_eq_true rfl, Nat.le_of_ble_eq_true rfl⟩ rfl rfl rfl hl.1 rfl (Nat.le_of_ble_eq_true rfl) dX5_tryMan_148 (fun u_9 H locs hr_9 hP hD hS => ?_)
        have hP : va_P D vwCl [(h0, .inr (5, [.ref pa_qsettled, .int (u_9.2.1 0), .int (u_9.2.1 1), .ref pa_qtried, .int pa_mostPairs, .ref g])), (pa_qsettled, .inl (cA 1, 8, .inl (u_9.2.2.1 0))), (pa_qtried, .inl (cA 1, 8, .inl (u_9.2.2.1 1))), (g, .inr (3, [.int g_odds, .int g_pot, .int g_lines, .int g_men, .int g_clauses, .int g_winds, .int g_far0, .int g_far1, .ref g_qsides, .ref g_qgrips, .ref g_qwits, .ref g_qsays, .ref g_qgives0, .ref g_qgives1, .ref g_qfroms, .ref g_qtos])), (g_qsides, .inl (cA 1, 8, .inl g_csides)), (g_qgrips, .inl (cA 1, 8, .inl g_cgrips)), (g_qwits, .inl (cA 1, 8, .inl g_cwits))] H := hP
        have hD : va_D A [(h0, .inr (5, [.ref pa_qsettled, .int (u_9.2.1 0), .int (u_9.2.1 1), .ref pa_qtried, .int pa_mostPairs, .ref g])), (pa_qsettled, .inl (cA 1, 8, .inl (u_9.2.2.1 0))), (pa_qtried, .inl (cA 1, 8, .inl (u_9.2.2.1 1))), (g, .inr (3, [.int g_odds, .int g_pot, .int g_lines, .int g_men, .int g_clauses, .int g_winds, .int g_far0, .int g_far1, .ref g_qsides, .ref g_qgrips, .ref g_qwits, .ref g_qsays, .ref g_qgives0, .ref g_qgives1, .ref g_qfroms, .ref g_qtos])), (g_qsides, .inl (cA 1, 8, .inl g_csides)), (g_qgrips, .inl (cA 1, 8, .inl g_cgrips)), (g_qwits, .inl (cA 1, 8, .inl g_cwits))] := hD
        have hP9 := hP.sub (ws' := [(h0, .inr (5, [.ref pa_qsettled, .int (u_9.2.1 0), .int (u_9.2.1 1), .ref pa_qtried, .int pa_mostPairs, .ref g])), (pa_qsettled, .inl (cA 1, 8, .inl (u_9.2.2.1 0))), (pa_qtried, .inl (cA 1, 8, .inl (u_9.2.2.1 1))), (g, .inr (3, [.int g_odds, .int g_pot, .int g_lines, .int g_men, .int g_clauses, .int g_winds, .int g_far0, .int g_far1, .ref g_qsides, .ref g_qgrips, .ref g_qwits, .ref g_qsays, .ref g_qgives0, .ref g_qgives1, .ref g_qfroms, .ref g_qtos])), (g_qsides, .inl (cA 1, 8, .inl g_csides)), (g_qgrips, .inl (cA 1, 8, .inl g_cgrips)), (g_qwits, .inl (cA 1, 8, .inl g_cwits))]) [0, 1, 2, 3, 4, 5, 6] rfl
        have hD9 := hD.sub (ws' := [(h0, .inr (5, [.ref pa_qsettled, .int (u_9.2.1 0), .int (u_9.2.1 1), .ref pa_qtried, .int pa_mostPairs, .ref g])), (pa_qsettled, .inl (cA 1, 8, .inl (u_9.2.2.1 0))), (pa_qtried, .inl (cA 1, 8, .inl (u_9.2.2.1 1))), (g, .inr (3, [.int g_odds, .int g_pot, .int g_lines, .int g_men, .int g_clauses, .int g_winds, .int g_far0, .int g_far1, .ref g_qsides, .ref g_qgrips, .ref g_qwits, .ref g_qsays, .ref g_qgives0, .ref g_qgives1, .ref g_qfroms, .ref g_qtos])), (g_qsides, .inl (cA 1, 8, .inl g_csides)), (g_qgrips, .inl (cA 1, 8, .inl g_cgrips)), (g_qwits, .inl (cA 1, 8, .inl g_cwits))]) [0, 1, 2, 3, 4, 5, 6] (by decide) rfl
        exact W.vret hx hb hr (fun t ht hW => ⟨⟨((fun _ => 0), (selI [(u_9.2.1 0), (u_9.2.1 1)]), (selF [(u_9.2.2.1 0), (u_9.2.2.1 1)]), (fun _ _ => 0)), rfl, trivial, by rw [ht]; exact hP9, hD9⟩, hS.F ht⟩) hS.2.2 dX5_tryMan_151
      · skip
        have b_11 := i32_bd r_3
        have k_10 := kk_eq rfl zi_0 c_4
        refine lv_iconst (v := 0) hx hb dX5_tryMan_31 (by decide) ?_
        refine lv_istore (lv' := [(5, .int 0), (0, .ref h0), (1, .int p0), (2, .int p1), (3, .int p2), (4, .int p3)]) hx hb dX5_tryMan_32 hl (by decide) rfl (fun ls hl => ?_)
        have b_241 := i32_bd pa_greatestSum
        have b_242 := i32_bd pa_fairest
        refine loopW (σ := Int32 × Int32 × Int32 × (Nat → Int32) × (Nat → Int32)) (fun _ => []) (fun ⟨L5_240, F1_240, F2_240, F3_240, F4_240⟩ H locs ls => (0 ≤ L5_240.toInt ∧ L5_240.toInt ≤ 8) ∧ va_P D vwCl [(h0, .inr (5, [.ref pa_qsettled, .int F1_240, .int F2_240, .ref pa_qtried, .int pa_mostPairs, .ref g])), (pa_qsettled, .inl (cA 1, 8, .inl F3_240)), (pa_qtried, .inl (cA 1, 8, .inl F4_240)), (g, .inr (3, [.int g_odds, .int g_pot, .int g_lines, .int g_men, .int g_clauses, .int g_winds, .int g_far0, .int g_far1, .ref g_qsides, .ref g_qgrips, .ref g_qwits, .ref g_qsays, .ref g_qgives0, .ref g_qgives1, .ref g_qfroms, .ref g_qtos])), (g_qsides, .inl (cA 1, 8, .inl g_csides)), (g_qgrips, .inl (cA 1, 8, .inl g_cgrips)), (g_qwits, .inl (cA 1, 8, .inl g_cwits))] H ∧ va_D A [(h0, .inr (5, [.ref pa_qsettled, .int F1_240, .int F2_240, .ref pa_qtried, .int pa_mostPairs, .ref g])), (pa_qsettled, .inl (cA 1, 8, .inl F3_240)), (pa_qtried, .inl (cA 1, 8, .inl F4_240)), (g, .inr (3, [.int g_odds, .int g_pot, .int g_lines, .int g_men, .int g_clauses, .int g_winds, .int g_far0, .int g_far1, .ref g_qsides, .ref g_qgrips, .ref g_qwits, .ref g_qsays, .ref g_qgives0, .ref g_qgives1, .ref g_qfroms, .ref g_qtos])), (g_qsides, .inl (cA 1, 8, .inl g_csides)), (g_qgrips, .inl (cA 1, 8, .inl g_cgrips)), (g_qwits, .inl (cA 1, 8, .inl g_cwits))] ∧ va_S A s.heap H locs ∧ lv_has ls 7 [(5, .int L5_240), (0, .ref h0), (1, .int p0), (2, .int p1), (3, .int p2), (4, .int p3)]) (fun ⟨L5_240, F1_240, F2_240, F3_240, F4_240⟩ => (2147483647 - L5_240.toInt).toNat) ?_ ((0, pa_greatestSum, pa_fairest, pa_csettled, pa_ctried) : Int32 × Int32 × Int32 × (Nat → Int32) × (Nat → Int32)) ⟨(by decide), hP, hD, hS, hl⟩
        intro x_240 H locs ls hI_240 ih_240
        obtain ⟨L5_240, F1_240, F2_240, F3_240, F4_240⟩ := x_240
        obtain ⟨k0_240, hP, hD, hS, hl⟩ := hI_240
        have hP : va_P D vwCl [(h0, .inr (5, [.ref pa_qsettled, .int F1_240, .int F2_240, .ref pa_qtried, .int pa_mostPairs, .ref g])), (pa_qsettled, .inl (cA 1, 8, .inl F3_240)), (pa_qtried, .inl (cA 1, 8, .inl F4_240)), (g, .inr (3, [.int g_odds, .int g_pot, .int g_lines, .int g_men, .int g_clauses, .int g_winds, .int g_far0, .int g_far1, .ref g_qsides, .ref g_qgrips, .ref g_qwits, .ref g_qsays, .ref g_qgives0, .ref g_qgives1, .ref g_qfroms, .ref g_qtos])), (g_qsides, .inl (cA 1, 8, .inl g_csides)), (g_qgrips, .inl (cA 1, 8, .inl g_cgrips)), (g_qwits, .inl (cA 1, 8, .inl g_cwits))] H := hP
        have hD : va_D A [(h0, .inr (5, [.ref pa_qsettled, .int F1_240, .int F2_240, .ref pa_qtried, .int pa_mostPairs, .ref g])), (pa_qsettled, .inl (cA 1, 8, .inl F3_240)), (pa_qtried, .inl (cA 1, 8, .inl F4_240)), (g, .inr (3, [.int g_odds, .int g_pot, .int g_lines, .int g_men, .int g_clauses, .int g_winds, .int g_far0, .int g_far1, .ref g_qsides, .ref g_qgrips, .ref g_qwits, .ref g_qsays, .ref g_qgives0, .ref g_qgives1, .ref g_qfroms, .ref g_qtos])), (g_qsides, .inl (cA 1, 8, .inl g_csides)), (g_qgrips, .inl (cA 1, 8, .inl g_cgrips)), (g_qwits, .inl (cA 1, 8, .inl g_cwits))] := hD
        have hl : lv_has ls 7 [(5, .int L5_240), (0, .ref h0), (1, .int p0), (2, .int p1), (3, .int p2), (4, .int p3)] := hl
        refine lv_iload hx hb dX5_tryMan_34 (lv_at hl 0 rfl) ?_
        refine lv_aload_n hx hb dX5_tryMan_36 rfl (lv_at hl 1 rfl) ?_
        refine va_get (D := D) (ci := 5) (v := .ref g) (C := RX5) (T := TX5) (N := 6) hx hb hts inX5 hown hKN.1 hP 0 rfl rfl 5 (by decide) (hts _ tw_384) (fun _ h9 => h9) rfl dX5_tryMan_37 ?_
        refine va_get (D := D) (ci := 3) (v := .int g_men) (C := RX3) (T := TX3) (N := 16) hx hb hts inX3 hown hKN.1 hP 3 rfl rfl 3 (by decide) (hts _ tw_168) (fun _ h9 => h9) rfl dX5_tryMan_40 ?_
        refine lv_icmp_ge (tgt := 140) hx hb dX5_tryMan_43 (by decide) (fun c_243 => ?_) (fun c_243 => ?_)
        · skip
          have k_244 := kk_le rfl rfl c_243
          refine lv_aload_n hx hb dX5_tryMan_140 rfl (lv_at hl 1 rfl) ?_
          refine lv_iload_n hx hb dX5_tryMan_141 rfl (lv_at hl 2 rfl) ?_
          refine lv_iconst (v := 1) hx hb dX5_tryMan_142 (by decide) ?_
          refine lv_iadd hx hb dX5_tryMan_143 ?_
          refine lv_topi (fun x_245 ex_245 => ?_)
          have k_246 := ar_add rfl zi_1 ex_245 (by omega) (by omega)
          refine lv_iload_n hx hb dX5_tryMan_144 rfl (lv_at hl 3 rfl) ?_
          refine lv_iload_n hx hb dX5_tryMan_145 rfl (lv_at hl 4 rfl) ?_
          refine lv_iload hx hb dX5_tryMan_146 (lv_at hl 5 rfl) ?_
          refine cmVv (rest := []) (wsC := [(h0, .inr (5, [.ref pa_qsettled, .int F1_240, .int F2_240, .ref pa_qtried, .int pa_mostPairs, .ref g])), (pa_qsettled, .inl (cA 1, 8, .inl F3_240)), (pa_qtried, .inl (cA 1, 8, .inl F4_240)), (g, .inr (3, [.int g_odds, .int g_pot, .int g_lines, .int g_men, .int g_clauses, .int g_winds, .int g_far0, .int g_far1, .ref g_qsides, .ref g_qgrips, .ref g_qwits, .ref g_qsays, .ref g_qgives0, .ref g_qgives1, .ref g_qfroms, .ref g_qtos])), (g_qsides, .inl (cA 1, 8, .inl g_csides)), (g_qgrips, .inl (cA 1, 8, .inl g_cgrips)), (g_qwits, .inl (cA 1, 8, .inl g_cwits))]) (wr := []) ⟨hx, hb, hml, hown, hts⟩ hKN hP hD hS hA [0, 1, 2, 3, 4, 5, 6] [] rfl rfl (by decide) (by decide) (by decide) (g_X5_tryMan_2 l D cA _ h0 pa_qsettled F1_240 F2_240 pa_qtried pa_mostPairs g F3_240 F4_240 g_odds g_pot g_lines g_men g_clauses g_winds g_far0 g_far1 g_qsides g_qgrips g_qwits g_qsays g_qgives0 g_qgives1 g_qfroms g_qtos g_csides g_cgrips g_cwits x_245 p1 p2 p3 (by omega) (by omega) (by omega) (by omega) (by omega) (by omega) (by omega) (by omega)) (tb_V tw_884 tw_886 tw_13 tw_110 tw_887) hdX5_tryMan ⟨rfl, rfl, Nat.le_of_ble_eq_true rfl, Nat.le_of_ble_eq_true rfl⟩ ⟨Nat.le_of_ble_eq_true rfl, Nat.le_of_ble_eq_true rfl⟩ rfl rfl rfl hl.1 rfl (Nat.le_of_ble_eq_true rfl) dX5_tryMan_148 (fun u_247 H locs hr_247 hP hD hS => ?_)
          have hP : va_P D vwCl [(h0, .inr (5, [.ref pa_qsettled, .int (u_247.2.1 0), .int (u_247.2.1 1), .ref pa_qtried, .int pa_mostPairs, .ref g])), (pa_qsettled, .inl (cA 1, 8, .inl (u_247.2.2.1 0))), (pa_qtried, .inl (cA 1, 8, .inl (u_247.2.2.1 1))), (g, .inr (3, [.int g_odds, .int g_pot, .int g_lines, .int g_men, .int g_clauses, .int g_winds, .int g_far0, .int g_far1, .ref g_qsides, .ref g_qgrips, .ref g_qwits, .ref g_qsays, .ref g_qgives0, .ref g_qgives1, .ref g_qfroms, .ref g_qtos])), (g_qsides, .inl (cA 1, 8, .inl g_csides)), (g_qgrips, .inl (cA 1, 8, .inl g_cgrips)), (g_qwits, .inl (cA 1, 8, .inl g_cwits))] H := hP
          have hD : va_D A [(h0, .inr (5, [.ref pa_qsettled, .int (u_247.2.1 0), .int (u_247.2.1 1), .ref pa_qtried, .int pa_mostPairs, .ref g])), (pa_qsettled, .inl (cA 1, 8, .inl (u_247.2.2.1 0))), (pa_qtried, .inl (cA 1, 8, .inl (u_247.2.2.1 1))), (g, .inr (3, [.int g_odds, .int g_pot, .int g_lines, .int g_men, .int g_clauses, .int g_winds, .int g_far0, .int g_far1, .ref g_qsides, .ref g_qgrips, .ref g_qwits, .ref g_qsays, .ref g_qgives0, .ref g_qgives1, .ref g_qfroms, .ref g_qtos])), (g_qsides, .inl (cA 1, 8, .inl g_csides)), (g_qgrips, .inl (cA 1, 8, .inl g_cgrips)), (g_qwits, .inl (cA 1, 8, .inl g_cwits))] := hD
          have hP9 := hP.sub (ws' := [(h0, .inr (5, [.ref pa_qsettled, .int (u_247.2.1 0), .int (u_247.2.1 1), .ref pa_qtried, .int pa_mostPairs, .ref g])), (pa_qsettled, .inl (cA 1, 8, .inl (u_247.2.2.1 0))), (pa_qtried, .inl (cA 1, 8, .inl (u_247.2.2.1 1))), (g, .inr (3, [.int g_odds, .int g_pot, .int g_lines, .int g_men, .int g_clauses, .int g_winds, .int g_far0, .int g_far1, .ref g_qsides, .ref g_qgrips, .ref g_qwits, .ref g_qsays, .ref g_qgives0, .ref g_qgives1, .ref g_qfroms, .ref g_qtos])), (g_qsides, .inl (cA 1, 8, .inl g_csides)), (g_qgrips, .inl (cA 1, 8, .inl g_cgrips)), (g_qwits, .inl (cA 1, 8, .inl g_cwits))]) [0, 1, 2, 3, 4, 5, 6] rfl
          have hD9 := hD.sub (ws' := [(h0, .inr (5, [.ref pa_qsettled, .int (u_247.2.1 0), .int (u_247.2.1 1), .ref pa_qtried, .int pa_mostPairs, .ref g])), (pa_qsettled, .inl (cA 1, 8, .inl (u_247.2.2.1 0))), (pa_qtried, .inl (cA 1, 8, .inl (u_247.2.2.1 1))), (g, .inr (3, [.int g_odds, .int g_pot, .int g_lines, .int g_men, .int g_clauses, .int g_winds, .int g_far0, .int g_far1, .ref g_qsides, .ref g_qgrips, .ref g_qwits, .ref g_qsays, .ref g_qgives0, .ref g_qgives1, .ref g_qfroms, .ref g_qtos])), (g_qsides, .inl (cA 1, 8, .inl g_csides)), (g_qgrips, .inl (cA 1, 8, .inl g_cgrips)), (g_qwits, .inl (cA 1, 8, .inl g_cwits))]) [0, 1, 2, 3, 4, 5, 6] (by decide) rfl
          exact W.vret hx hb hr (fun t ht hW => ⟨⟨((fun _ => 0), (selI [(u_247.2.1 0), (u_247.2.1 1)]), (selF [(u_247.2.2.1 0), (u_247.2.2.1 1)]), (fun _ _ => 0)), rfl, trivial, by rw [ht]; exact hP9, hD9⟩, hS.F ht⟩) hS.2.2 dX5_tryMan_151
        · skip
          have k_248 := kk_nle rfl rfl c_243
          refine lv_aload_n hx hb dX5_tryMan_46 rfl (lv_at hl 1 rfl) ?_
          refine va_get (D := D) (ci := 5) (v := .ref g) (C := RX5) (T := TX5) (N := 6) hx hb hts inX5 hown hKN.1 hP 0 rfl rfl 5 (by decide) (hts _ tw_384) (fun _ h9 => h9) rfl dX5_tryMan_47 ?_
          refine lv_iload hx hb dX5_tryMan_50 (lv_at hl 0 rfl) ?_
          refine cpVi (rest := []) ⟨hx, hb, hml, hown, hts⟩ hKN (hP.sub (ws' := [(g, .inr (3, [.int g_odds, .int g_pot, .int g_lines, .int g_men, .int g_clauses, .int g_winds, .int g_far0, .int g_far1, .ref g_qsides, .ref g_qgrips, .ref g_qwits, .ref g_qsays, .ref g_qgives0, .ref g_qgives1, .ref g_qfroms, .ref g_qtos])), (g_qsides, .inl (cA 1, 8, .inl g_csides))]) [3, 4] rfl) (g_X3_sideOf l D cA g g_odds g_pot g_lines g_men g_clauses g_winds g_far0 g_far1 g_qsides g_qgrips g_qwits g_qsays g_qgives0 g_qgives1 g_qfroms g_qtos g_csides L5_240 (by omega) (by omega) (by omega) (by omega) (by omega) (by omega) (by omega)) (tb_V tw_882 tw_703 tw_704 tw_104 tw_705) hdX3_sideOf ⟨rfl, rfl, Nat.le_of_ble_eq_true rfl, Nat.le_of_ble_eq_true rfl⟩ ⟨Nat.le_of_ble_eq_true rfl, Nat.le_of_ble_eq_true rfl⟩ rfl rfl rfl hl.1 rfl (Nat.le_of_ble_eq_true rfl) dX5_tryMan_52 (fun r_249 hr_249 => ?_)
          rcases hr_249 with ⟨k_249_0_0, k_249_0_1⟩ | rfl
          · skip
            refine lv_iconst (v := 1) hx hb dX5_tryMan_55 (by decide) ?_
            refine lv_icmp_ne (tgt := 134) hx hb dX5_tryMan_56 (by decide) (fun c_250 => ?_) (fun c_250 => ?_)
            · skip
              have b_252 := i32_bd r_249
              have k_251 := kk_ne rfl zi_1 c_250
              obtain ⟨x_253, ex_253⟩ : ∃ y : Int32, L5_240 + Int32.ofInt 1 = y := ⟨_, rfl⟩
              have k_254 := ar_add (b := 1) rfl zi_1 ex_253.symm (by omega) (by omega)
              refine lv_iinc (v := x_253) (lv' := [(5, .int x_253), (0, .ref h0), (1, .int p0), (2, .int p1), (3, .int p2), (4, .int p3)]) hx hb dX5_tryMan_134 hl (k := 0) rfl ex_253 (by decide) rfl (fun ls hl => ?_)
              refine lv_goto (tgt := 34) hx hb dX5_tryMan_137 (by decide) ?_
              exact ih_240 (x_253, F1_240, F2_240, F3_240, F4_240) _ _ _ ⟨(show 0 ≤ x_253.toInt ∧ x_253.toInt ≤ 8 from by omega), hP.sub [0, 1, 2, 3, 4, 5, 6] rfl, hD.sub [0, 1, 2, 3, 4, 5, 6] (by decide) rfl, hS, lv_sub hl [0, 1, 2, 3, 4, 5] rfl⟩ (by show (2147483647 - x_253.toInt).toNat < (2147483647 - L5_240.toInt).toNat; omega)
            · skip
              have b_256 := i32_bd r_249
              have k_255 := kk_eq rfl zi_1 c_250
              refine lv_aload_n hx hb dX5_tryMan_59 rfl (lv_at hl 1 rfl) ?_
              refine va_get (D := D) (ci := 5) (v := .ref pa_qtried) (C := RX5) (T := TX5) (N := 6) hx hb hts inX5 hown hKN.1 hP 0 rfl rfl 3 (by decide) (hts _ tw_382) (fun _ h9 => h9) rfl dX5_tryMan_60 ?_
              refine lv_iload hx hb dX5_tryMan_63 (lv_at hl 0 rfl) ?_
              refine va_iald hx hb hKN.1 hP 2 1 rfl rfl (vp_in_iff.mpr ⟨by omega, by omega⟩) dX5_tryMan_65 ?_
              refine lv_topi (fun x_257 ex_257 => ?_)
              refine lv_iconst (v := (-1)) hx hb dX5_tryMan_66 (by decide) ?_
              refine lv_icmp_ne (tgt := 134) hx hb dX5_tryMan_67 (by decide) (fun c_258 => ?_) (fun c_258 => ?_)
              · skip
                have b_260 := i32_bd x_257
                have k_259 := kk_ne rfl zi_m1 c_258
                obtain ⟨x_261, ex_261⟩ : ∃ y : Int32, L5_240 + Int32.ofInt 1 = y := ⟨_, rfl⟩
                have k_262 := ar_add (b := 1) rfl zi_1 ex_261.symm (by omega) (by omega)
                refine lv_iinc (v := x_261) (lv' := [(5, .int x_261), (0, .ref h0), (1, .int p0), (2, .int p1), (3, .int p2), (4, .int p3)]) hx hb dX5_tryMan_134 hl (k := 0) rfl ex_261 (by decide) rfl (fun ls hl => ?_)
                refine lv_goto (tgt := 34) hx hb dX5_tryMan_137 (by decide) ?_
                exact ih_240 (x_261, F1_240, F2_240, F3_240, F4_240) _ _ _ ⟨(show 0 ≤ x_261.toInt ∧ x_261.toInt ≤ 8 from by omega), hP.sub [0, 1, 2, 3, 4, 5, 6] rfl, hD.sub [0, 1, 2, 3, 4, 5, 6] (by decide) rfl, hS, lv_sub hl [0, 1, 2, 3, 4, 5] rfl⟩ (by show (2147483647 - x_261.toInt).toNat < (2147483647 - L5_240.toInt).toNat; omega)
              · skip
                have b_264 := i32_bd x_257
                have k_263 := kk_eq rfl zi_m1 c_258
                refine lv_aload_n hx hb dX5_tryMan_70 rfl (lv_at hl 1 rfl) ?_
                refine va_get (D := D) (ci := 5) (v := .ref g) (C := RX5) (T := TX5) (N := 6) hx hb hts inX5 hown hKN.1 hP 0 rfl rfl 5 (by decide) (hts _ tw_384) (fun _ h9 => h9) rfl dX5_tryMan_71 ?_
                refine lv_iload_n hx hb dX5_tryMan_74 rfl (lv_at hl 2 rfl) ?_
                refine lv_iload hx hb dX5_tryMan_75 (lv_at hl 0 rfl) ?_
                refine cpVi (rest := []) ⟨hx, hb, hml, hown, hts⟩ hKN (hP.sub (ws' := [(g, .inr (3, [.int g_odds, .int g_pot, .int g_lines, .int g_men, .int g_clauses, .int g_winds, .int g_far0, .int g_far1, .ref g_qsides, .ref g_qgrips, .ref g_qwits, .ref g_qsays, .ref g_qgives0, .ref g_qgives1, .ref g_qfroms, .ref g_qtos])), (g_qsides, .inl (cA 1, 8, .inl g_csides)), (g_qgrips, .inl (cA 1, 8, .inl g_cgrips)), (g_qwits, .inl (cA 1, 8, .inl g_cwits))]) [3, 4, 5, 6] rfl) (g_X3_holdOrRefusal l D cA g g_odds g_pot g_lines g_men g_clauses g_winds g_far0 g_far1 g_qsides g_qgrips g_qwits g_qsays g_qgives0 g_qgives1 g_qfroms g_qtos g_csides g_cgrips g_cwits p0 L5_240 (by omega) (by omega) (by omega) (by omega) (by omega) (by omega) (by omega)) (tb_V tw_895 tw_844 tw_845 tw_104 tw_846) hdX3_holdOrRefusal ⟨rfl, rfl, Nat.le_of_ble_eq_true rfl, Nat.le_of_ble_eq_true rfl⟩ ⟨Nat.le_of_ble_eq_true rfl, Nat.le_of_ble_eq_true rfl⟩ rfl rfl rfl hl.1 rfl (Nat.le_of_ble_eq_true rfl) dX5_tryMan_77 (fun r_265 hr_265 => ?_)
                refine lv_istore (lv' := [(6, .int r_265), (5, .int L5_240), (0, .ref h0), (1, .int p0), (2, .int p1), (3, .int p2), (4, .int p3)]) hx hb dX5_tryMan_80 hl (by decide) rfl (fun ls hl => ?_)
                refine lv_aload_n hx hb dX5_tryMan_82 rfl (lv_at hl 2 rfl) ?_
                refine va_get (D := D) (ci := 5) (v := .ref pa_qtried) (C := RX5) (T := TX5) (N := 6) hx hb hts inX5 hown hKN.1 hP 0 rfl rfl 3 (by decide) (hts _ tw_382) (fun _ h9 => h9) rfl dX5_tryMan_83 ?_
                refine lv_iload_n hx hb dX5_tryMan_86 rfl (lv_at hl 3 rfl) ?_
                refine lv_iload hx hb dX5_tryMan_87 (lv_at hl 1 rfl) ?_
                refine va_iast hx hb hKN.1 hP hD hS 2 1 rfl rfl (vp_in_iff.mpr ⟨by omega, by omega⟩) dX5_tryMan_89 (fun H locs hP hD hS => ?_)
                have hP : va_P D vwCl [(h0, .inr (5, [.ref pa_qsettled, .int F1_240, .int F2_240, .ref pa_qtried, .int pa_mostPairs, .ref g])), (pa_qsettled, .inl (cA 1, 8, .inl F3_240)), (pa_qtried, .inl (cA 1, 8, .inl (upd F4_240 p0.toNatClampNeg L5_240))), (g, .inr (3, [.int g_odds, .int g_pot, .int g_lines, .int g_men, .int g_clauses, .int g_winds, .int g_far0, .int g_far1, .ref g_qsides, .ref g_qgrips, .ref g_qwits, .ref g_qsays, .ref g_qgives0, .ref g_qgives1, .ref g_qfroms, .ref g_qtos])), (g_qsides, .inl (cA 1, 8, .inl g_csides)), (g_qgrips, .inl (cA 1, 8, .inl g_cgrips)), (g_qwits, .inl (cA 1, 8, .inl g_cwits))] H := hP
                have hD : va_D A [(h0, .inr (5, [.ref pa_qsettled, .int F1_240, .int F2_240, .ref pa_qtried, .int pa_mostPairs, .ref g])), (pa_qsettled, .inl (cA 1, 8, .inl F3_240)), (pa_qtried, .inl (cA 1, 8, .inl (upd F4_240 p0.toNatClampNeg L5_240))), (g, .inr (3, [.int g_odds, .int g_pot, .int g_lines, .int g_men, .int g_clauses, .int g_winds, .int g_far0, .int g_far1, .ref g_qsides, .ref g_qgrips, .ref g_qwits, .ref g_qsays, .ref g_qgives0, .ref g_qgives1, .ref g_qfroms, .ref g_qtos])), (g_qsides, .inl (cA 1, 8, .inl g_csides)), (g_qgrips, .inl (cA 1, 8, .inl g_cgrips)), (g_qwits, .inl (cA 1, 8, .inl g_cwits))] := hD
                generalize ef_266 : (upd F4_240 p0.toNatClampNeg L5_240) = f_266 at hP hD
                refine lv_aload_n hx hb dX5_tryMan_90 rfl (lv_at hl 2 rfl) ?_
                refine va_get (D := D) (ci := 5) (v := .ref pa_qtried) (C := RX5) (T := TX5) (N := 6) hx hb hts inX5 hown hKN.1 hP 0 rfl rfl 3 (by decide) (hts _ tw_382) (fun _ h9 => h9) rfl dX5_tryMan_91 ?_
                refine lv_iload hx hb dX5_tryMan_94 (lv_at hl 1 rfl) ?_
                refine lv_iload_n hx hb dX5_tryMan_96 rfl (lv_at hl 3 rfl) ?_
                refine va_iast hx hb hKN.1 hP hD hS 2 1 rfl rfl (vp_in_iff.mpr ⟨by omega, by omega⟩) dX5_tryMan_97 (fun H locs hP hD hS => ?_)
                have hP : va_P D vwCl [(h0, .inr (5, [.ref pa_qsettled, .int F1_240, .int F2_240, .ref pa_qtried, .int pa_mostPairs, .ref g])), (pa_qsettled, .inl (cA 1, 8, .inl F3_240)), (pa_qtried, .inl (cA 1, 8, .inl (upd f_266 L5_240.toNatClampNeg p0))), (g, .inr (3, [.int g_odds, .int g_pot, .int g_lines, .int g_men, .int g_clauses, .int g_winds, .int g_far0, .int g_far1, .ref g_qsides, .ref g_qgrips, .ref g_qwits, .ref g_qsays, .ref g_qgives0, .ref g_qgives1, .ref g_qfroms, .ref g_qtos])), (g_qsides, .inl (cA 1, 8, .inl g_csides)), (g_qgrips, .inl (cA 1, 8, .inl g_cgrips)), (g_qwits, .inl (cA 1, 8, .inl g_cwits))] H := hP
                have hD : va_D A [(h0, .inr (5, [.ref pa_qsettled, .int F1_240, .int F2_240, .ref pa_qtried, .int pa_mostPairs, .ref g])), (pa_qsettled, .inl (cA 1, 8, .inl F3_240)), (pa_qtried, .inl (cA 1, 8, .inl (upd f_266 L5_240.toNatClampNeg p0))), (g, .inr (3, [.int g_odds, .int g_pot, .int g_lines, .int g_men, .int g_clauses, .int g_winds, .int g_far0, .int g_far1, .ref g_qsides, .ref g_qgrips, .ref g_qwits, .ref g_qsays, .ref g_qgives0, .ref g_qgives1, .ref g_qfroms, .ref g_qtos])), (g_qsides, .inl (cA 1, 8, .inl g_csides)), (g_qgrips, .inl (cA 1, 8, .inl g_cgrips)), (g_qwits, .inl (cA 1, 8, .inl g_cwits))] := hD
                generalize ef_267 : (upd f_266 L5_240.toNatClampNeg p0) = f_267 at hP hD
                refine lv_aload_n hx hb dX5_tryMan_98 rfl (lv_at hl 2 rfl) ?_
                refine lv_iload_n hx hb dX5_tryMan_99 rfl (lv_at hl 3 rfl) ?_
                refine lv_iconst (v := 1) hx hb dX5_tryMan_100 (by decide) ?_
                refine lv_iadd hx hb dX5_tryMan_101 ?_
                refine lv_topi (fun x_268 ex_268 => ?_)
                have k_269 := ar_add rfl zi_1 ex_268 (by omega) (by omega)
                refine lv_iload_n hx hb dX5_tryMan_102 rfl (lv_at hl 4 rfl) ?_
                refine lv_iconst (v := 1) hx hb dX5_tryMan_103 (by decide) ?_
                refine lv_iadd hx hb dX5_tryMan_104 ?_
                refine lv_topi (fun x_270 ex_270 => ?_)
                refine lv_iload_n hx hb dX5_tryMan_105 rfl (lv_at hl 5 rfl) ?_
                refine lv_iload hx hb dX5_tryMan_106 (lv_at hl 0 rfl) ?_
                refine lv_iadd hx hb dX5_tryMan_108 ?_
                refine lv_topi (fun x_272 ex_272 => ?_)
                refine lv_iload hx hb dX5_tryMan_109 (lv_at hl 6 rfl) ?_
                refine lv_iload hx hb dX5_tryMan_111 (lv_at hl 0 rfl) ?_
                refine cpSi (rest := [.int x_272, .int x_270, .int x_268, .ref h0]) ⟨hx, hb, hml, hown, hts⟩ hKN (hP.sub (ws' := []) [] rfl) (g_J9_min_7cf53 l D cA p3 r_265) (tb_S tw_883 tw_555 tw_115 tw_556) hdJ9_min_7cf53 ⟨rfl, rfl, Nat.le_of_ble_eq_true rfl, Nat.le_of_ble_eq_true rfl⟩ ⟨Nat.le_of_ble_eq_true rfl, Nat.le_of_ble_eq_true rfl⟩ rfl hl.1 rfl (Nat.le_of_ble_eq_true rfl) dX5_tryMan_113 (fun r_274 hr_274 => ?_)
                obtain ⟨k_274_0_0, k_274_0_1, k_274_0_2⟩ := hr_274
                refine cmVv (rest := []) (wsC := [(h0, .inr (5, [.ref pa_qsettled, .int F1_240, .int F2_240, .ref pa_qtried, .int pa_mostPairs, .ref g])), (pa_qsettled, .inl (cA 1, 8, .inl F3_240)), (pa_qtried, .inl (cA 1, 8, .inl f_267)), (g, .inr (3, [.int g_odds, .int g_pot, .int g_lines, .int g_men, .int g_clauses, .int g_winds, .int g_far0, .int g_far1, .ref g_qsides, .ref g_qgrips, .ref g_qwits, .ref g_qsays, .ref g_qgives0, .ref g_qgives1, .ref g_qfroms, .ref g_qtos])), (g_qsides, .inl (cA 1, 8, .inl g_csides)), (g_qgrips, .inl (cA 1, 8, .inl g_cgrips)), (g_qwits, .inl (cA 1, 8, .inl g_cwits))]) (wr := []) ⟨hx, hb, hml, hown, hts⟩ hKN hP hD hS hA [0, 1, 2, 3, 4, 5, 6] [] rfl rfl (by decide) (by decide) (by decide) (g_X5_tryMan_2 l D cA _ h0 pa_qsettled F1_240 F2_240 pa_qtried pa_mostPairs g F3_240 f_267 g_odds g_pot g_lines g_men g_clauses g_winds g_far0 g_far1 g_qsides g_qgrips g_qwits g_qsays g_qgives0 g_qgives1 g_qfroms g_qtos g_csides g_cgrips g_cwits x_268 x_270 x_272 r_274 (by omega) (by omega) (by omega) (by omega) (by omega) (by omega) (by omega) (by omega)) (tb_V tw_884 tw_886 tw_13 tw_110 tw_887) hdX5_tryMan ⟨rfl, rfl, Nat.le_of_ble_eq_true rfl, Nat.le_of_ble_eq_true rfl⟩ ⟨Nat.le_of_ble_eq_true rfl, Nat.le_of_ble_eq_true rfl⟩ rfl rfl rfl hl.1 rfl (Nat.le_of_ble_eq_true rfl) dX5_tryMan_116 (fun u_275 H locs hr_275 hP hD hS => ?_)
                have hP : va_P D vwCl [(h0, .inr (5, [.ref pa_qsettled, .int (u_275.2.1 0), .int (u_275.2.1 1), .ref pa_qtried, .int pa_mostPairs, .ref g])), (pa_qsettled, .inl (cA 1, 8, .inl (u_275.2.2.1 0))), (pa_qtried, .inl (cA 1, 8, .inl (u_275.2.2.1 1))), (g, .inr (3, [.int g_odds, .int g_pot, .int g_lines, .int g_men, .int g_clauses, .int g_winds, .int g_far0, .int g_far1, .ref g_qsides, .ref g_qgrips, .ref g_qwits, .ref g_qsays, .ref g_qgives0, .ref g_qgives1, .ref g_qfroms, .ref g_qtos])), (g_qsides, .inl (cA 1, 8, .inl g_csides)), (g_qgrips, .inl (cA 1, 8, .inl g_cgrips)), (g_qwits, .inl (cA 1, 8, .inl g_cwits))] H := hP
                have hD : va_D A [(h0, .inr (5, [.ref pa_qsettled, .int (u_275.2.1 0), .int (u_275.2.1 1), .ref pa_qtried, .int pa_mostPairs, .ref g])), (pa_qsettled, .inl (cA 1, 8, .inl (u_275.2.2.1 0))), (pa_qtried, .inl (cA 1, 8, .inl (u_275.2.2.1 1))), (g, .inr (3, [.int g_odds, .int g_pot, .int g_lines, .int g_men, .int g_clauses, .int g_winds, .int g_far0, .int g_far1, .ref g_qsides, .ref g_qgrips, .ref g_qwits, .ref g_qsays, .ref g_qgives0, .ref g_qgives1, .ref g_qfroms, .ref g_qtos])), (g_qsides, .inl (cA 1, 8, .inl g_csides)), (g_qgrips, .inl (cA 1, 8, .inl g_cgrips)), (g_qwits, .inl (cA 1, 8, .inl g_cwits))] := hD
                refine lv_aload_n hx hb dX5_tryMan_119 rfl (lv_at hl 2 rfl) ?_
                refine va_get (D := D) (ci := 5) (v := .ref pa_qtried) (C := RX5) (T := TX5) (N := 6) hx hb hts inX5 hown hKN.1 hP 0 rfl rfl 3 (by decide) (hts _ tw_382) (fun _ h9 => h9) rfl dX5_tryMan_120 ?_
                refine lv_iload_n hx hb dX5_tryMan_123 rfl (lv_at hl 3 rfl) ?_
                refine lv_iconst (v := (-1)) hx hb dX5_tryMan_124 (by decide) ?_
                refine va_iast hx hb hKN.1 hP hD hS 2 1 rfl rfl (vp_in_iff.mpr ⟨by omega, by omega⟩) dX5_tryMan_125 (fun H locs hP hD hS => ?_)
                have hP : va_P D vwCl [(h0, .inr (5, [.ref pa_qsettled, .int (u_275.2.1 0), .int (u_275.2.1 1), .ref pa_qtried, .int pa_mostPairs, .ref g])), (pa_qsettled, .inl (cA 1, 8, .inl (u_275.2.2.1 0))), (pa_qtried, .inl (cA 1, 8, .inl (upd (u_275.2.2.1 1) p0.toNatClampNeg (-1)))), (g, .inr (3, [.int g_odds, .int g_pot, .int g_lines, .int g_men, .int g_clauses, .int g_winds, .int g_far0, .int g_far1, .ref g_qsides, .ref g_qgrips, .ref g_qwits, .ref g_qsays, .ref g_qgives0, .ref g_qgives1, .ref g_qfroms, .ref g_qtos])), (g_qsides, .inl (cA 1, 8, .inl g_csides)), (g_qgrips, .inl (cA 1, 8, .inl g_cgrips)), (g_qwits, .inl (cA 1, 8, .inl g_cwits))] H := hP
                have hD : va_D A [(h0, .inr (5, [.ref pa_qsettled, .int (u_275.2.1 0), .int (u_275.2.1 1), .ref pa_qtried, .int pa_mostPairs, .ref g])), (pa_qsettled, .inl (cA 1, 8, .inl (u_275.2.2.1 0))), (pa_qtried, .inl (cA 1, 8, .inl (upd (u_275.2.2.1 1) p0.toNatClampNeg (-1)))), (g, .inr (3, [.int g_odds, .int g_pot, .int g_lines, .int g_men, .int g_clauses, .int g_winds, .int g_far0, .int g_far1, .ref g_qsides, .ref g_qgrips, .ref g_qwits, .ref g_qsays, .ref g_qgives0, .ref g_qgives1, .ref g_qfroms, .ref g_qtos])), (g_qsides, .inl (cA 1, 8, .inl g_csides)), (g_qgrips, .inl (cA 1, 8, .inl g_cgrips)), (g_qwits, .inl (cA 1, 8, .inl g_cwits))] := hD
                generalize ef_276 : (upd (u_275.2.2.1 1) p0.toNatClampNeg (-1)) = f_276 at hP hD
                refine lv_aload_n hx hb dX5_tryMan_126 rfl (lv_at hl 2 rfl) ?_
                refine va_get (D := D) (ci := 5) (v := .ref pa_qtried) (C := RX5) (T := TX5) (N := 6) hx hb hts inX5 hown hKN.1 hP 0 rfl rfl 3 (by decide) (hts _ tw_382) (fun _ h9 => h9) rfl dX5_tryMan_127 ?_
                refine lv_iload hx hb dX5_tryMan_130 (lv_at hl 1 rfl) ?_
                refine lv_iconst (v := (-1)) hx hb dX5_tryMan_132 (by decide) ?_
                refine va_iast hx hb hKN.1 hP hD hS 2 1 rfl rfl (vp_in_iff.mpr ⟨by omega, by omega⟩) dX5_tryMan_133 (fun H locs hP hD hS => ?_)
                have hP : va_P D vwCl [(h0, .inr (5, [.ref pa_qsettled, .int (u_275.2.1 0), .int (u_275.2.1 1), .ref pa_qtried, .int pa_mostPairs, .ref g])), (pa_qsettled, .inl (cA 1, 8, .inl (u_275.2.2.1 0))), (pa_qtried, .inl (cA 1, 8, .inl (upd f_276 L5_240.toNatClampNeg (-1)))), (g, .inr (3, [.int g_odds, .int g_pot, .int g_lines, .int g_men, .int g_clauses, .int g_winds, .int g_far0, .int g_far1, .ref g_qsides, .ref g_qgrips, .ref g_qwits, .ref g_qsays, .ref g_qgives0, .ref g_qgives1, .ref g_qfroms, .ref g_qtos])), (g_qsides, .inl (cA 1, 8, .inl g_csides)), (g_qgrips, .inl (cA 1, 8, .inl g_cgrips)), (g_qwits, .inl (cA 1, 8, .inl g_cwits))] H := hP
                have hD : va_D A [(h0, .inr (5, [.ref pa_qsettled, .int (u_275.2.1 0), .int (u_275.2.1 1), .ref pa_qtried, .int pa_mostPairs, .ref g])), (pa_qsettled, .inl (cA 1, 8, .inl (u_275.2.2.1 0))), (pa_qtried, .inl (cA 1, 8, .inl (upd f_276 L5_240.toNatClampNeg (-1)))), (g, .inr (3, [.int g_odds, .int g_pot, .int g_lines, .int g_men, .int g_clauses, .int g_winds, .int g_far0, .int g_far1, .ref g_qsides, .ref g_qgrips, .ref g_qwits, .ref g_qsays, .ref g_qgives0, .ref g_qgives1, .ref g_qfroms, .ref g_qtos])), (g_qsides, .inl (cA 1, 8, .inl g_csides)), (g_qgrips, .inl (cA 1, 8, .inl g_cgrips)), (g_qwits, .inl (cA 1, 8, .inl g_cwits))] := hD
                generalize ef_277 : (upd f_276 L5_240.toNatClampNeg (-1)) = f_277 at hP hD
                obtain ⟨x_278, ex_278⟩ : ∃ y : Int32, L5_240 + Int32.ofInt 1 = y := ⟨_, rfl⟩
                have k_279 := ar_add (b := 1) rfl zi_1 ex_278.symm (by omega) (by omega)
                refine lv_iinc (v := x_278) (lv' := [(5, .int x_278), (6, .int r_265), (0, .ref h0), (1, .int p0), (2, .int p1), (3, .int p2), (4, .int p3)]) hx hb dX5_tryMan_134 hl (k := 1) rfl ex_278 (by decide) rfl (fun ls hl => ?_)
                refine lv_goto (tgt := 34) hx hb dX5_tryMan_137 (by decide) ?_
                exact ih_240 (x_278, (u_275.2.1 0), (u_275.2.1 1), (u_275.2.2.1 0), f_277) _ _ _ ⟨(show 0 ≤ x_278.toInt ∧ x_278.toInt ≤ 8 from by omega), hP.sub [0, 1, 2, 3, 4, 5, 6] rfl, hD.sub [0, 1, 2, 3, 4, 5, 6] (by decide) rfl, hS, lv_sub hl [0, 2, 3, 4, 5, 6] rfl⟩ (by show (2147483647 - x_278.toInt).toNat < (2147483647 - L5_240.toInt).toNat; omega)
          · skip
            refine lv_iconst (v := 1) hx hb dX5_tryMan_55 (by decide) ?_
            refine lv_icmp_ne (tgt := 134) hx hb dX5_tryMan_56 (by decide) (fun c_280 => ?_) (fun c_280 => absurd c_280 (by decide))
            obtain ⟨x_281, ex_281⟩ : ∃ y : Int32, L5_240 + Int32.ofInt 1 = y := ⟨_, rfl⟩
            have k_282 := ar_add (b := 1) rfl zi_1 ex_281.symm (by omega) (by omega)
            refine lv_iinc (v := x_281) (lv' := [(5, .int x_281), (0, .ref h0), (1, .int p0), (2, .int p1), (3, .int p2), (4, .int p3)]) hx hb dX5_tryMan_134 hl (k := 0) rfl ex_281 (by decide) rfl (fun ls hl => ?_)
            refine lv_goto (tgt := 34) hx hb dX5_tryMan_137 (by decide) ?_
            exact ih_240 (x_281, F1_240, F2_240, F3_240, F4_240) _ _ _ ⟨(show 0 ≤ x_281.toInt ∧ x_281.toInt ≤ 8 from by omega), hP.sub [0, 1, 2, 3, 4, 5, 6] rfl, hD.sub [0, 1, 2, 3, 4, 5, 6] (by decide) rfl, hS, lv_sub hl [0, 1, 2, 3, 4, 5] rfl⟩ (by show (2147483647 - x_281.toInt).toNat < (2147483647 - L5_240.toInt).toNat; omega)
    · skip
      refine lv_if_ne (tgt := 140) hx hb dX5_tryMan_28 (by decide) (fun c_283 => ?_) (fun c_283 => absurd c_283 (by decide))
      refine lv_aload_n hx hb dX5_tryMan_140 rfl (lv_at hl 0 rfl) ?_
      refine lv_iload_n hx hb dX5_tryMan_141 rfl (lv_at hl 1 rfl) ?_
      refine lv_iconst (v := 1) hx hb dX5_tryMan_142 (by decide) ?_
      refine lv_iadd hx hb dX5_tryMan_143 ?_
      refine lv_topi (fun x_284 ex_284 => ?_)
      have k_285 := ar_add rfl zi_1 ex_284 (by omega) (by omega)
      refine lv_iload_n hx hb dX5_tryMan_144 rfl (lv_at hl 2 rfl) ?_
      refine lv_iload_n hx hb dX5_tryMan_145 rfl (lv_at hl 3 rfl) ?_
      refine lv_iload hx hb dX5_tryMan_146 (lv_at hl 4 rfl) ?_
      refine cmVv (rest := []) (wsC := [(h0, .inr (5, [.ref pa_qsettled, .int pa_greatestSum, .int pa_fairest, .ref pa_qtried, .int pa_mostPairs, .ref g])), (pa_qsettled, .inl (cA 1, 8, .inl pa_csettled)), (pa_qtried, .inl (cA 1, 8, .inl pa_ctried)), (g, .inr (3, [.int g_odds, .int g_pot, .int g_lines, .int g_men, .int g_clauses, .int g_winds, .int g_far0, .int g_far1, .ref g_qsides, .ref g_qgrips, .ref g_qwits, .ref g_qsays, .ref g_qgives0, .ref g_qgives1, .ref g_qfroms, .ref g_qtos])), (g_qsides, .inl (cA 1, 8, .inl g_csides)), (g_qgrips, .inl (cA 1, 8, .inl g_cgrips)), (g_qwits, .inl (cA 1, 8, .inl g_cwits))]) (wr := []) ⟨hx, hb, hml, hown, hts⟩ hKN hP hD hS hA [0, 1, 2, 3, 4, 5, 6] [] rfl rfl (by decide) (by decide) (by decide) (g_X5_tryMan_2 l D cA _ h0 pa_qsettled pa_greatestSum pa_fairest pa_qtried pa_mostPairs g pa_csettled pa_ctried g_odds g_pot g_lines g_men g_clauses g_winds g_far0 g_far1 g_qsides g_qgrips g_qwits g_qsays g_qgives0 g_qgives1 g_qfroms g_qtos g_csides g_cgrips g_cwits x_284 p1 p2 p3 (by omega) (by omega) (by omega) (by omega) (by omega) (by omega) (by omega) (by omega)) (tb_V tw_884 tw_886 tw_13 tw_110 tw_887) hdX5_tryMan ⟨rfl, rfl, Nat.le_of_ble_eq_true rfl, Nat.le_of_ble_eq_true rfl⟩ ⟨Nat.le_of_ble_eq_true rfl, Nat.le_of_ble_eq_true rfl⟩ rfl rfl rfl hl.1 rfl (Nat.le_of_ble_eq_true rfl) dX5_tryMan_148 (fun u_286 H locs hr_286 hP hD hS => ?_)
      have hP : va_P D vwCl [(h0, .inr (5, [.ref pa_qsettled, .int (u_286.2.1 0), .int (u_286.2.1 1), .ref pa_qtried, .int pa_mostPairs, .ref g])), (pa_qsettled, .inl (cA 1, 8, .inl (u_286.2.2.1 0))), (pa_qtried, .inl (cA 1, 8, .inl (u_286.2.2.1 1))), (g, .inr (3, [.int g_odds, .int g_pot, .int g_lines, .int g_men, .int g_clauses, .int g_winds, .int g_far0, .int g_far1, .ref g_qsides, .ref g_qgrips, .ref g_qwits, .ref g_qsays, .ref g_qgives0, .ref g_qgives1, .ref g_qfroms, .ref g_qtos])), (g_qsides, .inl (cA 1, 8, .inl g_csides)), (g_qgrips, .inl (cA 1, 8, .inl g_cgrips)), (g_qwits, .inl (cA 1, 8, .inl g_cwits))] H := hP
      have hD : va_D A [(h0, .inr (5, [.ref pa_qsettled, .int (u_286.2.1 0), .int (u_286.2.1 1), .ref pa_qtried, .int pa_mostPairs, .ref g])), (pa_qsettled, .inl (cA 1, 8, .inl (u_286.2.2.1 0))), (pa_qtried, .inl (cA 1, 8, .inl (u_286.2.2.1 1))), (g, .inr (3, [.int g_odds, .int g_pot, .int g_lines, .int g_men, .int g_clauses, .int g_winds, .int g_far0, .int g_far1, .ref g_qsides, .ref g_qgrips, .ref g_qwits, .ref g_qsays, .ref g_qgives0, .ref g_qgives1, .ref g_qfroms, .ref g_qtos])), (g_qsides, .inl (cA 1, 8, .inl g_csides)), (g_qgrips, .inl (cA 1, 8, .inl g_cgrips)), (g_qwits, .inl (cA 1, 8, .inl g_cwits))] := hD
      have hP9 := hP.sub (ws' := [(h0, .inr (5, [.ref pa_qsettled, .int (u_286.2.1 0), .int (u_286.2.1 1), .ref pa_qtried, .int pa_mostPairs, .ref g])), (pa_qsettled, .inl (cA 1, 8, .inl (u_286.2.2.1 0))), (pa_qtried, .inl (cA 1, 8, .inl (u_286.2.2.1 1))), (g, .inr (3, [.int g_odds, .int g_pot, .int g_lines, .int g_men, .int g_clauses, .int g_winds, .int g_far0, .int g_far1, .ref g_qsides, .ref g_qgrips, .ref g_qwits, .ref g_qsays, .ref g_qgives0, .ref g_qgives1, .ref g_qfroms, .ref g_qtos])), (g_qsides, .inl (cA 1, 8, .inl g_csides)), (g_qgrips, .inl (cA 1, 8, .inl g_cgrips)), (g_qwits, .inl (cA 1, 8, .inl g_cwits))]) [0, 1, 2, 3, 4, 5, 6] rfl
      have hD9 := hD.sub (ws' := [(h0, .inr (5, [.ref pa_qsettled, .int (u_286.2.1 0), .int (u_286.2.1 1), .ref pa_qtried, .int pa_mostPairs, .ref g])), (pa_qsettled, .inl (cA 1, 8, .inl (u_286.2.2.1 0))), (pa_qtried, .inl (cA 1, 8, .inl (u_286.2.2.1 1))), (g, .inr (3, [.int g_odds, .int g_pot, .int g_lines, .int g_men, .int g_clauses, .int g_winds, .int g_far0, .int g_far1, .ref g_qsides, .ref g_qgrips, .ref g_qwits, .ref g_qsays, .ref g_qgives0, .ref g_qgives1, .ref g_qfroms, .ref g_qtos])), (g_qsides, .inl (cA 1, 8, .inl g_csides)), (g_qgrips, .inl (cA 1, 8, .inl g_cgrips)), (g_qwits, .inl (cA 1, 8, .inl g_cwits))]) [0, 1, 2, 3, 4, 5, 6] (by decide) rfl
      exact W.vret hx hb hr (fun t ht hW => ⟨⟨((fun _ => 0), (selI [(u_286.2.1 0), (u_286.2.1 1)]), (selF [(u_286.2.2.1 0), (u_286.2.2.1 1)]), (fun _ _ => 0)), rfl, trivial, by rw [ht]; exact hP9, hD9⟩, hS.F ht⟩) hS.2.2 dX5_tryMan_151
  · skip
    refine lv_if_ne (tgt := 20) hx hb dX5_tryMan_8 (by decide) (fun c_287 => absurd (by decide) c_287) (fun c_287 => ?_)
    refine lv_aload_n hx hb dX5_tryMan_11 rfl (lv_at hl 0 rfl) ?_
    refine lv_iload_n hx hb dX5_tryMan_12 rfl (lv_at hl 2 rfl) ?_
    refine lv_iload_n hx hb dX5_tryMan_13 rfl (lv_at hl 3 rfl) ?_
    refine lv_iload hx hb dX5_tryMan_14 (lv_at hl 4 rfl) ?_
    refine cmVv (rest := []) (wsC := [(h0, .inr (5, [.ref pa_qsettled, .int pa_greatestSum, .int pa_fairest, .ref pa_qtried, .int pa_mostPairs, .ref g])), (pa_qsettled, .inl (cA 1, 8, .inl pa_csettled)), (pa_qtried, .inl (cA 1, 8, .inl pa_ctried))]) (wr := [(g, .inr (3, [.int g_odds, .int g_pot, .int g_lines, .int g_men, .int g_clauses, .int g_winds, .int g_far0, .int g_far1, .ref g_qsides, .ref g_qgrips, .ref g_qwits, .ref g_qsays, .ref g_qgives0, .ref g_qgives1, .ref g_qfroms, .ref g_qtos])), (g_qsides, .inl (cA 1, 8, .inl g_csides)), (g_qgrips, .inl (cA 1, 8, .inl g_cgrips)), (g_qwits, .inl (cA 1, 8, .inl g_cwits))]) ⟨hx, hb, hml, hown, hts⟩ hKN hP hD hS hA [0, 1, 2] [3, 4, 5, 6] rfl rfl (by decide) (by decide) (by decide) (g_X5_weigh l D cA _ h0 pa_qsettled pa_greatestSum pa_fairest pa_qtried pa_mostPairs g pa_csettled pa_ctried p1 p2 p3) (tb_V tw_889 tw_891 tw_14 tw_110 tw_892) hdX5_weigh ⟨rfl, rfl, Nat.le_of_ble_eq_true rfl, Nat.le_of_ble_eq_true rfl⟩ ⟨Nat.le_of_ble_eq_true rfl, Nat.le_of_ble_eq_true rfl⟩ rfl rfl rfl hl.1 rfl (Nat.le_of_ble_eq_true rfl) dX5_tryMan_16 (fun u_288 H locs hr_288 hP hD hS => ?_)
    have hP : va_P D vwCl [(g, .inr (3, [.int g_odds, .int g_pot, .int g_lines, .int g_men, .int g_clauses, .int g_winds, .int g_far0, .int g_far1, .ref g_qsides, .ref g_qgrips, .ref g_qwits, .ref g_qsays, .ref g_qgives0, .ref g_qgives1, .ref g_qfroms, .ref g_qtos])), (g_qsides, .inl (cA 1, 8, .inl g_csides)), (g_qgrips, .inl (cA 1, 8, .inl g_cgrips)), (g_qwits, .inl (cA 1, 8, .inl g_cwits)), (h0, .inr (5, [.ref pa_qsettled, .int (u_288.2.1 0), .int (u_288.2.1 1), .ref pa_qtried, .int pa_mostPairs, .ref g])), (pa_qsettled, .inl (cA 1, 8, .inl (u_288.2.2.1 0))), (pa_qtried, .inl (cA 1, 8, .inl pa_ctried))] H := hP
    have hD : va_D A [(g, .inr (3, [.int g_odds, .int g_pot, .int g_lines, .int g_men, .int g_clauses, .int g_winds, .int g_far0, .int g_far1, .ref g_qsides, .ref g_qgrips, .ref g_qwits, .ref g_qsays, .ref g_qgives0, .ref g_qgives1, .ref g_qfroms, .ref g_qtos])), (g_qsides, .inl (cA 1, 8, .inl g_csides)), (g_qgrips, .inl (cA 1, 8, .inl g_cgrips)), (g_qwits, .inl (cA 1, 8, .inl g_cwits)), (h0, .inr (5, [.ref pa_qsettled, .int (u_288.2.1 0), .int (u_288.2.1 1), .ref pa_qtried, .int pa_mostPairs, .ref g])), (pa_qsettled, .inl (cA 1, 8, .inl (u_288.2.2.1 0))), (pa_qtried, .inl (cA 1, 8, .inl pa_ctried))] := hD
    have hP9 := hP.sub (ws' := [(h0, .inr (5, [.ref pa_qsettled, .int (u_288.2.1 0), .int (u_288.2.1 1), .ref pa_qtried, .int pa_mostPairs, .ref g])), (pa_qsettled, .inl (cA 1, 8, .inl (u_288.2.2.1 0))), (pa_qtried, .inl (cA 1, 8, .inl pa_ctried)), (g, .inr (3, [.int g_odds, .int g_pot, .int g_lines, .int g_men, .int g_clauses, .int g_winds, .int g_far0, .int g_far1, .ref g_qsides, .ref g_qgrips, .ref g_qwits, .ref g_qsays, .ref g_qgives0, .ref g_qgives1, .ref g_qfroms, .ref g_qtos])), (g_qsides, .inl (cA 1, 8, .inl g_csides)), (g_qgrips, .inl (cA 1, 8, .inl g_cgrips)), (g_qwits, .inl (cA 1, 8, .inl g_cwits))]) [4, 5, 6, 0, 1, 2, 3] rfl
    have hD9 := hD.sub (ws' := [(h0, .inr (5, [.ref pa_qsettled, .int (u_288.2.1 0), .int (u_288.2.1 1), .ref pa_qtried, .int pa_mostPairs, .ref g])), (pa_qsettled, .inl (cA 1, 8, .inl (u_288.2.2.1 0))), (pa_qtried, .inl (cA 1, 8, .inl pa_ctried)), (g, .inr (3, [.int g_odds, .int g_pot, .int g_lines, .int g_men, .int g_clauses, .int g_winds, .int g_far0, .int g_far1, .ref g_qsides, .ref g_qgrips, .ref g_qwits, .ref g_qsays, .ref g_qgives0, .ref g_qgives1, .ref g_qfroms, .ref g_qtos])), (g_qsides, .inl (cA 1, 8, .inl g_csides)), (g_qgrips, .inl (cA 1, 8, .inl g_cgrips)), (g_qwits, .inl (cA 1, 8, .inl g_cwits))]) [4, 5, 6, 0, 1, 2, 3] (by decide) rfl
    exact W.vret hx hb hr (fun t ht hW => ⟨⟨((fun _ => 0), (selI [(u_288.2.1 0), (u_288.2.1 1)]), (selF [(u_288.2.2.1 0), pa_ctried]), (fun _ _ => 0)), rfl, trivial, by rw [ht]; exact hP9, hD9⟩, hS.F ht⟩) hS.2.2 dX5_tryMan_19
set_option maxHeartbeats 8000000 in
set_option maxRecDepth 100000 in
theorem g_X5_tryMan_0 (l : Launch) (D : va_G) (cA : Nat → ClassId) (sz : Nat) (h0 : Nat) (pa_qsettled : Nat) (pa_greatestSum : Int32) (pa_fairest : Int32) (pa_qtried : Nat) (pa_mostPairs : Int32) (g : Nat) (pa_csettled : Nat → Int32) (pa_ctried : Nat → Int32) (g_odds : Int32) (g_pot : Int32) (g_lines : Int32) (g_men : Int32) (g_clauses : Int32) (g_winds : Int32) (g_far0 : Int32) (g_far1 : Int32) (g_qsides : Nat) (g_qgrips : Nat) (g_qwits : Nat) (g_qsays : Nat) (g_qgives0 : Nat) (g_qgives1 : Nat) (g_qfroms : Nat) (g_qtos : Nat) (g_csides : Nat → Int32) (g_cgrips : Nat → Int32) (g_cwits : Nat → Int32) (p0 : Int32) (p1 : Int32) (p2 : Int32) (p3 : Int32) (h_g_odds : -999 ≤ (g_odds : Int32).toInt ∧ (g_odds : Int32).toInt ≤ 999) (h_g_pot : -999 ≤ (g_pot : Int32).toInt ∧ (g_pot : Int32).toInt ≤ 999) (h_g_men : 0 ≤ (g_men : Int32).toInt ∧ (g_men : Int32).toInt ≤ 8) (h_g_clauses : 0 ≤ (g_clauses : Int32).toInt ∧ (g_clauses : Int32).toInt ≤ 7) (h_g_winds : 0 ≤ (g_winds : Int32).toInt ∧ (g_winds : Int32).toInt ≤ 4) (h_g_far0 : -999 ≤ (g_far0 : Int32).toInt ∧ (g_far0 : Int32).toInt ≤ 999) (h_g_far1 : -999 ≤ (g_far1 : Int32).toInt ∧ (g_far1 : Int32).toInt ≤ 999) (h_p0 : 0 ≤ (p0 : Int32).toInt ∧ (p0 : Int32).toInt ≤ 0) : Met l yX5_tryMan (Cond.code yX5_tryMan cX5_tryMan 7 none :: TB) (rmd 10 0 0) (PM D cA sz [(h0, .inr (5, [.ref pa_qsettled, .int pa_greatestSum, .int pa_fairest, .ref pa_qtried, .int pa_mostPairs, .ref g])), (pa_qsettled, .inl (cA 1, 8, .inl pa_csettled)), (pa_qtried, .inl (cA 1, 8, .inl pa_ctried)), (g, .inr (3, [.int g_odds, .int g_pot, .int g_lines, .int g_men, .int g_clauses, .int g_winds, .int g_far0, .int g_far1, .ref g_qsides, .ref g_qgrips, .ref g_qwits, .ref g_qsays, .ref g_qgives0, .ref g_qgives1, .ref g_qfroms, .ref g_qtos])), (g_qsides, .inl (cA 1, 8, .inl g_csides)), (g_qgrips, .inl (cA 1, 8, .inl g_cgrips)), (g_qwits, .inl (cA 1, 8, .inl g_cwits))] [.ref h0, .int p0, .int p1, .int p2, .int p3]) (va_Qv (fun (u : SU) => True) (fun u t => va_P D vwCl [(h0, .inr (5, [.ref pa_qsettled, .int (u.2.1 0), .int (u.2.1 1), .ref pa_qtried, .int pa_mostPairs, .ref g])), (pa_qsettled, .inl (cA 1, 8, .inl (u.2.2.1 0))), (pa_qtried, .inl (cA 1, 8, .inl (u.2.2.1 1))), (g, .inr (3, [.int g_odds, .int g_pot, .int g_lines, .int g_men, .int g_clauses, .int g_winds, .int g_far0, .int g_far1, .ref g_qsides, .ref g_qgrips, .ref g_qwits, .ref g_qsays, .ref g_qgives0, .ref g_qgives1, .ref g_qfroms, .ref g_qtos])), (g_qsides, .inl (cA 1, 8, .inl g_csides)), (g_qgrips, .inl (cA 1, 8, .inl g_cgrips)), (g_qwits, .inl (cA 1, 8, .inl g_cwits))] t.heap ∧ va_D (va_A [(h0, .inr (5, [.ref pa_qsettled, .int pa_greatestSum, .int pa_fairest, .ref pa_qtried, .int pa_mostPairs, .ref g])), (pa_qsettled, .inl (cA 1, 8, .inl pa_csettled)), (pa_qtried, .inl (cA 1, 8, .inl pa_ctried)), (g, .inr (3, [.int g_odds, .int g_pot, .int g_lines, .int g_men, .int g_clauses, .int g_winds, .int g_far0, .int g_far1, .ref g_qsides, .ref g_qgrips, .ref g_qwits, .ref g_qsays, .ref g_qgives0, .ref g_qgives1, .ref g_qfroms, .ref g_qtos])), (g_qsides, .inl (cA 1, 8, .inl g_csides)), (g_qgrips, .inl (cA 1, 8, .inl g_cgrips)), (g_qwits, .inl (cA 1, 8, .inl g_cwits))] sz) [(h0, .inr (5, [.ref pa_qsettled, .int (u.2.1 0), .int (u.2.1 1), .ref pa_qtried, .int pa_mostPairs, .ref g])), (pa_qsettled, .inl (cA 1, 8, .inl (u.2.2.1 0))), (pa_qtried, .inl (cA 1, 8, .inl (u.2.2.1 1))), (g, .inr (3, [.int g_odds, .int g_pot, .int g_lines, .int g_men, .int g_clauses, .int g_winds, .int g_far0, .int g_far1, .ref g_qsides, .ref g_qgrips, .ref g_qwits, .ref g_qsays, .ref g_qgives0, .ref g_qgives1, .ref g_qfroms, .ref g_qtos])), (g_qsides, .inl (cA 1, 8, .inl g_csides)), (g_qgrips, .inl (cA 1, 8, .inl g_cgrips)), (g_qwits, .inl (cA 1, 8, .inl g_cwits))]) (va_A [(h0, .inr (5, [.ref pa_qsettled, .int pa_greatestSum, .int pa_fairest, .ref pa_qtried, .int pa_mostPairs, .ref g])), (pa_qsettled, .inl (cA 1, 8, .inl pa_csettled)), (pa_qtried, .inl (cA 1, 8, .inl pa_ctried)), (g, .inr (3, [.int g_odds, .int g_pot, .int g_lines, .int g_men, .int g_clauses, .int g_winds, .int g_far0, .int g_far1, .ref g_qsides, .ref g_qgrips, .ref g_qwits, .ref g_qsays, .ref g_qgives0, .ref g_qgives1, .ref g_qfroms, .ref g_qtos])), (g_qsides, .inl (cA 1, 8, .inl g_csides)), (g_qgrips, .inl (cA 1, 8, .inl g_cgrips)), (g_qwits, .inl (cA 1, 8, .inl g_cwits))] sz)) 0 0 (va_A [(h0, .inr (5, [.ref pa_qsettled, .int pa_greatestSum, .int pa_fairest, .ref pa_qtried, .int pa_mostPairs, .ref g])), (pa_qsettled, .inl (cA 1, 8, .inl pa_csettled)), (pa_qtried, .inl (cA 1, 8, .inl pa_ctried)), (g, .inr (3, [.int g_odds, .int g_pot, .int g_lines, .int g_men, .int g_clauses, .int g_winds, .int g_far0, .int g_far1, .ref g_qsides, .ref g_qgrips, .ref g_qwits, .ref g_qsays, .ref g_qgives0, .ref g_qgives1, .ref g_qfroms, .ref g_qtos])), (g_qsides, .inl (cA 1, 8, .inl g_csides)), (g_qgrips, .inl (cA 1, 8, .inl g_cgrips)), (g_qwits, .inl (cA 1, 8, .inl g_cwits))] sz) := by
  refine Met.ofW (cc := cX5_tryMan) (maxL := 7) (ret := none) (by decide) rfl ?_
  intro p e s m args below meth c s₁ B hml hv
  obtain ⟨rfl, hsz, hP, hKN, hD0⟩ := hv
  have hx := B.exec
  have hb := B.bytes
  have hr := B.returns
  have hts : ∀ w ∈ TB, w.before _ s = true := fun w h => atoms_spec B.pre w (List.mem_cons_of_mem _ h)
  have hown : s.vm.findClass RX5 = some m.cls := findClass_of_methodNamed B.named
  have hlocks := B.notSynchronized
  subst hsz
  have hD := hD0.self (sz := s.heap.size)
  generalize hAe : va_A [(h0, .inr (5, [.ref pa_qsettled, .int pa_greatestSum, .int pa_fairest, .ref pa_qtried, .int pa_mostPairs, .ref g])), (pa_qsettled, .inl (cA 1, 8, .inl pa_csettled)), (pa_qtried, .inl (cA 1, 8, .inl pa_ctried)), (g, .inr (3, [.int g_odds, .int g_pot, .int g_lines, .int g_men, .int g_clauses, .int g_winds, .int g_far0, .int g_far1, .ref g_qsides, .ref g_qgrips, .ref g_qwits, .ref g_qsays, .ref g_qgives0, .ref g_qgives1, .ref g_qfroms, .ref g_qtos])), (g_qsides, .inl (cA 1, 8, .inl g_csides)), (g_qgrips, .inl (cA 1, 8, .inl g_cgrips)), (g_qwits, .inl (cA 1, 8, .inl g_cwits))] s.heap.size = A at hD ⊢
  have hA : ∀ q : Nat, s.heap.size ≤ q → A q := fun q h => by rw [← hAe]; exact Or.inr h
  have hS : va_S A s.heap s.heap [] := va_S.rf
  have hl := lv_entry ([.ref h0, .int p0, .int p1, .int p2, .int p3]) (n := 7) (Nat.le_of_ble_eq_true rfl)
  rw [lg_entry_eq]
  generalize (lg_sl ([.ref h0, .int p0, .int p1, .int p2, .int p3]) ++ List.replicate (7 - (lg_sl ([.ref h0, .int p0, .int p1, .int p2, .int p3])).length) Slot.unset).toArray = ls at hl ⊢
  have hl : lv_has ls 7 [(0, .ref h0), (1, .int p0), (2, .int p1), (3, .int p2), (4, .int p3)] := hl
  refine lv_aload_n hx hb dX5_tryMan_0 rfl (lv_at hl 0 rfl) ?_
  refine va_get (D := D) (ci := 5) (v := .ref g) (C := RX5) (T := TX5) (N := 6) hx hb hts inX5 hown hKN.1 hP 0 rfl rfl 5 (by decide) (hts _ tw_384) (fun _ h9 => h9) rfl dX5_tryMan_1 ?_
  refine lv_iload_n hx hb dX5_tryMan_4 rfl (lv_at hl 1 rfl) ?_
  refine cpVi (rest := []) ⟨hx, hb, hml, hown, hts⟩ hKN (hP.sub (ws' := [(g, .inr (3, [.int g_odds, .int g_pot, .int g_lines, .int g_men, .int g_clauses, .int g_winds, .int g_far0, .int g_far1, .ref g_qsides, .ref g_qgrips, .ref g_qwits, .ref g_qsays, .ref g_qgives0, .ref g_qgives1, .ref g_qfroms, .ref g_qtos]))]) [3] rfl) (g_X3_hasMan l D cA g g_odds g_pot g_lines g_men g_clauses g_winds g_far0 g_far1 g_qsides g_qgrips g_qwits g_qsays g_qgives0 g_qgives1 g_qfroms g_qtos p0 (by omega) (by omega) (by omega) (by omega) (by omega) (by omega) (by omega)) (tb_V tw_888 tw_699 tw_700 tw_104 tw_701) hdX3_hasMan ⟨rfl, rfl, Nat.le_of_ble_eq_true rfl, Nat.le_of_ble_eq_true rfl⟩ ⟨Nat.le_of_ble_eq_true rfl, Nat.le_of_ble_eq_true rfl⟩ rfl rfl rfl hl.1 rfl (Nat.le_of_ble_eq_true rfl) dX5_tryMan_5 (fun r_1 hr_1 => ?_)
  rcases hr_1 with ⟨k_1_0_0, k_1_0_1, k_1_0_2, rfl⟩ | rfl
  · skip
    refine lv_if_ne (tgt := 20) hx hb dX5_tryMan_8 (by decide) (fun c_2 => ?_) (fun c_2 => absurd c_2 (by decide))
    refine lv_aload_n hx hb dX5_tryMan_20 rfl (lv_at hl 0 rfl) ?_
    refine va_get (D := D) (ci := 5) (v := .ref g) (C := RX5) (T := TX5) (N := 6) hx hb hts inX5 hown hKN.1 hP 0 rfl rfl 5 (by decide) (hts _ tw_384) (fun _ h9 => h9) rfl dX5_tryMan_21 ?_
    refine lv_iload_n hx hb dX5_tryMan_24 rfl (lv_at hl 1 rfl) ?_
    refine cpVi (rest := []) ⟨hx, hb, hml, hown, hts⟩ hKN (hP.sub (ws' := [(g, .inr (3, [.int g_odds, .int g_pot, .int g_lines, .int g_men, .int g_clauses, .int g_winds, .int g_far0, .int g_far1, .ref g_qsides, .ref g_qgrips, .ref g_qwits, .ref g_qsays, .ref g_qgives0, .ref g_qgives1, .ref g_qfroms, .ref g_qtos])), (g_qsides, .inl (cA 1, 8, .inl g_csides))]) [3, 4] rfl) (g_X3_sideOf l D cA g g_odds g_pot g_lines g_men g_clauses g_winds g_far0 g_far1 g_qsides g_qgrips g_qwits g_qsays g_qgives0 g_qgives1 g_qfroms g_qtos g_csides p0 (by omega) (by omega) (by omega) (by omega) (by omega) (by omega) (by omega)) (tb_V tw_882 tw_703 tw_704 tw_104 tw_705) hdX3_sideOf ⟨rfl, rfl, Nat.le_of_ble_eq_true rfl, Nat.le_of_ble_eq_true rfl⟩ ⟨Nat.le_of_ble_eq_true rfl, Nat.le_of_ble_eq_true rfl⟩ rfl rfl rfl hl.1 rfl (Nat.le_of_ble_eq_true rfl) dX5_tryMan_25 (fun r_3 hr_3 => ?_)
    rcases hr_3 with ⟨k_3_0_0, k_3_0_1⟩ | rfl
    · skip
      refine lv_if_ne (tgt := 140) hx hb dX5_tryMan_28 (by decide) (fun c_4 => ?_) (fun c_4 => ?_)
      · skip
        have b_6 := i32_bd r_3
        have k_5 := kk_ne rfl zi_0 c_4
        refine lv_aload_n hx hb dX5_tryMan_140 rfl (lv_at hl 0 rfl) ?_
        refine lv_iload_n hx hb dX5_tryMan_141 rfl (lv_at hl 1 rfl) ?_
        refine lv_iconst (v := 1) hx hb dX5_tryMan_142 (by decide) ?_
        refine lv_iadd hx hb dX5_tryMan_143 ?_
        refine lv_topi (fun x_7 ex_7 => ?_)
        have k_8 := ar_add rfl zi_1 ex_7 (by omega) (by omega)
        refine lv_iload_n hx hb dX5_tryMan_144 rfl (lv_at hl 2 rfl) ?_
        refine lv_iload_n hx hb dX5_tryMan_145 rfl (lv_at hl 3 rfl) ?_
        refine lv_iload hx hb dX5_tryMan_146 (lv_at hl 4 rfl) ?_
        refine cmVv (rest := []) (wsC := [(h0, .inr (5, [.ref pa_qsettled, .int pa_greatestSum, .int pa_fairest, .ref pa_qtried, .int pa_mostPairs, .ref g])), (pa_qsettled, .inl (cA 1, 8, .inl pa_csettled)), (pa_qtried, .inl (cA 1, 8, .inl pa_ctried)), (g, .inr (3, [.int g_odds, .int g_pot, .int g_lines, .int g_men, .int g_clauses, .int g_winds, .int g_far0, .int g_far1, .ref g_qsides, .ref g_qgrips, .ref g_qwits, .ref g_qsays, .ref g_qgives0, .ref g_qgives1, .ref g_qfroms, .ref g_qtos])), (g_qsides, .inl (cA 1, 8, .inl g_csides)), (g_qgrips, .inl (cA 1, 8, .inl g_cgrips)), (g_qwits, .inl (cA 1, 8, .inl g_cwits))]) (wr := []) ⟨hx, hb, hml, hown, hts⟩ hKN hP hD hS hA [0, 1, 2, 3, 4, 5, 6] [] rfl rfl (by decide) (by decide) (by decide) (g_X5_tryMan_1 l D cA _ h0 pa_qsettled pa_greatestSum pa_fairest pa_qtried pa_mostPairs g pa_csettled pa_ctried g_odds g_pot g_lines g_men g_clauses g_winds g_far0 g_far1 g_qsides g_qgrips g_qwits g_qsays g_qgives0 g_qgives1 g_qfroms g_qtos g_csides g_cgrips g_cwits x_7 p1 p2 p3 (by omega) (by omega) (by omega) (by omega) (by omega) (by omega) (by omega) (by omega)) (tb_V tw_884 tw_886 tw_13 tw_110 tw_887) hdX5_tryMan ⟨rfl, rfl, Nat.le_of_ble_eq_true rfl, Nat.le_of_ble_eq_true rfl⟩ ⟨Nat.le_of_ble_eq_true rfl, Nat.le_of_ble_eq_true rfl⟩ rfl rfl rfl hl.1 rfl (Nat.le_of_ble_eq_true rfl) dX5_tryMan_148 (fun u_9 H locs hr_9 hP hD hS => ?_)
        have hP : va_P D vwCl [(h0, .inr (5, [.ref pa_qsettled, .int (u_9.2.1 0), .int (u_9.2.1 1), .ref pa_qtried, .int pa_mostPairs, .ref g])), (pa_qsettled, .inl (cA 1, 8, .inl (u_9.2.2.1 0))), (pa_qtried, .inl (cA 1, 8, .inl (u_9.2.2.1 1))), (g, .inr (3, [.int g_odds, .int g_pot, .int g_lines, .int g_men, .int g_clauses, .int g_winds, .int g_far0, .int g_far1, .ref g_qsides, .ref g_qgrips, .ref g_qwits, .ref g_qsays, .ref g_qgives0, .ref g_qgives1, .ref g_qfroms, .ref g_qtos])), (g_qsides, .inl (cA 1, 8, .inl g_csides)), (g_qgrips, .inl (cA 1, 8, .inl g_cgrips)), (g_qwits, .inl (cA 1, 8, .inl g_cwits))] H := hP
        have hD : va_D A [(h0, .inr (5, [.ref pa_qsettled, .int (u_9.2.1 0), .int (u_9.2.1 1), .ref pa_qtried, .int pa_mostPairs, .ref g])), (pa_qsettled, .inl (cA 1, 8, .inl (u_9.2.2.1 0))), (pa_qtried, .inl (cA 1, 8, .inl (u_9.2.2.1 1))), (g, .inr (3, [.int g_odds, .int g_pot, .int g_lines, .int g_men, .int g_clauses, .int g_winds, .int g_far0, .int g_far1, .ref g_qsides, .ref g_qgrips, .ref g_qwits, .ref g_qsays, .ref g_qgives0, .ref g_qgives1, .ref g_qfroms, .ref g_qtos])), (g_qsides, .inl (cA 1, 8, .inl g_csides)), (g_qgrips, .inl (cA 1, 8, .inl g_cgrips)), (g_qwits, .inl (cA 1, 8, .inl g_cwits))] := hD
        have hP9 := hP.sub (ws' := [(h0, .inr (5, [.ref pa_qsettled, .int (u_9.2.1 0), .int (u_9.2.1 1), .ref pa_qtried, .int pa_mostPairs, .ref g])), (pa_qsettled, .inl (cA 1, 8, .inl (u_9.2.2.1 0))), (pa_qtried, .inl (cA 1, 8, .inl (u_9.2.2.1 1))), (g, .inr (3, [.int g_odds, .int g_pot, .int g_lines, .int g_men, .int g_clauses, .int g_winds, .int g_far0, .int g_far1, .ref g_qsides, .ref g_qgrips, .ref g_qwits, .ref g_qsays, .ref g_qgives0, .ref g_qgives1, .ref g_qfroms, .ref g_qtos])), (g_qsides, .inl (cA 1, 8, .inl g_csides)), (g_qgrips, .inl (cA 1, 8, .inl g_cgrips)), (g_qwits, .inl (cA 1, 8, .inl g_cwits))]) [0, 1, 2, 3, 4, 5, 6] rfl
        have hD9 := hD.sub (ws' := [(h0, .inr (5, [.ref pa_qsettled, .int (u_9.2.1 0), .int (u_9.2.1 1), .ref pa_qtried, .int pa_mostPairs, .ref g])), (pa_qsettled, .inl (cA 1, 8, .inl (u_9.2.2.1 0))), (pa_qtried, .inl (cA 1, 8, .inl (u_9.2.2.1 1))), (g, .inr (3, [.int g_odds, .int g_pot, .int g_lines, .int g_men, .int g_clauses, .int g_winds, .int g_far0, .int g_far1, .ref g_qsides, .ref g_qgrips, .ref g_qwits, .ref g_qsays, .ref g_qgives0, .ref g_qgives1, .ref g_qfroms, .ref g_qtos])), (g_qsides, .inl (cA 1, 8, .inl g_csides)), (g_qgrips, .inl (cA 1, 8, .inl g_cgrips)), (g_qwits, .inl (cA 1, 8, .inl g_cwits))]) [0, 1, 2, 3, 4, 5, 6] (by decide) rfl
        exact W.vret hx hb hr (fun t ht hW => ⟨⟨((fun _ => 0), (selI [(u_9.2.1 0), (u_9.2.1 1)]), (selF [(u_9.2.2.1 0), (u_9.2.2.1 1)]), (fun _ _ => 0)), rfl, trivial, by rw [ht]; exact hP9, hD9⟩, hS.F ht⟩) hS.2.2 dX5_tryMan_151
      · skip
        have b_11 := i32_bd r_3
        have k_10 := kk_eq rfl zi_0 c_4
        refine lv_iconst (v := 0) hx hb dX5_tryMan_31 (by decide) ?_
        refine lv_istore (lv' := [(5, .int 0), (0, .ref h0), (1, .int p0), (2, .int p1), (3, .int p2), (4, .int p3)]) hx hb dX5_tryMan_32 hl (by decide) rfl (fun ls hl => ?_)
        have b_241 := i32_bd pa_greatestSum
        have b_242 := i32_bd pa_fairest
        refine loopW (σ := Int32 × Int32 × Int32 × (Nat → Int32) × (Nat → Int32)) (fun _ => []) (fun ⟨L5_240, F1_240, F2_240, F3_240, F4_240⟩ H locs ls => (0 ≤ L5_240.toInt ∧ L5_240.toInt ≤ 8) ∧ va_P D vwCl [(h0, .inr (5, [.ref pa_qsettled, .int F1_240, .int F2_240, .ref pa_qtried, .int pa_mostPairs, .ref g])), (pa_qsettled, .inl (cA 1, 8, .inl F3_240)), (pa_qtried, .inl (cA 1, 8, .inl F4_240)), (g, .inr (3, [.int g_odds, .int g_pot, .int g_lines, .int g_men, .int g_clauses, .int g_winds, .int g_far0, .int g_far1, .ref g_qsides, .ref g_qgrips, .ref g_qwits, .ref g_qsays, .ref g_qgives0, .ref g_qgives1, .ref g_qfroms, .ref g_qtos])), (g_qsides, .inl (cA 1, 8, .inl g_csides)), (g_qgrips, .inl (cA 1, 8, .inl g_cgrips)), (g_qwits, .inl (cA 1, 8, .inl g_cwits))] H ∧ va_D A [(h0, .inr (5, [.ref pa_qsettled, .int F1_240, .int F2_240, .ref pa_qtried, .int pa_mostPairs, .ref g])), (pa_qsettled, .inl (cA 1, 8, .inl F3_240)), (pa_qtried, .inl (cA 1, 8, .inl F4_240)), (g, .inr (3, [.int g_odds, .int g_pot, .int g_lines, .int g_men, .int g_clauses, .int g_winds, .int g_far0, .int g_far1, .ref g_qsides, .ref g_qgrips, .ref g_qwits, .ref g_qsays, .ref g_qgives0, .ref g_qgives1, .ref g_qfroms, .ref g_qtos])), (g_qsides, .inl (cA 1, 8, .inl g_csides)), (g_qgrips, .inl (cA 1, 8, .inl g_cgrips)), (g_qwits, .inl (cA 1, 8, .inl g_cwits))] ∧ va_S A s.heap H locs ∧ lv_has ls 7 [(5, .int L5_240), (0, .ref h0), (1, .int p0), (2, .int p1), (3, .int p2), (4, .int p3)]) (fun ⟨L5_240, F1_240, F2_240, F3_240, F4_240⟩ => (2147483647 - L5_240.toInt).toNat) ?_ ((0, pa_greatestSum, pa_fairest, pa_csettled, pa_ctried) : Int32 × Int32 × Int32 × (Nat → Int32) × (Nat → Int32)) ⟨(by decide), hP, hD, hS, hl⟩
        intro x_240 H locs ls hI_240 ih_240
        obtain ⟨L5_240, F1_240, F2_240, F3_240, F4_240⟩ := x_240
        obtain ⟨k0_240, hP, hD, hS, hl⟩ := hI_240
        have hP : va_P D vwCl [(h0, .inr (5, [.ref pa_qsettled, .int F1_240, .int F2_240, .ref pa_qtried, .int pa_mostPairs, .ref g])), (pa_qsettled, .inl (cA 1, 8, .inl F3_240)), (pa_qtried, .inl (cA 1, 8, .inl F4_240)), (g, .inr (3, [.int g_odds, .int g_pot, .int g_lines, .int g_men, .int g_clauses, .int g_winds, .int g_far0, .int g_far1, .ref g_qsides, .ref g_qgrips, .ref g_qwits, .ref g_qsays, .ref g_qgives0, .ref g_qgives1, .ref g_qfroms, .ref g_qtos])), (g_qsides, .inl (cA 1, 8, .inl g_csides)), (g_qgrips, .inl (cA 1, 8, .inl g_cgrips)), (g_qwits, .inl (cA 1, 8, .inl g_cwits))] H := hP
        have hD : va_D A [(h0, .inr (5, [.ref pa_qsettled, .int F1_240, .int F2_240, .ref pa_qtried, .int pa_mostPairs, .ref g])), (pa_qsettled, .inl (cA 1, 8, .inl F3_240)), (pa_qtried, .inl (cA 1, 8, .inl F4_240)), (g, .inr (3, [.int g_odds, .int g_pot, .int g_lines, .int g_men, .int g_clauses, .int g_winds, .int g_far0, .int g_far1, .ref g_qsides, .ref g_qgrips, .ref g_qwits, .ref g_qsays, .ref g_qgives0, .ref g_qgives1, .ref g_qfroms, .ref g_qtos])), (g_qsides, .inl (cA 1, 8, .inl g_csides)), (g_qgrips, .inl (cA 1, 8, .inl g_cgrips)), (g_qwits, .inl (cA 1, 8, .inl g_cwits))] := hD
        have hl : lv_has ls 7 [(5, .int L5_240), (0, .ref h0), (1, .int p0), (2, .int p1), (3, .int p2), (4, .int p3)] := hl
        refine lv_iload hx hb dX5_tryMan_34 (lv_at hl 0 rfl) ?_
        refine lv_aload_n hx hb dX5_tryMan_36 rfl (lv_at hl 1 rfl) ?_
        refine va_get (D := D) (ci := 5) (v := .ref g) (C := RX5) (T := TX5) (N := 6) hx hb hts inX5 hown hKN.1 hP 0 rfl rfl 5 (by decide) (hts _ tw_384) (fun _ h9 => h9) rfl dX5_tryMan_37 ?_
        refine va_get (D := D) (ci := 3) (v := .int g_men) (C := RX3) (T := TX3) (N := 16) hx hb hts inX3 hown hKN.1 hP 3 rfl rfl 3 (by decide) (hts _ tw_168) (fun _ h9 => h9) rfl dX5_tryMan_40 ?_
        refine lv_icmp_ge (tgt := 140) hx hb dX5_tryMan_43 (by decide) (fun c_243 => ?_) (fun c_243 => ?_)
        · skip
          have k_244 := kk_le rfl rfl c_243
          refine lv_aload_n hx hb dX5_tryMan_140 rfl (lv_at hl 1 rfl) ?_
          refine lv_iload_n hx hb dX5_tryMan_141 rfl (lv_at hl 2 rfl) ?_
          refine lv_iconst (v := 1) hx hb dX5_tryMan_142 (by decide) ?_
          refine lv_iadd hx hb dX5_tryMan_143 ?_
          refine lv_topi (fun x_245 ex_245 => ?_)
          have k_246 := ar_add rfl zi_1 ex_245 (by omega) (by omega)
          refine lv_iload_n hx hb dX5_tryMan_144 rfl (lv_at hl 3 rfl) ?_
          refine lv_iload_n hx hb dX5_tryMan_145 rfl (lv_at hl 4 rfl) ?_
          refine lv_iload hx hb dX5_tryMan_146 (lv_at hl 5 rfl) ?_
          refine cmVv (rest := []) (wsC := [(h0, .inr (5, [.ref pa_qsettled, .int F1_240, .int F2_240, .ref pa_qtried, .int pa_mostPairs, .ref g])), (pa_qsettled, .inl (cA 1, 8, .inl F3_240)), (pa_qtried, .inl (cA 1, 8, .inl F4_240)), (g, .inr (3, [.int g_odds, .int g_pot, .int g_lines, .int g_men, .int g_clauses, .int g_winds, .int g_far0, .int g_far1, .ref g_qsides, .ref g_qgrips, .ref g_qwits, .ref g_qsays, .ref g_qgives0, .ref g_qgives1, .ref g_qfroms, .ref g_qtos])), (g_qsides, .inl (cA 1, 8, .inl g_csides)), (g_qgrips, .inl (cA 1, 8, .inl g_cgrips)), (g_qwits, .inl (cA 1, 8, .inl g_cwits))]) (wr := []) ⟨hx, hb, hml, hown, hts⟩ hKN hP hD hS hA [0, 1, 2, 3, 4, 5, 6] [] rfl rfl (by decide) (by decide) (by decide) (g_X5_tryMan_1 l D cA _ h0 pa_qsettled F1_240 F2_240 pa_qtried pa_mostPairs g F3_240 F4_240 g_odds g_pot g_lines g_men g_clauses g_winds g_far0 g_far1 g_qsides g_qgrips g_qwits g_qsays g_qgives0 g_qgives1 g_qfroms g_qtos g_csides g_cgrips g_cwits x_245 p1 p2 p3 (by omega) (by omega) (by omega) (by omega) (by omega) (by omega) (by omega) (by omega)) (tb_V tw_884 tw_886 tw_13 tw_110 tw_887) hdX5_tryMan ⟨rfl, rfl, Nat.le_of_ble_eq_true rfl, Nat.le_of_ble_eq_true rfl⟩ ⟨Nat.le_of_ble_eq_true rfl, Nat.le_of_ble_eq_true rfl⟩ rfl rfl rfl hl.1 rfl (Nat.le_of_ble_eq_true rfl) dX5_tryMan_148 (fun u_247 H locs hr_247 hP hD hS => ?_)
          have hP : va_P D vwCl [(h0, .inr (5, [.ref pa_qsettled, .int (u_247.2.1 0), .int (u_247.2.1 1), .ref pa_qtried, .int pa_mostPairs, .ref g])), (pa_qsettled, .inl (cA 1, 8, .inl (u_247.2.2.1 0))), (pa_qtried, .inl (cA 1, 8, .inl (u_247.2.2.1 1))), (g, .inr (3, [.int g_odds, .int g_pot, .int g_lines, .int g_men, .int g_clauses, .int g_winds, .int g_far0, .int g_far1, .ref g_qsides, .ref g_qgrips, .ref g_qwits, .ref g_qsays, .ref g_qgives0, .ref g_qgives1, .ref g_qfroms, .ref g_qtos])), (g_qsides, .inl (cA 1, 8, .inl g_csides)), (g_qgrips, .inl (cA 1, 8, .inl g_cgrips)), (g_qwits, .inl (cA 1, 8, .inl g_cwits))] H := hP
          have hD : va_D A [(h0, .inr (5, [.ref pa_qsettled, .int (u_247.2.1 0), .int (u_247.2.1 1), .ref pa_qtried, .int pa_mostPairs, .ref g])), (pa_qsettled, .inl (cA 1, 8, .inl (u_247.2.2.1 0))), (pa_qtried, .inl (cA 1, 8, .inl (u_247.2.2.1 1))), (g, .inr (3, [.int g_odds, .int g_pot, .int g_lines, .int g_men, .int g_clauses, .int g_winds, .int g_far0, .int g_far1, .ref g_qsides, .ref g_qgrips, .ref g_qwits, .ref g_qsays, .ref g_qgives0, .ref g_qgives1, .ref g_qfroms, .ref g_qtos])), (g_qsides, .inl (cA 1, 8, .inl g_csides)), (g_qgrips, .inl (cA 1, 8, .inl g_cgrips)), (g_qwits, .inl (cA 1, 8, .inl g_cwits))] := hD
          have hP9 := hP.sub (ws' := [(h0, .inr (5, [.ref pa_qsettled, .int (u_247.2.1 0), .int (u_247.2.1 1), .ref pa_qtried, .int pa_mostPairs, .ref g])), (pa_qsettled, .inl (cA 1, 8, .inl (u_247.2.2.1 0))), (pa_qtried, .inl (cA 1, 8, .inl (u_247.2.2.1 1))), (g, .inr (3, [.int g_odds, .int g_pot, .int g_lines, .int g_men, .int g_clauses, .int g_winds, .int g_far0, .int g_far1, .ref g_qsides, .ref g_qgrips, .ref g_qwits, .ref g_qsays, .ref g_qgives0, .ref g_qgives1, .ref g_qfroms, .ref g_qtos])), (g_qsides, .inl (cA 1, 8, .inl g_csides)), (g_qgrips, .inl (cA 1, 8, .inl g_cgrips)), (g_qwits, .inl (cA 1, 8, .inl g_cwits))]) [0, 1, 2, 3, 4, 5, 6] rfl
          have hD9 := hD.sub (ws' := [(h0, .inr (5, [.ref pa_qsettled, .int (u_247.2.1 0), .int (u_247.2.1 1), .ref pa_qtried, .int pa_mostPairs, .ref g])), (pa_qsettled, .inl (cA 1, 8, .inl (u_247.2.2.1 0))), (pa_qtried, .inl (cA 1, 8, .inl (u_247.2.2.1 1))), (g, .inr (3, [.int g_odds, .int g_pot, .int g_lines, .int g_men, .int g_clauses, .int g_winds, .int g_far0, .int g_far1, .ref g_qsides, .ref g_qgrips, .ref g_qwits, .ref g_qsays, .ref g_qgives0, .ref g_qgives1, .ref g_qfroms, .ref g_qtos])), (g_qsides, .inl (cA 1, 8, .inl g_csides)), (g_qgrips, .inl (cA 1, 8, .inl g_cgrips)), (g_qwits, .inl (cA 1, 8, .inl g_cwits))]) [0, 1, 2, 3, 4, 5, 6] (by decide) rfl
          exact W.vret hx hb hr (fun t ht hW => ⟨⟨((fun _ => 0), (selI [(u_247.2.1 0), (u_247.2.1 1)]), (selF [(u_247.2.2.1 0), (u_247.2.2.1 1)]), (fun _ _ => 0)), rfl, trivial, by rw [ht]; exact hP9, hD9⟩, hS.F ht⟩) hS.2.2 dX5_tryMan_151
        · skip
          have k_248 := kk_nle rfl rfl c_243
          refine lv_aload_n hx hb dX5_tryMan_46 rfl (lv_at hl 1 rfl) ?_
          refine va_get (D := D) (ci := 5) (v := .ref g) (C := RX5) (T := TX5) (N := 6) hx hb hts inX5 hown hKN.1 hP 0 rfl rfl 5 (by decide) (hts _ tw_384) (fun _ h9 => h9) rfl dX5_tryMan_47 ?_
          refine lv_iload hx hb dX5_tryMan_50 (lv_at hl 0 rfl) ?_
          refine cpVi (rest := []) ⟨hx, hb, hml, hown, hts⟩ hKN (hP.sub (ws' := [(g, .inr (3, [.int g_odds, .int g_pot, .int g_lines, .int g_men, .int g_clauses, .int g_winds, .int g_far0, .int g_far1, .ref g_qsides, .ref g_qgrips, .ref g_qwits, .ref g_qsays, .ref g_qgives0, .ref g_qgives1, .ref g_qfroms, .ref g_qtos])), (g_qsides, .inl (cA 1, 8, .inl g_csides))]) [3, 4] rfl) (g_X3_sideOf l D cA g g_odds g_pot g_lines g_men g_clauses g_winds g_far0 g_far1 g_qsides g_qgrips g_qwits g_qsays g_qgives0 g_qgives1 g_qfroms g_qtos g_csides L5_240 (by omega) (by omega) (by omega) (by omega) (by omega) (by omega) (by omega)) (tb_V tw_882 tw_703 tw_704 tw_104 tw_705) hdX3_sideOf ⟨rfl, rfl, Nat.le_of_ble_eq_true rfl, Nat.le_of_ble_eq_true rfl⟩ ⟨Nat.le_of_ble_eq_true rfl, Nat.le_of_ble_eq_true rfl⟩ rfl rfl rfl hl.1 rfl (Nat.le_of_ble_eq_true rfl) dX5_tryMan_52 (fun r_249 hr_249 => ?_)
          rcases hr_249 with ⟨k_249_0_0, k_249_0_1⟩ | rfl
          · skip
            refine lv_iconst (v := 1) hx hb dX5_tryMan_55 (by decide) ?_
            refine lv_icmp_ne (tgt := 134) hx hb dX5_tryMan_56 (by decide) (fun c_250 => ?_) (fun c_250 => ?_)
            · skip
              have b_252 := i32_bd r_249
              have k_251 := kk_ne rfl zi_1 c_250
              obtain ⟨x_253, ex_253⟩ : ∃ y : Int32, L5_240 + Int32.ofInt 1 = y := ⟨_, rfl⟩
              have k_254 := ar_add (b := 1) rfl zi_1 ex_253.symm (by omega) (by omega)
              refine lv_iinc (v := x_253) (lv' := [(5, .int x_253), (0, .ref h0), (1, .int p0), (2, .int p1), (3, .int p2), (4, .int p3)]) hx hb dX5_tryMan_134 hl (k := 0) rfl ex_253 (by decide) rfl (fun ls hl => ?_)
              refine lv_goto (tgt := 34) hx hb dX5_tryMan_137 (by decide) ?_
              exact ih_240 (x_253, F1_240, F2_240, F3_240, F4_240) _ _ _ ⟨(show 0 ≤ x_253.toInt ∧ x_253.toInt ≤ 8 from by omega), hP.sub [0, 1, 2, 3, 4, 5, 6] rfl, hD.sub [0, 1, 2, 3, 4, 5, 6] (by decide) rfl, hS, lv_sub hl [0, 1, 2, 3, 4, 5] rfl⟩ (by show (2147483647 - x_253.toInt).toNat < (2147483647 - L5_240.toInt).toNat; omega)
            · skip
              have b_256 := i32_bd r_249
              have k_255 := kk_eq rfl zi_1 c_250
              refine lv_aload_n hx hb dX5_tryMan_59 rfl (lv_at hl 1 rfl) ?_
              refine va_get (D := D) (ci := 5) (v := .ref pa_qtried) (C := RX5) (T := TX5) (N := 6) hx hb hts inX5 hown hKN.1 hP 0 rfl rfl 3 (by decide) (hts _ tw_382) (fun _ h9 => h9) rfl dX5_tryMan_60 ?_
              refine lv_iload hx hb dX5_tryMan_63 (lv_at hl 0 rfl) ?_
              refine va_iald hx hb hKN.1 hP 2 1 rfl rfl (vp_in_iff.mpr ⟨by omega, by omega⟩) dX5_tryMan_65 ?_
              refine lv_topi (fun x_257 ex_257 => ?_)
              refine lv_iconst (v := (-1)) hx hb dX5_tryMan_66 (by decide) ?_
              refine lv_icmp_ne (tgt := 134) hx hb dX5_tryMan_67 (by decide) (fun c_258 => ?_) (fun c_258 => ?_)
              · skip
                have b_260 := i32_bd x_257
                have k_259 := kk_ne rfl zi_m1 c_258
                obtain ⟨x_261, ex_261⟩ : ∃ y : Int32, L5_240 + Int32.ofInt 1 = y := ⟨_, rfl⟩
                have k_262 := ar_add (b := 1) rfl zi_1 ex_261.symm (by omega) (by omega)
                refine lv_iinc (v := x_261) (lv' := [(5, .int x_261), (0, .ref h0), (1, .int p0), (2, .int p1), (3, .int p2), (4, .int p3)]) hx hb dX5_tryMan_134 hl (k := 0) rfl ex_261 (by decide) rfl (fun ls hl => ?_)
                refine lv_goto (tgt := 34) hx hb dX5_tryMan_137 (by decide) ?_
                exact ih_240 (x_261, F1_240, F2_240, F3_240, F4_240) _ _ _ ⟨(show 0 ≤ x_261.toInt ∧ x_261.toInt ≤ 8 from by omega), hP.sub [0, 1, 2, 3, 4, 5, 6] rfl, hD.sub [0, 1, 2, 3, 4, 5, 6] (by decide) rfl, hS, lv_sub hl [0, 1, 2, 3, 4, 5] rfl⟩ (by show (2147483647 - x_261.toInt).toNat < (2147483647 - L5_240.toInt).toNat; omega)
              · skip
                have b_264 := i32_bd x_257
                have k_263 := kk_eq rfl zi_m1 c_258
                refine lv_aload_n hx hb dX5_tryMan_70 rfl (lv_at hl 1 rfl) ?_
                refine va_get (D := D) (ci := 5) (v := .ref g) (C := RX5) (T := TX5) (N := 6) hx hb hts inX5 hown hKN.1 hP 0 rfl rfl 5 (by decide) (hts _ tw_384) (fun _ h9 => h9) rfl dX5_tryMan_71 ?_
                refine lv_iload_n hx hb dX5_tryMan_74 rfl (lv_at hl 2 rfl) ?_
                refine lv_iload hx hb dX5_tryMan_75 (lv_at hl 0 rfl) ?_
                refine cpVi (rest := []) ⟨hx, hb, hml, hown, hts⟩ hKN (hP.sub (ws' := [(g, .inr (3, [.int g_odds, .int g_pot, .int g_lines, .int g_men, .int g_clauses, .int g_winds, .int g_far0, .int g_far1, .ref g_qsides, .ref g_qgrips, .ref g_qwits, .ref g_qsays, .ref g_qgives0, .ref g_qgives1, .ref g_qfroms, .ref g_qtos])), (g_qsides, .inl (cA 1, 8, .inl g_csides)), (g_qgrips, .inl (cA 1, 8, .inl g_cgrips)), (g_qwits, .inl (cA 1, 8, .inl g_cwits))]) [3, 4, 5, 6] rfl) (g_X3_holdOrRefusal l D cA g g_odds g_pot g_lines g_men g_clauses g_winds g_far0 g_far1 g_qsides g_qgrips g_qwits g_qsays g_qgives0 g_qgives1 g_qfroms g_qtos g_csides g_cgrips g_cwits p0 L5_240 (by omega) (by omega) (by omega) (by omega) (by omega) (by omega) (by omega)) (tb_V tw_895 tw_844 tw_845 tw_104 tw_846) hdX3_holdOrRefusal ⟨rfl, rfl, Nat.le_of_ble_eq_true rfl, Nat.le_of_ble_eq_true rfl⟩ ⟨Nat.le_of_ble_eq_true rfl, Nat.le_of_ble_eq_true rfl⟩ rfl rfl rfl hl.1 rfl (Nat.le_of_ble_eq_true rfl) dX5_tryMan_77 (fun r_265 hr_265 => ?_)
                refine lv_istore (lv' := [(6, .int r_265), (5, .int L5_240), (0, .ref h0), (1, .int p0), (2, .int p1), (3, .int p2), (4, .int p3)]) hx hb dX5_tryMan_80 hl (by decide) rfl (fun ls hl => ?_)
                refine lv_aload_n hx hb dX5_tryMan_82 rfl (lv_at hl 2 rfl) ?_
                refine va_get (D := D) (ci := 5) (v := .ref pa_qtried) (C := RX5) (T := TX5) (N := 6) hx hb hts inX5 hown hKN.1 hP 0 rfl rfl 3 (by decide) (hts _ tw_382) (fun _ h9 => h9) rfl dX5_tryMan_83 ?_
                refine lv_iload_n hx hb dX5_tryMan_86 rfl (lv_at hl 3 rfl) ?_
                refine lv_iload hx hb dX5_tryMan_87 (lv_at hl 1 rfl) ?_
                refine va_iast hx hb hKN.1 hP hD hS 2 1 rfl rfl (vp_in_iff.mpr ⟨by omega, by omega⟩) dX5_tryMan_89 (fun H locs hP hD hS => ?_)
                have hP : va_P D vwCl [(h0, .inr (5, [.ref pa_qsettled, .int F1_240, .int F2_240, .ref pa_qtried, .int pa_mostPairs, .ref g])), (pa_qsettled, .inl (cA 1, 8, .inl F3_240)), (pa_qtried, .inl (cA 1, 8, .inl (upd F4_240 p0.toNatClampNeg L5_240))), (g, .inr (3, [.int g_odds, .int g_pot, .int g_lines, .int g_men, .int g_clauses, .int g_winds, .int g_far0, .int g_far1, .ref g_qsides, .ref g_qgrips, .ref g_qwits, .ref g_qsays, .ref g_qgives0, .ref g_qgives1, .ref g_qfroms, .ref g_qtos])), (g_qsides, .inl (cA 1, 8, .inl g_csides)), (g_qgrips, .inl (cA 1, 8, .inl g_cgrips)), (g_qwits, .inl (cA 1, 8, .inl g_cwits))] H := hP
                have hD : va_D A [(h0, .inr (5, [.ref pa_qsettled, .int F1_240, .int F2_240, .ref pa_qtried, .int pa_mostPairs, .ref g])), (pa_qsettled, .inl (cA 1, 8, .inl F3_240)), (pa_qtried, .inl (cA 1, 8, .inl (upd F4_240 p0.toNatClampNeg L5_240))), (g, .inr (3, [.int g_odds, .int g_pot, .int g_lines, .int g_men, .int g_clauses, .int g_winds, .int g_far0, .int g_far1, .ref g_qsides, .ref g_qgrips, .ref g_qwits, .ref g_qsays, .ref g_qgives0, .ref g_qgives1, .ref g_qfroms, .ref g_qtos])), (g_qsides, .inl (cA 1, 8, .inl g_csides)), (g_qgrips, .inl (cA 1, 8, .inl g_cgrips)), (g_qwits, .inl (cA 1, 8, .inl g_cwits))] := hD
                generalize ef_266 : (upd F4_240 p0.toNatClampNeg L5_240) = f_266 at hP hD
                refine lv_aload_n hx hb dX5_tryMan_90 rfl (lv_at hl 2 rfl) ?_
                refine va_get (D := D) (ci := 5) (v := .ref pa_qtried) (C := RX5) (T := TX5) (N := 6) hx hb hts inX5 hown hKN.1 hP 0 rfl rfl 3 (by decide) (hts _ tw_382) (fun _ h9 => h9) rfl dX5_tryMan_91 ?_
                refine lv_iload hx hb dX5_tryMan_94 (lv_at hl 1 rfl) ?_
                refine lv_iload_n hx hb dX5_tryMan_96 rfl (lv_at hl 3 rfl) ?_
                refine va_iast hx hb hKN.1 hP hD hS 2 1 rfl rfl (vp_in_iff.mpr ⟨by omega, by omega⟩) dX5_tryMan_97 (fun H locs hP hD hS => ?_)
                have hP : va_P D vwCl [(h0, .inr (5, [.ref pa_qsettled, .int F1_240, .int F2_240, .ref pa_qtried, .int pa_mostPairs, .ref g])), (pa_qsettled, .inl (cA 1, 8, .inl F3_240)), (pa_qtried, .inl (cA 1, 8, .inl (upd f_266 L5_240.toNatClampNeg p0))), (g, .inr (3, [.int g_odds, .int g_pot, .int g_lines, .int g_men, .int g_clauses, .int g_winds, .int g_far0, .int g_far1, .ref g_qsides, .ref g_qgrips, .ref g_qwits, .ref g_qsays, .ref g_qgives0, .ref g_qgives1, .ref g_qfroms, .ref g_qtos])), (g_qsides, .inl (cA 1, 8, .inl g_csides)), (g_qgrips, .inl (cA 1, 8, .inl g_cgrips)), (g_qwits, .inl (cA 1, 8, .inl g_cwits))] H := hP
                have hD : va_D A [(h0, .inr (5, [.ref pa_qsettled, .int F1_240, .int F2_240, .ref pa_qtried, .int pa_mostPairs, .ref g])), (pa_qsettled, .inl (cA 1, 8, .inl F3_240)), (pa_qtried, .inl (cA 1, 8, .inl (upd f_266 L5_240.toNatClampNeg p0))), (g, .inr (3, [.int g_odds, .int g_pot, .int g_lines, .int g_men, .int g_clauses, .int g_winds, .int g_far0, .int g_far1, .ref g_qsides, .ref g_qgrips, .ref g_qwits, .ref g_qsays, .ref g_qgives0, .ref g_qgives1, .ref g_qfroms, .ref g_qtos])), (g_qsides, .inl (cA 1, 8, .inl g_csides)), (g_qgrips, .inl (cA 1, 8, .inl g_cgrips)), (g_qwits, .inl (cA 1, 8, .inl g_cwits))] := hD
                generalize ef_267 : (upd f_266 L5_240.toNatClampNeg p0) = f_267 at hP hD
                refine lv_aload_n hx hb dX5_tryMan_98 rfl (lv_at hl 2 rfl) ?_
                refine lv_iload_n hx hb dX5_tryMan_99 rfl (lv_at hl 3 rfl) ?_
                refine lv_iconst (v := 1) hx hb dX5_tryMan_100 (by decide) ?_
                refine lv_iadd hx hb dX5_tryMan_101 ?_
                refine lv_topi (fun x_268 ex_268 => ?_)
                have k_269 := ar_add rfl zi_1 ex_268 (by omega) (by omega)
                refine lv_iload_n hx hb dX5_tryMan_102 rfl (lv_at hl 4 rfl) ?_
                refine lv_iconst (v := 1) hx hb dX5_tryMan_103 (by decide) ?_
                refine lv_iadd hx hb dX5_tryMan_104 ?_
                refine lv_topi (fun x_270 ex_270 => ?_)
                refine lv_iload_n hx hb dX5_tryMan_105 rfl (lv_at hl 5 rfl) ?_
                refine lv_iload hx hb dX5_tryMan_106 (lv_at hl 0 rfl) ?_
                refine lv_iadd hx hb dX5_tryMan_108 ?_
                refine lv_topi (fun x_272 ex_272 => ?_)
                refine lv_iload hx hb dX5_tryMan_109 (lv_at hl 6 rfl) ?_
                refine lv_iload hx hb dX5_tryMan_111 (lv_at hl 0 rfl) ?_
                refine cpSi (rest := [.int x_272, .int x_270, .int x_268, .ref h0]) ⟨hx, hb, hml, hown, hts⟩ hKN (hP.sub (ws' := []) [] rfl) (g_J9_min_7cf53 l D cA p3 r_265) (tb_S tw_883 tw_555 tw_115 tw_556) hdJ9_min_7cf53 ⟨rfl, rfl, Nat.le_of_ble_eq_true rfl, Nat.le_of_ble_eq_true rfl⟩ ⟨Nat.le_of_ble_eq_true rfl, Nat.le_of_ble_eq_true rfl⟩ rfl hl.1 rfl (Nat.le_of_ble_eq_true rfl) dX5_tryMan_113 (fun r_274 hr_274 => ?_)
                obtain ⟨k_274_0_0, k_274_0_1, k_274_0_2⟩ := hr_274
                refine cmVv (rest := []) (wsC := [(h0, .inr (5, [.ref pa_qsettled, .int F1_240, .int F2_240, .ref pa_qtried, .int pa_mostPairs, .ref g])), (pa_qsettled, .inl (cA 1, 8, .inl F3_240)), (pa_qtried, .inl (cA 1, 8, .inl f_267)), (g, .inr (3, [.int g_odds, .int g_pot, .int g_lines, .int g_men, .int g_clauses, .int g_winds, .int g_far0, .int g_far1, .ref g_qsides, .ref g_qgrips, .ref g_qwits, .ref g_qsays, .ref g_qgives0, .ref g_qgives1, .ref g_qfroms, .ref g_qtos])), (g_qsides, .inl (cA 1, 8, .inl g_csides)), (g_qgrips, .inl (cA 1, 8, .inl g_cgrips)), (g_qwits, .inl (cA 1, 8, .inl g_cwits))]) (wr := []) ⟨hx, hb, hml, hown, hts⟩ hKN hP hD hS hA [0, 1, 2, 3, 4, 5, 6] [] rfl rfl (by decide) (by decide) (by decide) (g_X5_tryMan_1 l D cA _ h0 pa_qsettled F1_240 F2_240 pa_qtried pa_mostPairs g F3_240 f_267 g_odds g_pot g_lines g_men g_clauses g_winds g_far0 g_far1 g_qsides g_qgrips g_qwits g_qsays g_qgives0 g_qgives1 g_qfroms g_qtos g_csides g_cgrips g_cwits x_268 x_270 x_272 r_274 (by omega) (by omega) (by omega) (by omega) (by omega) (by omega) (by omega) (by omega)) (tb_V tw_884 tw_886 tw_13 tw_110 tw_887) hdX5_tryMan ⟨rfl, rfl, Nat.le_of_ble_eq_true rfl, Nat.le_of_ble_eq_true rfl⟩ ⟨Nat.le_of_ble_eq_true rfl, Nat.le_of_ble_eq_true rfl⟩ rfl rfl rfl hl.1 rfl (Nat.le_of_ble_eq_true rfl) dX5_tryMan_116 (fun u_275 H locs hr_275 hP hD hS => ?_)
                have hP : va_P D vwCl [(h0, .inr (5, [.ref pa_qsettled, .int (u_275.2.1 0), .int (u_275.2.1 1), .ref pa_qtried, .int pa_mostPairs, .ref g])), (pa_qsettled, .inl (cA 1, 8, .inl (u_275.2.2.1 0))), (pa_qtried, .inl (cA 1, 8, .inl (u_275.2.2.1 1))), (g, .inr (3, [.int g_odds, .int g_pot, .int g_lines, .int g_men, .int g_clauses, .int g_winds, .int g_far0, .int g_far1, .ref g_qsides, .ref g_qgrips, .ref g_qwits, .ref g_qsays, .ref g_qgives0, .ref g_qgives1, .ref g_qfroms, .ref g_qtos])), (g_qsides, .inl (cA 1, 8, .inl g_csides)), (g_qgrips, .inl (cA 1, 8, .inl g_cgrips)), (g_qwits, .inl (cA 1, 8, .inl g_cwits))] H := hP
                have hD : va_D A [(h0, .inr (5, [.ref pa_qsettled, .int (u_275.2.1 0), .int (u_275.2.1 1), .ref pa_qtried, .int pa_mostPairs, .ref g])), (pa_qsettled, .inl (cA 1, 8, .inl (u_275.2.2.1 0))), (pa_qtried, .inl (cA 1, 8, .inl (u_275.2.2.1 1))), (g, .inr (3, [.int g_odds, .int g_pot, .int g_lines, .int g_men, .int g_clauses, .int g_winds, .int g_far0, .int g_far1, .ref g_qsides, .ref g_qgrips, .ref g_qwits, .ref g_qsays, .ref g_qgives0, .ref g_qgives1, .ref g_qfroms, .ref g_qtos])), (g_qsides, .inl (cA 1, 8, .inl g_csides)), (g_qgrips, .inl (cA 1, 8, .inl g_cgrips)), (g_qwits, .inl (cA 1, 8, .inl g_cwits))] := hD
                refine lv_aload_n hx hb dX5_tryMan_119 rfl (lv_at hl 2 rfl) ?_
                refine va_get (D := D) (ci := 5) (v := .ref pa_qtried) (C := RX5) (T := TX5) (N := 6) hx hb hts inX5 hown hKN.1 hP 0 rfl rfl 3 (by decide) (hts _ tw_382) (fun _ h9 => h9) rfl dX5_tryMan_120 ?_
                refine lv_iload_n hx hb dX5_tryMan_123 rfl (lv_at hl 3 rfl) ?_
                refine lv_iconst (v := (-1)) hx hb dX5_tryMan_124 (by decide) ?_
                refine va_iast hx hb hKN.1 hP hD hS 2 1 rfl rfl (vp_in_iff.mpr ⟨by omega, by omega⟩) dX5_tryMan_125 (fun H locs hP hD hS => ?_)
                have hP : va_P D vwCl [(h0, .inr (5, [.ref pa_qsettled, .int (u_275.2.1 0), .int (u_275.2.1 1), .ref pa_qtried, .int pa_mostPairs, .ref g])), (pa_qsettled, .inl (cA 1, 8, .inl (u_275.2.2.1 0))), (pa_qtried, .inl (cA 1, 8, .inl (upd (u_275.2.2.1 1) p0.toNatClampNeg (-1)))), (g, .inr (3, [.int g_odds, .int g_pot, .int g_lines, .int g_men, .int g_clauses, .int g_winds, .int g_far0, .int g_far1, .ref g_qsides, .ref g_qgrips, .ref g_qwits, .ref g_qsays, .ref g_qgives0, .ref g_qgives1, .ref g_qfroms, .ref g_qtos])), (g_qsides, .inl (cA 1, 8, .inl g_csides)), (g_qgrips, .inl (cA 1, 8, .inl g_cgrips)), (g_qwits, .inl (cA 1, 8, .inl g_cwits))] H := hP
                have hD : va_D A [(h0, .inr (5, [.ref pa_qsettled, .int (u_275.2.1 0), .int (u_275.2.1 1), .ref pa_qtried, .int pa_mostPairs, .ref g])), (pa_qsettled, .inl (cA 1, 8, .inl (u_275.2.2.1 0))), (pa_qtried, .inl (cA 1, 8, .inl (upd (u_275.2.2.1 1) p0.toNatClampNeg (-1)))), (g, .inr (3, [.int g_odds, .int g_pot, .int g_lines, .int g_men, .int g_clauses, .int g_winds, .int g_far0, .int g_far1, .ref g_qsides, .ref g_qgrips, .ref g_qwits, .ref g_qsays, .ref g_qgives0, .ref g_qgives1, .ref g_qfroms, .ref g_qtos])), (g_qsides, .inl (cA 1, 8, .inl g_csides)), (g_qgrips, .inl (cA 1, 8, .inl g_cgrips)), (g_qwits, .inl (cA 1, 8, .inl g_cwits))] := hD
                generalize ef_276 : (upd (u_275.2.2.1 1) p0.toNatClampNeg (-1)) = f_276 at hP hD
                refine lv_aload_n hx hb dX5_tryMan_126 rfl (lv_at hl 2 rfl) ?_
                refine va_get (D := D) (ci := 5) (v := .ref pa_qtried) (C := RX5) (T := TX5) (N := 6) hx hb hts inX5 hown hKN.1 hP 0 rfl rfl 3 (by decide) (hts _ tw_382) (fun _ h9 => h9) rfl dX5_tryMan_127 ?_
                refine lv_iload hx hb dX5_tryMan_130 (lv_at hl 1 rfl) ?_
                refine lv_iconst (v := (-1)) hx hb dX5_tryMan_132 (by decide) ?_
                refine va_iast hx hb hKN.1 hP hD hS 2 1 rfl rfl (vp_in_iff.mpr ⟨by omega, by omega⟩) dX5_tryMan_133 (fun H locs hP hD hS => ?_)
                have hP : va_P D vwCl [(h0, .inr (5, [.ref pa_qsettled, .int (u_275.2.1 0), .int (u_275.2.1 1), .ref pa_qtried, .int pa_mostPairs, .ref g])), (pa_qsettled, .inl (cA 1, 8, .inl (u_275.2.2.1 0))), (pa_qtried, .inl (cA 1, 8, .inl (upd f_276 L5_240.toNatClampNeg (-1)))), (g, .inr (3, [.int g_odds, .int g_pot, .int g_lines, .int g_men, .int g_clauses, .int g_winds, .int g_far0, .int g_far1, .ref g_qsides, .ref g_qgrips, .ref g_qwits, .ref g_qsays, .ref g_qgives0, .ref g_qgives1, .ref g_qfroms, .ref g_qtos])), (g_qsides, .inl (cA 1, 8, .inl g_csides)), (g_qgrips, .inl (cA 1, 8, .inl g_cgrips)), (g_qwits, .inl (cA 1, 8, .inl g_cwits))] H := hP
                have hD : va_D A [(h0, .inr (5, [.ref pa_qsettled, .int (u_275.2.1 0), .int (u_275.2.1 1), .ref pa_qtried, .int pa_mostPairs, .ref g])), (pa_qsettled, .inl (cA 1, 8, .inl (u_275.2.2.1 0))), (pa_qtried, .inl (cA 1, 8, .inl (upd f_276 L5_240.toNatClampNeg (-1)))), (g, .inr (3, [.int g_odds, .int g_pot, .int g_lines, .int g_men, .int g_clauses, .int g_winds, .int g_far0, .int g_far1, .ref g_qsides, .ref g_qgrips, .ref g_qwits, .ref g_qsays, .ref g_qgives0, .ref g_qgives1, .ref g_qfroms, .ref g_qtos])), (g_qsides, .inl (cA 1, 8, .inl g_csides)), (g_qgrips, .inl (cA 1, 8, .inl g_cgrips)), (g_qwits, .inl (cA 1, 8, .inl g_cwits))] := hD
                generalize ef_277 : (upd f_276 L5_240.toNatClampNeg (-1)) = f_277 at hP hD
                obtain ⟨x_278, ex_278⟩ : ∃ y : Int32, L5_240 + Int32.ofInt 1 = y := ⟨_, rfl⟩
                have k_279 := ar_add (b := 1) rfl zi_1 ex_278.symm (by omega) (by omega)
                refine lv_iinc (v := x_278) (lv' := [(5, .int x_278), (6, .int r_265), (0, .ref h0), (1, .int p0), (2, .int p1), (3, .int p2), (4, .int p3)]) hx hb dX5_tryMan_134 hl (k := 1) rfl ex_278 (by decide) rfl (fun ls hl => ?_)
                refine lv_goto (tgt := 34) hx hb dX5_tryMan_137 (by decide) ?_
                exact ih_240 (x_278, (u_275.2.1 0), (u_275.2.1 1), (u_275.2.2.1 0), f_277) _ _ _ ⟨(show 0 ≤ x_278.toInt ∧ x_278.toInt ≤ 8 from by omega), hP.sub [0, 1, 2, 3, 4, 5, 6] rfl, hD.sub [0, 1, 2, 3, 4, 5, 6] (by decide) rfl, hS, lv_sub hl [0, 2, 3, 4, 5, 6] rfl⟩ (by show (2147483647 - x_278.toInt).toNat < (2147483647 - L5_240.toInt).toNat; omega)
          · skip
            refine lv_iconst (v := 1) hx hb dX5_tryMan_55 (by decide) ?_
            refine lv_icmp_ne (tgt := 134) hx hb dX5_tryMan_56 (by decide) (fun c_280 => ?_) (fun c_280 => absurd c_280 (by decide))
            obtain ⟨x_281, ex_281⟩ : ∃ y : Int32, L5_240 + Int32.ofInt 1 = y := ⟨_, rfl⟩
            have k_282 := ar_add (b := 1) rfl zi_1 ex_281.symm (by omega) (by omega)
            refine lv_iinc (v := x_281) (lv' := [(5, .int x_281), (0, .ref h0), (1, .int p0), (2, .int p1), (3, .int p2), (4, .int p3)]) hx hb dX5_tryMan_134 hl (k := 0) rfl ex_281 (by decide) rfl (fun ls hl => ?_)
            refine lv_goto (tgt := 34) hx hb dX5_tryMan_137 (by decide) ?_
            exact ih_240 (x_281, F1_240, F2_240, F3_240, F4_240) _ _ _ ⟨(show 0 ≤ x_281.toInt ∧ x_281.toInt ≤ 8 from by omega), hP.sub [0, 1, 2, 3, 4, 5, 6] rfl, hD.sub [0, 1, 2, 3, 4, 5, 6] (by decide) rfl, hS, lv_sub hl [0, 1, 2, 3, 4, 5] rfl⟩ (by show (2147483647 - x_281.toInt).toNat < (2147483647 - L5_240.toInt).toNat; omega)
    · skip
      refine lv_if_ne (tgt := 140) hx hb dX5_tryMan_28 (by decide) (fun c_283 => ?_) (fun c_283 => absurd c_283 (by decide))
      refine lv_aload_n hx hb dX5_tryMan_140 rfl (lv_at hl 0 rfl) ?_
      refine lv_iload_n hx hb dX5_tryMan_141 rfl (lv_at hl 1 rfl) ?_
      refine lv_iconst (v := 1) hx hb dX5_tryMan_142 (by decide) ?_
      refine lv_iadd hx hb dX5_tryMan_143 ?_
      refine lv_topi (fun x_284 ex_284 => ?_)
      have k_285 := ar_add rfl zi_1 ex_284 (by omega) (by omega)
      refine lv_iload_n hx hb dX5_tryMan_144 rfl (lv_at hl 2 rfl) ?_
      refine lv_iload_n hx hb dX5_tryMan_145 rfl (lv_at hl 3 rfl) ?_
      refine lv_iload hx hb dX5_tryMan_146 (lv_at hl 4 rfl) ?_
      refine cmVv (rest := []) (wsC := [(h0, .inr (5, [.ref pa_qsettled, .int pa_greatestSum, .int pa_fairest, .ref pa_qtried, .int pa_mostPairs, .ref g])), (pa_qsettled, .inl (cA 1, 8, .inl pa_csettled)), (pa_qtried, .inl (cA 1, 8, .inl pa_ctried)), (g, .inr (3, [.int g_odds, .int g_pot, .int g_lines, .int g_men, .int g_clauses, .int g_winds, .int g_far0, .int g_far1, .ref g_qsides, .ref g_qgrips, .ref g_qwits, .ref g_qsays, .ref g_qgives0, .ref g_qgives1, .ref g_qfroms, .ref g_qtos])), (g_qsides, .inl (cA 1, 8, .inl g_csides)), (g_qgrips, .inl (cA 1, 8, .inl g_cgrips)), (g_qwits, .inl (cA 1, 8, .inl g_cwits))]) (wr := []) ⟨hx, hb, hml, hown, hts⟩ hKN hP hD hS hA [0, 1, 2, 3, 4, 5, 6] [] rfl rfl (by decide) (by decide) (by decide) (g_X5_tryMan_1 l D cA _ h0 pa_qsettled pa_greatestSum pa_fairest pa_qtried pa_mostPairs g pa_csettled pa_ctried g_odds g_pot g_lines g_men g_clauses g_winds g_far0 g_far1 g_qsides g_qgrips g_qwits g_qsays g_qgives0 g_qgives1 g_qfroms g_qtos g_csides g_cgrips g_cwits x_284 p1 p2 p3 (by omega) (by omega) (by omega) (by omega) (by omega) (by omega) (by omega) (by omega)) (tb_V tw_884 tw_886 tw_13 tw_110 tw_887) hdX5_tryMan ⟨rfl, rfl, Nat.le_of_ble_eq_true rfl, Nat.le_of_ble_eq_true rfl⟩ ⟨Nat.le_of_ble_eq_true rfl, Nat.le_of_ble_eq_true rfl⟩ rfl rfl rfl hl.1 rfl (Nat.le_of_ble_eq_true rfl) dX5_tryMan_148 (fun u_286 H locs hr_286 hP hD hS => ?_)
      have hP : va_P D vwCl [(h0, .inr (5, [.ref pa_qsettled, .int (u_286.2.1 0), .int (u_286.2.1 1), .ref pa_qtried, .int pa_mostPairs, .ref g])), (pa_qsettled, .inl (cA 1, 8, .inl (u_286.2.2.1 0))), (pa_qtried, .inl (cA 1, 8, .inl (u_286.2.2.1 1))), (g, .inr (3, [.int g_odds, .int g_pot, .int g_lines, .int g_men, .int g_clauses, .int g_winds, .int g_far0, .int g_far1, .ref g_qsides, .ref g_qgrips, .ref g_qwits, .ref g_qsays, .ref g_qgives0, .ref g_qgives1, .ref g_qfroms, .ref g_qtos])), (g_qsides, .inl (cA 1, 8, .inl g_csides)), (g_qgrips, .inl (cA 1, 8, .inl g_cgrips)), (g_qwits, .inl (cA 1, 8, .inl g_cwits))] H := hP
      have hD : va_D A [(h0, .inr (5, [.ref pa_qsettled, .int (u_286.2.1 0), .int (u_286.2.1 1), .ref pa_qtried, .int pa_mostPairs, .ref g])), (pa_qsettled, .inl (cA 1, 8, .inl (u_286.2.2.1 0))), (pa_qtried, .inl (cA 1, 8, .inl (u_286.2.2.1 1))), (g, .inr (3, [.int g_odds, .int g_pot, .int g_lines, .int g_men, .int g_clauses, .int g_winds, .int g_far0, .int g_far1, .ref g_qsides, .ref g_qgrips, .ref g_qwits, .ref g_qsays, .ref g_qgives0, .ref g_qgives1, .ref g_qfroms, .ref g_qtos])), (g_qsides, .inl (cA 1, 8, .inl g_csides)), (g_qgrips, .inl (cA 1, 8, .inl g_cgrips)), (g_qwits, .inl (cA 1, 8, .inl g_cwits))] := hD
      have hP9 := hP.sub (ws' := [(h0, .inr (5, [.ref pa_qsettled, .int (u_286.2.1 0), .int (u_286.2.1 1), .ref pa_qtried, .int pa_mostPairs, .ref g])), (pa_qsettled, .inl (cA 1, 8, .inl (u_286.2.2.1 0))), (pa_qtried, .inl (cA 1, 8, .inl (u_286.2.2.1 1))), (g, .inr (3, [.int g_odds, .int g_pot, .int g_lines, .int g_men, .int g_clauses, .int g_winds, .int g_far0, .int g_far1, .ref g_qsides, .ref g_qgrips, .ref g_qwits, .ref g_qsays, .ref g_qgives0, .ref g_qgives1, .ref g_qfroms, .ref g_qtos])), (g_qsides, .inl (cA 1, 8, .inl g_csides)), (g_qgrips, .inl (cA 1, 8, .inl g_cgrips)), (g_qwits, .inl (cA 1, 8, .inl g_cwits))]) [0, 1, 2, 3, 4, 5, 6] rfl
      have hD9 := hD.sub (ws' := [(h0, .inr (5, [.ref pa_qsettled, .int (u_286.2.1 0), .int (u_286.2.1 1), .ref pa_qtried, .int pa_mostPairs, .ref g])), (pa_qsettled, .inl (cA 1, 8, .inl (u_286.2.2.1 0))), (pa_qtried, .inl (cA 1, 8, .inl (u_286.2.2.1 1))), (g, .inr (3, [.int g_odds, .int g_pot, .int g_lines, .int g_men, .int g_clauses, .int g_winds, .int g_far0, .int g_far1, .ref g_qsides, .ref g_qgrips, .ref g_qwits, .ref g_qsays, .ref g_qgives0, .ref g_qgives1, .ref g_qfroms, .ref g_qtos])), (g_qsides, .inl (cA 1, 8, .inl g_csides)), (g_qgrips, .inl (cA 1, 8, .inl g_cgrips)), (g_qwits, .inl (cA 1, 8, .inl g_cwits))]) [0, 1, 2, 3, 4, 5, 6] (by decide) rfl
      exact W.vret hx hb hr (fun t ht hW => ⟨⟨((fun _ => 0), (selI [(u_286.2.1 0), (u_286.2.1 1)]), (selF [(u_286.2.2.1 0), (u_286.2.2.1 1)]), (fun _ _ => 0)), rfl, trivial, by rw [ht]; exact hP9, hD9⟩, hS.F ht⟩) hS.2.2 dX5_tryMan_151
  · skip
    refine lv_if_ne (tgt := 20) hx hb dX5_tryMan_8 (by decide) (fun c_287 => absurd (by decide) c_287) (fun c_287 => ?_)
    refine lv_aload_n hx hb dX5_tryMan_11 rfl (lv_at hl 0 rfl) ?_
    refine lv_iload_n hx hb dX5_tryMan_12 rfl (lv_at hl 2 rfl) ?_
    refine lv_iload_n hx hb dX5_tryMan_13 rfl (lv_at hl 3 rfl) ?_
    refine lv_iload hx hb dX5_tryMan_14 (lv_at hl 4 rfl) ?_
    refine cmVv (rest := []) (wsC := [(h0, .inr (5, [.ref pa_qsettled, .int pa_greatestSum, .int pa_fairest, .ref pa_qtried, .int pa_mostPairs, .ref g])), (pa_qsettled, .inl (cA 1, 8, .inl pa_csettled)), (pa_qtried, .inl (cA 1, 8, .inl pa_ctried))]) (wr := [(g, .inr (3, [.int g_odds, .int g_pot, .int g_lines, .int g_men, .int g_clauses, .int g_winds, .int g_far0, .int g_far1, .ref g_qsides, .ref g_qgrips, .ref g_qwits, .ref g_qsays, .ref g_qgives0, .ref g_qgives1, .ref g_qfroms, .ref g_qtos])), (g_qsides, .inl (cA 1, 8, .inl g_csides)), (g_qgrips, .inl (cA 1, 8, .inl g_cgrips)), (g_qwits, .inl (cA 1, 8, .inl g_cwits))]) ⟨hx, hb, hml, hown, hts⟩ hKN hP hD hS hA [0, 1, 2] [3, 4, 5, 6] rfl rfl (by decide) (by decide) (by decide) (g_X5_weigh l D cA _ h0 pa_qsettled pa_greatestSum pa_fairest pa_qtried pa_mostPairs g pa_csettled pa_ctried p1 p2 p3) (tb_V tw_889 tw_891 tw_14 tw_110 tw_892) hdX5_weigh ⟨rfl, rfl, Nat.le_of_ble_eq_true rfl, Nat.le_of_ble_eq_true rfl⟩ ⟨Nat.le_of_ble_eq_true rfl, Nat.le_of_ble_eq_true rfl⟩ rfl rfl rfl hl.1 rfl (Nat.le_of_ble_eq_true rfl) dX5_tryMan_16 (fun u_288 H locs hr_288 hP hD hS => ?_)
    have hP : va_P D vwCl [(g, .inr (3, [.int g_odds, .int g_pot, .int g_lines, .int g_men, .int g_clauses, .int g_winds, .int g_far0, .int g_far1, .ref g_qsides, .ref g_qgrips, .ref g_qwits, .ref g_qsays, .ref g_qgives0, .ref g_qgives1, .ref g_qfroms, .ref g_qtos])), (g_qsides, .inl (cA 1, 8, .inl g_csides)), (g_qgrips, .inl (cA 1, 8, .inl g_cgrips)), (g_qwits, .inl (cA 1, 8, .inl g_cwits)), (h0, .inr (5, [.ref pa_qsettled, .int (u_288.2.1 0), .int (u_288.2.1 1), .ref pa_qtried, .int pa_mostPairs, .ref g])), (pa_qsettled, .inl (cA 1, 8, .inl (u_288.2.2.1 0))), (pa_qtried, .inl (cA 1, 8, .inl pa_ctried))] H := hP
    have hD : va_D A [(g, .inr (3, [.int g_odds, .int g_pot, .int g_lines, .int g_men, .int g_clauses, .int g_winds, .int g_far0, .int g_far1, .ref g_qsides, .ref g_qgrips, .ref g_qwits, .ref g_qsays, .ref g_qgives0, .ref g_qgives1, .ref g_qfroms, .ref g_qtos])), (g_qsides, .inl (cA 1, 8, .inl g_csides)), (g_qgrips, .inl (cA 1, 8, .inl g_cgrips)), (g_qwits, .inl (cA 1, 8, .inl g_cwits)), (h0, .inr (5, [.ref pa_qsettled, .int (u_288.2.1 0), .int (u_288.2.1 1), .ref pa_qtried, .int pa_mostPairs, .ref g])), (pa_qsettled, .inl (cA 1, 8, .inl (u_288.2.2.1 0))), (pa_qtried, .inl (cA 1, 8, .inl pa_ctried))] := hD
    have hP9 := hP.sub (ws' := [(h0, .inr (5, [.ref pa_qsettled, .int (u_288.2.1 0), .int (u_288.2.1 1), .ref pa_qtried, .int pa_mostPairs, .ref g])), (pa_qsettled, .inl (cA 1, 8, .inl (u_288.2.2.1 0))), (pa_qtried, .inl (cA 1, 8, .inl pa_ctried)), (g, .inr (3, [.int g_odds, .int g_pot, .int g_lines, .int g_men, .int g_clauses, .int g_winds, .int g_far0, .int g_far1, .ref g_qsides, .ref g_qgrips, .ref g_qwits, .ref g_qsays, .ref g_qgives0, .ref g_qgives1, .ref g_qfroms, .ref g_qtos])), (g_qsides, .inl (cA 1, 8, .inl g_csides)), (g_qgrips, .inl (cA 1, 8, .inl g_cgrips)), (g_qwits, .inl (cA 1, 8, .inl g_cwits))]) [4, 5, 6, 0, 1, 2, 3] rfl
    have hD9 := hD.sub (ws' := [(h0, .inr (5, [.ref pa_qsettled, .int (u_288.2.1 0), .int (u_288.2.1 1), .ref pa_qtried, .int pa_mostPairs, .ref g])), (pa_qsettled, .inl (cA 1, 8, .inl (u_288.2.2.1 0))), (pa_qtried, .inl (cA 1, 8, .inl pa_ctried)), (g, .inr (3, [.int g_odds, .int g_pot, .int g_lines, .int g_men, .int g_clauses, .int g_winds, .int g_far0, .int g_far1, .ref g_qsides, .ref g_qgrips, .ref g_qwits, .ref g_qsays, .ref g_qgives0, .ref g_qgives1, .ref g_qfroms, .ref g_qtos])), (g_qsides, .inl (cA 1, 8, .inl g_csides)), (g_qgrips, .inl (cA 1, 8, .inl g_cgrips)), (g_qwits, .inl (cA 1, 8, .inl g_cwits))]) [4, 5, 6, 0, 1, 2, 3] (by decide) rfl
    exact W.vret hx hb hr (fun t ht hW => ⟨⟨((fun _ => 0), (selI [(u_288.2.1 0), (u_288.2.1 1)]), (selF [(u_288.2.2.1 0), pa_ctried]), (fun _ _ => 0)), rfl, trivial, by rw [ht]; exact hP9, hD9⟩, hS.F ht⟩) hS.2.2 dX5_tryMan_19
set_option maxHeartbeats 8000000 in
set_option maxRecDepth 100000 in
theorem g_X5_settle (l : Launch) (D : va_G) (cA : Nat → ClassId) (sz : Nat) (h0 : Nat) (pa_qsettled : Nat) (pa_greatestSum : Int32) (pa_fairest : Int32) (pa_qtried : Nat) (pa_mostPairs : Int32) (g : Nat) (pa_csettled : Nat → Int32) (pa_ctried : Nat → Int32) (g_odds : Int32) (g_pot : Int32) (g_lines : Int32) (g_men : Int32) (g_clauses : Int32) (g_winds : Int32) (g_far0 : Int32) (g_far1 : Int32) (g_qsides : Nat) (g_qgrips : Nat) (g_qwits : Nat) (g_qsays : Nat) (g_qgives0 : Nat) (g_qgives1 : Nat) (g_qfroms : Nat) (g_qtos : Nat) (g_csides : Nat → Int32) (g_cgrips : Nat → Int32) (g_cwits : Nat → Int32) (h_g_odds : -999 ≤ (g_odds : Int32).toInt ∧ (g_odds : Int32).toInt ≤ 999) (h_g_pot : -999 ≤ (g_pot : Int32).toInt ∧ (g_pot : Int32).toInt ≤ 999) (h_g_men : 0 ≤ (g_men : Int32).toInt ∧ (g_men : Int32).toInt ≤ 8) (h_g_clauses : 0 ≤ (g_clauses : Int32).toInt ∧ (g_clauses : Int32).toInt ≤ 7) (h_g_winds : 0 ≤ (g_winds : Int32).toInt ∧ (g_winds : Int32).toInt ≤ 4) (h_g_far0 : -999 ≤ (g_far0 : Int32).toInt ∧ (g_far0 : Int32).toInt ≤ 999) (h_g_far1 : -999 ≤ (g_far1 : Int32).toInt ∧ (g_far1 : Int32).toInt ≤ 999) : Met l yX5_settle (Cond.code yX5_settle cX5_settle 3 none :: TB) (rmd 11 0 0) (PM D cA sz [(h0, .inr (5, [.ref pa_qsettled, .int pa_greatestSum, .int pa_fairest, .ref pa_qtried, .int pa_mostPairs, .ref g])), (pa_qsettled, .inl (cA 1, 8, .inl pa_csettled)), (pa_qtried, .inl (cA 1, 8, .inl pa_ctried)), (g, .inr (3, [.int g_odds, .int g_pot, .int g_lines, .int g_men, .int g_clauses, .int g_winds, .int g_far0, .int g_far1, .ref g_qsides, .ref g_qgrips, .ref g_qwits, .ref g_qsays, .ref g_qgives0, .ref g_qgives1, .ref g_qfroms, .ref g_qtos])), (g_qsides, .inl (cA 1, 8, .inl g_csides)), (g_qgrips, .inl (cA 1, 8, .inl g_cgrips)), (g_qwits, .inl (cA 1, 8, .inl g_cwits))] [.ref h0]) (va_Qv (fun (u : SU) => True) (fun u t => va_P D vwCl [(h0, .inr (5, [.ref pa_qsettled, .int (u.2.1 0), .int (u.2.1 1), .ref pa_qtried, .int (u.2.1 2), .ref g])), (pa_qsettled, .inl (cA 1, 8, .inl (u.2.2.1 0))), (pa_qtried, .inl (cA 1, 8, .inl (u.2.2.1 1))), (g, .inr (3, [.int g_odds, .int g_pot, .int g_lines, .int g_men, .int g_clauses, .int g_winds, .int g_far0, .int g_far1, .ref g_qsides, .ref g_qgrips, .ref g_qwits, .ref g_qsays, .ref g_qgives0, .ref g_qgives1, .ref g_qfroms, .ref g_qtos])), (g_qsides, .inl (cA 1, 8, .inl g_csides)), (g_qgrips, .inl (cA 1, 8, .inl g_cgrips)), (g_qwits, .inl (cA 1, 8, .inl g_cwits))] t.heap ∧ va_D (va_A [(h0, .inr (5, [.ref pa_qsettled, .int pa_greatestSum, .int pa_fairest, .ref pa_qtried, .int pa_mostPairs, .ref g])), (pa_qsettled, .inl (cA 1, 8, .inl pa_csettled)), (pa_qtried, .inl (cA 1, 8, .inl pa_ctried)), (g, .inr (3, [.int g_odds, .int g_pot, .int g_lines, .int g_men, .int g_clauses, .int g_winds, .int g_far0, .int g_far1, .ref g_qsides, .ref g_qgrips, .ref g_qwits, .ref g_qsays, .ref g_qgives0, .ref g_qgives1, .ref g_qfroms, .ref g_qtos])), (g_qsides, .inl (cA 1, 8, .inl g_csides)), (g_qgrips, .inl (cA 1, 8, .inl g_cgrips)), (g_qwits, .inl (cA 1, 8, .inl g_cwits))] sz) [(h0, .inr (5, [.ref pa_qsettled, .int (u.2.1 0), .int (u.2.1 1), .ref pa_qtried, .int (u.2.1 2), .ref g])), (pa_qsettled, .inl (cA 1, 8, .inl (u.2.2.1 0))), (pa_qtried, .inl (cA 1, 8, .inl (u.2.2.1 1))), (g, .inr (3, [.int g_odds, .int g_pot, .int g_lines, .int g_men, .int g_clauses, .int g_winds, .int g_far0, .int g_far1, .ref g_qsides, .ref g_qgrips, .ref g_qwits, .ref g_qsays, .ref g_qgives0, .ref g_qgives1, .ref g_qfroms, .ref g_qtos])), (g_qsides, .inl (cA 1, 8, .inl g_csides)), (g_qgrips, .inl (cA 1, 8, .inl g_cgrips)), (g_qwits, .inl (cA 1, 8, .inl g_cwits))]) (va_A [(h0, .inr (5, [.ref pa_qsettled, .int pa_greatestSum, .int pa_fairest, .ref pa_qtried, .int pa_mostPairs, .ref g])), (pa_qsettled, .inl (cA 1, 8, .inl pa_csettled)), (pa_qtried, .inl (cA 1, 8, .inl pa_ctried)), (g, .inr (3, [.int g_odds, .int g_pot, .int g_lines, .int g_men, .int g_clauses, .int g_winds, .int g_far0, .int g_far1, .ref g_qsides, .ref g_qgrips, .ref g_qwits, .ref g_qsays, .ref g_qgives0, .ref g_qgives1, .ref g_qfroms, .ref g_qtos])), (g_qsides, .inl (cA 1, 8, .inl g_csides)), (g_qgrips, .inl (cA 1, 8, .inl g_cgrips)), (g_qwits, .inl (cA 1, 8, .inl g_cwits))] sz)) 0 0 (va_A [(h0, .inr (5, [.ref pa_qsettled, .int pa_greatestSum, .int pa_fairest, .ref pa_qtried, .int pa_mostPairs, .ref g])), (pa_qsettled, .inl (cA 1, 8, .inl pa_csettled)), (pa_qtried, .inl (cA 1, 8, .inl pa_ctried)), (g, .inr (3, [.int g_odds, .int g_pot, .int g_lines, .int g_men, .int g_clauses, .int g_winds, .int g_far0, .int g_far1, .ref g_qsides, .ref g_qgrips, .ref g_qwits, .ref g_qsays, .ref g_qgives0, .ref g_qgives1, .ref g_qfroms, .ref g_qtos])), (g_qsides, .inl (cA 1, 8, .inl g_csides)), (g_qgrips, .inl (cA 1, 8, .inl g_cgrips)), (g_qwits, .inl (cA 1, 8, .inl g_cwits))] sz) := by
  refine Met.ofW (cc := cX5_settle) (maxL := 3) (ret := none) (by decide) rfl ?_
  intro p e s m args below meth c s₁ B hml hv
  obtain ⟨rfl, hsz, hP, hKN, hD0⟩ := hv
  have hx := B.exec
  have hb := B.bytes
  have hr := B.returns
  have hts : ∀ w ∈ TB, w.before _ s = true := fun w h => atoms_spec B.pre w (List.mem_cons_of_mem _ h)
  have hown : s.vm.findClass RX5 = some m.cls := findClass_of_methodNamed B.named
  have hlocks := B.notSynchronized
  subst hsz
  have hD := hD0.self (sz := s.heap.size)
  generalize hAe : va_A [(h0, .inr (5, [.ref pa_qsettled, .int pa_greatestSum, .int pa_fairest, .ref pa_qtried, .int pa_mostPairs, .ref g])), (pa_qsettled, .inl (cA 1, 8, .inl pa_csettled)), (pa_qtried, .inl (cA 1, 8, .inl pa_ctried)), (g, .inr (3, [.int g_odds, .int g_pot, .int g_lines, .int g_men, .int g_clauses, .int g_winds, .int g_far0, .int g_far1, .ref g_qsides, .ref g_qgrips, .ref g_qwits, .ref g_qsays, .ref g_qgives0, .ref g_qgives1, .ref g_qfroms, .ref g_qtos])), (g_qsides, .inl (cA 1, 8, .inl g_csides)), (g_qgrips, .inl (cA 1, 8, .inl g_cgrips)), (g_qwits, .inl (cA 1, 8, .inl g_cwits))] s.heap.size = A at hD ⊢
  have hA : ∀ q : Nat, s.heap.size ≤ q → A q := fun q h => by rw [← hAe]; exact Or.inr h
  have hS : va_S A s.heap s.heap [] := va_S.rf
  have hl := lv_entry ([.ref h0]) (n := 3) (Nat.le_of_ble_eq_true rfl)
  rw [lg_entry_eq]
  generalize (lg_sl ([.ref h0]) ++ List.replicate (3 - (lg_sl ([.ref h0])).length) Slot.unset).toArray = ls at hl ⊢
  have hl : lv_has ls 3 [(0, .ref h0)] := hl
  refine lv_aload_n hx hb dX5_settle_0 rfl (lv_at hl 0 rfl) ?_
  refine va_get (D := D) (ci := 5) (v := .ref pa_qtried) (C := RX5) (T := TX5) (N := 6) hx hb hts inX5 hown hKN.1 hP 0 rfl rfl 3 (by decide) (hts _ tw_382) (fun _ h9 => h9) rfl dX5_settle_1 ?_
  refine lv_iconst (v := (-1)) hx hb dX5_settle_4 (by decide) ?_
  have z_1 := zi_m1
  refine cmSv (rest := []) (wsC := [(pa_qtried, .inl (cA 1, 8, .inl pa_ctried))]) (wr := [(h0, .inr (5, [.ref pa_qsettled, .int pa_greatestSum, .int pa_fairest, .ref pa_qtried, .int pa_mostPairs, .ref g])), (pa_qsettled, .inl (cA 1, 8, .inl pa_csettled)), (g, .inr (3, [.int g_odds, .int g_pot, .int g_lines, .int g_men, .int g_clauses, .int g_winds, .int g_far0, .int g_far1, .ref g_qsides, .ref g_qgrips, .ref g_qwits, .ref g_qsays, .ref g_qgives0, .ref g_qgives1, .ref g_qfroms, .ref g_qtos])), (g_qsides, .inl (cA 1, 8, .inl g_csides)), (g_qgrips, .inl (cA 1, 8, .inl g_cgrips)), (g_qwits, .inl (cA 1, 8, .inl g_cwits))]) ⟨hx, hb, hml, hown, hts⟩ hKN hP hD hS hA [2] [0, 1, 3, 4, 5, 6] rfl rfl (by decide) (by decide) (by decide) (g_J7_fill_53178_8 l D cA _ pa_qtried pa_ctried (-1)) (tb_S tw_881 tw_341 tw_108 tw_342) hdJ7_fill_53178 ⟨rfl, rfl, Nat.le_of_ble_eq_true rfl, Nat.le_of_ble_eq_true rfl⟩ ⟨Nat.le_of_ble_eq_true rfl, Nat.le_of_ble_eq_true rfl⟩ rfl hl.1 rfl (Nat.le_of_ble_eq_true rfl) dX5_settle_5 (fun u_2 H locs hr_2 hP hD hS => ?_)
  have hP : va_P D vwCl [(h0, .inr (5, [.ref pa_qsettled, .int pa_greatestSum, .int pa_fairest, .ref pa_qtried, .int pa_mostPairs, .ref g])), (pa_qsettled, .inl (cA 1, 8, .inl pa_csettled)), (g, .inr (3, [.int g_odds, .int g_pot, .int g_lines, .int g_men, .int g_clauses, .int g_winds, .int g_far0, .int g_far1, .ref g_qsides, .ref g_qgrips, .ref g_qwits, .ref g_qsays, .ref g_qgives0, .ref g_qgives1, .ref g_qfroms, .ref g_qtos])), (g_qsides, .inl (cA 1, 8, .inl g_csides)), (g_qgrips, .inl (cA 1, 8, .inl g_cgrips)), (g_qwits, .inl (cA 1, 8, .inl g_cwits)), (pa_qtried, .inl (cA 1, 8, .inl (u_2.2.2.1 0)))] H := hP
  have hD : va_D A [(h0, .inr (5, [.ref pa_qsettled, .int pa_greatestSum, .int pa_fairest, .ref pa_qtried, .int pa_mostPairs, .ref g])), (pa_qsettled, .inl (cA 1, 8, .inl pa_csettled)), (g, .inr (3, [.int g_odds, .int g_pot, .int g_lines, .int g_men, .int g_clauses, .int g_winds, .int g_far0, .int g_far1, .ref g_qsides, .ref g_qgrips, .ref g_qwits, .ref g_qsays, .ref g_qgives0, .ref g_qgives1, .ref g_qfroms, .ref g_qtos])), (g_qsides, .inl (cA 1, 8, .inl g_csides)), (g_qgrips, .inl (cA 1, 8, .inl g_cgrips)), (g_qwits, .inl (cA 1, 8, .inl g_cwits)), (pa_qtried, .inl (cA 1, 8, .inl (u_2.2.2.1 0)))] := hD
  refine lv_aload_n hx hb dX5_settle_8 rfl (lv_at hl 0 rfl) ?_
  refine lv_iconst (v := (-1)) hx hb dX5_settle_9 (by decide) ?_
  refine va_put (D := D) (ci := 5) (v := .int (-1)) (ty := .int) (C := RX5) (T := TX5) (N := 6) hx hb hts inX5 tyX5 tyX5_ok nmX5 hown hKN.1 hP hD hS 0 rfl rfl 1 (by decide) (hts _ tw_378) (fun _ h9 => h9) rfl (by decide +kernel) rfl rfl (Nat.le_of_ble_eq_true rfl) dX5_settle_10 (fun H locs hP hD hS => ?_)
  have hP : va_P D vwCl [(h0, .inr (5, [.ref pa_qsettled, .int (-1), .int pa_fairest, .ref pa_qtried, .int pa_mostPairs, .ref g])), (pa_qsettled, .inl (cA 1, 8, .inl pa_csettled)), (g, .inr (3, [.int g_odds, .int g_pot, .int g_lines, .int g_men, .int g_clauses, .int g_winds, .int g_far0, .int g_far1, .ref g_qsides, .ref g_qgrips, .ref g_qwits, .ref g_qsays, .ref g_qgives0, .ref g_qgives1, .ref g_qfroms, .ref g_qtos])), (g_qsides, .inl (cA 1, 8, .inl g_csides)), (g_qgrips, .inl (cA 1, 8, .inl g_cgrips)), (g_qwits, .inl (cA 1, 8, .inl g_cwits)), (pa_qtried, .inl (cA 1, 8, .inl (u_2.2.2.1 0)))] H := hP
  have hD : va_D A [(h0, .inr (5, [.ref pa_qsettled, .int (-1), .int pa_fairest, .ref pa_qtried, .int pa_mostPairs, .ref g])), (pa_qsettled, .inl (cA 1, 8, .inl pa_csettled)), (g, .inr (3, [.int g_odds, .int g_pot, .int g_lines, .int g_men, .int g_clauses, .int g_winds, .int g_far0, .int g_far1, .ref g_qsides, .ref g_qgrips, .ref g_qwits, .ref g_qsays, .ref g_qgives0, .ref g_qgives1, .ref g_qfroms, .ref g_qtos])), (g_qsides, .inl (cA 1, 8, .inl g_csides)), (g_qgrips, .inl (cA 1, 8, .inl g_cgrips)), (g_qwits, .inl (cA 1, 8, .inl g_cwits)), (pa_qtried, .inl (cA 1, 8, .inl (u_2.2.2.1 0)))] := hD
  refine lv_aload_n hx hb dX5_settle_13 rfl (lv_at hl 0 rfl) ?_
  refine lv_iconst (v := 0) hx hb dX5_settle_14 (by decide) ?_
  refine va_put (D := D) (ci := 5) (v := .int 0) (ty := .int) (C := RX5) (T := TX5) (N := 6) hx hb hts inX5 tyX5 tyX5_ok nmX5 hown hKN.1 hP hD hS 0 rfl rfl 2 (by decide) (hts _ tw_380) (fun _ h9 => h9) rfl (by decide +kernel) rfl rfl (Nat.le_of_ble_eq_true rfl) dX5_settle_15 (fun H locs hP hD hS => ?_)
  have hP : va_P D vwCl [(h0, .inr (5, [.ref pa_qsettled, .int (-1), .int 0, .ref pa_qtried, .int pa_mostPairs, .ref g])), (pa_qsettled, .inl (cA 1, 8, .inl pa_csettled)), (g, .inr (3, [.int g_odds, .int g_pot, .int g_lines, .int g_men, .int g_clauses, .int g_winds, .int g_far0, .int g_far1, .ref g_qsides, .ref g_qgrips, .ref g_qwits, .ref g_qsays, .ref g_qgives0, .ref g_qgives1, .ref g_qfroms, .ref g_qtos])), (g_qsides, .inl (cA 1, 8, .inl g_csides)), (g_qgrips, .inl (cA 1, 8, .inl g_cgrips)), (g_qwits, .inl (cA 1, 8, .inl g_cwits)), (pa_qtried, .inl (cA 1, 8, .inl (u_2.2.2.1 0)))] H := hP
  have hD : va_D A [(h0, .inr (5, [.ref pa_qsettled, .int (-1), .int 0, .ref pa_qtried, .int pa_mostPairs, .ref g])), (pa_qsettled, .inl (cA 1, 8, .inl pa_csettled)), (g, .inr (3, [.int g_odds, .int g_pot, .int g_lines, .int g_men, .int g_clauses, .int g_winds, .int g_far0, .int g_far1, .ref g_qsides, .ref g_qgrips, .ref g_qwits, .ref g_qsays, .ref g_qgives0, .ref g_qgives1, .ref g_qfroms, .ref g_qtos])), (g_qsides, .inl (cA 1, 8, .inl g_csides)), (g_qgrips, .inl (cA 1, 8, .inl g_cgrips)), (g_qwits, .inl (cA 1, 8, .inl g_cwits)), (pa_qtried, .inl (cA 1, 8, .inl (u_2.2.2.1 0)))] := hD
  refine lv_iconst (v := 0) hx hb dX5_settle_18 (by decide) ?_
  refine lv_istore_n (lv' := [(1, .int 0), (0, .ref h0)]) hx hb dX5_settle_19 rfl hl (by decide) rfl (fun ls hl => ?_)
  refine lv_iconst (v := 0) hx hb dX5_settle_20 (by decide) ?_
  refine lv_istore_n (lv' := [(2, .int 0), (1, .int 0), (0, .ref h0)]) hx hb dX5_settle_21 rfl hl (by decide) rfl (fun ls hl => ?_)
  refine loopW (σ := Int32 × Int32) (fun _ => []) (fun ⟨L2_69, L1_69⟩ H locs ls => (0 ≤ L2_69.toInt ∧ L2_69.toInt ≤ 8) ∧ va_P D vwCl [(h0, .inr (5, [.ref pa_qsettled, .int (-1), .int 0, .ref pa_qtried, .int pa_mostPairs, .ref g])), (pa_qsettled, .inl (cA 1, 8, .inl pa_csettled)), (g, .inr (3, [.int g_odds, .int g_pot, .int g_lines, .int g_men, .int g_clauses, .int g_winds, .int g_far0, .int g_far1, .ref g_qsides, .ref g_qgrips, .ref g_qwits, .ref g_qsays, .ref g_qgives0, .ref g_qgives1, .ref g_qfroms, .ref g_qtos])), (g_qsides, .inl (cA 1, 8, .inl g_csides)), (g_qgrips, .inl (cA 1, 8, .inl g_cgrips)), (g_qwits, .inl (cA 1, 8, .inl g_cwits)), (pa_qtried, .inl (cA 1, 8, .inl (u_2.2.2.1 0)))] H ∧ va_D A [(h0, .inr (5, [.ref pa_qsettled, .int (-1), .int 0, .ref pa_qtried, .int pa_mostPairs, .ref g])), (pa_qsettled, .inl (cA 1, 8, .inl pa_csettled)), (g, .inr (3, [.int g_odds, .int g_pot, .int g_lines, .int g_men, .int g_clauses, .int g_winds, .int g_far0, .int g_far1, .ref g_qsides, .ref g_qgrips, .ref g_qwits, .ref g_qsays, .ref g_qgives0, .ref g_qgives1, .ref g_qfroms, .ref g_qtos])), (g_qsides, .inl (cA 1, 8, .inl g_csides)), (g_qgrips, .inl (cA 1, 8, .inl g_cgrips)), (g_qwits, .inl (cA 1, 8, .inl g_cwits)), (pa_qtried, .inl (cA 1, 8, .inl (u_2.2.2.1 0)))] ∧ va_S A s.heap H locs ∧ lv_has ls 3 [(2, .int L2_69), (1, .int L1_69), (0, .ref h0)]) (fun ⟨L2_69, L1_69⟩ => (2147483647 - L2_69.toInt).toNat) ?_ ((0, 0) : Int32 × Int32) ⟨(by decide), hP, hD, hS, hl⟩
  intro x_69 H locs ls hI_69 ih_69
  obtain ⟨L2_69, L1_69⟩ := x_69
  obtain ⟨k0_69, hP, hD, hS, hl⟩ := hI_69
  have hP : va_P D vwCl [(h0, .inr (5, [.ref pa_qsettled, .int (-1), .int 0, .ref pa_qtried, .int pa_mostPairs, .ref g])), (pa_qsettled, .inl (cA 1, 8, .inl pa_csettled)), (g, .inr (3, [.int g_odds, .int g_pot, .int g_lines, .int g_men, .int g_clauses, .int g_winds, .int g_far0, .int g_far1, .ref g_qsides, .ref g_qgrips, .ref g_qwits, .ref g_qsays, .ref g_qgives0, .ref g_qgives1, .ref g_qfroms, .ref g_qtos])), (g_qsides, .inl (cA 1, 8, .inl g_csides)), (g_qgrips, .inl (cA 1, 8, .inl g_cgrips)), (g_qwits, .inl (cA 1, 8, .inl g_cwits)), (pa_qtried, .inl (cA 1, 8, .inl (u_2.2.2.1 0)))] H := hP
  have hD : va_D A [(h0, .inr (5, [.ref pa_qsettled, .int (-1), .int 0, .ref pa_qtried, .int pa_mostPairs, .ref g])), (pa_qsettled, .inl (cA 1, 8, .inl pa_csettled)), (g, .inr (3, [.int g_odds, .int g_pot, .int g_lines, .int g_men, .int g_clauses, .int g_winds, .int g_far0, .int g_far1, .ref g_qsides, .ref g_qgrips, .ref g_qwits, .ref g_qsays, .ref g_qgives0, .ref g_qgives1, .ref g_qfroms, .ref g_qtos])), (g_qsides, .inl (cA 1, 8, .inl g_csides)), (g_qgrips, .inl (cA 1, 8, .inl g_cgrips)), (g_qwits, .inl (cA 1, 8, .inl g_cwits)), (pa_qtried, .inl (cA 1, 8, .inl (u_2.2.2.1 0)))] := hD
  have hl : lv_has ls 3 [(2, .int L2_69), (1, .int L1_69), (0, .ref h0)] := hl
  refine lv_iload_n hx hb dX5_settle_22 rfl (lv_at hl 0 rfl) ?_
  refine lv_aload_n hx hb dX5_settle_23 rfl (lv_at hl 2 rfl) ?_
  refine va_get (D := D) (ci := 5) (v := .ref g) (C := RX5) (T := TX5) (N := 6) hx hb hts inX5 hown hKN.1 hP 0 rfl rfl 5 (by decide) (hts _ tw_384) (fun _ h9 => h9) rfl dX5_settle_24 ?_
  refine va_get (D := D) (ci := 3) (v := .int g_men) (C := RX3) (T := TX3) (N := 16) hx hb hts inX3 hown hKN.1 hP 2 rfl rfl 3 (by decide) (hts _ tw_168) (fun _ h9 => h9) rfl dX5_settle_27 ?_
  refine lv_icmp_ge (tgt := 50) hx hb dX5_settle_30 (by decide) (fun c_70 => ?_) (fun c_70 => ?_)
  · skip
    have k_71 := kk_le rfl rfl c_70
    refine lv_aload_n hx hb dX5_settle_50 rfl (lv_at hl 2 rfl) ?_
    refine lv_iload_n hx hb dX5_settle_51 rfl (lv_at hl 1 rfl) ?_
    refine lv_aload_n hx hb dX5_settle_52 rfl (lv_at hl 2 rfl) ?_
    refine va_get (D := D) (ci := 5) (v := .ref g) (C := RX5) (T := TX5) (N := 6) hx hb hts inX5 hown hKN.1 hP 0 rfl rfl 5 (by decide) (hts _ tw_384) (fun _ h9 => h9) rfl dX5_settle_53 ?_
    refine va_get (D := D) (ci := 3) (v := .int g_men) (C := RX3) (T := TX3) (N := 16) hx hb hts inX3 hown hKN.1 hP 2 rfl rfl 3 (by decide) (hts _ tw_168) (fun _ h9 => h9) rfl dX5_settle_56 ?_
    refine lv_iload_n hx hb dX5_settle_59 rfl (lv_at hl 1 rfl) ?_
    refine lv_isub hx hb dX5_settle_60 ?_
    refine lv_topi (fun x_72 ex_72 => ?_)
    refine cpSi (rest := [.ref h0]) ⟨hx, hb, hml, hown, hts⟩ hKN (hP.sub (ws' := []) [] rfl) (g_J9_min_7cf53 l D cA L1_69 x_72) (tb_S tw_883 tw_555 tw_115 tw_556) hdJ9_min_7cf53 ⟨rfl, rfl, Nat.le_of_ble_eq_true rfl, Nat.le_of_ble_eq_true rfl⟩ ⟨Nat.le_of_ble_eq_true rfl, Nat.le_of_ble_eq_true rfl⟩ rfl hl.1 rfl (Nat.le_of_ble_eq_true rfl) dX5_settle_61 (fun r_74 hr_74 => ?_)
    obtain ⟨k_74_0_0, k_74_0_1, k_74_0_2⟩ := hr_74
    refine va_put (D := D) (ci := 5) (v := .int r_74) (ty := .int) (C := RX5) (T := TX5) (N := 6) hx hb hts inX5 tyX5 tyX5_ok nmX5 hown hKN.1 hP hD hS 0 rfl rfl 4 (by decide) (hts _ tw_383) (fun _ h9 => h9) rfl (by decide +kernel) rfl rfl (Nat.le_of_ble_eq_true rfl) dX5_settle_64 (fun H locs hP hD hS => ?_)
    have hP : va_P D vwCl [(h0, .inr (5, [.ref pa_qsettled, .int (-1), .int 0, .ref pa_qtried, .int r_74, .ref g])), (pa_qsettled, .inl (cA 1, 8, .inl pa_csettled)), (g, .inr (3, [.int g_odds, .int g_pot, .int g_lines, .int g_men, .int g_clauses, .int g_winds, .int g_far0, .int g_far1, .ref g_qsides, .ref g_qgrips, .ref g_qwits, .ref g_qsays, .ref g_qgives0, .ref g_qgives1, .ref g_qfroms, .ref g_qtos])), (g_qsides, .inl (cA 1, 8, .inl g_csides)), (g_qgrips, .inl (cA 1, 8, .inl g_cgrips)), (g_qwits, .inl (cA 1, 8, .inl g_cwits)), (pa_qtried, .inl (cA 1, 8, .inl (u_2.2.2.1 0)))] H := hP
    have hD : va_D A [(h0, .inr (5, [.ref pa_qsettled, .int (-1), .int 0, .ref pa_qtried, .int r_74, .ref g])), (pa_qsettled, .inl (cA 1, 8, .inl pa_csettled)), (g, .inr (3, [.int g_odds, .int g_pot, .int g_lines, .int g_men, .int g_clauses, .int g_winds, .int g_far0, .int g_far1, .ref g_qsides, .ref g_qgrips, .ref g_qwits, .ref g_qsays, .ref g_qgives0, .ref g_qgives1, .ref g_qfroms, .ref g_qtos])), (g_qsides, .inl (cA 1, 8, .inl g_csides)), (g_qgrips, .inl (cA 1, 8, .inl g_cgrips)), (g_qwits, .inl (cA 1, 8, .inl g_cwits)), (pa_qtried, .inl (cA 1, 8, .inl (u_2.2.2.1 0)))] := hD
    refine lv_aload_n hx hb dX5_settle_67 rfl (lv_at hl 2 rfl) ?_
    refine lv_iconst (v := 0) hx hb dX5_settle_68 (by decide) ?_
    refine lv_iconst (v := 0) hx hb dX5_settle_69 (by decide) ?_
    refine lv_iconst (v := 0) hx hb dX5_settle_70 (by decide) ?_
    refine lv_sipush (v := 10000) hx hb dX5_settle_71 (by decide) ?_
    have z_75 := zi_0
    have z_76 := zi_10000
    refine cmVv (rest := []) (wsC := [(h0, .inr (5, [.ref pa_qsettled, .int (-1), .int 0, .ref pa_qtried, .int r_74, .ref g])), (pa_qsettled, .inl (cA 1, 8, .inl pa_csettled)), (pa_qtried, .inl (cA 1, 8, .inl (u_2.2.2.1 0))), (g, .inr (3, [.int g_odds, .int g_pot, .int g_lines, .int g_men, .int g_clauses, .int g_winds, .int g_far0, .int g_far1, .ref g_qsides, .ref g_qgrips, .ref g_qwits, .ref g_qsays, .ref g_qgives0, .ref g_qgives1, .ref g_qfroms, .ref g_qtos])), (g_qsides, .inl (cA 1, 8, .inl g_csides)), (g_qgrips, .inl (cA 1, 8, .inl g_cgrips)), (g_qwits, .inl (cA 1, 8, .inl g_cwits))]) (wr := []) ⟨hx, hb, hml, hown, hts⟩ hKN hP hD hS hA [0, 1, 6, 2, 3, 4, 5] [] rfl rfl (by decide) (by decide) (by decide) (g_X5_tryMan_0 l D cA _ h0 pa_qsettled (-1) 0 pa_qtried r_74 g pa_csettled (u_2.2.2.1 0) g_odds g_pot g_lines g_men g_clauses g_winds g_far0 g_far1 g_qsides g_qgrips g_qwits g_qsays g_qgives0 g_qgives1 g_qfroms g_qtos g_csides g_cgrips g_cwits 0 0 0 10000 (by omega) (by omega) (by omega) (by omega) (by omega) (by omega) (by omega) (by decide)) (tb_V tw_884 tw_886 tw_13 tw_110 tw_887) hdX5_tryMan ⟨rfl, rfl, Nat.le_of_ble_eq_true rfl, Nat.le_of_ble_eq_true rfl⟩ ⟨Nat.le_of_ble_eq_true rfl, Nat.le_of_ble_eq_true rfl⟩ rfl rfl rfl hl.1 rfl (Nat.le_of_ble_eq_true rfl) dX5_settle_74 (fun u_77 H locs hr_77 hP hD hS => ?_)
    have hP : va_P D vwCl [(h0, .inr (5, [.ref pa_qsettled, .int (u_77.2.1 0), .int (u_77.2.1 1), .ref pa_qtried, .int r_74, .ref g])), (pa_qsettled, .inl (cA 1, 8, .inl (u_77.2.2.1 0))), (pa_qtried, .inl (cA 1, 8, .inl (u_77.2.2.1 1))), (g, .inr (3, [.int g_odds, .int g_pot, .int g_lines, .int g_men, .int g_clauses, .int g_winds, .int g_far0, .int g_far1, .ref g_qsides, .ref g_qgrips, .ref g_qwits, .ref g_qsays, .ref g_qgives0, .ref g_qgives1, .ref g_qfroms, .ref g_qtos])), (g_qsides, .inl (cA 1, 8, .inl g_csides)), (g_qgrips, .inl (cA 1, 8, .inl g_cgrips)), (g_qwits, .inl (cA 1, 8, .inl g_cwits))] H := hP
    have hD : va_D A [(h0, .inr (5, [.ref pa_qsettled, .int (u_77.2.1 0), .int (u_77.2.1 1), .ref pa_qtried, .int r_74, .ref g])), (pa_qsettled, .inl (cA 1, 8, .inl (u_77.2.2.1 0))), (pa_qtried, .inl (cA 1, 8, .inl (u_77.2.2.1 1))), (g, .inr (3, [.int g_odds, .int g_pot, .int g_lines, .int g_men, .int g_clauses, .int g_winds, .int g_far0, .int g_far1, .ref g_qsides, .ref g_qgrips, .ref g_qwits, .ref g_qsays, .ref g_qgives0, .ref g_qgives1, .ref g_qfroms, .ref g_qtos])), (g_qsides, .inl (cA 1, 8, .inl g_csides)), (g_qgrips, .inl (cA 1, 8, .inl g_cgrips)), (g_qwits, .inl (cA 1, 8, .inl g_cwits))] := hD
    have hP9 := hP.sub (ws' := [(h0, .inr (5, [.ref pa_qsettled, .int (u_77.2.1 0), .int (u_77.2.1 1), .ref pa_qtried, .int r_74, .ref g])), (pa_qsettled, .inl (cA 1, 8, .inl (u_77.2.2.1 0))), (pa_qtried, .inl (cA 1, 8, .inl (u_77.2.2.1 1))), (g, .inr (3, [.int g_odds, .int g_pot, .int g_lines, .int g_men, .int g_clauses, .int g_winds, .int g_far0, .int g_far1, .ref g_qsides, .ref g_qgrips, .ref g_qwits, .ref g_qsays, .ref g_qgives0, .ref g_qgives1, .ref g_qfroms, .ref g_qtos])), (g_qsides, .inl (cA 1, 8, .inl g_csides)), (g_qgrips, .inl (cA 1, 8, .inl g_cgrips)), (g_qwits, .inl (cA 1, 8, .inl g_cwits))]) [0, 1, 2, 3, 4, 5, 6] rfl
    have hD9 := hD.sub (ws' := [(h0, .inr (5, [.ref pa_qsettled, .int (u_77.2.1 0), .int (u_77.2.1 1), .ref pa_qtried, .int r_74, .ref g])), (pa_qsettled, .inl (cA 1, 8, .inl (u_77.2.2.1 0))), (pa_qtried, .inl (cA 1, 8, .inl (u_77.2.2.1 1))), (g, .inr (3, [.int g_odds, .int g_pot, .int g_lines, .int g_men, .int g_clauses, .int g_winds, .int g_far0, .int g_far1, .ref g_qsides, .ref g_qgrips, .ref g_qwits, .ref g_qsays, .ref g_qgives0, .ref g_qgives1, .ref g_qfroms, .ref g_qtos])), (g_qsides, .inl (cA 1, 8, .inl g_csides)), (g_qgrips, .inl (cA 1, 8, .inl g_cgrips)), (g_qwits, .inl (cA 1, 8, .inl g_cwits))]) [0, 1, 2, 3, 4, 5, 6] (by decide) rfl
    exact W.vret hx hb hr (fun t ht hW => ⟨⟨((fun _ => 0), (selI [(u_77.2.1 0), (u_77.2.1 1), r_74]), (selF [(u_77.2.2.1 0), (u_77.2.2.1 1)]), (fun _ _ => 0)), rfl, trivial, by rw [ht]; exact hP9, hD9⟩, hS.F ht⟩) hS.2.2 dX5_settle_77
  · skip
    have k_78 := kk_nle rfl rfl c_70
    refine lv_iload_n hx hb dX5_settle_33 rfl (lv_at hl 1 rfl) ?_
    refine lv_aload_n hx hb dX5_settle_34 rfl (lv_at hl 2 rfl) ?_
    refine va_get (D := D) (ci := 5) (v := .ref g) (C := RX5) (T := TX5) (N := 6) hx hb hts inX5 hown hKN.1 hP 0 rfl rfl 5 (by decide) (hts _ tw_384) (fun _ h9 => h9) rfl dX5_settle_35 ?_
    refine lv_iload_n hx hb dX5_settle_38 rfl (lv_at hl 0 rfl) ?_
    refine cpVi (rest := [.int L1_69]) ⟨hx, hb, hml, hown, hts⟩ hKN (hP.sub (ws' := [(g, .inr (3, [.int g_odds, .int g_pot, .int g_lines, .int g_men, .int g_clauses, .int g_winds, .int g_far0, .int g_far1, .ref g_qsides, .ref g_qgrips, .ref g_qwits, .ref g_qsays, .ref g_qgives0, .ref g_qgives1, .ref g_qfroms, .ref g_qtos])), (g_qsides, .inl (cA 1, 8, .inl g_csides))]) [2, 3] rfl) (g_X3_sideOf l D cA g g_odds g_pot g_lines g_men g_clauses g_winds g_far0 g_far1 g_qsides g_qgrips g_qwits g_qsays g_qgives0 g_qgives1 g_qfroms g_qtos g_csides L2_69 (by omega) (by omega) (by omega) (by omega) (by omega) (by omega) (by omega)) (tb_V tw_882 tw_703 tw_704 tw_104 tw_705) hdX3_sideOf ⟨rfl, rfl, Nat.le_of_ble_eq_true rfl, Nat.le_of_ble_eq_true rfl⟩ ⟨Nat.le_of_ble_eq_true rfl, Nat.le_of_ble_eq_true rfl⟩ rfl rfl rfl hl.1 rfl (Nat.le_of_ble_eq_true rfl) dX5_settle_39 (fun r_79 hr_79 => ?_)
    rcases hr_79 with ⟨k_79_0_0, k_79_0_1⟩ | rfl
    · skip
      refine lv_iadd hx hb dX5_settle_42 ?_
      refine lv_topi (fun x_80 ex_80 => ?_)
      refine lv_istore_n (lv' := [(1, .int x_80), (2, .int L2_69), (0, .ref h0)]) hx hb dX5_settle_43 rfl hl (by decide) rfl (fun ls hl => ?_)
      obtain ⟨x_82, ex_82⟩ : ∃ y : Int32, L2_69 + Int32.ofInt 1 = y := ⟨_, rfl⟩
      have k_83 := ar_add (b := 1) rfl zi_1 ex_82.symm (by omega) (by omega)
      refine lv_iinc (v := x_82) (lv' := [(2, .int x_82), (1, .int x_80), (0, .ref h0)]) hx hb dX5_settle_44 hl (k := 1) rfl ex_82 (by decide) rfl (fun ls hl => ?_)
      refine lv_goto (tgt := 22) hx hb dX5_settle_47 (by decide) ?_
      exact ih_69 (x_82, x_80) _ _ _ ⟨(show 0 ≤ x_82.toInt ∧ x_82.toInt ≤ 8 from by omega), hP.sub [0, 1, 2, 3, 4, 5, 6] rfl, hD.sub [0, 1, 2, 3, 4, 5, 6] (by decide) rfl, hS, lv_sub hl [0, 1, 2] rfl⟩ (by show (2147483647 - x_82.toInt).toNat < (2147483647 - L2_69.toInt).toNat; omega)
    · skip
      refine lv_iadd hx hb dX5_settle_42 ?_
      refine lv_topi (fun x_84 ex_84 => ?_)
      refine lv_istore_n (lv' := [(1, .int x_84), (2, .int L2_69), (0, .ref h0)]) hx hb dX5_settle_43 rfl hl (by decide) rfl (fun ls hl => ?_)
      obtain ⟨x_86, ex_86⟩ : ∃ y : Int32, L2_69 + Int32.ofInt 1 = y := ⟨_, rfl⟩
      have k_87 := ar_add (b := 1) rfl zi_1 ex_86.symm (by omega) (by omega)
      refine lv_iinc (v := x_86) (lv' := [(2, .int x_86), (1, .int x_84), (0, .ref h0)]) hx hb dX5_settle_44 hl (k := 1) rfl ex_86 (by decide) rfl (fun ls hl => ?_)
      refine lv_goto (tgt := 22) hx hb dX5_settle_47 (by decide) ?_
      exact ih_69 (x_86, x_84) _ _ _ ⟨(show 0 ≤ x_86.toInt ∧ x_86.toInt ≤ 8 from by omega), hP.sub [0, 1, 2, 3, 4, 5, 6] rfl, hD.sub [0, 1, 2, 3, 4, 5, 6] (by decide) rfl, hS, lv_sub hl [0, 1, 2] rfl⟩ (by show (2147483647 - x_86.toInt).toNat < (2147483647 - L2_69.toInt).toNat; omega)

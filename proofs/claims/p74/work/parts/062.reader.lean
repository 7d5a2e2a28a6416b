theorem zi_122 : (122 : Int32).toInt = 122 := by decide
theorem zi_32 : (32 : Int32).toInt = 32 := by decide
theorem zi_48 : (48 : Int32).toInt = 48 := by decide
theorem zi_57 : (57 : Int32).toInt = 57 := by decide
theorem zi_59 : (59 : Int32).toInt = 59 := by decide
theorem zi_97 : (97 : Int32).toInt = 97 := by decide
theorem zi_99999 : (99999 : Int32).toInt = 99999 := by decide
set_option maxHeartbeats 8000000 in
set_option maxRecDepth 100000 in
theorem g_X6_isBlank (l : Launch) (D : va_G) (cA : Nat → ClassId) (p0 : Int32) : Met l yX6_isBlank (Cond.code yX6_isBlank cX6_isBlank 1 (some .boolean) :: TB) (rmd 0 0 0) (PP D cA [] [.int p0]) (vp_Si (fun r => 0 ≤ r.toInt ∧ r.toInt ≤ 1)) 0 0 (fun _ => False) := by
  refine Met.ofW (cc := cX6_isBlank) (maxL := 1) (ret := (some .boolean)) (by decide) rfl ?_
  intro p e s m args below meth c s₁ B hml hv
  obtain ⟨rfl, hP, hKN⟩ := hv
  have hx := B.exec
  have hb := B.bytes
  have hr := B.returns
  have hts : ∀ w ∈ TB, w.before _ s = true := fun w h => atoms_spec B.pre w (List.mem_cons_of_mem _ h)
  have hown : s.vm.findClass RX6 = some m.cls := findClass_of_methodNamed B.named
  have hlocks := B.notSynchronized
  have hl := lv_entry ([.int p0]) (n := 1) (Nat.le_of_ble_eq_true rfl)
  rw [lg_entry_eq]
  generalize (lg_sl ([.int p0]) ++ List.replicate (1 - (lg_sl ([.int p0])).length) Slot.unset).toArray = ls at hl ⊢
  have hl : lv_has ls 1 [(0, .int p0)] := hl
  refine lv_iload_n hx hb dX6_isBlank_0 rfl (lv_at hl 0 rfl) ?_
  refine lv_bipush (v := 32) hx hb dX6_isBlank_1 (by decide) ?_
  refine lv_icmp_eq (tgt := 12) hx hb dX6_isBlank_3 (by decide) (fun c_1 => ?_) (fun c_1 => ?_)
  · skip
    have b_3 := i32_bd p0
    have k_2 := kk_eq rfl zi_32 c_1
    refine lv_iconst (v := 1) hx hb dX6_isBlank_12 (by decide) ?_
    refine lv_goto (tgt := 17) hx hb dX6_isBlank_13 (by decide) ?_
    exact W.zret (v := 1) hx hb hr (by decide) (fun t ht hW => ⟨1, rfl, (show 0 ≤ (1 : Int32).toInt ∧ (1 : Int32).toInt ≤ 1 from by decide), ht⟩) (fun _ h => by cases h) dX6_isBlank_17
  · skip
    have b_5 := i32_bd p0
    have k_4 := kk_ne rfl zi_32 c_1
    refine lv_iload_n hx hb dX6_isBlank_6 rfl (lv_at hl 0 rfl) ?_
    refine lv_bipush (v := 10) hx hb dX6_isBlank_7 (by decide) ?_
    refine lv_icmp_ne (tgt := 16) hx hb dX6_isBlank_9 (by decide) (fun c_6 => ?_) (fun c_6 => ?_)
    · skip
      have k_7 := kk_ne rfl zi_10 c_6
      refine lv_iconst (v := 0) hx hb dX6_isBlank_16 (by decide) ?_
      exact W.zret (v := 0) hx hb hr (by decide) (fun t ht hW => ⟨0, rfl, (show 0 ≤ (0 : Int32).toInt ∧ (0 : Int32).toInt ≤ 1 from by decide), ht⟩) (fun _ h => by cases h) dX6_isBlank_17
    · skip
      have k_8 := kk_eq rfl zi_10 c_6
      refine lv_iconst (v := 1) hx hb dX6_isBlank_12 (by decide) ?_
      refine lv_goto (tgt := 17) hx hb dX6_isBlank_13 (by decide) ?_
      exact W.zret (v := 1) hx hb hr (by decide) (fun t ht hW => ⟨1, rfl, (show 0 ≤ (1 : Int32).toInt ∧ (1 : Int32).toInt ≤ 1 from by decide), ht⟩) (fun _ h => by cases h) dX6_isBlank_17
set_option maxHeartbeats 8000000 in
set_option maxRecDepth 100000 in
theorem g_X6_kindOf (l : Launch) (D : va_G) (cA : Nat → ClassId) (p0 : Int32) : Met l yX6_kindOf (Cond.code yX6_kindOf cX6_kindOf 1 (some .int) :: TB) (rmd 1 0 0) (PP D cA [] [.int p0]) (vp_Si (fun r => 0 ≤ r.toInt ∧ r.toInt ≤ 4)) 0 0 (fun _ => False) := by
  refine Met.ofW (cc := cX6_kindOf) (maxL := 1) (ret := (some .int)) (by decide) rfl ?_
  intro p e s m args below meth c s₁ B hml hv
  obtain ⟨rfl, hP, hKN⟩ := hv
  have hx := B.exec
  have hb := B.bytes
  have hr := B.returns
  have hts : ∀ w ∈ TB, w.before _ s = true := fun w h => atoms_spec B.pre w (List.mem_cons_of_mem _ h)
  have hown : s.vm.findClass RX6 = some m.cls := findClass_of_methodNamed B.named
  have hlocks := B.notSynchronized
  have hl := lv_entry ([.int p0]) (n := 1) (Nat.le_of_ble_eq_true rfl)
  rw [lg_entry_eq]
  generalize (lg_sl ([.int p0]) ++ List.replicate (1 - (lg_sl ([.int p0])).length) Slot.unset).toArray = ls at hl ⊢
  have hl : lv_has ls 1 [(0, .int p0)] := hl
  refine lv_iload_n hx hb dX6_kindOf_0 rfl (lv_at hl 0 rfl) ?_
  refine lv_iconst (v := (-1)) hx hb dX6_kindOf_1 (by decide) ?_
  refine lv_icmp_ne (tgt := 7) hx hb dX6_kindOf_2 (by decide) (fun c_1 => ?_) (fun c_1 => ?_)
  · skip
    have b_3 := i32_bd p0
    have k_2 := kk_ne rfl zi_m1 c_1
    refine lv_iload_n hx hb dX6_kindOf_7 rfl (lv_at hl 0 rfl) ?_
    refine lv_bipush (v := 97) hx hb dX6_kindOf_8 (by decide) ?_
    refine lv_bipush (v := 122) hx hb dX6_kindOf_10 (by decide) ?_
    have z_4 := zi_97
    have z_5 := zi_122
    refine cpSNi (rest := []) ⟨hx, hb, hml, hown, hts⟩ hKN (hP.sub (ws' := []) [] rfl) (g_X11_isWithin l D cA p0 97 122) ⟨nw_7, tw_516, tw_101, tw_517⟩ hdX11_isWithin ⟨rfl, rfl, Nat.le_of_ble_eq_true rfl, Nat.le_of_ble_eq_true rfl⟩ ⟨Nat.le_of_ble_eq_true rfl, Nat.le_of_ble_eq_true rfl⟩ rfl hl.1 rfl (Nat.le_of_ble_eq_true rfl) dX6_kindOf_12 (fun r_6 hr_6 => ?_)
    rcases hr_6 with ⟨k_6_0_0, k_6_0_1, rfl⟩ | ⟨k_6_1_0, rfl⟩
    · skip
      refine lv_if_eq (tgt := 20) hx hb dX6_kindOf_15 (by decide) (fun c_7 => absurd c_7 (by decide)) (fun c_7 => ?_)
      refine lv_iconst (v := 1) hx hb dX6_kindOf_18 (by decide) ?_
      exact W.iret (v := 1) hx hb hr (fun t ht hW => ⟨1, rfl, (show 0 ≤ (1 : Int32).toInt ∧ (1 : Int32).toInt ≤ 4 from by decide), ht⟩) (fun _ h => by cases h) dX6_kindOf_19
    · skip
      refine lv_if_eq (tgt := 20) hx hb dX6_kindOf_15 (by decide) (fun c_8 => ?_) (fun c_8 => absurd (by decide) c_8)
      refine lv_iload_n hx hb dX6_kindOf_20 rfl (lv_at hl 0 rfl) ?_
      refine lv_bipush (v := 48) hx hb dX6_kindOf_21 (by decide) ?_
      refine lv_bipush (v := 57) hx hb dX6_kindOf_23 (by decide) ?_
      have z_9 := zi_48
      have z_10 := zi_57
      refine cpSNi (rest := []) ⟨hx, hb, hml, hown, hts⟩ hKN (hP.sub (ws' := []) [] rfl) (g_X11_isWithin l D cA p0 48 57) ⟨nw_7, tw_516, tw_101, tw_517⟩ hdX11_isWithin ⟨rfl, rfl, Nat.le_of_ble_eq_true rfl, Nat.le_of_ble_eq_true rfl⟩ ⟨Nat.le_of_ble_eq_true rfl, Nat.le_of_ble_eq_true rfl⟩ rfl hl.1 rfl (Nat.le_of_ble_eq_true rfl) dX6_kindOf_25 (fun r_11 hr_11 => ?_)
      rcases hr_11 with ⟨k_11_0_0, k_11_0_1, rfl⟩ | ⟨k_11_1_0, rfl⟩
      · skip
        refine lv_if_eq (tgt := 33) hx hb dX6_kindOf_28 (by decide) (fun c_12 => absurd c_12 (by decide)) (fun c_12 => ?_)
        refine lv_iconst (v := 2) hx hb dX6_kindOf_31 (by decide) ?_
        exact W.iret (v := 2) hx hb hr (fun t ht hW => ⟨2, rfl, (show 0 ≤ (2 : Int32).toInt ∧ (2 : Int32).toInt ≤ 4 from by decide), ht⟩) (fun _ h => by cases h) dX6_kindOf_32
      · skip
        refine lv_if_eq (tgt := 33) hx hb dX6_kindOf_28 (by decide) (fun c_13 => ?_) (fun c_13 => absurd (by decide) c_13)
        refine lv_iload_n hx hb dX6_kindOf_33 rfl (lv_at hl 0 rfl) ?_
        refine lv_bipush (v := 59) hx hb dX6_kindOf_34 (by decide) ?_
        refine lv_icmp_ne (tgt := 43) hx hb dX6_kindOf_36 (by decide) (fun c_14 => ?_) (fun c_14 => ?_)
        · skip
          have k_15 := kk_ne rfl zi_59 c_14
          refine lv_iconst (v := 4) hx hb dX6_kindOf_43 (by decide) ?_
          exact W.iret (v := 4) hx hb hr (fun t ht hW => ⟨4, rfl, (show 0 ≤ (4 : Int32).toInt ∧ (4 : Int32).toInt ≤ 4 from by decide), ht⟩) (fun _ h => by cases h) dX6_kindOf_44
        · skip
          have k_16 := kk_eq rfl zi_59 c_14
          refine lv_iconst (v := 3) hx hb dX6_kindOf_39 (by decide) ?_
          refine lv_goto (tgt := 44) hx hb dX6_kindOf_40 (by decide) ?_
          exact W.iret (v := 3) hx hb hr (fun t ht hW => ⟨3, rfl, (show 0 ≤ (3 : Int32).toInt ∧ (3 : Int32).toInt ≤ 4 from by decide), ht⟩) (fun _ h => by cases h) dX6_kindOf_44
  · skip
    have b_18 := i32_bd p0
    have k_17 := kk_eq rfl zi_m1 c_1
    refine lv_iconst (v := 0) hx hb dX6_kindOf_5 (by decide) ?_
    exact W.iret (v := 0) hx hb hr (fun t ht hW => ⟨0, rfl, (show 0 ≤ (0 : Int32).toInt ∧ (0 : Int32).toInt ≤ 4 from by decide), ht⟩) (fun _ h => by cases h) dX6_kindOf_6
set_option maxHeartbeats 8000000 in
set_option maxRecDepth 100000 in
theorem g_X6_fail (l : Launch) (D : va_G) (cA : Nat → ClassId) (sz : Nat) (h0 : Nat) (dr : Nat) (r_firstFault : Int32) (r_faultPlace : Int32) (tp : Nat) (r_at : Int32) (r_kind : Int32) (r_begin : Int32) (r_value : Int32) (r_line : Int32) (r_taken : Int32) (r_isWordDue : Int32) (r_isTaking : Int32) (r_qnumbers : Nat) (p0 : Int32) : Met l yX6_fail (Cond.code yX6_fail cX6_fail 2 none :: TB) (rmd 0 0 0) (PM D cA sz [(h0, .inr (6, [.ref dr, .int r_firstFault, .int r_faultPlace, .ref tp, .int r_at, .int r_kind, .int r_begin, .int r_value, .int r_line, .int r_taken, .int r_isWordDue, .int r_isTaking, .ref r_qnumbers]))] [.ref h0, .int p0]) (va_Qv (fun (u : SU) => True) (fun u t => va_P D vwCl [(h0, .inr (6, [.ref dr, .int p0, .int r_begin, .ref tp, .int r_at, .int r_kind, .int r_begin, .int r_value, .int r_line, .int r_taken, .int r_isWordDue, .int r_isTaking, .ref r_qnumbers]))] t.heap ∧ va_D (va_A [(h0, .inr (6, [.ref dr, .int r_firstFault, .int r_faultPlace, .ref tp, .int r_at, .int r_kind, .int r_begin, .int r_value, .int r_line, .int r_taken, .int r_isWordDue, .int r_isTaking, .ref r_qnumbers]))] sz) [(h0, .inr (6, [.ref dr, .int p0, .int r_begin, .ref tp, .int r_at, .int r_kind, .int r_begin, .int r_value, .int r_line, .int r_taken, .int r_isWordDue, .int r_isTaking, .ref r_qnumbers]))]) (va_A [(h0, .inr (6, [.ref dr, .int r_firstFault, .int r_faultPlace, .ref tp, .int r_at, .int r_kind, .int r_begin, .int r_value, .int r_line, .int r_taken, .int r_isWordDue, .int r_isTaking, .ref r_qnumbers]))] sz)) 0 0 (va_A [(h0, .inr (6, [.ref dr, .int r_firstFault, .int r_faultPlace, .ref tp, .int r_at, .int r_kind, .int r_begin, .int r_value, .int r_line, .int r_taken, .int r_isWordDue, .int r_isTaking, .ref r_qnumbers]))] sz) := by
  refine Met.ofW (cc := cX6_fail) (maxL := 2) (ret := none) (by decide) rfl ?_
  intro p e s m args below meth c s₁ B hml hv
  obtain ⟨rfl, hsz, hP, hKN, hD0⟩ := hv
  have hx := B.exec
  have hb := B.bytes
  have hr := B.returns
  have hts : ∀ w ∈ TB, w.before _ s = true := fun w h => atoms_spec B.pre w (List.mem_cons_of_mem _ h)
  have hown : s.vm.findClass RX6 = some m.cls := findClass_of_methodNamed B.named
  have hlocks := B.notSynchronized
  subst hsz
  have hD := hD0.self (sz := s.heap.size)
  generalize hAe : va_A [(h0, .inr (6, [.ref dr, .int r_firstFault, .int r_faultPlace, .ref tp, .int r_at, .int r_kind, .int r_begin, .int r_value, .int r_line, .int r_taken, .int r_isWordDue, .int r_isTaking, .ref r_qnumbers]))] s.heap.size = A at hD ⊢
  have hA : ∀ q : Nat, s.heap.size ≤ q → A q := fun q h => by rw [← hAe]; exact Or.inr h
  have hS : va_S A s.heap s.heap [] := va_S.rf
  have hl := lv_entry ([.ref h0, .int p0]) (n := 2) (Nat.le_of_ble_eq_true rfl)
  rw [lg_entry_eq]
  generalize (lg_sl ([.ref h0, .int p0]) ++ List.replicate (2 - (lg_sl ([.ref h0, .int p0])).length) Slot.unset).toArray = ls at hl ⊢
  have hl : lv_has ls 2 [(0, .ref h0), (1, .int p0)] := hl
  refine lv_aload_n hx hb dX6_fail_0 rfl (lv_at hl 0 rfl) ?_
  refine lv_iload_n hx hb dX6_fail_1 rfl (lv_at hl 1 rfl) ?_
  refine va_put (D := D) (ci := 6) (v := .int p0) (ty := .int) (C := RX6) (T := TX6) (N := 13) hx hb hts inX6 tyX6 tyX6_ok nmX6 hown hKN.1 hP hD hS 0 rfl rfl 1 (by decide) (hts _ tw_226) (fun _ h9 => h9) rfl (by decide +kernel) rfl rfl (Nat.le_of_ble_eq_true rfl) dX6_fail_2 (fun H locs hP hD hS => ?_)
  have hP : va_P D vwCl [(h0, .inr (6, [.ref dr, .int p0, .int r_faultPlace, .ref tp, .int r_at, .int r_kind, .int r_begin, .int r_value, .int r_line, .int r_taken, .int r_isWordDue, .int r_isTaking, .ref r_qnumbers]))] H := hP
  have hD : va_D A [(h0, .inr (6, [.ref dr, .int p0, .int r_faultPlace, .ref tp, .int r_at, .int r_kind, .int r_begin, .int r_value, .int r_line, .int r_taken, .int r_isWordDue, .int r_isTaking, .ref r_qnumbers]))] := hD
  refine lv_aload_n hx hb dX6_fail_5 rfl (lv_at hl 0 rfl) ?_
  refine lv_aload_n hx hb dX6_fail_6 rfl (lv_at hl 0 rfl) ?_
  refine va_get (D := D) (ci := 6) (v := .int r_begin) (C := RX6) (T := TX6) (N := 13) hx hb hts inX6 hown hKN.1 hP 0 rfl rfl 6 (by decide) (hts _ tw_233) (fun _ h9 => h9) rfl dX6_fail_7 ?_
  refine va_put (D := D) (ci := 6) (v := .int r_begin) (ty := .int) (C := RX6) (T := TX6) (N := 13) hx hb hts inX6 tyX6 tyX6_ok nmX6 hown hKN.1 hP hD hS 0 rfl rfl 2 (by decide) (hts _ tw_228) (fun _ h9 => h9) rfl (by decide +kernel) rfl rfl (Nat.le_of_ble_eq_true rfl) dX6_fail_10 (fun H locs hP hD hS => ?_)
  have hP : va_P D vwCl [(h0, .inr (6, [.ref dr, .int p0, .int r_begin, .ref tp, .int r_at, .int r_kind, .int r_begin, .int r_value, .int r_line, .int r_taken, .int r_isWordDue, .int r_isTaking, .ref r_qnumbers]))] H := hP
  have hD : va_D A [(h0, .inr (6, [.ref dr, .int p0, .int r_begin, .ref tp, .int r_at, .int r_kind, .int r_begin, .int r_value, .int r_line, .int r_taken, .int r_isWordDue, .int r_isTaking, .ref r_qnumbers]))] := hD
  have hP9 := hP.sub (ws' := [(h0, .inr (6, [.ref dr, .int p0, .int r_begin, .ref tp, .int r_at, .int r_kind, .int r_begin, .int r_value, .int r_line, .int r_taken, .int r_isWordDue, .int r_isTaking, .ref r_qnumbers]))]) [0] rfl
  have hD9 := hD.sub (ws' := [(h0, .inr (6, [.ref dr, .int p0, .int r_begin, .ref tp, .int r_at, .int r_kind, .int r_begin, .int r_value, .int r_line, .int r_taken, .int r_isWordDue, .int r_isTaking, .ref r_qnumbers]))]) [0] (by decide) rfl
  exact W.vret hx hb hr (fun t ht hW => ⟨⟨((fun _ => 0), (fun _ => 0), (fun _ _ => 0), (fun _ _ => 0)), rfl, trivial, by rw [ht]; exact hP9, hD9⟩, hS.F ht⟩) hS.2.2 dX6_fail_13
set_option maxHeartbeats 8000000 in
set_option maxRecDepth 100000 in
theorem g_X6_readLongest (l : Launch) (D : va_G) (cA : Nat → ClassId) (sz : Nat) (h0 : Nat) (dr : Nat) (r_firstFault : Int32) (r_faultPlace : Int32) (tp : Nat) (r_at : Int32) (r_kind : Int32) (r_begin : Int32) (r_value : Int32) (r_line : Int32) (r_taken : Int32) (r_isWordDue : Int32) (r_isTaking : Int32) (r_qnumbers : Nat) (t_qbytes : Nat) (t_length : Int32) (t_cbytes : Nat → Int32) (h_t_length : 0 ≤ (t_length : Int32).toInt ∧ (t_length : Int32).toInt ≤ 800) : Met l yX6_readLongest (Cond.code yX6_readLongest cX6_readLongest 1 none :: TB) (rmd 2 0 0) (PM D cA sz [(h0, .inr (6, [.ref dr, .int r_firstFault, .int r_faultPlace, .ref tp, .int r_at, .int r_kind, .int r_begin, .int r_value, .int r_line, .int r_taken, .int r_isWordDue, .int r_isTaking, .ref r_qnumbers])), (tp, .inr (9, [.ref t_qbytes, .int t_length])), (t_qbytes, .inl (cA 0, 800, .inl t_cbytes))] [.ref h0]) (va_Qv (fun (u : SU) => ((u.2.1 1).toInt ≤ 99999)) (fun u t => va_P D vwCl [(h0, .inr (6, [.ref dr, .int r_firstFault, .int r_faultPlace, .ref tp, .int (u.2.1 0), .int r_kind, .int r_begin, .int (u.2.1 1), .int r_line, .int r_taken, .int r_isWordDue, .int r_isTaking, .ref r_qnumbers])), (tp, .inr (9, [.ref t_qbytes, .int t_length])), (t_qbytes, .inl (cA 0, 800, .inl t_cbytes))] t.heap ∧ va_D (va_A [(h0, .inr (6, [.ref dr, .int r_firstFault, .int r_faultPlace, .ref tp, .int r_at, .int r_kind, .int r_begin, .int r_value, .int r_line, .int r_taken, .int r_isWordDue, .int r_isTaking, .ref r_qnumbers])), (tp, .inr (9, [.ref t_qbytes, .int t_length])), (t_qbytes, .inl (cA 0, 800, .inl t_cbytes))] sz) [(h0, .inr (6, [.ref dr, .int r_firstFault, .int r_faultPlace, .ref tp, .int (u.2.1 0), .int r_kind, .int r_begin, .int (u.2.1 1), .int r_line, .int r_taken, .int r_isWordDue, .int r_isTaking, .ref r_qnumbers])), (tp, .inr (9, [.ref t_qbytes, .int t_length])), (t_qbytes, .inl (cA 0, 800, .inl t_cbytes))]) (va_A [(h0, .inr (6, [.ref dr, .int r_firstFault, .int r_faultPlace, .ref tp, .int r_at, .int r_kind, .int r_begin, .int r_value, .int r_line, .int r_taken, .int r_isWordDue, .int r_isTaking, .ref r_qnumbers])), (tp, .inr (9, [.ref t_qbytes, .int t_length])), (t_qbytes, .inl (cA 0, 800, .inl t_cbytes))] sz)) 0 0 (va_A [(h0, .inr (6, [.ref dr, .int r_firstFault, .int r_faultPlace, .ref tp, .int r_at, .int r_kind, .int r_begin, .int r_value, .int r_line, .int r_taken, .int r_isWordDue, .int r_isTaking, .ref r_qnumbers])), (tp, .inr (9, [.ref t_qbytes, .int t_length])), (t_qbytes, .inl (cA 0, 800, .inl t_cbytes))] sz) := by
  refine Met.ofW (cc := cX6_readLongest) (maxL := 1) (ret := none) (by decide) rfl ?_
  intro p e s m args below meth c s₁ B hml hv
  obtain ⟨rfl, hsz, hP, hKN, hD0⟩ := hv
  have hx := B.exec
  have hb := B.bytes
  have hr := B.returns
  have hts : ∀ w ∈ TB, w.before _ s = true := fun w h => atoms_spec B.pre w (List.mem_cons_of_mem _ h)
  have hown : s.vm.findClass RX6 = some m.cls := findClass_of_methodNamed B.named
  have hlocks := B.notSynchronized
  subst hsz
  have hD := hD0.self (sz := s.heap.size)
  generalize hAe : va_A [(h0, .inr (6, [.ref dr, .int r_firstFault, .int r_faultPlace, .ref tp, .int r_at, .int r_kind, .int r_begin, .int r_value, .int r_line, .int r_taken, .int r_isWordDue, .int r_isTaking, .ref r_qnumbers])), (tp, .inr (9, [.ref t_qbytes, .int t_length])), (t_qbytes, .inl (cA 0, 800, .inl t_cbytes))] s.heap.size = A at hD ⊢
  have hA : ∀ q : Nat, s.heap.size ≤ q → A q := fun q h => by rw [← hAe]; exact Or.inr h
  have hS : va_S A s.heap s.heap [] := va_S.rf
  have hl := lv_entry ([.ref h0]) (n := 1) (Nat.le_of_ble_eq_true rfl)
  rw [lg_entry_eq]
  generalize (lg_sl ([.ref h0]) ++ List.replicate (1 - (lg_sl ([.ref h0])).length) Slot.unset).toArray = ls at hl ⊢
  have hl : lv_has ls 1 [(0, .ref h0)] := hl
  refine lv_aload_n hx hb dX6_readLongest_0 rfl (lv_at hl 0 rfl) ?_
  refine lv_iconst (v := 0) hx hb dX6_readLongest_1 (by decide) ?_
  refine va_put (D := D) (ci := 6) (v := .int 0) (ty := .int) (C := RX6) (T := TX6) (N := 13) hx hb hts inX6 tyX6 tyX6_ok nmX6 hown hKN.1 hP hD hS 0 rfl rfl 7 (by decide) (hts _ tw_234) (fun _ h9 => h9) rfl (by decide +kernel) rfl rfl (Nat.le_of_ble_eq_true rfl) dX6_readLongest_2 (fun H locs hP hD hS => ?_)
  have hP : va_P D vwCl [(h0, .inr (6, [.ref dr, .int r_firstFault, .int r_faultPlace, .ref tp, .int r_at, .int r_kind, .int r_begin, .int 0, .int r_line, .int r_taken, .int r_isWordDue, .int r_isTaking, .ref r_qnumbers])), (tp, .inr (9, [.ref t_qbytes, .int t_length])), (t_qbytes, .inl (cA 0, 800, .inl t_cbytes))] H := hP
  have hD : va_D A [(h0, .inr (6, [.ref dr, .int r_firstFault, .int r_faultPlace, .ref tp, .int r_at, .int r_kind, .int r_begin, .int 0, .int r_line, .int r_taken, .int r_isWordDue, .int r_isTaking, .ref r_qnumbers])), (tp, .inr (9, [.ref t_qbytes, .int t_length])), (t_qbytes, .inl (cA 0, 800, .inl t_cbytes))] := hD
  have b_265 := i32_bd r_at
  refine loopW (σ := Int32 × Int32) (fun _ => []) (fun ⟨F0_264, F1_264⟩ H locs ls => (F1_264.toInt ≤ 99999) ∧ va_P D vwCl [(h0, .inr (6, [.ref dr, .int r_firstFault, .int r_faultPlace, .ref tp, .int F0_264, .int r_kind, .int r_begin, .int F1_264, .int r_line, .int r_taken, .int r_isWordDue, .int r_isTaking, .ref r_qnumbers])), (tp, .inr (9, [.ref t_qbytes, .int t_length])), (t_qbytes, .inl (cA 0, 800, .inl t_cbytes))] H ∧ va_D A [(h0, .inr (6, [.ref dr, .int r_firstFault, .int r_faultPlace, .ref tp, .int F0_264, .int r_kind, .int r_begin, .int F1_264, .int r_line, .int r_taken, .int r_isWordDue, .int r_isTaking, .ref r_qnumbers])), (tp, .inr (9, [.ref t_qbytes, .int t_length])), (t_qbytes, .inl (cA 0, 800, .inl t_cbytes))] ∧ va_S A s.heap H locs ∧ lv_has ls 1 [(0, .ref h0)]) (fun ⟨F0_264, F1_264⟩ => (2147483647 - F0_264.toInt).toNat) ?_ ((r_at, 0) : Int32 × Int32) ⟨(by decide), hP, hD, hS, hl⟩
  intro x_264 H locs ls hI_264 ih_264
  obtain ⟨F0_264, F1_264⟩ := x_264
  obtain ⟨k0_264, hP, hD, hS, hl⟩ := hI_264
  have hP : va_P D vwCl [(h0, .inr (6, [.ref dr, .int r_firstFault, .int r_faultPlace, .ref tp, .int F0_264, .int r_kind, .int r_begin, .int F1_264, .int r_line, .int r_taken, .int r_isWordDue, .int r_isTaking, .ref r_qnumbers])), (tp, .inr (9, [.ref t_qbytes, .int t_length])), (t_qbytes, .inl (cA 0, 800, .inl t_cbytes))] H := hP
  have hD : va_D A [(h0, .inr (6, [.ref dr, .int r_firstFault, .int r_faultPlace, .ref tp, .int F0_264, .int r_kind, .int r_begin, .int F1_264, .int r_line, .int r_taken, .int r_isWordDue, .int r_isTaking, .ref r_qnumbers])), (tp, .inr (9, [.ref t_qbytes, .int t_length])), (t_qbytes, .inl (cA 0, 800, .inl t_cbytes))] := hD
  have hl : lv_has ls 1 [(0, .ref h0)] := hl
  refine lv_aload_n hx hb dX6_readLongest_5 rfl (lv_at hl 0 rfl) ?_
  refine va_get (D := D) (ci := 6) (v := .int F0_264) (C := RX6) (T := TX6) (N := 13) hx hb hts inX6 hown hKN.1 hP 0 rfl rfl 4 (by decide) (hts _ tw_231) (fun _ h9 => h9) rfl dX6_readLongest_6 ?_
  refine lv_aload_n hx hb dX6_readLongest_9 rfl (lv_at hl 0 rfl) ?_
  refine va_get (D := D) (ci := 6) (v := .ref tp) (C := RX6) (T := TX6) (N := 13) hx hb hts inX6 hown hKN.1 hP 0 rfl rfl 3 (by decide) (hts _ tw_230) (fun _ h9 => h9) rfl dX6_readLongest_10 ?_
  refine va_get (D := D) (ci := 9) (v := .int t_length) (C := RX9) (T := TX9) (N := 2) hx hb hts inX9 hown hKN.1 hP 1 rfl rfl 1 (by decide) (hts _ tw_139) (fun _ h9 => h9) rfl dX6_readLongest_13 ?_
  refine lv_icmp_ge (tgt := 84) hx hb dX6_readLongest_16 (by decide) (fun c_266 => ?_) (fun c_266 => ?_)
  · skip
    have b_268 := i32_bd F0_264
    have k_267 := kk_le rfl rfl c_266
    have hP9 := hP.sub (ws' := [(h0, .inr (6, [.ref dr, .int r_firstFault, .int r_faultPlace, .ref tp, .int F0_264, .int r_kind, .int r_begin, .int F1_264, .int r_line, .int r_taken, .int r_isWordDue, .int r_isTaking, .ref r_qnumbers])), (tp, .inr (9, [.ref t_qbytes, .int t_length])), (t_qbytes, .inl (cA 0, 800, .inl t_cbytes))]) [0, 1, 2] rfl
    have hD9 := hD.sub (ws' := [(h0, .inr (6, [.ref dr, .int r_firstFault, .int r_faultPlace, .ref tp, .int F0_264, .int r_kind, .int r_begin, .int F1_264, .int r_line, .int r_taken, .int r_isWordDue, .int r_isTaking, .ref r_qnumbers])), (tp, .inr (9, [.ref t_qbytes, .int t_length])), (t_qbytes, .inl (cA 0, 800, .inl t_cbytes))]) [0, 1, 2] (by decide) rfl
    exact W.vret hx hb hr (fun t ht hW => ⟨⟨((fun _ => 0), (selI [F0_264, F1_264]), (fun _ _ => 0), (fun _ _ => 0)), rfl, (show F1_264.toInt ≤ 99999 from by omega), by rw [ht]; exact hP9, hD9⟩, hS.F ht⟩) hS.2.2 dX6_readLongest_84
  · skip
    have b_270 := i32_bd F0_264
    have k_269 := kk_nle rfl rfl c_266
    refine lv_aload_n hx hb dX6_readLongest_19 rfl (lv_at hl 0 rfl) ?_
    refine va_get (D := D) (ci := 6) (v := .ref tp) (C := RX6) (T := TX6) (N := 13) hx hb hts inX6 hown hKN.1 hP 0 rfl rfl 3 (by decide) (hts _ tw_230) (fun _ h9 => h9) rfl dX6_readLongest_20 ?_
    refine lv_aload_n hx hb dX6_readLongest_23 rfl (lv_at hl 0 rfl) ?_
    refine va_get (D := D) (ci := 6) (v := .int F0_264) (C := RX6) (T := TX6) (N := 13) hx hb hts inX6 hown hKN.1 hP 0 rfl rfl 4 (by decide) (hts _ tw_231) (fun _ h9 => h9) rfl dX6_readLongest_24 ?_
    refine cpVi (rest := []) ⟨hx, hb, hml, hown, hts⟩ hKN (hP.sub (ws' := [(tp, .inr (9, [.ref t_qbytes, .int t_length])), (t_qbytes, .inl (cA 0, 800, .inl t_cbytes))]) [1, 2] rfl) (g_X9_byteAt l D cA tp t_qbytes t_length t_cbytes F0_264 (by omega)) (tb_V tw_538 tw_539 tw_540 tw_102 tw_541) hdX9_byteAt ⟨rfl, rfl, Nat.le_of_ble_eq_true rfl, Nat.le_of_ble_eq_true rfl⟩ ⟨Nat.le_of_ble_eq_true rfl, Nat.le_of_ble_eq_true rfl⟩ rfl rfl rfl hl.1 rfl (Nat.le_of_ble_eq_true rfl) dX6_readLongest_27 (fun r_271 hr_271 => ?_)
    refine cpSi (rest := []) ⟨hx, hb, hml, hown, hts⟩ hKN (hP.sub (ws' := []) [] rfl) (g_X6_kindOf l D cA r_271) (tb_S tw_545 tw_546 tw_103 tw_547) hdX6_kindOf ⟨rfl, rfl, Nat.le_of_ble_eq_true rfl, Nat.le_of_ble_eq_true rfl⟩ ⟨Nat.le_of_ble_eq_true rfl, Nat.le_of_ble_eq_true rfl⟩ rfl hl.1 rfl (Nat.le_of_ble_eq_true rfl) dX6_readLongest_30 (fun r_272 hr_272 => ?_)
    refine lv_aload_n hx hb dX6_readLongest_33 rfl (lv_at hl 0 rfl) ?_
    refine va_get (D := D) (ci := 6) (v := .int r_kind) (C := RX6) (T := TX6) (N := 13) hx hb hts inX6 hown hKN.1 hP 0 rfl rfl 5 (by decide) (hts _ tw_232) (fun _ h9 => h9) rfl dX6_readLongest_34 ?_
    refine lv_icmp_ne (tgt := 84) hx hb dX6_readLongest_37 (by decide) (fun c_273 => ?_) (fun c_273 => ?_)
    · skip
      have b_275 := i32_bd r_kind
      have k_274 := kk_ne rfl rfl c_273
      have hP9 := hP.sub (ws' := [(h0, .inr (6, [.ref dr, .int r_firstFault, .int r_faultPlace, .ref tp, .int F0_264, .int r_kind, .int r_begin, .int F1_264, .int r_line, .int r_taken, .int r_isWordDue, .int r_isTaking, .ref r_qnumbers])), (tp, .inr (9, [.ref t_qbytes, .int t_length])), (t_qbytes, .inl (cA 0, 800, .inl t_cbytes))]) [0, 1, 2] rfl
      have hD9 := hD.sub (ws' := [(h0, .inr (6, [.ref dr, .int r_firstFault, .int r_faultPlace, .ref tp, .int F0_264, .int r_kind, .int r_begin, .int F1_264, .int r_line, .int r_taken, .int r_isWordDue, .int r_isTaking, .ref r_qnumbers])), (tp, .inr (9, [.ref t_qbytes, .int t_length])), (t_qbytes, .inl (cA 0, 800, .inl t_cbytes))]) [0, 1, 2] (by decide) rfl
      exact W.vret hx hb hr (fun t ht hW => ⟨⟨((fun _ => 0), (selI [F0_264, F1_264]), (fun _ _ => 0), (fun _ _ => 0)), rfl, (show F1_264.toInt ≤ 99999 from by omega), by rw [ht]; exact hP9, hD9⟩, hS.F ht⟩) hS.2.2 dX6_readLongest_84
    · skip
      have b_277 := i32_bd r_kind
      have k_276 := kk_eq rfl rfl c_273
      refine lv_aload_n hx hb dX6_readLongest_40 rfl (lv_at hl 0 rfl) ?_
      refine lv_ldc (v := 99999) hx hb hown (hts _ tw_553) dX6_readLongest_41 ?_
      refine lv_bipush (v := 10) hx hb dX6_readLongest_43 (by decide) ?_
      refine lv_aload_n hx hb dX6_readLongest_45 rfl (lv_at hl 0 rfl) ?_
      refine va_get (D := D) (ci := 6) (v := .int F1_264) (C := RX6) (T := TX6) (N := 13) hx hb hts inX6 hown hKN.1 hP 0 rfl rfl 7 (by decide) (hts _ tw_234) (fun _ h9 => h9) rfl dX6_readLongest_46 ?_
      refine lv_imul hx hb dX6_readLongest_49 ?_
      refine lv_topi (fun x_278 ex_278 => ?_)
      refine lv_aload_n hx hb dX6_readLongest_50 rfl (lv_at hl 0 rfl) ?_
      refine va_get (D := D) (ci := 6) (v := .ref tp) (C := RX6) (T := TX6) (N := 13) hx hb hts inX6 hown hKN.1 hP 0 rfl rfl 3 (by decide) (hts _ tw_230) (fun _ h9 => h9) rfl dX6_readLongest_51 ?_
      refine lv_aload_n hx hb dX6_readLongest_54 rfl (lv_at hl 0 rfl) ?_
      refine va_get (D := D) (ci := 6) (v := .int F0_264) (C := RX6) (T := TX6) (N := 13) hx hb hts inX6 hown hKN.1 hP 0 rfl rfl 4 (by decide) (hts _ tw_231) (fun _ h9 => h9) rfl dX6_readLongest_55 ?_
      refine cpVi (rest := [.int x_278, .int 99999, .ref h0]) ⟨hx, hb, hml, hown, hts⟩ hKN (hP.sub (ws' := [(tp, .inr (9, [.ref t_qbytes, .int t_length])), (t_qbytes, .inl (cA 0, 800, .inl t_cbytes))]) [1, 2] rfl) (g_X9_byteAt l D cA tp t_qbytes t_length t_cbytes F0_264 (by omega)) (tb_V tw_538 tw_539 tw_540 tw_102 tw_541) hdX9_byteAt ⟨rfl, rfl, Nat.le_of_ble_eq_true rfl, Nat.le_of_ble_eq_true rfl⟩ ⟨Nat.le_of_ble_eq_true rfl, Nat.le_of_ble_eq_true rfl⟩ rfl rfl rfl hl.1 rfl (Nat.le_of_ble_eq_true rfl) dX6_readLongest_58 (fun r_280 hr_280 => ?_)
      refine lv_iadd hx hb dX6_readLongest_61 ?_
      refine lv_topi (fun x_281 ex_281 => ?_)
      refine lv_bipush (v := 48) hx hb dX6_readLongest_62 (by decide) ?_
      refine lv_isub hx hb dX6_readLongest_64 ?_
      refine lv_topi (fun x_283 ex_283 => ?_)
      have z_285 := zi_99999
      refine cpSi (rest := [.ref h0]) ⟨hx, hb, hml, hown, hts⟩ hKN (hP.sub (ws' := []) [] rfl) (g_J9_min_7cf53 l D cA 99999 x_283) (tb_S tw_554 tw_555 tw_115 tw_556) hdJ9_min_7cf53 ⟨rfl, rfl, Nat.le_of_ble_eq_true rfl, Nat.le_of_ble_eq_true rfl⟩ ⟨Nat.le_of_ble_eq_true rfl, Nat.le_of_ble_eq_true rfl⟩ rfl hl.1 rfl (Nat.le_of_ble_eq_true rfl) dX6_readLongest_65 (fun r_286 hr_286 => ?_)
      obtain ⟨k_286_0_0, k_286_0_1, k_286_0_2⟩ := hr_286
      refine va_put (D := D) (ci := 6) (v := .int r_286) (ty := .int) (C := RX6) (T := TX6) (N := 13) hx hb hts inX6 tyX6 tyX6_ok nmX6 hown hKN.1 hP hD hS 0 rfl rfl 7 (by decide) (hts _ tw_234) (fun _ h9 => h9) rfl (by decide +kernel) rfl rfl (Nat.le_of_ble_eq_true rfl) dX6_readLongest_68 (fun H locs hP hD hS => ?_)
      have hP : va_P D vwCl [(h0, .inr (6, [.ref dr, .int r_firstFault, .int r_faultPlace, .ref tp, .int F0_264, .int r_kind, .int r_begin, .int r_286, .int r_line, .int r_taken, .int r_isWordDue, .int r_isTaking, .ref r_qnumbers])), (tp, .inr (9, [.ref t_qbytes, .int t_length])), (t_qbytes, .inl (cA 0, 800, .inl t_cbytes))] H := hP
      have hD : va_D A [(h0, .inr (6, [.ref dr, .int r_firstFault, .int r_faultPlace, .ref tp, .int F0_264, .int r_kind, .int r_begin, .int r_286, .int r_line, .int r_taken, .int r_isWordDue, .int r_isTaking, .ref r_qnumbers])), (tp, .inr (9, [.ref t_qbytes, .int t_length])), (t_qbytes, .inl (cA 0, 800, .inl t_cbytes))] := hD
      refine lv_aload_n hx hb dX6_readLongest_71 rfl (lv_at hl 0 rfl) ?_
      refine lv_dup hx hb dX6_readLongest_72 rfl ?_
      refine va_get (D := D) (ci := 6) (v := .int F0_264) (C := RX6) (T := TX6) (N := 13) hx hb hts inX6 hown hKN.1 hP 0 rfl rfl 4 (by decide) (hts _ tw_231) (fun _ h9 => h9) rfl dX6_readLongest_73 ?_
      refine lv_iconst (v := 1) hx hb dX6_readLongest_76 (by decide) ?_
      refine lv_iadd hx hb dX6_readLongest_77 ?_
      refine lv_topi (fun x_287 ex_287 => ?_)
      have k_288 := ar_add rfl zi_1 ex_287 (by omega) (by omega)
      refine va_put (D := D) (ci := 6) (v := .int x_287) (ty := .int) (C := RX6) (T := TX6) (N := 13) hx hb hts inX6 tyX6 tyX6_ok nmX6 hown hKN.1 hP hD hS 0 rfl rfl 4 (by decide) (hts _ tw_231) (fun _ h9 => h9) rfl (by decide +kernel) rfl rfl (Nat.le_of_ble_eq_true rfl) dX6_readLongest_78 (fun H locs hP hD hS => ?_)
      have hP : va_P D vwCl [(h0, .inr (6, [.ref dr, .int r_firstFault, .int r_faultPlace, .ref tp, .int x_287, .int r_kind, .int r_begin, .int r_286, .int r_line, .int r_taken, .int r_isWordDue, .int r_isTaking, .ref r_qnumbers])), (tp, .inr (9, [.ref t_qbytes, .int t_length])), (t_qbytes, .inl (cA 0, 800, .inl t_cbytes))] H := hP
      have hD : va_D A [(h0, .inr (6, [.ref dr, .int r_firstFault, .int r_faultPlace, .ref tp, .int x_287, .int r_kind, .int r_begin, .int r_286, .int r_line, .int r_taken, .int r_isWordDue, .int r_isTaking, .ref r_qnumbers])), (tp, .inr (9, [.ref t_qbytes, .int t_length])), (t_qbytes, .inl (cA 0, 800, .inl t_cbytes))] := hD
      refine lv_goto (tgt := 5) hx hb dX6_readLongest_81 (by decide) ?_
      exact ih_264 (x_287, r_286) _ _ _ ⟨(show r_286.toInt ≤ 99999 from by omega), hP.sub [0, 1, 2] rfl, hD.sub [0, 1, 2] (by decide) rfl, hS, lv_sub hl [0] rfl⟩ (by show (2147483647 - x_287.toInt).toNat < (2147483647 - F0_264.toInt).toNat; omega)
set_option maxHeartbeats 8000000 in
set_option maxRecDepth 100000 in
theorem g_X6_readToken (l : Launch) (D : va_G) (cA : Nat → ClassId) (sz : Nat) (h0 : Nat) (dr : Nat) (r_firstFault : Int32) (r_faultPlace : Int32) (tp : Nat) (r_at : Int32) (r_kind : Int32) (r_begin : Int32) (r_value : Int32) (r_line : Int32) (r_taken : Int32) (r_isWordDue : Int32) (r_isTaking : Int32) (r_qnumbers : Nat) (t_qbytes : Nat) (t_length : Int32) (t_cbytes : Nat → Int32) (h_t_length : 0 ≤ (t_length : Int32).toInt ∧ (t_length : Int32).toInt ≤ 800) : Met l yX6_readToken (Cond.code yX6_readToken cX6_readToken 1 none :: TB) (rmd 3 0 0) (PM D cA sz [(h0, .inr (6, [.ref dr, .int r_firstFault, .int r_faultPlace, .ref tp, .int r_at, .int r_kind, .int r_begin, .int r_value, .int r_line, .int r_taken, .int r_isWordDue, .int r_isTaking, .ref r_qnumbers])), (tp, .inr (9, [.ref t_qbytes, .int t_length])), (t_qbytes, .inl (cA 0, 800, .inl t_cbytes))] [.ref h0]) (va_Qv (fun (u : SU) => (0 ≤ (u.2.1 1).toInt ∧ (u.2.1 1).toInt ≤ 4)) (fun u t => va_P D vwCl [(h0, .inr (6, [.ref dr, .int r_firstFault, .int r_faultPlace, .ref tp, .int (u.2.1 0), .int (u.2.1 1), .int (u.2.1 2), .int (u.2.1 3), .int r_line, .int r_taken, .int r_isWordDue, .int r_isTaking, .ref r_qnumbers])), (tp, .inr (9, [.ref t_qbytes, .int t_length])), (t_qbytes, .inl (cA 0, 800, .inl t_cbytes))] t.heap ∧ va_D (va_A [(h0, .inr (6, [.ref dr, .int r_firstFault, .int r_faultPlace, .ref tp, .int r_at, .int r_kind, .int r_begin, .int r_value, .int r_line, .int r_taken, .int r_isWordDue, .int r_isTaking, .ref r_qnumbers])), (tp, .inr (9, [.ref t_qbytes, .int t_length])), (t_qbytes, .inl (cA 0, 800, .inl t_cbytes))] sz) [(h0, .inr (6, [.ref dr, .int r_firstFault, .int r_faultPlace, .ref tp, .int (u.2.1 0), .int (u.2.1 1), .int (u.2.1 2), .int (u.2.1 3), .int r_line, .int r_taken, .int r_isWordDue, .int r_isTaking, .ref r_qnumbers])), (tp, .inr (9, [.ref t_qbytes, .int t_length])), (t_qbytes, .inl (cA 0, 800, .inl t_cbytes))]) (va_A [(h0, .inr (6, [.ref dr, .int r_firstFault, .int r_faultPlace, .ref tp, .int r_at, .int r_kind, .int r_begin, .int r_value, .int r_line, .int r_taken, .int r_isWordDue, .int r_isTaking, .ref r_qnumbers])), (tp, .inr (9, [.ref t_qbytes, .int t_length])), (t_qbytes, .inl (cA 0, 800, .inl t_cbytes))] sz)) 0 0 (va_A [(h0, .inr (6, [.ref dr, .int r_firstFault, .int r_faultPlace, .ref tp, .int r_at, .int r_kind, .int r_begin, .int r_value, .int r_line, .int r_taken, .int r_isWordDue, .int r_isTaking, .ref r_qnumbers])), (tp, .inr (9, [.ref t_qbytes, .int t_length])), (t_qbytes, .inl (cA 0, 800, .inl t_cbytes))] sz) := by
  refine Met.ofW (cc := cX6_readToken) (maxL := 1) (ret := none) (by decide) rfl ?_
  intro p e s m args below meth c s₁ B hml hv
  obtain ⟨rfl, hsz, hP, hKN, hD0⟩ := hv
  have hx := B.exec
  have hb := B.bytes
  have hr := B.returns
  have hts : ∀ w ∈ TB, w.before _ s = true := fun w h => atoms_spec B.pre w (List.mem_cons_of_mem _ h)
  have hown : s.vm.findClass RX6 = some m.cls := findClass_of_methodNamed B.named
  have hlocks := B.notSynchronized
  subst hsz
  have hD := hD0.self (sz := s.heap.size)
  generalize hAe : va_A [(h0, .inr (6, [.ref dr, .int r_firstFault, .int r_faultPlace, .ref tp, .int r_at, .int r_kind, .int r_begin, .int r_value, .int r_line, .int r_taken, .int r_isWordDue, .int r_isTaking, .ref r_qnumbers])), (tp, .inr (9, [.ref t_qbytes, .int t_length])), (t_qbytes, .inl (cA 0, 800, .inl t_cbytes))] s.heap.size = A at hD ⊢
  have hA : ∀ q : Nat, s.heap.size ≤ q → A q := fun q h => by rw [← hAe]; exact Or.inr h
  have hS : va_S A s.heap s.heap [] := va_S.rf
  have hl := lv_entry ([.ref h0]) (n := 1) (Nat.le_of_ble_eq_true rfl)
  rw [lg_entry_eq]
  generalize (lg_sl ([.ref h0]) ++ List.replicate (1 - (lg_sl ([.ref h0])).length) Slot.unset).toArray = ls at hl ⊢
  have hl : lv_has ls 1 [(0, .ref h0)] := hl
  have b_28 := i32_bd r_at
  refine loopW (σ := Int32) (fun _ => []) (fun F0_27 H locs ls => va_P D vwCl [(h0, .inr (6, [.ref dr, .int r_firstFault, .int r_faultPlace, .ref tp, .int F0_27, .int r_kind, .int r_begin, .int r_value, .int r_line, .int r_taken, .int r_isWordDue, .int r_isTaking, .ref r_qnumbers])), (tp, .inr (9, [.ref t_qbytes, .int t_length])), (t_qbytes, .inl (cA 0, 800, .inl t_cbytes))] H ∧ va_D A [(h0, .inr (6, [.ref dr, .int r_firstFault, .int r_faultPlace, .ref tp, .int F0_27, .int r_kind, .int r_begin, .int r_value, .int r_line, .int r_taken, .int r_isWordDue, .int r_isTaking, .ref r_qnumbers])), (tp, .inr (9, [.ref t_qbytes, .int t_length])), (t_qbytes, .inl (cA 0, 800, .inl t_cbytes))] ∧ va_S A s.heap H locs ∧ lv_has ls 1 [(0, .ref h0)]) (fun F0_27 => (2147483647 - F0_27.toInt).toNat) ?_ (r_at : Int32) ⟨hP, hD, hS, hl⟩
  intro x_27 H locs ls hI_27 ih_27
  obtain ⟨F0_27, rfl⟩ : ∃ z, z = x_27 := ⟨_, rfl⟩
  obtain ⟨hP, hD, hS, hl⟩ := hI_27
  have hP : va_P D vwCl [(h0, .inr (6, [.ref dr, .int r_firstFault, .int r_faultPlace, .ref tp, .int F0_27, .int r_kind, .int r_begin, .int r_value, .int r_line, .int r_taken, .int r_isWordDue, .int r_isTaking, .ref r_qnumbers])), (tp, .inr (9, [.ref t_qbytes, .int t_length])), (t_qbytes, .inl (cA 0, 800, .inl t_cbytes))] H := hP
  have hD : va_D A [(h0, .inr (6, [.ref dr, .int r_firstFault, .int r_faultPlace, .ref tp, .int F0_27, .int r_kind, .int r_begin, .int r_value, .int r_line, .int r_taken, .int r_isWordDue, .int r_isTaking, .ref r_qnumbers])), (tp, .inr (9, [.ref t_qbytes, .int t_length])), (t_qbytes, .inl (cA 0, 800, .inl t_cbytes))] := hD
  have hl : lv_has ls 1 [(0, .ref h0)] := hl
  refine lv_aload_n hx hb dX6_readToken_0 rfl (lv_at hl 0 rfl) ?_
  refine va_get (D := D) (ci := 6) (v := .int F0_27) (C := RX6) (T := TX6) (N := 13) hx hb hts inX6 hown hKN.1 hP 0 rfl rfl 4 (by decide) (hts _ tw_231) (fun _ h9 => h9) rfl dX6_readToken_1 ?_
  refine lv_aload_n hx hb dX6_readToken_4 rfl (lv_at hl 0 rfl) ?_
  refine va_get (D := D) (ci := 6) (v := .ref tp) (C := RX6) (T := TX6) (N := 13) hx hb hts inX6 hown hKN.1 hP 0 rfl rfl 3 (by decide) (hts _ tw_230) (fun _ h9 => h9) rfl dX6_readToken_5 ?_
  refine va_get (D := D) (ci := 9) (v := .int t_length) (C := RX9) (T := TX9) (N := 2) hx hb hts inX9 hown hKN.1 hP 1 rfl rfl 1 (by decide) (hts _ tw_139) (fun _ h9 => h9) rfl dX6_readToken_8 ?_
  refine lv_icmp_ge (tgt := 44) hx hb dX6_readToken_11 (by decide) (fun c_29 => ?_) (fun c_29 => ?_)
  · skip
    have b_31 := i32_bd F0_27
    have k_30 := kk_le rfl rfl c_29
    refine lv_aload_n hx hb dX6_readToken_44 rfl (lv_at hl 0 rfl) ?_
    refine lv_aload_n hx hb dX6_readToken_45 rfl (lv_at hl 0 rfl) ?_
    refine va_get (D := D) (ci := 6) (v := .int F0_27) (C := RX6) (T := TX6) (N := 13) hx hb hts inX6 hown hKN.1 hP 0 rfl rfl 4 (by decide) (hts _ tw_231) (fun _ h9 => h9) rfl dX6_readToken_46 ?_
    refine va_put (D := D) (ci := 6) (v := .int F0_27) (ty := .int) (C := RX6) (T := TX6) (N := 13) hx hb hts inX6 tyX6 tyX6_ok nmX6 hown hKN.1 hP hD hS 0 rfl rfl 6 (by decide) (hts _ tw_233) (fun _ h9 => h9) rfl (by decide +kernel) rfl rfl (Nat.le_of_ble_eq_true rfl) dX6_readToken_49 (fun H locs hP hD hS => ?_)
    have hP : va_P D vwCl [(h0, .inr (6, [.ref dr, .int r_firstFault, .int r_faultPlace, .ref tp, .int F0_27, .int r_kind, .int F0_27, .int r_value, .int r_line, .int r_taken, .int r_isWordDue, .int r_isTaking, .ref r_qnumbers])), (tp, .inr (9, [.ref t_qbytes, .int t_length])), (t_qbytes, .inl (cA 0, 800, .inl t_cbytes))] H := hP
    have hD : va_D A [(h0, .inr (6, [.ref dr, .int r_firstFault, .int r_faultPlace, .ref tp, .int F0_27, .int r_kind, .int F0_27, .int r_value, .int r_line, .int r_taken, .int r_isWordDue, .int r_isTaking, .ref r_qnumbers])), (tp, .inr (9, [.ref t_qbytes, .int t_length])), (t_qbytes, .inl (cA 0, 800, .inl t_cbytes))] := hD
    refine lv_aload_n hx hb dX6_readToken_52 rfl (lv_at hl 0 rfl) ?_
    refine lv_aload_n hx hb dX6_readToken_53 rfl (lv_at hl 0 rfl) ?_
    refine va_get (D := D) (ci := 6) (v := .ref tp) (C := RX6) (T := TX6) (N := 13) hx hb hts inX6 hown hKN.1 hP 0 rfl rfl 3 (by decide) (hts _ tw_230) (fun _ h9 => h9) rfl dX6_readToken_54 ?_
    refine lv_aload_n hx hb dX6_readToken_57 rfl (lv_at hl 0 rfl) ?_
    refine va_get (D := D) (ci := 6) (v := .int F0_27) (C := RX6) (T := TX6) (N := 13) hx hb hts inX6 hown hKN.1 hP 0 rfl rfl 4 (by decide) (hts _ tw_231) (fun _ h9 => h9) rfl dX6_readToken_58 ?_
    refine cpVi (rest := [.ref h0]) ⟨hx, hb, hml, hown, hts⟩ hKN (hP.sub (ws' := [(tp, .inr (9, [.ref t_qbytes, .int t_length])), (t_qbytes, .inl (cA 0, 800, .inl t_cbytes))]) [1, 2] rfl) (g_X9_byteAt l D cA tp t_qbytes t_length t_cbytes F0_27 (by omega)) (tb_V tw_538 tw_539 tw_540 tw_102 tw_541) hdX9_byteAt ⟨rfl, rfl, Nat.le_of_ble_eq_true rfl, Nat.le_of_ble_eq_true rfl⟩ ⟨Nat.le_of_ble_eq_true rfl, Nat.le_of_ble_eq_true rfl⟩ rfl rfl rfl hl.1 rfl (Nat.le_of_ble_eq_true rfl) dX6_readToken_61 (fun r_32 hr_32 => ?_)
    refine cpSi (rest := [.ref h0]) ⟨hx, hb, hml, hown, hts⟩ hKN (hP.sub (ws' := []) [] rfl) (g_X6_kindOf l D cA r_32) (tb_S tw_545 tw_546 tw_103 tw_547) hdX6_kindOf ⟨rfl, rfl, Nat.le_of_ble_eq_true rfl, Nat.le_of_ble_eq_true rfl⟩ ⟨Nat.le_of_ble_eq_true rfl, Nat.le_of_ble_eq_true rfl⟩ rfl hl.1 rfl (Nat.le_of_ble_eq_true rfl) dX6_readToken_64 (fun r_33 hr_33 => ?_)
    refine va_put (D := D) (ci := 6) (v := .int r_33) (ty := .int) (C := RX6) (T := TX6) (N := 13) hx hb hts inX6 tyX6 tyX6_ok nmX6 hown hKN.1 hP hD hS 0 rfl rfl 5 (by decide) (hts _ tw_232) (fun _ h9 => h9) rfl (by decide +kernel) rfl rfl (Nat.le_of_ble_eq_true rfl) dX6_readToken_67 (fun H locs hP hD hS => ?_)
    have hP : va_P D vwCl [(h0, .inr (6, [.ref dr, .int r_firstFault, .int r_faultPlace, .ref tp, .int F0_27, .int r_33, .int F0_27, .int r_value, .int r_line, .int r_taken, .int r_isWordDue, .int r_isTaking, .ref r_qnumbers])), (tp, .inr (9, [.ref t_qbytes, .int t_length])), (t_qbytes, .inl (cA 0, 800, .inl t_cbytes))] H := hP
    have hD : va_D A [(h0, .inr (6, [.ref dr, .int r_firstFault, .int r_faultPlace, .ref tp, .int F0_27, .int r_33, .int F0_27, .int r_value, .int r_line, .int r_taken, .int r_isWordDue, .int r_isTaking, .ref r_qnumbers])), (tp, .inr (9, [.ref t_qbytes, .int t_length])), (t_qbytes, .inl (cA 0, 800, .inl t_cbytes))] := hD
    refine lv_aload_n hx hb dX6_readToken_70 rfl (lv_at hl 0 rfl) ?_
    refine va_get (D := D) (ci := 6) (v := .int r_33) (C := RX6) (T := TX6) (N := 13) hx hb hts inX6 hown hKN.1 hP 0 rfl rfl 5 (by decide) (hts _ tw_232) (fun _ h9 => h9) rfl dX6_readToken_71 ?_
    refine lv_iconst (v := 1) hx hb dX6_readToken_74 (by decide) ?_
    refine lv_icmp_eq (tgt := 86) hx hb dX6_readToken_75 (by decide) (fun c_34 => ?_) (fun c_34 => ?_)
    · skip
      have k_35 := kk_eq rfl zi_1 c_34
      refine lv_aload_n hx hb dX6_readToken_86 rfl (lv_at hl 0 rfl) ?_
      refine cmVv (rest := []) (wsC := [(h0, .inr (6, [.ref dr, .int r_firstFault, .int r_faultPlace, .ref tp, .int F0_27, .int r_33, .int F0_27, .int r_value, .int r_line, .int r_taken, .int r_isWordDue, .int r_isTaking, .ref r_qnumbers])), (tp, .inr (9, [.ref t_qbytes, .int t_length])), (t_qbytes, .inl (cA 0, 800, .inl t_cbytes))]) (wr := []) ⟨hx, hb, hml, hown, hts⟩ hKN hP hD hS hA [0, 1, 2] [] rfl rfl (by decide) (by decide) (by decide) (g_X6_readLongest l D cA _ h0 dr r_firstFault r_faultPlace tp F0_27 r_33 F0_27 r_value r_line r_taken r_isWordDue r_isTaking r_qnumbers t_qbytes t_length t_cbytes (by omega)) (tb_V tw_549 tw_551 tw_1 tw_103 tw_552) hdX6_readLongest ⟨rfl, rfl, Nat.le_of_ble_eq_true rfl, Nat.le_of_ble_eq_true rfl⟩ ⟨Nat.le_of_ble_eq_true rfl, Nat.le_of_ble_eq_true rfl⟩ rfl rfl rfl hl.1 rfl (Nat.le_of_ble_eq_true rfl) dX6_readToken_87 (fun u_36 H locs hr_36 hP hD hS => ?_)
      have hP : va_P D vwCl [(h0, .inr (6, [.ref dr, .int r_firstFault, .int r_faultPlace, .ref tp, .int (u_36.2.1 0), .int r_33, .int F0_27, .int (u_36.2.1 1), .int r_line, .int r_taken, .int r_isWordDue, .int r_isTaking, .ref r_qnumbers])), (tp, .inr (9, [.ref t_qbytes, .int t_length])), (t_qbytes, .inl (cA 0, 800, .inl t_cbytes))] H := hP
      have hD : va_D A [(h0, .inr (6, [.ref dr, .int r_firstFault, .int r_faultPlace, .ref tp, .int (u_36.2.1 0), .int r_33, .int F0_27, .int (u_36.2.1 1), .int r_line, .int r_taken, .int r_isWordDue, .int r_isTaking, .ref r_qnumbers])), (tp, .inr (9, [.ref t_qbytes, .int t_length])), (t_qbytes, .inl (cA 0, 800, .inl t_cbytes))] := hD
      have hr_36_0 := hr_36
      refine lv_goto (tgt := 110) hx hb dX6_readToken_90 (by decide) ?_
      have hP9 := hP.sub (ws' := [(h0, .inr (6, [.ref dr, .int r_firstFault, .int r_faultPlace, .ref tp, .int (u_36.2.1 0), .int r_33, .int F0_27, .int (u_36.2.1 1), .int r_line, .int r_taken, .int r_isWordDue, .int r_isTaking, .ref r_qnumbers])), (tp, .inr (9, [.ref t_qbytes, .int t_length])), (t_qbytes, .inl (cA 0, 800, .inl t_cbytes))]) [0, 1, 2] rfl
      have hD9 := hD.sub (ws' := [(h0, .inr (6, [.ref dr, .int r_firstFault, .int r_faultPlace, .ref tp, .int (u_36.2.1 0), .int r_33, .int F0_27, .int (u_36.2.1 1), .int r_line, .int r_taken, .int r_isWordDue, .int r_isTaking, .ref r_qnumbers])), (tp, .inr (9, [.ref t_qbytes, .int t_length])), (t_qbytes, .inl (cA 0, 800, .inl t_cbytes))]) [0, 1, 2] (by decide) rfl
      exact W.vret hx hb hr (fun t ht hW => ⟨⟨((fun _ => 0), (selI [(u_36.2.1 0), r_33, F0_27, (u_36.2.1 1)]), (fun _ _ => 0), (fun _ _ => 0)), rfl, (show 0 ≤ r_33.toInt ∧ r_33.toInt ≤ 4 from by omega), by rw [ht]; exact hP9, hD9⟩, hS.F ht⟩) hS.2.2 dX6_readToken_110
    · skip
      have k_37 := kk_ne rfl zi_1 c_34
      refine lv_aload_n hx hb dX6_readToken_78 rfl (lv_at hl 0 rfl) ?_
      refine va_get (D := D) (ci := 6) (v := .int r_33) (C := RX6) (T := TX6) (N := 13) hx hb hts inX6 hown hKN.1 hP 0 rfl rfl 5 (by decide) (hts _ tw_232) (fun _ h9 => h9) rfl dX6_readToken_79 ?_
      refine lv_iconst (v := 2) hx hb dX6_readToken_82 (by decide) ?_
      refine lv_icmp_ne (tgt := 93) hx hb dX6_readToken_83 (by decide) (fun c_38 => ?_) (fun c_38 => ?_)
      · skip
        have k_39 := kk_ne rfl zi_2 c_38
        refine lv_aload_n hx hb dX6_readToken_93 rfl (lv_at hl 0 rfl) ?_
        refine va_get (D := D) (ci := 6) (v := .int r_33) (C := RX6) (T := TX6) (N := 13) hx hb hts inX6 hown hKN.1 hP 0 rfl rfl 5 (by decide) (hts _ tw_232) (fun _ h9 => h9) rfl dX6_readToken_94 ?_
        refine lv_if_eq (tgt := 110) hx hb dX6_readToken_97 (by decide) (fun c_40 => ?_) (fun c_40 => ?_)
        · skip
          have k_41 := kk_eq rfl zi_0 c_40
          have hP9 := hP.sub (ws' := [(h0, .inr (6, [.ref dr, .int r_firstFault, .int r_faultPlace, .ref tp, .int F0_27, .int r_33, .int F0_27, .int r_value, .int r_line, .int r_taken, .int r_isWordDue, .int r_isTaking, .ref r_qnumbers])), (tp, .inr (9, [.ref t_qbytes, .int t_length])), (t_qbytes, .inl (cA 0, 800, .inl t_cbytes))]) [0, 1, 2] rfl
          have hD9 := hD.sub (ws' := [(h0, .inr (6, [.ref dr, .int r_firstFault, .int r_faultPlace, .ref tp, .int F0_27, .int r_33, .int F0_27, .int r_value, .int r_line, .int r_taken, .int r_isWordDue, .int r_isTaking, .ref r_qnumbers])), (tp, .inr (9, [.ref t_qbytes, .int t_length])), (t_qbytes, .inl (cA 0, 800, .inl t_cbytes))]) [0, 1, 2] (by decide) rfl
          exact W.vret hx hb hr (fun t ht hW => ⟨⟨((fun _ => 0), (selI [F0_27, r_33, F0_27, r_value]), (fun _ _ => 0), (fun _ _ => 0)), rfl, (show 0 ≤ r_33.toInt ∧ r_33.toInt ≤ 4 from by omega), by rw [ht]; exact hP9, hD9⟩, hS.F ht⟩) hS.2.2 dX6_readToken_110
        · skip
          have k_42 := kk_ne rfl zi_0 c_40
          refine lv_aload_n hx hb dX6_readToken_100 rfl (lv_at hl 0 rfl) ?_
          refine lv_dup hx hb dX6_readToken_101 rfl ?_
          refine va_get (D := D) (ci := 6) (v := .int F0_27) (C := RX6) (T := TX6) (N := 13) hx hb hts inX6 hown hKN.1 hP 0 rfl rfl 4 (by decide) (hts _ tw_231) (fun _ h9 => h9) rfl dX6_readToken_102 ?_
          refine lv_iconst (v := 1) hx hb dX6_readToken_105 (by decide) ?_
          refine lv_iadd hx hb dX6_readToken_106 ?_
          refine lv_topi (fun x_43 ex_43 => ?_)
          refine va_put (D := D) (ci := 6) (v := .int x_43) (ty := .int) (C := RX6) (T := TX6) (N := 13) hx hb hts inX6 tyX6 tyX6_ok nmX6 hown hKN.1 hP hD hS 0 rfl rfl 4 (by decide) (hts _ tw_231) (fun _ h9 => h9) rfl (by decide +kernel) rfl rfl (Nat.le_of_ble_eq_true rfl) dX6_readToken_107 (fun H locs hP hD hS => ?_)
          have hP : va_P D vwCl [(h0, .inr (6, [.ref dr, .int r_firstFault, .int r_faultPlace, .ref tp, .int x_43, .int r_33, .int F0_27, .int r_value, .int r_line, .int r_taken, .int r_isWordDue, .int r_isTaking, .ref r_qnumbers])), (tp, .inr (9, [.ref t_qbytes, .int t_length])), (t_qbytes, .inl (cA 0, 800, .inl t_cbytes))] H := hP
          have hD : va_D A [(h0, .inr (6, [.ref dr, .int r_firstFault, .int r_faultPlace, .ref tp, .int x_43, .int r_33, .int F0_27, .int r_value, .int r_line, .int r_taken, .int r_isWordDue, .int r_isTaking, .ref r_qnumbers])), (tp, .inr (9, [.ref t_qbytes, .int t_length])), (t_qbytes, .inl (cA 0, 800, .inl t_cbytes))] := hD
          have hP9 := hP.sub (ws' := [(h0, .inr (6, [.ref dr, .int r_firstFault, .int r_faultPlace, .ref tp, .int x_43, .int r_33, .int F0_27, .int r_value, .int r_line, .int r_taken, .int r_isWordDue, .int r_isTaking, .ref r_qnumbers])), (tp, .inr (9, [.ref t_qbytes, .int t_length])), (t_qbytes, .inl (cA 0, 800, .inl t_cbytes))]) [0, 1, 2] rfl
          have hD9 := hD.sub (ws' := [(h0, .inr (6, [.ref dr, .int r_firstFault, .int r_faultPlace, .ref tp, .int x_43, .int r_33, .int F0_27, .int r_value, .int r_line, .int r_taken, .int r_isWordDue, .int r_isTaking, .ref r_qnumbers])), (tp, .inr (9, [.ref t_qbytes, .int t_length])), (t_qbytes, .inl (cA 0, 800, .inl t_cbytes))]) [0, 1, 2] (by decide) rfl
          exact W.vret hx hb hr (fun t ht hW => ⟨⟨((fun _ => 0), (selI [x_43, r_33, F0_27, r_value]), (fun _ _ => 0), (fun _ _ => 0)), rfl, (show 0 ≤ r_33.toInt ∧ r_33.toInt ≤ 4 from by omega), by rw [ht]; exact hP9, hD9⟩, hS.F ht⟩) hS.2.2 dX6_readToken_110
      · skip
        have k_45 := kk_eq rfl zi_2 c_38
        refine lv_aload_n hx hb dX6_readToken_86 rfl (lv_at hl 0 rfl) ?_
        refine cmVv (rest := []) (wsC := [(h0, .inr (6, [.ref dr, .int r_firstFault, .int r_faultPlace, .ref tp, .int F0_27, .int r_33, .int F0_27, .int r_value, .int r_line, .int r_taken, .int r_isWordDue, .int r_isTaking, .ref r_qnumbers])), (tp, .inr (9, [.ref t_qbytes, .int t_length])), (t_qbytes, .inl (cA 0, 800, .inl t_cbytes))]) (wr := []) ⟨hx, hb, hml, hown, hts⟩ hKN hP hD hS hA [0, 1, 2] [] rfl rfl (by decide) (by decide) (by decide) (g_X6_readLongest l D cA _ h0 dr r_firstFault r_faultPlace tp F0_27 r_33 F0_27 r_value r_line r_taken r_isWordDue r_isTaking r_qnumbers t_qbytes t_length t_cbytes (by omega)) (tb_V tw_549 tw_551 tw_1 tw_103 tw_552) hdX6_readLongest ⟨rfl, rfl, Nat.le_of_ble_eq_true rfl, Nat.le_of_ble_eq_true rfl⟩ ⟨Nat.le_of_ble_eq_true rfl, Nat.le_of_ble_eq_true rfl⟩ rfl rfl rfl hl.1 rfl (Nat.le_of_ble_eq_true rfl) dX6_readToken_87 (fun u_46 H locs hr_46 hP hD hS => ?_)
        have hP : va_P D vwCl [(h0, .inr (6, [.ref dr, .int r_firstFault, .int r_faultPlace, .ref tp, .int (u_46.2.1 0), .int r_33, .int F0_27, .int (u_46.2.1 1), .int r_line, .int r_taken, .int r_isWordDue, .int r_isTaking, .ref r_qnumbers])), (tp, .inr (9, [.ref t_qbytes, .int t_length])), (t_qbytes, .inl (cA 0, 800, .inl t_cbytes))] H := hP
        have hD : va_D A [(h0, .inr (6, [.ref dr, .int r_firstFault, .int r_faultPlace, .ref tp, .int (u_46.2.1 0), .int r_33, .int F0_27, .int (u_46.2.1 1), .int r_line, .int r_taken, .int r_isWordDue, .int r_isTaking, .ref r_qnumbers])), (tp, .inr (9, [.ref t_qbytes, .int t_length])), (t_qbytes, .inl (cA 0, 800, .inl t_cbytes))] := hD
        have hr_46_0 := hr_46
        refine lv_goto (tgt := 110) hx hb dX6_readToken_90 (by decide) ?_
        have hP9 := hP.sub (ws' := [(h0, .inr (6, [.ref dr, .int r_firstFault, .int r_faultPlace, .ref tp, .int (u_46.2.1 0), .int r_33, .int F0_27, .int (u_46.2.1 1), .int r_line, .int r_taken, .int r_isWordDue, .int r_isTaking, .ref r_qnumbers])), (tp, .inr (9, [.ref t_qbytes, .int t_length])), (t_qbytes, .inl (cA 0, 800, .inl t_cbytes))]) [0, 1, 2] rfl
        have hD9 := hD.sub (ws' := [(h0, .inr (6, [.ref dr, .int r_firstFault, .int r_faultPlace, .ref tp, .int (u_46.2.1 0), .int r_33, .int F0_27, .int (u_46.2.1 1), .int r_line, .int r_taken, .int r_isWordDue, .int r_isTaking, .ref r_qnumbers])), (tp, .inr (9, [.ref t_qbytes, .int t_length])), (t_qbytes, .inl (cA 0, 800, .inl t_cbytes))]) [0, 1, 2] (by decide) rfl
        exact W.vret hx hb hr (fun t ht hW => ⟨⟨((fun _ => 0), (selI [(u_46.2.1 0), r_33, F0_27, (u_46.2.1 1)]), (fun _ _ => 0), (fun _ _ => 0)), rfl, (show 0 ≤ r_33.toInt ∧ r_33.toInt ≤ 4 from by omega), by rw [ht]; exact hP9, hD9⟩, hS.F ht⟩) hS.2.2 dX6_readToken_110
  · skip
    have b_48 := i32_bd F0_27
    have k_47 := kk_nle rfl rfl c_29
    refine lv_aload_n hx hb dX6_readToken_14 rfl (lv_at hl 0 rfl) ?_
    refine va_get (D := D) (ci := 6) (v := .ref tp) (C := RX6) (T := TX6) (N := 13) hx hb hts inX6 hown hKN.1 hP 0 rfl rfl 3 (by decide) (hts _ tw_230) (fun _ h9 => h9) rfl dX6_readToken_15 ?_
    refine lv_aload_n hx hb dX6_readToken_18 rfl (lv_at hl 0 rfl) ?_
    refine va_get (D := D) (ci := 6) (v := .int F0_27) (C := RX6) (T := TX6) (N := 13) hx hb hts inX6 hown hKN.1 hP 0 rfl rfl 4 (by decide) (hts _ tw_231) (fun _ h9 => h9) rfl dX6_readToken_19 ?_
    refine cpVi (rest := []) ⟨hx, hb, hml, hown, hts⟩ hKN (hP.sub (ws' := [(tp, .inr (9, [.ref t_qbytes, .int t_length])), (t_qbytes, .inl (cA 0, 800, .inl t_cbytes))]) [1, 2] rfl) (g_X9_byteAt l D cA tp t_qbytes t_length t_cbytes F0_27 (by omega)) (tb_V tw_538 tw_539 tw_540 tw_102 tw_541) hdX9_byteAt ⟨rfl, rfl, Nat.le_of_ble_eq_true rfl, Nat.le_of_ble_eq_true rfl⟩ ⟨Nat.le_of_ble_eq_true rfl, Nat.le_of_ble_eq_true rfl⟩ rfl rfl rfl hl.1 rfl (Nat.le_of_ble_eq_true rfl) dX6_readToken_22 (fun r_49 hr_49 => ?_)
    refine cpSi (rest := []) ⟨hx, hb, hml, hown, hts⟩ hKN (hP.sub (ws' := []) [] rfl) (g_X6_isBlank l D cA r_49) (tb_S tw_542 tw_543 tw_103 tw_544) hdX6_isBlank ⟨rfl, rfl, Nat.le_of_ble_eq_true rfl, Nat.le_of_ble_eq_true rfl⟩ ⟨Nat.le_of_ble_eq_true rfl, Nat.le_of_ble_eq_true rfl⟩ rfl hl.1 rfl (Nat.le_of_ble_eq_true rfl) dX6_readToken_25 (fun r_50 hr_50 => ?_)
    refine lv_if_eq (tgt := 44) hx hb dX6_readToken_28 (by decide) (fun c_51 => ?_) (fun c_51 => ?_)
    · skip
      have k_52 := kk_eq rfl zi_0 c_51
      refine lv_aload_n hx hb dX6_readToken_44 rfl (lv_at hl 0 rfl) ?_
      refine lv_aload_n hx hb dX6_readToken_45 rfl (lv_at hl 0 rfl) ?_
      refine va_get (D := D) (ci := 6) (v := .int F0_27) (C := RX6) (T := TX6) (N := 13) hx hb hts inX6 hown hKN.1 hP 0 rfl rfl 4 (by decide) (hts _ tw_231) (fun _ h9 => h9) rfl dX6_readToken_46 ?_
      refine va_put (D := D) (ci := 6) (v := .int F0_27) (ty := .int) (C := RX6) (T := TX6) (N := 13) hx hb hts inX6 tyX6 tyX6_ok nmX6 hown hKN.1 hP hD hS 0 rfl rfl 6 (by decide) (hts _ tw_233) (fun _ h9 => h9) rfl (by decide +kernel) rfl rfl (Nat.le_of_ble_eq_true rfl) dX6_readToken_49 (fun H locs hP hD hS => ?_)
      have hP : va_P D vwCl [(h0, .inr (6, [.ref dr, .int r_firstFault, .int r_faultPlace, .ref tp, .int F0_27, .int r_kind, .int F0_27, .int r_value, .int r_line, .int r_taken, .int r_isWordDue, .int r_isTaking, .ref r_qnumbers])), (tp, .inr (9, [.ref t_qbytes, .int t_length])), (t_qbytes, .inl (cA 0, 800, .inl t_cbytes))] H := hP
      have hD : va_D A [(h0, .inr (6, [.ref dr, .int r_firstFault, .int r_faultPlace, .ref tp, .int F0_27, .int r_kind, .int F0_27, .int r_value, .int r_line, .int r_taken, .int r_isWordDue, .int r_isTaking, .ref r_qnumbers])), (tp, .inr (9, [.ref t_qbytes, .int t_length])), (t_qbytes, .inl (cA 0, 800, .inl t_cbytes))] := hD
      refine lv_aload_n hx hb dX6_readToken_52 rfl (lv_at hl 0 rfl) ?_
      refine lv_aload_n hx hb dX6_readToken_53 rfl (lv_at hl 0 rfl) ?_
      refine va_get (D := D) (ci := 6) (v := .ref tp) (C := RX6) (T := TX6) (N := 13) hx hb hts inX6 hown hKN.1 hP 0 rfl rfl 3 (by decide) (hts _ tw_230) (fun _ h9 => h9) rfl dX6_readToken_54 ?_
      refine lv_aload_n hx hb dX6_readToken_57 rfl (lv_at hl 0 rfl) ?_
      refine va_get (D := D) (ci := 6) (v := .int F0_27) (C := RX6) (T := TX6) (N := 13) hx hb hts inX6 hown hKN.1 hP 0 rfl rfl 4 (by decide) (hts _ tw_231) (fun _ h9 => h9) rfl dX6_readToken_58 ?_
      refine cpVi (rest := [.ref h0]) ⟨hx, hb, hml, hown, hts⟩ hKN (hP.sub (ws' := [(tp, .inr (9, [.ref t_qbytes, .int t_length])), (t_qbytes, .inl (cA 0, 800, .inl t_cbytes))]) [1, 2] rfl) (g_X9_byteAt l D cA tp t_qbytes t_length t_cbytes F0_27 (by omega)) (tb_V tw_538 tw_539 tw_540 tw_102 tw_541) hdX9_byteAt ⟨rfl, rfl, Nat.le_of_ble_eq_true rfl, Nat.le_of_ble_eq_true rfl⟩ ⟨Nat.le_of_ble_eq_true rfl, Nat.le_of_ble_eq_true rfl⟩ rfl rfl rfl hl.1 rfl (Nat.le_of_ble_eq_true rfl) dX6_readToken_61 (fun r_53 hr_53 => ?_)
      refine cpSi (rest := [.ref h0]) ⟨hx, hb, hml, hown, hts⟩ hKN (hP.sub (ws' := []) [] rfl) (g_X6_kindOf l D cA r_53) (tb_S tw_545 tw_546 tw_103 tw_547) hdX6_kindOf ⟨rfl, rfl, Nat.le_of_ble_eq_true rfl, Nat.le_of_ble_eq_true rfl⟩ ⟨Nat.le_of_ble_eq_true rfl, Nat.le_of_ble_eq_true rfl⟩ rfl hl.1 rfl (Nat.le_of_ble_eq_true rfl) dX6_readToken_64 (fun r_54 hr_54 => ?_)
      refine va_put (D := D) (ci := 6) (v := .int r_54) (ty := .int) (C := RX6) (T := TX6) (N := 13) hx hb hts inX6 tyX6 tyX6_ok nmX6 hown hKN.1 hP hD hS 0 rfl rfl 5 (by decide) (hts _ tw_232) (fun _ h9 => h9) rfl (by decide +kernel) rfl rfl (Nat.le_of_ble_eq_true rfl) dX6_readToken_67 (fun H locs hP hD hS => ?_)
      have hP : va_P D vwCl [(h0, .inr (6, [.ref dr, .int r_firstFault, .int r_faultPlace, .ref tp, .int F0_27, .int r_54, .int F0_27, .int r_value, .int r_line, .int r_taken, .int r_isWordDue, .int r_isTaking, .ref r_qnumbers])), (tp, .inr (9, [.ref t_qbytes, .int t_length])), (t_qbytes, .inl (cA 0, 800, .inl t_cbytes))] H := hP
      have hD : va_D A [(h0, .inr (6, [.ref dr, .int r_firstFault, .int r_faultPlace, .ref tp, .int F0_27, .int r_54, .int F0_27, .int r_value, .int r_line, .int r_taken, .int r_isWordDue, .int r_isTaking, .ref r_qnumbers])), (tp, .inr (9, [.ref t_qbytes, .int t_length])), (t_qbytes, .inl (cA 0, 800, .inl t_cbytes))] := hD
      refine lv_aload_n hx hb dX6_readToken_70 rfl (lv_at hl 0 rfl) ?_
      refine va_get (D := D) (ci := 6) (v := .int r_54) (C := RX6) (T := TX6) (N := 13) hx hb hts inX6 hown hKN.1 hP 0 rfl rfl 5 (by decide) (hts _ tw_232) (fun _ h9 => h9) rfl dX6_readToken_71 ?_
      refine lv_iconst (v := 1) hx hb dX6_readToken_74 (by decide) ?_
      refine lv_icmp_eq (tgt := 86) hx hb dX6_readToken_75 (by decide) (fun c_55 => ?_) (fun c_55 => ?_)
      · skip
        have k_56 := kk_eq rfl zi_1 c_55
        refine lv_aload_n hx hb dX6_readToken_86 rfl (lv_at hl 0 rfl) ?_
        refine cmVv (rest := []) (wsC := [(h0, .inr (6, [.ref dr, .int r_firstFault, .int r_faultPlace, .ref tp, .int F0_27, .int r_54, .int F0_27, .int r_value, .int r_line, .int r_taken, .int r_isWordDue, .int r_isTaking, .ref r_qnumbers])), (tp, .inr (9, [.ref t_qbytes, .int t_length])), (t_qbytes, .inl (cA 0, 800, .inl t_cbytes))]) (wr := []) ⟨hx, hb, hml, hown, hts⟩ hKN hP hD hS hA [0, 1, 2] [] rfl rfl (by decide) (by decide) (by decide) (g_X6_readLongest l D cA _ h0 dr r_firstFault r_faultPlace tp F0_27 r_54 F0_27 r_value r_line r_taken r_isWordDue r_isTaking r_qnumbers t_qbytes t_length t_cbytes (by omega)) (tb_V tw_549 tw_551 tw_1 tw_103 tw_552) hdX6_readLongest ⟨rfl, rfl, Nat.le_of_ble_eq_true rfl, Nat.le_of_ble_eq_true rfl⟩ ⟨Nat.le_of_ble_eq_true rfl, Nat.le_of_ble_eq_true rfl⟩ rfl rfl rfl hl.1 rfl (Nat.le_of_ble_eq_true rfl) dX6_readToken_87 (fun u_57 H locs hr_57 hP hD hS => ?_)
        have hP : va_P D vwCl [(h0, .inr (6, [.ref dr, .int r_firstFault, .int r_faultPlace, .ref tp, .int (u_57.2.1 0), .int r_54, .int F0_27, .int (u_57.2.1 1), .int r_line, .int r_taken, .int r_isWordDue, .int r_isTaking, .ref r_qnumbers])), (tp, .inr (9, [.ref t_qbytes, .int t_length])), (t_qbytes, .inl (cA 0, 800, .inl t_cbytes))] H := hP
        have hD : va_D A [(h0, .inr (6, [.ref dr, .int r_firstFault, .int r_faultPlace, .ref tp, .int (u_57.2.1 0), .int r_54, .int F0_27, .int (u_57.2.1 1), .int r_line, .int r_taken, .int r_isWordDue, .int r_isTaking, .ref r_qnumbers])), (tp, .inr (9, [.ref t_qbytes, .int t_length])), (t_qbytes, .inl (cA 0, 800, .inl t_cbytes))] := hD
        have hr_57_0 := hr_57
        refine lv_goto (tgt := 110) hx hb dX6_readToken_90 (by decide) ?_
        have hP9 := hP.sub (ws' := [(h0, .inr (6, [.ref dr, .int r_firstFault, .int r_faultPlace, .ref tp, .int (u_57.2.1 0), .int r_54, .int F0_27, .int (u_57.2.1 1), .int r_line, .int r_taken, .int r_isWordDue, .int r_isTaking, .ref r_qnumbers])), (tp, .inr (9, [.ref t_qbytes, .int t_length])), (t_qbytes, .inl (cA 0, 800, .inl t_cbytes))]) [0, 1, 2] rfl
        have hD9 := hD.sub (ws' := [(h0, .inr (6, [.ref dr, .int r_firstFault, .int r_faultPlace, .ref tp, .int (u_57.2.1 0), .int r_54, .int F0_27, .int (u_57.2.1 1), .int r_line, .int r_taken, .int r_isWordDue, .int r_isTaking, .ref r_qnumbers])), (tp, .inr (9, [.ref t_qbytes, .int t_length])), (t_qbytes, .inl (cA 0, 800, .inl t_cbytes))]) [0, 1, 2] (by decide) rfl
        exact W.vret hx hb hr (fun t ht hW => ⟨⟨((fun _ => 0), (selI [(u_57.2.1 0), r_54, F0_27, (u_57.2.1 1)]), (fun _ _ => 0), (fun _ _ => 0)), rfl, (show 0 ≤ r_54.toInt ∧ r_54.toInt ≤ 4 from by omega), by rw [ht]; exact hP9, hD9⟩, hS.F ht⟩) hS.2.2 dX6_readToken_110
      · skip
        have k_58 := kk_ne rfl zi_1 c_55
        refine lv_aload_n hx hb dX6_readToken_78 rfl (lv_at hl 0 rfl) ?_
        refine va_get (D := D) (ci := 6) (v := .int r_54) (C := RX6) (T := TX6) (N := 13) hx hb hts inX6 hown hKN.1 hP 0 rfl rfl 5 (by decide) (hts _ tw_232) (fun _ h9 => h9) rfl dX6_readToken_79 ?_
        refine lv_iconst (v := 2) hx hb dX6_readToken_82 (by decide) ?_
        refine lv_icmp_ne (tgt := 93) hx hb dX6_readToken_83 (by decide) (fun c_59 => ?_) (fun c_59 => ?_)
        · skip
          have k_60 := kk_ne rfl zi_2 c_59
          refine lv_aload_n hx hb dX6_readToken_93 rfl (lv_at hl 0 rfl) ?_
          refine va_get (D := D) (ci := 6) (v := .int r_54) (C := RX6) (T := TX6) (N := 13) hx hb hts inX6 hown hKN.1 hP 0 rfl rfl 5 (by decide) (hts _ tw_232) (fun _ h9 => h9) rfl dX6_readToken_94 ?_
          refine lv_if_eq (tgt := 110) hx hb dX6_readToken_97 (by decide) (fun c_61 => ?_) (fun c_61 => ?_)
          · skip
            have k_62 := kk_eq rfl zi_0 c_61
            have hP9 := hP.sub (ws' := [(h0, .inr (6, [.ref dr, .int r_firstFault, .int r_faultPlace, .ref tp, .int F0_27, .int r_54, .int F0_27, .int r_value, .int r_line, .int r_taken, .int r_isWordDue, .int r_isTaking, .ref r_qnumbers])), (tp, .inr (9, [.ref t_qbytes, .int t_length])), (t_qbytes, .inl (cA 0, 800, .inl t_cbytes))]) [0, 1, 2] rfl
            have hD9 := hD.sub (ws' := [(h0, .inr (6, [.ref dr, .int r_firstFault, .int r_faultPlace, .ref tp, .int F0_27, .int r_54, .int F0_27, .int r_value, .int r_line, .int r_taken, .int r_isWordDue, .int r_isTaking, .ref r_qnumbers])), (tp, .inr (9, [.ref t_qbytes, .int t_length])), (t_qbytes, .inl (cA 0, 800, .inl t_cbytes))]) [0, 1, 2] (by decide) rfl
            exact W.vret hx hb hr (fun t ht hW => ⟨⟨((fun _ => 0), (selI [F0_27, r_54, F0_27, r_value]), (fun _ _ => 0), (fun _ _ => 0)), rfl, (show 0 ≤ r_54.toInt ∧ r_54.toInt ≤ 4 from by omega), by rw [ht]; exact hP9, hD9⟩, hS.F ht⟩) hS.2.2 dX6_readToken_110
          · skip
            have k_63 := kk_ne rfl zi_0 c_61
            refine lv_aload_n hx hb dX6_readToken_100 rfl (lv_at hl 0 rfl) ?_
            refine lv_dup hx hb dX6_readToken_101 rfl ?_
            refine va_get (D := D) (ci := 6) (v := .int F0_27) (C := RX6) (T := TX6) (N := 13) hx hb hts inX6 hown hKN.1 hP 0 rfl rfl 4 (by decide) (hts _ tw_231) (fun _ h9 => h9) rfl dX6_readToken_102 ?_
            refine lv_iconst (v := 1) hx hb dX6_readToken_105 (by decide) ?_
            refine lv_iadd hx hb dX6_readToken_106 ?_
            refine lv_topi (fun x_64 ex_64 => ?_)
            have k_65 := ar_add rfl zi_1 ex_64 (by omega) (by omega)
            refine va_put (D := D) (ci := 6) (v := .int x_64) (ty := .int) (C := RX6) (T := TX6) (N := 13) hx hb hts inX6 tyX6 tyX6_ok nmX6 hown hKN.1 hP hD hS 0 rfl rfl 4 (by decide) (hts _ tw_231) (fun _ h9 => h9) rfl (by decide +kernel) rfl rfl (Nat.le_of_ble_eq_true rfl) dX6_readToken_107 (fun H locs hP hD hS => ?_)
            have hP : va_P D vwCl [(h0, .inr (6, [.ref dr, .int r_firstFault, .int r_faultPlace, .ref tp, .int x_64, .int r_54, .int F0_27, .int r_value, .int r_line, .int r_taken, .int r_isWordDue, .int r_isTaking, .ref r_qnumbers])), (tp, .inr (9, [.ref t_qbytes, .int t_length])), (t_qbytes, .inl (cA 0, 800, .inl t_cbytes))] H := hP
            have hD : va_D A [(h0, .inr (6, [.ref dr, .int r_firstFault, .int r_faultPlace, .ref tp, .int x_64, .int r_54, .int F0_27, .int r_value, .int r_line, .int r_taken, .int r_isWordDue, .int r_isTaking, .ref r_qnumbers])), (tp, .inr (9, [.ref t_qbytes, .int t_length])), (t_qbytes, .inl (cA 0, 800, .inl t_cbytes))] := hD
            have hP9 := hP.sub (ws' := [(h0, .inr (6, [.ref dr, .int r_firstFault, .int r_faultPlace, .ref tp, .int x_64, .int r_54, .int F0_27, .int r_value, .int r_line, .int r_taken, .int r_isWordDue, .int r_isTaking, .ref r_qnumbers])), (tp, .inr (9, [.ref t_qbytes, .int t_length])), (t_qbytes, .inl (cA 0, 800, .inl t_cbytes))]) [0, 1, 2] rfl
            have hD9 := hD.sub (ws' := [(h0, .inr (6, [.ref dr, .int r_firstFault, .int r_faultPlace, .ref tp, .int x_64, .int r_54, .int F0_27, .int r_value, .int r_line, .int r_taken, .int r_isWordDue, .int r_isTaking, .ref r_qnumbers])), (tp, .inr (9, [.ref t_qbytes, .int t_length])), (t_qbytes, .inl (cA 0, 800, .inl t_cbytes))]) [0, 1, 2] (by decide) rfl
            exact W.vret hx hb hr (fun t ht hW => ⟨⟨((fun _ => 0), (selI [x_64, r_54, F0_27, r_value]), (fun _ _ => 0), (fun _ _ => 0)), rfl, (show 0 ≤ r_54.toInt ∧ r_54.toInt ≤ 4 from by omega), by rw [ht]; exact hP9, hD9⟩, hS.F ht⟩) hS.2.2 dX6_readToken_110
        · skip
          have k_66 := kk_eq rfl zi_2 c_59
          refine lv_aload_n hx hb dX6_readToken_86 rfl (lv_at hl 0 rfl) ?_
          refine cmVv (rest := []) (wsC := [(h0, .inr (6, [.ref dr, .int r_firstFault, .int r_faultPlace, .ref tp, .int F0_27, .int r_54, .int F0_27, .int r_value, .int r_line, .int r_taken, .int r_isWordDue, .int r_isTaking, .ref r_qnumbers])), (tp, .inr (9, [.ref t_qbytes, .int t_length])), (t_qbytes, .inl (cA 0, 800, .inl t_cbytes))]) (wr := []) ⟨hx, hb, hml, hown, hts⟩ hKN hP hD hS hA [0, 1, 2] [] rfl rfl (by decide) (by decide) (by decide) (g_X6_readLongest l D cA _ h0 dr r_firstFault r_faultPlace tp F0_27 r_54 F0_27 r_value r_line r_taken r_isWordDue r_isTaking r_qnumbers t_qbytes t_length t_cbytes (by omega)) (tb_V tw_549 tw_551 tw_1 tw_103 tw_552) hdX6_readLongest ⟨rfl, rfl, Nat.le_of_ble_eq_true rfl, Nat.le_of_ble_eq_true rfl⟩ ⟨Nat.le_of_ble_eq_true rfl, Nat.le_of_ble_eq_true rfl⟩ rfl rfl rfl hl.1 rfl (Nat.le_of_ble_eq_true rfl) dX6_readToken_87 (fun u_67 H locs hr_67 hP hD hS => ?_)
          have hP : va_P D vwCl [(h0, .inr (6, [.ref dr, .int r_firstFault, .int r_faultPlace, .ref tp, .int (u_67.2.1 0), .int r_54, .int F0_27, .int (u_67.2.1 1), .int r_line, .int r_taken, .int r_isWordDue, .int r_isTaking, .ref r_qnumbers])), (tp, .inr (9, [.ref t_qbytes, .int t_length])), (t_qbytes, .inl (cA 0, 800, .inl t_cbytes))] H := hP
          have hD : va_D A [(h0, .inr (6, [.ref dr, .int r_firstFault, .int r_faultPlace, .ref tp, .int (u_67.2.1 0), .int r_54, .int F0_27, .int (u_67.2.1 1), .int r_line, .int r_taken, .int r_isWordDue, .int r_isTaking, .ref r_qnumbers])), (tp, .inr (9, [.ref t_qbytes, .int t_length])), (t_qbytes, .inl (cA 0, 800, .inl t_cbytes))] := hD
          have hr_67_0 := hr_67
          refine lv_goto (tgt := 110) hx hb dX6_readToken_90 (by decide) ?_
          have hP9 := hP.sub (ws' := [(h0, .inr (6, [.ref dr, .int r_firstFault, .int r_faultPlace, .ref tp, .int (u_67.2.1 0), .int r_54, .int F0_27, .int (u_67.2.1 1), .int r_line, .int r_taken, .int r_isWordDue, .int r_isTaking, .ref r_qnumbers])), (tp, .inr (9, [.ref t_qbytes, .int t_length])), (t_qbytes, .inl (cA 0, 800, .inl t_cbytes))]) [0, 1, 2] rfl
          have hD9 := hD.sub (ws' := [(h0, .inr (6, [.ref dr, .int r_firstFault, .int r_faultPlace, .ref tp, .int (u_67.2.1 0), .int r_54, .int F0_27, .int (u_67.2.1 1), .int r_line, .int r_taken, .int r_isWordDue, .int r_isTaking, .ref r_qnumbers])), (tp, .inr (9, [.ref t_qbytes, .int t_length])), (t_qbytes, .inl (cA 0, 800, .inl t_cbytes))]) [0, 1, 2] (by decide) rfl
          exact W.vret hx hb hr (fun t ht hW => ⟨⟨((fun _ => 0), (selI [(u_67.2.1 0), r_54, F0_27, (u_67.2.1 1)]), (fun _ _ => 0), (fun _ _ => 0)), rfl, (show 0 ≤ r_54.toInt ∧ r_54.toInt ≤ 4 from by omega), by rw [ht]; exact hP9, hD9⟩, hS.F ht⟩) hS.2.2 dX6_readToken_110
    · skip
      have k_68 := kk_ne rfl zi_0 c_51
      refine lv_aload_n hx hb dX6_readToken_31 rfl (lv_at hl 0 rfl) ?_
      refine lv_dup hx hb dX6_readToken_32 rfl ?_
      refine va_get (D := D) (ci := 6) (v := .int F0_27) (C := RX6) (T := TX6) (N := 13) hx hb hts inX6 hown hKN.1 hP 0 rfl rfl 4 (by decide) (hts _ tw_231) (fun _ h9 => h9) rfl dX6_readToken_33 ?_
      refine lv_iconst (v := 1) hx hb dX6_readToken_36 (by decide) ?_
      refine lv_iadd hx hb dX6_readToken_37 ?_
      refine lv_topi (fun x_69 ex_69 => ?_)
      have k_70 := ar_add rfl zi_1 ex_69 (by omega) (by omega)
      refine va_put (D := D) (ci := 6) (v := .int x_69) (ty := .int) (C := RX6) (T := TX6) (N := 13) hx hb hts inX6 tyX6 tyX6_ok nmX6 hown hKN.1 hP hD hS 0 rfl rfl 4 (by decide) (hts _ tw_231) (fun _ h9 => h9) rfl (by decide +kernel) rfl rfl (Nat.le_of_ble_eq_true rfl) dX6_readToken_38 (fun H locs hP hD hS => ?_)
      have hP : va_P D vwCl [(h0, .inr (6, [.ref dr, .int r_firstFault, .int r_faultPlace, .ref tp, .int x_69, .int r_kind, .int r_begin, .int r_value, .int r_line, .int r_taken, .int r_isWordDue, .int r_isTaking, .ref r_qnumbers])), (tp, .inr (9, [.ref t_qbytes, .int t_length])), (t_qbytes, .inl (cA 0, 800, .inl t_cbytes))] H := hP
      have hD : va_D A [(h0, .inr (6, [.ref dr, .int r_firstFault, .int r_faultPlace, .ref tp, .int x_69, .int r_kind, .int r_begin, .int r_value, .int r_line, .int r_taken, .int r_isWordDue, .int r_isTaking, .ref r_qnumbers])), (tp, .inr (9, [.ref t_qbytes, .int t_length])), (t_qbytes, .inl (cA 0, 800, .inl t_cbytes))] := hD
      refine lv_goto (tgt := 0) hx hb dX6_readToken_41 (by decide) ?_
      exact ih_27 (x_69) _ _ _ ⟨hP.sub [0, 1, 2] rfl, hD.sub [0, 1, 2] (by decide) rfl, hS, lv_sub hl [0] rfl⟩ (by show (2147483647 - x_69.toInt).toNat < (2147483647 - F0_27.toInt).toNat; omega)
set_option maxHeartbeats 8000000 in
set_option maxRecDepth 100000 in
theorem g_X6_hasAll (l : Launch) (D : va_G) (cA : Nat → ClassId) (h0 : Nat) (dr : Nat) (r_firstFault : Int32) (r_faultPlace : Int32) (tp : Nat) (r_at : Int32) (r_kind : Int32) (r_begin : Int32) (r_value : Int32) (r_line : Int32) (r_taken : Int32) (r_isWordDue : Int32) (r_isTaking : Int32) (r_qnumbers : Nat) (d_odds : Int32) (d_pot : Int32) (d_lines : Int32) (d_men : Int32) (d_clauses : Int32) (d_winds : Int32) (d_far0 : Int32) (d_far1 : Int32) (d_qsides : Nat) (d_qgrips : Nat) (d_qwits : Nat) (d_qsays : Nat) (d_qgives0 : Nat) (d_qgives1 : Nat) (d_qfroms : Nat) (d_qtos : Nat) (p0 : Int32) (h_d_odds : -999 ≤ (d_odds : Int32).toInt ∧ (d_odds : Int32).toInt ≤ 999) (h_d_pot : -999 ≤ (d_pot : Int32).toInt ∧ (d_pot : Int32).toInt ≤ 999) (h_d_men : 0 ≤ (d_men : Int32).toInt ∧ (d_men : Int32).toInt ≤ 8) (h_d_clauses : 0 ≤ (d_clauses : Int32).toInt ∧ (d_clauses : Int32).toInt ≤ 7) (h_d_winds : 0 ≤ (d_winds : Int32).toInt ∧ (d_winds : Int32).toInt ≤ 4) (h_d_far0 : -999 ≤ (d_far0 : Int32).toInt ∧ (d_far0 : Int32).toInt ≤ 999) (h_d_far1 : -999 ≤ (d_far1 : Int32).toInt ∧ (d_far1 : Int32).toInt ≤ 999) : Met l yX6_hasAll (Cond.code yX6_hasAll cX6_hasAll 2 (some .boolean) :: TB) (rmd 0 0 0) (PP D cA [(h0, .inr (6, [.ref dr, .int r_firstFault, .int r_faultPlace, .ref tp, .int r_at, .int r_kind, .int r_begin, .int r_value, .int r_line, .int r_taken, .int r_isWordDue, .int r_isTaking, .ref r_qnumbers])), (dr, .inr (3, [.int d_odds, .int d_pot, .int d_lines, .int d_men, .int d_clauses, .int d_winds, .int d_far0, .int d_far1, .ref d_qsides, .ref d_qgrips, .ref d_qwits, .ref d_qsays, .ref d_qgives0, .ref d_qgives1, .ref d_qfroms, .ref d_qtos]))] [.ref h0, .int p0]) (vp_Si (fun r => 0 ≤ r.toInt ∧ r.toInt ≤ 1)) 0 0 (fun _ => False) := by
  refine Met.ofW (cc := cX6_hasAll) (maxL := 2) (ret := (some .boolean)) (by decide) rfl ?_
  intro p e s m args below meth c s₁ B hml hv
  obtain ⟨rfl, hP, hKN⟩ := hv
  have hx := B.exec
  have hb := B.bytes
  have hr := B.returns
  have hts : ∀ w ∈ TB, w.before _ s = true := fun w h => atoms_spec B.pre w (List.mem_cons_of_mem _ h)
  have hown : s.vm.findClass RX6 = some m.cls := findClass_of_methodNamed B.named
  have hlocks := B.notSynchronized
  have hl := lv_entry ([.ref h0, .int p0]) (n := 2) (Nat.le_of_ble_eq_true rfl)
  rw [lg_entry_eq]
  generalize (lg_sl ([.ref h0, .int p0]) ++ List.replicate (2 - (lg_sl ([.ref h0, .int p0])).length) Slot.unset).toArray = ls at hl ⊢
  have hl : lv_has ls 2 [(0, .ref h0), (1, .int p0)] := hl
  refine lv_iload_n hx hb dX6_hasAll_0 rfl (lv_at hl 1 rfl) ?_
  refine lv_iconst (v := 1) hx hb dX6_hasAll_1 (by decide) ?_
  refine lv_icmp_ne (tgt := 17) hx hb dX6_hasAll_2 (by decide) (fun c_1 => ?_) (fun c_1 => ?_)
  · skip
    have b_3 := i32_bd p0
    have k_2 := kk_ne rfl zi_1 c_1
    refine lv_iload_n hx hb dX6_hasAll_17 rfl (lv_at hl 1 rfl) ?_
    refine lv_iconst (v := 2) hx hb dX6_hasAll_18 (by decide) ?_
    refine lv_icmp_ne (tgt := 34) hx hb dX6_hasAll_19 (by decide) (fun c_4 => ?_) (fun c_4 => ?_)
    · skip
      have k_5 := kk_ne rfl zi_2 c_4
      refine lv_iload_n hx hb dX6_hasAll_34 rfl (lv_at hl 1 rfl) ?_
      refine lv_iconst (v := 3) hx hb dX6_hasAll_35 (by decide) ?_
      refine lv_icmp_ne (tgt := 54) hx hb dX6_hasAll_36 (by decide) (fun c_6 => ?_) (fun c_6 => ?_)
      · skip
        have k_7 := kk_ne rfl zi_3 c_6
        refine lv_iconst (v := 0) hx hb dX6_hasAll_54 (by decide) ?_
        exact W.zret (v := 0) hx hb hr (by decide) (fun t ht hW => ⟨0, rfl, (show 0 ≤ (0 : Int32).toInt ∧ (0 : Int32).toInt ≤ 1 from by decide), ht⟩) (fun _ h => by cases h) dX6_hasAll_55
      · skip
        have k_8 := kk_eq rfl zi_3 c_6
        refine lv_aload_n hx hb dX6_hasAll_39 rfl (lv_at hl 0 rfl) ?_
        refine va_get (D := D) (ci := 6) (v := .ref dr) (C := RX6) (T := TX6) (N := 13) hx hb hts inX6 hown hKN.1 hP 0 rfl rfl 0 (by decide) (hts _ tw_224) (fun _ h9 => h9) rfl dX6_hasAll_40 ?_
        refine va_get (D := D) (ci := 3) (v := .int d_winds) (C := RX3) (T := TX3) (N := 16) hx hb hts inX3 hown hKN.1 hP 1 rfl rfl 5 (by decide) (hts _ tw_178) (fun _ h9 => h9) rfl dX6_hasAll_43 ?_
        refine lv_iconst (v := 4) hx hb dX6_hasAll_46 (by decide) ?_
        refine lv_icmp_lt (tgt := 54) hx hb dX6_hasAll_47 (by decide) (fun c_9 => ?_) (fun c_9 => ?_)
        · skip
          have k_10 := kk_lt rfl zi_4 c_9
          refine lv_iconst (v := 0) hx hb dX6_hasAll_54 (by decide) ?_
          exact W.zret (v := 0) hx hb hr (by decide) (fun t ht hW => ⟨0, rfl, (show 0 ≤ (0 : Int32).toInt ∧ (0 : Int32).toInt ≤ 1 from by decide), ht⟩) (fun _ h => by cases h) dX6_hasAll_55
        · skip
          have k_11 := kk_nlt rfl zi_4 c_9
          refine lv_iconst (v := 1) hx hb dX6_hasAll_50 (by decide) ?_
          refine lv_goto (tgt := 55) hx hb dX6_hasAll_51 (by decide) ?_
          exact W.zret (v := 1) hx hb hr (by decide) (fun t ht hW => ⟨1, rfl, (show 0 ≤ (1 : Int32).toInt ∧ (1 : Int32).toInt ≤ 1 from by decide), ht⟩) (fun _ h => by cases h) dX6_hasAll_55
    · skip
      have k_12 := kk_eq rfl zi_2 c_4
      refine lv_aload_n hx hb dX6_hasAll_22 rfl (lv_at hl 0 rfl) ?_
      refine va_get (D := D) (ci := 6) (v := .ref dr) (C := RX6) (T := TX6) (N := 13) hx hb hts inX6 hown hKN.1 hP 0 rfl rfl 0 (by decide) (hts _ tw_224) (fun _ h9 => h9) rfl dX6_hasAll_23 ?_
      refine va_get (D := D) (ci := 3) (v := .int d_clauses) (C := RX3) (T := TX3) (N := 16) hx hb hts inX3 hown hKN.1 hP 1 rfl rfl 4 (by decide) (hts _ tw_175) (fun _ h9 => h9) rfl dX6_hasAll_26 ?_
      refine lv_bipush (v := 7) hx hb dX6_hasAll_29 (by decide) ?_
      refine lv_icmp_ge (tgt := 50) hx hb dX6_hasAll_31 (by decide) (fun c_13 => ?_) (fun c_13 => ?_)
      · skip
        have k_14 := kk_le zi_7 rfl c_13
        refine lv_iconst (v := 1) hx hb dX6_hasAll_50 (by decide) ?_
        refine lv_goto (tgt := 55) hx hb dX6_hasAll_51 (by decide) ?_
        exact W.zret (v := 1) hx hb hr (by decide) (fun t ht hW => ⟨1, rfl, (show 0 ≤ (1 : Int32).toInt ∧ (1 : Int32).toInt ≤ 1 from by decide), ht⟩) (fun _ h => by cases h) dX6_hasAll_55
      · skip
        have k_15 := kk_nle zi_7 rfl c_13
        refine lv_iload_n hx hb dX6_hasAll_34 rfl (lv_at hl 1 rfl) ?_
        refine lv_iconst (v := 3) hx hb dX6_hasAll_35 (by decide) ?_
        refine lv_icmp_ne (tgt := 54) hx hb dX6_hasAll_36 (by decide) (fun c_16 => ?_) (fun c_16 => ?_)
        · skip
          have k_17 := kk_ne rfl zi_3 c_16
          refine lv_iconst (v := 0) hx hb dX6_hasAll_54 (by decide) ?_
          exact W.zret (v := 0) hx hb hr (by decide) (fun t ht hW => ⟨0, rfl, (show 0 ≤ (0 : Int32).toInt ∧ (0 : Int32).toInt ≤ 1 from by decide), ht⟩) (fun _ h => by cases h) dX6_hasAll_55
        · skip
          have k_18 := kk_eq rfl zi_3 c_16
          exfalso; omega
  · skip
    have b_20 := i32_bd p0
    have k_19 := kk_eq rfl zi_1 c_1
    refine lv_aload_n hx hb dX6_hasAll_5 rfl (lv_at hl 0 rfl) ?_
    refine va_get (D := D) (ci := 6) (v := .ref dr) (C := RX6) (T := TX6) (N := 13) hx hb hts inX6 hown hKN.1 hP 0 rfl rfl 0 (by decide) (hts _ tw_224) (fun _ h9 => h9) rfl dX6_hasAll_6 ?_
    refine va_get (D := D) (ci := 3) (v := .int d_men) (C := RX3) (T := TX3) (N := 16) hx hb hts inX3 hown hKN.1 hP 1 rfl rfl 3 (by decide) (hts _ tw_170) (fun _ h9 => h9) rfl dX6_hasAll_9 ?_
    refine lv_bipush (v := 8) hx hb dX6_hasAll_12 (by decide) ?_
    refine lv_icmp_ge (tgt := 50) hx hb dX6_hasAll_14 (by decide) (fun c_21 => ?_) (fun c_21 => ?_)
    · skip
      have k_22 := kk_le zi_8 rfl c_21
      refine lv_iconst (v := 1) hx hb dX6_hasAll_50 (by decide) ?_
      refine lv_goto (tgt := 55) hx hb dX6_hasAll_51 (by decide) ?_
      exact W.zret (v := 1) hx hb hr (by decide) (fun t ht hW => ⟨1, rfl, (show 0 ≤ (1 : Int32).toInt ∧ (1 : Int32).toInt ≤ 1 from by decide), ht⟩) (fun _ h => by cases h) dX6_hasAll_55
    · skip
      have k_23 := kk_nle zi_8 rfl c_21
      refine lv_iload_n hx hb dX6_hasAll_17 rfl (lv_at hl 1 rfl) ?_
      refine lv_iconst (v := 2) hx hb dX6_hasAll_18 (by decide) ?_
      refine lv_icmp_ne (tgt := 34) hx hb dX6_hasAll_19 (by decide) (fun c_24 => ?_) (fun c_24 => ?_)
      · skip
        have k_25 := kk_ne rfl zi_2 c_24
        refine lv_iload_n hx hb dX6_hasAll_34 rfl (lv_at hl 1 rfl) ?_
        refine lv_iconst (v := 3) hx hb dX6_hasAll_35 (by decide) ?_
        refine lv_icmp_ne (tgt := 54) hx hb dX6_hasAll_36 (by decide) (fun c_26 => ?_) (fun c_26 => ?_)
        · skip
          have k_27 := kk_ne rfl zi_3 c_26
          refine lv_iconst (v := 0) hx hb dX6_hasAll_54 (by decide) ?_
          exact W.zret (v := 0) hx hb hr (by decide) (fun t ht hW => ⟨0, rfl, (show 0 ≤ (0 : Int32).toInt ∧ (0 : Int32).toInt ≤ 1 from by decide), ht⟩) (fun _ h => by cases h) dX6_hasAll_55
        · skip
          have k_28 := kk_eq rfl zi_3 c_26
          exfalso; omega
      · skip
        have k_29 := kk_eq rfl zi_2 c_24
        exfalso; omega
set_option maxHeartbeats 8000000 in
set_option maxRecDepth 100000 in
theorem g_X6_closeLine (l : Launch) (D : va_G) (cA : Nat → ClassId) (sz : Nat) (h0 : Nat) (dr : Nat) (r_firstFault : Int32) (r_faultPlace : Int32) (tp : Nat) (r_at : Int32) (r_kind : Int32) (r_begin : Int32) (r_value : Int32) (r_line : Int32) (r_taken : Int32) (r_isWordDue : Int32) (r_isTaking : Int32) (r_qnumbers : Nat) (r_cnumbers : Nat → Int32) (d_odds : Int32) (d_pot : Int32) (d_lines : Int32) (d_men : Int32) (d_clauses : Int32) (d_winds : Int32) (d_far0 : Int32) (d_far1 : Int32) (d_qsides : Nat) (d_qgrips : Nat) (d_qwits : Nat) (d_qsays : Nat) (d_qgives0 : Nat) (d_qgives1 : Nat) (d_qfroms : Nat) (d_qtos : Nat) (d_csides : Nat → Int32) (d_cgrips : Nat → Int32) (d_cwits : Nat → Int32) (d_csays : Nat → Int32) (d_cgives0 : Nat → Int32) (d_cgives1 : Nat → Int32) (d_cfroms : Nat → Int32) (d_ctos : Nat → Int32) (h_d_odds : -999 ≤ (d_odds : Int32).toInt ∧ (d_odds : Int32).toInt ≤ 999) (h_d_pot : -999 ≤ (d_pot : Int32).toInt ∧ (d_pot : Int32).toInt ≤ 999) (h_d_men : 0 ≤ (d_men : Int32).toInt ∧ (d_men : Int32).toInt ≤ 8) (h_d_clauses : 0 ≤ (d_clauses : Int32).toInt ∧ (d_clauses : Int32).toInt ≤ 7) (h_d_winds : 0 ≤ (d_winds : Int32).toInt ∧ (d_winds : Int32).toInt ≤ 4) (h_d_far0 : -999 ≤ (d_far0 : Int32).toInt ∧ (d_far0 : Int32).toInt ≤ 999) (h_d_far1 : -999 ≤ (d_far1 : Int32).toInt ∧ (d_far1 : Int32).toInt ≤ 999) (a_r_cnumbers_0 : AR (-999) 999 r_cnumbers) : Met l yX6_closeLine (Cond.code yX6_closeLine cX6_closeLine 1 none :: TB) (rmd 1 0 0) (PM D cA sz [(h0, .inr (6, [.ref dr, .int r_firstFault, .int r_faultPlace, .ref tp, .int r_at, .int r_kind, .int r_begin, .int r_value, .int r_line, .int r_taken, .int r_isWordDue, .int r_isTaking, .ref r_qnumbers])), (r_qnumbers, .inl (cA 1, 3, .inl r_cnumbers)), (dr, .inr (3, [.int d_odds, .int d_pot, .int d_lines, .int d_men, .int d_clauses, .int d_winds, .int d_far0, .int d_far1, .ref d_qsides, .ref d_qgrips, .ref d_qwits, .ref d_qsays, .ref d_qgives0, .ref d_qgives1, .ref d_qfroms, .ref d_qtos])), (d_qsides, .inl (cA 1, 8, .inl d_csides)), (d_qgrips, .inl (cA 1, 8, .inl d_cgrips)), (d_qwits, .inl (cA 1, 8, .inl d_cwits)), (d_qsays, .inl (cA 1, 7, .inl d_csays)), (d_qgives0, .inl (cA 1, 7, .inl d_cgives0)), (d_qgives1, .inl (cA 1, 7, .inl d_cgives1)), (d_qfroms, .inl (cA 1, 4, .inl d_cfroms)), (d_qtos, .inl (cA 1, 4, .inl d_ctos))] [.ref h0]) (va_Qv (fun (u : SU) => (-999 ≤ (u.2.1 3).toInt ∧ (u.2.1 3).toInt ≤ 999) ∧ (-999 ≤ (u.2.1 4).toInt ∧ (u.2.1 4).toInt ≤ 999) ∧ (0 ≤ (u.2.1 6).toInt ∧ (u.2.1 6).toInt ≤ 8) ∧ (0 ≤ (u.2.1 7).toInt ∧ (u.2.1 7).toInt ≤ 7) ∧ (0 ≤ (u.2.1 8).toInt ∧ (u.2.1 8).toInt ≤ 4) ∧ (-999 ≤ (u.2.1 9).toInt ∧ (u.2.1 9).toInt ≤ 999) ∧ (-999 ≤ (u.2.1 10).toInt ∧ (u.2.1 10).toInt ≤ 999)) (fun u t => va_P D vwCl [(h0, .inr (6, [.ref dr, .int (u.2.1 0), .int (u.2.1 1), .ref tp, .int r_at, .int r_kind, .int r_begin, .int r_value, .int (u.2.1 2), .int r_taken, .int r_isWordDue, .int r_isTaking, .ref r_qnumbers])), (r_qnumbers, .inl (cA 1, 3, .inl r_cnumbers)), (dr, .inr (3, [.int (u.2.1 3), .int (u.2.1 4), .int (u.2.1 5), .int (u.2.1 6), .int (u.2.1 7), .int (u.2.1 8), .int (u.2.1 9), .int (u.2.1 10), .ref d_qsides, .ref d_qgrips, .ref d_qwits, .ref d_qsays, .ref d_qgives0, .ref d_qgives1, .ref d_qfroms, .ref d_qtos])), (d_qsides, .inl (cA 1, 8, .inl (u.2.2.1 0))), (d_qgrips, .inl (cA 1, 8, .inl (u.2.2.1 1))), (d_qwits, .inl (cA 1, 8, .inl (u.2.2.1 2))), (d_qsays, .inl (cA 1, 7, .inl (u.2.2.1 3))), (d_qgives0, .inl (cA 1, 7, .inl (u.2.2.1 4))), (d_qgives1, .inl (cA 1, 7, .inl (u.2.2.1 5))), (d_qfroms, .inl (cA 1, 4, .inl (u.2.2.1 6))), (d_qtos, .inl (cA 1, 4, .inl (u.2.2.1 7)))] t.heap ∧ va_D (va_A [(h0, .inr (6, [.ref dr, .int r_firstFault, .int r_faultPlace, .ref tp, .int r_at, .int r_kind, .int r_begin, .int r_value, .int r_line, .int r_taken, .int r_isWordDue, .int r_isTaking, .ref r_qnumbers])), (r_qnumbers, .inl (cA 1, 3, .inl r_cnumbers)), (dr, .inr (3, [.int d_odds, .int d_pot, .int d_lines, .int d_men, .int d_clauses, .int d_winds, .int d_far0, .int d_far1, .ref d_qsides, .ref d_qgrips, .ref d_qwits, .ref d_qsays, .ref d_qgives0, .ref d_qgives1, .ref d_qfroms, .ref d_qtos])), (d_qsides, .inl (cA 1, 8, .inl d_csides)), (d_qgrips, .inl (cA 1, 8, .inl d_cgrips)), (d_qwits, .inl (cA 1, 8, .inl d_cwits)), (d_qsays, .inl (cA 1, 7, .inl d_csays)), (d_qgives0, .inl (cA 1, 7, .inl d_cgives0)), (d_qgives1, .inl (cA 1, 7, .inl d_cgives1)), (d_qfroms, .inl (cA 1, 4, .inl d_cfroms)), (d_qtos, .inl (cA 1, 4, .inl d_ctos))] sz) [(h0, .inr (6, [.ref dr, .int (u.2.1 0), .int (u.2.1 1), .ref tp, .int r_at, .int r_kind, .int r_begin, .int r_value, .int (u.2.1 2), .int r_taken, .int r_isWordDue, .int r_isTaking, .ref r_qnumbers])), (r_qnumbers, .inl (cA 1, 3, .inl r_cnumbers)), (dr, .inr (3, [.int (u.2.1 3), .int (u.2.1 4), .int (u.2.1 5), .int (u.2.1 6), .int (u.2.1 7), .int (u.2.1 8), .int (u.2.1 9), .int (u.2.1 10), .ref d_qsides, .ref d_qgrips, .ref d_qwits, .ref d_qsays, .ref d_qgives0, .ref d_qgives1, .ref d_qfroms, .ref d_qtos])), (d_qsides, .inl (cA 1, 8, .inl (u.2.2.1 0))), (d_qgrips, .inl (cA 1, 8, .inl (u.2.2.1 1))), (d_qwits, .inl (cA 1, 8, .inl (u.2.2.1 2))), (d_qsays, .inl (cA 1, 7, .inl (u.2.2.1 3))), (d_qgives0, .inl (cA 1, 7, .inl (u.2.2.1 4))), (d_qgives1, .inl (cA 1, 7, .inl (u.2.2.1 5))), (d_qfroms, .inl (cA 1, 4, .inl (u.2.2.1 6))), (d_qtos, .inl (cA 1, 4, .inl (u.2.2.1 7)))]) (va_A [(h0, .inr (6, [.ref dr, .int r_firstFault, .int r_faultPlace, .ref tp, .int r_at, .int r_kind, .int r_begin, .int r_value, .int r_line, .int r_taken, .int r_isWordDue, .int r_isTaking, .ref r_qnumbers])), (r_qnumbers, .inl (cA 1, 3, .inl r_cnumbers)), (dr, .inr (3, [.int d_odds, .int d_pot, .int d_lines, .int d_men, .int d_clauses, .int d_winds, .int d_far0, .int d_far1, .ref d_qsides, .ref d_qgrips, .ref d_qwits, .ref d_qsays, .ref d_qgives0, .ref d_qgives1, .ref d_qfroms, .ref d_qtos])), (d_qsides, .inl (cA 1, 8, .inl d_csides)), (d_qgrips, .inl (cA 1, 8, .inl d_cgrips)), (d_qwits, .inl (cA 1, 8, .inl d_cwits)), (d_qsays, .inl (cA 1, 7, .inl d_csays)), (d_qgives0, .inl (cA 1, 7, .inl d_cgives0)), (d_qgives1, .inl (cA 1, 7, .inl d_cgives1)), (d_qfroms, .inl (cA 1, 4, .inl d_cfroms)), (d_qtos, .inl (cA 1, 4, .inl d_ctos))] sz)) 0 0 (va_A [(h0, .inr (6, [.ref dr, .int r_firstFault, .int r_faultPlace, .ref tp, .int r_at, .int r_kind, .int r_begin, .int r_value, .int r_line, .int r_taken, .int r_isWordDue, .int r_isTaking, .ref r_qnumbers])), (r_qnumbers, .inl (cA 1, 3, .inl r_cnumbers)), (dr, .inr (3, [.int d_odds, .int d_pot, .int d_lines, .int d_men, .int d_clauses, .int d_winds, .int d_far0, .int d_far1, .ref d_qsides, .ref d_qgrips, .ref d_qwits, .ref d_qsays, .ref d_qgives0, .ref d_qgives1, .ref d_qfroms, .ref d_qtos])), (d_qsides, .inl (cA 1, 8, .inl d_csides)), (d_qgrips, .inl (cA 1, 8, .inl d_cgrips)), (d_qwits, .inl (cA 1, 8, .inl d_cwits)), (d_qsays, .inl (cA 1, 7, .inl d_csays)), (d_qgives0, .inl (cA 1, 7, .inl d_cgives0)), (d_qgives1, .inl (cA 1, 7, .inl d_cgives1)), (d_qfroms, .inl (cA 1, 4, .inl d_cfroms)), (d_qtos, .inl (cA 1, 4, .inl d_ctos))] sz) := by
  refine Met.ofW (cc := cX6_closeLine) (maxL := 1) (ret := none) (by decide) rfl ?_
  intro p e s m args below meth c s₁ B hml hv
  obtain ⟨rfl, hsz, hP, hKN, hD0⟩ := hv
  have hx := B.exec
  have hb := B.bytes
  have hr := B.returns
  have hts : ∀ w ∈ TB, w.before _ s = true := fun w h => atoms_spec B.pre w (List.mem_cons_of_mem _ h)
  have hown : s.vm.findClass RX6 = some m.cls := findClass_of_methodNamed B.named
  have hlocks := B.notSynchronized
  subst hsz
  have hD := hD0.self (sz := s.heap.size)
  generalize hAe : va_A [(h0, .inr (6, [.ref dr, .int r_firstFault, .int r_faultPlace, .ref tp, .int r_at, .int r_kind, .int r_begin, .int r_value, .int r_line, .int r_taken, .int r_isWordDue, .int r_isTaking, .ref r_qnumbers])), (r_qnumbers, .inl (cA 1, 3, .inl r_cnumbers)), (dr, .inr (3, [.int d_odds, .int d_pot, .int d_lines, .int d_men, .int d_clauses, .int d_winds, .int d_far0, .int d_far1, .ref d_qsides, .ref d_qgrips, .ref d_qwits, .ref d_qsays, .ref d_qgives0, .ref d_qgives1, .ref d_qfroms, .ref d_qtos])), (d_qsides, .inl (cA 1, 8, .inl d_csides)), (d_qgrips, .inl (cA 1, 8, .inl d_cgrips)), (d_qwits, .inl (cA 1, 8, .inl d_cwits)), (d_qsays, .inl (cA 1, 7, .inl d_csays)), (d_qgives0, .inl (cA 1, 7, .inl d_cgives0)), (d_qgives1, .inl (cA 1, 7, .inl d_cgives1)), (d_qfroms, .inl (cA 1, 4, .inl d_cfroms)), (d_qtos, .inl (cA 1, 4, .inl d_ctos))] s.heap.size = A at hD ⊢
  have hA : ∀ q : Nat, s.heap.size ≤ q → A q := fun q h => by rw [← hAe]; exact Or.inr h
  have hS : va_S A s.heap s.heap [] := va_S.rf
  have hl := lv_entry ([.ref h0]) (n := 1) (Nat.le_of_ble_eq_true rfl)
  rw [lg_entry_eq]
  generalize (lg_sl ([.ref h0]) ++ List.replicate (1 - (lg_sl ([.ref h0])).length) Slot.unset).toArray = ls at hl ⊢
  have hl : lv_has ls 1 [(0, .ref h0)] := hl
  refine lv_aload_n hx hb dX6_closeLine_0 rfl (lv_at hl 0 rfl) ?_
  refine va_get (D := D) (ci := 6) (v := .int r_kind) (C := RX6) (T := TX6) (N := 13) hx hb hts inX6 hown hKN.1 hP 0 rfl rfl 5 (by decide) (hts _ tw_232) (fun _ h9 => h9) rfl dX6_closeLine_1 ?_
  refine lv_iconst (v := 3) hx hb dX6_closeLine_4 (by decide) ?_
  refine lv_icmp_eq (tgt := 14) hx hb dX6_closeLine_5 (by decide) (fun c_1 => ?_) (fun c_1 => ?_)
  · skip
    have b_3 := i32_bd r_kind
    have k_2 := kk_eq rfl zi_3 c_1
    refine lv_aload_n hx hb dX6_closeLine_14 rfl (lv_at hl 0 rfl) ?_
    refine va_get (D := D) (ci := 6) (v := .int r_line) (C := RX6) (T := TX6) (N := 13) hx hb hts inX6 hown hKN.1 hP 0 rfl rfl 8 (by decide) (hts _ tw_235) (fun _ h9 => h9) rfl dX6_closeLine_15 ?_
    rcases (by omega : r_line.toInt = 0 ∨ r_line.toInt = 1 ∨ r_line.toInt = 2 ∨ r_line.toInt = 3 ∨ r_line.toInt < 0 ∨ 3 < r_line.toInt) with c_4 | c_4 | c_4 | c_4 | c_4
    · skip
      refine lv_tableIn (tgt := 48) hx hb dX6_closeLine_18 (by omega) (by omega) (by rw [c_4]; rfl) (by decide) ?_
      refine lv_aload_n hx hb dX6_closeLine_48 rfl (lv_at hl 0 rfl) ?_
      refine va_get (D := D) (ci := 6) (v := .ref dr) (C := RX6) (T := TX6) (N := 13) hx hb hts inX6 hown hKN.1 hP 0 rfl rfl 0 (by decide) (hts _ tw_224) (fun _ h9 => h9) rfl dX6_closeLine_49 ?_
      refine lv_aload_n hx hb dX6_closeLine_52 rfl (lv_at hl 0 rfl) ?_
      refine va_get (D := D) (ci := 6) (v := .ref r_qnumbers) (C := RX6) (T := TX6) (N := 13) hx hb hts inX6 hown hKN.1 hP 0 rfl rfl 12 (by decide) (hts _ tw_239) (fun _ h9 => h9) rfl dX6_closeLine_53 ?_
      refine lv_iconst (v := 0) hx hb dX6_closeLine_56 (by decide) ?_
      refine va_iald hx hb hKN.1 hP 1 1 rfl rfl (by unfold vp_in; decide) dX6_closeLine_57 ?_
      refine W.eq (g2 := F0 m 58 ls [.int (r_cnumbers 0), .ref dr]) rfl ?_
      have k_5 := a_r_cnumbers_0 (0)
      refine lv_aload_n hx hb dX6_closeLine_58 rfl (lv_at hl 0 rfl) ?_
      refine va_get (D := D) (ci := 6) (v := .ref r_qnumbers) (C := RX6) (T := TX6) (N := 13) hx hb hts inX6 hown hKN.1 hP 0 rfl rfl 12 (by decide) (hts _ tw_239) (fun _ h9 => h9) rfl dX6_closeLine_59 ?_
      refine lv_iconst (v := 1) hx hb dX6_closeLine_62 (by decide) ?_
      refine va_iald hx hb hKN.1 hP 1 1 rfl rfl (by unfold vp_in; decide) dX6_closeLine_63 ?_
      refine W.eq (g2 := F0 m 64 ls [.int (r_cnumbers 1), .int (r_cnumbers 0), .ref dr]) rfl ?_
      have k_6 := a_r_cnumbers_0 (1)
      refine cmVv (rest := []) (wsC := [(dr, .inr (3, [.int d_odds, .int d_pot, .int d_lines, .int d_men, .int d_clauses, .int d_winds, .int d_far0, .int d_far1, .ref d_qsides, .ref d_qgrips, .ref d_qwits, .ref d_qsays, .ref d_qgives0, .ref d_qgives1, .ref d_qfroms, .ref d_qtos]))]) (wr := [(h0, .inr (6, [.ref dr, .int r_firstFault, .int r_faultPlace, .ref tp, .int r_at, .int r_kind, .int r_begin, .int r_value, .int r_line, .int r_taken, .int r_isWordDue, .int r_isTaking, .ref r_qnumbers])), (r_qnumbers, .inl (cA 1, 3, .inl r_cnumbers)), (d_qsides, .inl (cA 1, 8, .inl d_csides)), (d_qgrips, .inl (cA 1, 8, .inl d_cgrips)), (d_qwits, .inl (cA 1, 8, .inl d_cwits)), (d_qsays, .inl (cA 1, 7, .inl d_csays)), (d_qgives0, .inl (cA 1, 7, .inl d_cgives0)), (d_qgives1, .inl (cA 1, 7, .inl d_cgives1)), (d_qfroms, .inl (cA 1, 4, .inl d_cfroms)), (d_qtos, .inl (cA 1, 4, .inl d_ctos))]) ⟨hx, hb, hml, hown, hts⟩ hKN hP hD hS hA [2] [0, 1, 3, 4, 5, 6, 7, 8, 9, 10] rfl rfl (by decide) (by decide) (by decide) (g_X3_setFars l D cA _ dr d_odds d_pot d_lines d_men d_clauses d_winds d_far0 d_far1 d_qsides d_qgrips d_qwits d_qsays d_qgives0 d_qgives1 d_qfroms d_qtos (r_cnumbers 0) (r_cnumbers 1) (by omega) (by omega) (by omega) (by omega) (by omega) (by omega) (by omega)) (tb_V tw_640 tw_531 tw_532 tw_104 tw_533) hdX3_setFars ⟨rfl, rfl, Nat.le_of_ble_eq_true rfl, Nat.le_of_ble_eq_true rfl⟩ ⟨Nat.le_of_ble_eq_true rfl, Nat.le_of_ble_eq_true rfl⟩ rfl rfl rfl hl.1 rfl (Nat.le_of_ble_eq_true rfl) dX6_closeLine_64 (fun u_7 H locs hr_7 hP hD hS => ?_)
      have hP : va_P D vwCl [(h0, .inr (6, [.ref dr, .int r_firstFault, .int r_faultPlace, .ref tp, .int r_at, .int r_kind, .int r_begin, .int r_value, .int r_line, .int r_taken, .int r_isWordDue, .int r_isTaking, .ref r_qnumbers])), (r_qnumbers, .inl (cA 1, 3, .inl r_cnumbers)), (d_qsides, .inl (cA 1, 8, .inl d_csides)), (d_qgrips, .inl (cA 1, 8, .inl d_cgrips)), (d_qwits, .inl (cA 1, 8, .inl d_cwits)), (d_qsays, .inl (cA 1, 7, .inl d_csays)), (d_qgives0, .inl (cA 1, 7, .inl d_cgives0)), (d_qgives1, .inl (cA 1, 7, .inl d_cgives1)), (d_qfroms, .inl (cA 1, 4, .inl d_cfroms)), (d_qtos, .inl (cA 1, 4, .inl d_ctos)), (dr, .inr (3, [.int d_odds, .int d_pot, .int d_lines, .int d_men, .int d_clauses, .int d_winds, .int (r_cnumbers 0), .int (r_cnumbers 1), .ref d_qsides, .ref d_qgrips, .ref d_qwits, .ref d_qsays, .ref d_qgives0, .ref d_qgives1, .ref d_qfroms, .ref d_qtos]))] H := hP
      have hD : va_D A [(h0, .inr (6, [.ref dr, .int r_firstFault, .int r_faultPlace, .ref tp, .int r_at, .int r_kind, .int r_begin, .int r_value, .int r_line, .int r_taken, .int r_isWordDue, .int r_isTaking, .ref r_qnumbers])), (r_qnumbers, .inl (cA 1, 3, .inl r_cnumbers)), (d_qsides, .inl (cA 1, 8, .inl d_csides)), (d_qgrips, .inl (cA 1, 8, .inl d_cgrips)), (d_qwits, .inl (cA 1, 8, .inl d_cwits)), (d_qsays, .inl (cA 1, 7, .inl d_csays)), (d_qgives0, .inl (cA 1, 7, .inl d_cgives0)), (d_qgives1, .inl (cA 1, 7, .inl d_cgives1)), (d_qfroms, .inl (cA 1, 4, .inl d_cfroms)), (d_qtos, .inl (cA 1, 4, .inl d_ctos)), (dr, .inr (3, [.int d_odds, .int d_pot, .int d_lines, .int d_men, .int d_clauses, .int d_winds, .int (r_cnumbers 0), .int (r_cnumbers 1), .ref d_qsides, .ref d_qgrips, .ref d_qwits, .ref d_qsays, .ref d_qgives0, .ref d_qgives1, .ref d_qfroms, .ref d_qtos]))] := hD
      refine lv_aload_n hx hb dX6_closeLine_67 rfl (lv_at hl 0 rfl) ?_
      refine va_get (D := D) (ci := 6) (v := .ref dr) (C := RX6) (T := TX6) (N := 13) hx hb hts inX6 hown hKN.1 hP 0 rfl rfl 0 (by decide) (hts _ tw_224) (fun _ h9 => h9) rfl dX6_closeLine_68 ?_
      refine lv_aload_n hx hb dX6_closeLine_71 rfl (lv_at hl 0 rfl) ?_
      refine va_get (D := D) (ci := 6) (v := .ref r_qnumbers) (C := RX6) (T := TX6) (N := 13) hx hb hts inX6 hown hKN.1 hP 0 rfl rfl 12 (by decide) (hts _ tw_239) (fun _ h9 => h9) rfl dX6_closeLine_72 ?_
      refine lv_iconst (v := 2) hx hb dX6_closeLine_75 (by decide) ?_
      refine va_iald hx hb hKN.1 hP 1 1 rfl rfl (by unfold vp_in; decide) dX6_closeLine_76 ?_
      refine W.eq (g2 := F0 m 77 ls [.int (r_cnumbers 2), .ref dr]) rfl ?_
      have k_8 := a_r_cnumbers_0 (2)
      refine va_put (D := D) (ci := 3) (v := .int (r_cnumbers 2)) (ty := .int) (C := RX3) (T := TX3) (N := 16) hx hb hts inX3 tyX3 tyX3_ok nmX3 hown hKN.1 hP hD hS 10 rfl rfl 0 (by decide) (hts _ tw_159) (fun _ h9 => h9) rfl (by decide +kernel) rfl rfl (Nat.le_of_ble_eq_true rfl) dX6_closeLine_77 (fun H locs hP hD hS => ?_)
      have hP : va_P D vwCl [(h0, .inr (6, [.ref dr, .int r_firstFault, .int r_faultPlace, .ref tp, .int r_at, .int r_kind, .int r_begin, .int r_value, .int r_line, .int r_taken, .int r_isWordDue, .int r_isTaking, .ref r_qnumbers])), (r_qnumbers, .inl (cA 1, 3, .inl r_cnumbers)), (d_qsides, .inl (cA 1, 8, .inl d_csides)), (d_qgrips, .inl (cA 1, 8, .inl d_cgrips)), (d_qwits, .inl (cA 1, 8, .inl d_cwits)), (d_qsays, .inl (cA 1, 7, .inl d_csays)), (d_qgives0, .inl (cA 1, 7, .inl d_cgives0)), (d_qgives1, .inl (cA 1, 7, .inl d_cgives1)), (d_qfroms, .inl (cA 1, 4, .inl d_cfroms)), (d_qtos, .inl (cA 1, 4, .inl d_ctos)), (dr, .inr (3, [.int (r_cnumbers 2), .int d_pot, .int d_lines, .int d_men, .int d_clauses, .int d_winds, .int (r_cnumbers 0), .int (r_cnumbers 1), .ref d_qsides, .ref d_qgrips, .ref d_qwits, .ref d_qsays, .ref d_qgives0, .ref d_qgives1, .ref d_qfroms, .ref d_qtos]))] H := hP
      have hD : va_D A [(h0, .inr (6, [.ref dr, .int r_firstFault, .int r_faultPlace, .ref tp, .int r_at, .int r_kind, .int r_begin, .int r_value, .int r_line, .int r_taken, .int r_isWordDue, .int r_isTaking, .ref r_qnumbers])), (r_qnumbers, .inl (cA 1, 3, .inl r_cnumbers)), (d_qsides, .inl (cA 1, 8, .inl d_csides)), (d_qgrips, .inl (cA 1, 8, .inl d_cgrips)), (d_qwits, .inl (cA 1, 8, .inl d_cwits)), (d_qsays, .inl (cA 1, 7, .inl d_csays)), (d_qgives0, .inl (cA 1, 7, .inl d_cgives0)), (d_qgives1, .inl (cA 1, 7, .inl d_cgives1)), (d_qfroms, .inl (cA 1, 4, .inl d_cfroms)), (d_qtos, .inl (cA 1, 4, .inl d_ctos)), (dr, .inr (3, [.int (r_cnumbers 2), .int d_pot, .int d_lines, .int d_men, .int d_clauses, .int d_winds, .int (r_cnumbers 0), .int (r_cnumbers 1), .ref d_qsides, .ref d_qgrips, .ref d_qwits, .ref d_qsays, .ref d_qgives0, .ref d_qgives1, .ref d_qfroms, .ref d_qtos]))] := hD
      refine lv_goto (tgt := 174) hx hb dX6_closeLine_80 (by decide) ?_
      refine lv_aload_n hx hb dX6_closeLine_174 rfl (lv_at hl 0 rfl) ?_
      refine va_get (D := D) (ci := 6) (v := .ref dr) (C := RX6) (T := TX6) (N := 13) hx hb hts inX6 hown hKN.1 hP 0 rfl rfl 0 (by decide) (hts _ tw_224) (fun _ h9 => h9) rfl dX6_closeLine_175 ?_
      refine lv_dup hx hb dX6_closeLine_178 rfl ?_
      refine va_get (D := D) (ci := 3) (v := .int d_lines) (C := RX3) (T := TX3) (N := 16) hx hb hts inX3 hown hKN.1 hP 10 rfl rfl 2 (by decide) (hts _ tw_166) (fun _ h9 => h9) rfl dX6_closeLine_179 ?_
      refine lv_iconst (v := 1) hx hb dX6_closeLine_182 (by decide) ?_
      refine lv_iadd hx hb dX6_closeLine_183 ?_
      refine lv_topi (fun x_9 ex_9 => ?_)
      refine va_put (D := D) (ci := 3) (v := .int x_9) (ty := .int) (C := RX3) (T := TX3) (N := 16) hx hb hts inX3 tyX3 tyX3_ok nmX3 hown hKN.1 hP hD hS 10 rfl rfl 2 (by decide) (hts _ tw_166) (fun _ h9 => h9) rfl (by decide +kernel) rfl rfl (Nat.le_of_ble_eq_true rfl) dX6_closeLine_184 (fun H locs hP hD hS => ?_)
      have hP : va_P D vwCl [(h0, .inr (6, [.ref dr, .int r_firstFault, .int r_faultPlace, .ref tp, .int r_at, .int r_kind, .int r_begin, .int r_value, .int r_line, .int r_taken, .int r_isWordDue, .int r_isTaking, .ref r_qnumbers])), (r_qnumbers, .inl (cA 1, 3, .inl r_cnumbers)), (d_qsides, .inl (cA 1, 8, .inl d_csides)), (d_qgrips, .inl (cA 1, 8, .inl d_cgrips)), (d_qwits, .inl (cA 1, 8, .inl d_cwits)), (d_qsays, .inl (cA 1, 7, .inl d_csays)), (d_qgives0, .inl (cA 1, 7, .inl d_cgives0)), (d_qgives1, .inl (cA 1, 7, .inl d_cgives1)), (d_qfroms, .inl (cA 1, 4, .inl d_cfroms)), (d_qtos, .inl (cA 1, 4, .inl d_ctos)), (dr, .inr (3, [.int (r_cnumbers 2), .int d_pot, .int x_9, .int d_men, .int d_clauses, .int d_winds, .int (r_cnumbers 0), .int (r_cnumbers 1), .ref d_qsides, .ref d_qgrips, .ref d_qwits, .ref d_qsays, .ref d_qgives0, .ref d_qgives1, .ref d_qfroms, .ref d_qtos]))] H := hP
      have hD : va_D A [(h0, .inr (6, [.ref dr, .int r_firstFault, .int r_faultPlace, .ref tp, .int r_at, .int r_kind, .int r_begin, .int r_value, .int r_line, .int r_taken, .int r_isWordDue, .int r_isTaking, .ref r_qnumbers])), (r_qnumbers, .inl (cA 1, 3, .inl r_cnumbers)), (d_qsides, .inl (cA 1, 8, .inl d_csides)), (d_qgrips, .inl (cA 1, 8, .inl d_cgrips)), (d_qwits, .inl (cA 1, 8, .inl d_cwits)), (d_qsays, .inl (cA 1, 7, .inl d_csays)), (d_qgives0, .inl (cA 1, 7, .inl d_cgives0)), (d_qgives1, .inl (cA 1, 7, .inl d_cgives1)), (d_qfroms, .inl (cA 1, 4, .inl d_cfroms)), (d_qtos, .inl (cA 1, 4, .inl d_ctos)), (dr, .inr (3, [.int (r_cnumbers 2), .int d_pot, .int x_9, .int d_men, .int d_clauses, .int d_winds, .int (r_cnumbers 0), .int (r_cnumbers 1), .ref d_qsides, .ref d_qgrips, .ref d_qwits, .ref d_qsays, .ref d_qgives0, .ref d_qgives1, .ref d_qfroms, .ref d_qtos]))] := hD
      refine lv_aload_n hx hb dX6_closeLine_187 rfl (lv_at hl 0 rfl) ?_
      refine lv_iconst (v := 5) hx hb dX6_closeLine_188 (by decide) ?_
      refine va_put (D := D) (ci := 6) (v := .int 5) (ty := .int) (C := RX6) (T := TX6) (N := 13) hx hb hts inX6 tyX6 tyX6_ok nmX6 hown hKN.1 hP hD hS 0 rfl rfl 8 (by decide) (hts _ tw_235) (fun _ h9 => h9) rfl (by decide +kernel) rfl rfl (Nat.le_of_ble_eq_true rfl) dX6_closeLine_189 (fun H locs hP hD hS => ?_)
      have hP : va_P D vwCl [(h0, .inr (6, [.ref dr, .int r_firstFault, .int r_faultPlace, .ref tp, .int r_at, .int r_kind, .int r_begin, .int r_value, .int 5, .int r_taken, .int r_isWordDue, .int r_isTaking, .ref r_qnumbers])), (r_qnumbers, .inl (cA 1, 3, .inl r_cnumbers)), (d_qsides, .inl (cA 1, 8, .inl d_csides)), (d_qgrips, .inl (cA 1, 8, .inl d_cgrips)), (d_qwits, .inl (cA 1, 8, .inl d_cwits)), (d_qsays, .inl (cA 1, 7, .inl d_csays)), (d_qgives0, .inl (cA 1, 7, .inl d_cgives0)), (d_qgives1, .inl (cA 1, 7, .inl d_cgives1)), (d_qfroms, .inl (cA 1, 4, .inl d_cfroms)), (d_qtos, .inl (cA 1, 4, .inl d_ctos)), (dr, .inr (3, [.int (r_cnumbers 2), .int d_pot, .int x_9, .int d_men, .int d_clauses, .int d_winds, .int (r_cnumbers 0), .int (r_cnumbers 1), .ref d_qsides, .ref d_qgrips, .ref d_qwits, .ref d_qsays, .ref d_qgives0, .ref d_qgives1, .ref d_qfroms, .ref d_qtos]))] H := hP
      have hD : va_D A [(h0, .inr (6, [.ref dr, .int r_firstFault, .int r_faultPlace, .ref tp, .int r_at, .int r_kind, .int r_begin, .int r_value, .int 5, .int r_taken, .int r_isWordDue, .int r_isTaking, .ref r_qnumbers])), (r_qnumbers, .inl (cA 1, 3, .inl r_cnumbers)), (d_qsides, .inl (cA 1, 8, .inl d_csides)), (d_qgrips, .inl (cA 1, 8, .inl d_cgrips)), (d_qwits, .inl (cA 1, 8, .inl d_cwits)), (d_qsays, .inl (cA 1, 7, .inl d_csays)), (d_qgives0, .inl (cA 1, 7, .inl d_cgives0)), (d_qgives1, .inl (cA 1, 7, .inl d_cgives1)), (d_qfroms, .inl (cA 1, 4, .inl d_cfroms)), (d_qtos, .inl (cA 1, 4, .inl d_ctos)), (dr, .inr (3, [.int (r_cnumbers 2), .int d_pot, .int x_9, .int d_men, .int d_clauses, .int d_winds, .int (r_cnumbers 0), .int (r_cnumbers 1), .ref d_qsides, .ref d_qgrips, .ref d_qwits, .ref d_qsays, .ref d_qgives0, .ref d_qgives1, .ref d_qfroms, .ref d_qtos]))] := hD
      have hP9 := hP.sub (ws' := [(h0, .inr (6, [.ref dr, .int r_firstFault, .int r_faultPlace, .ref tp, .int r_at, .int r_kind, .int r_begin, .int r_value, .int 5, .int r_taken, .int r_isWordDue, .int r_isTaking, .ref r_qnumbers])), (r_qnumbers, .inl (cA 1, 3, .inl r_cnumbers)), (dr, .inr (3, [.int (r_cnumbers 2), .int d_pot, .int x_9, .int d_men, .int d_clauses, .int d_winds, .int (r_cnumbers 0), .int (r_cnumbers 1), .ref d_qsides, .ref d_qgrips, .ref d_qwits, .ref d_qsays, .ref d_qgives0, .ref d_qgives1, .ref d_qfroms, .ref d_qtos])), (d_qsides, .inl (cA 1, 8, .inl d_csides)), (d_qgrips, .inl (cA 1, 8, .inl d_cgrips)), (d_qwits, .inl (cA 1, 8, .inl d_cwits)), (d_qsays, .inl (cA 1, 7, .inl d_csays)), (d_qgives0, .inl (cA 1, 7, .inl d_cgives0)), (d_qgives1, .inl (cA 1, 7, .inl d_cgives1)), (d_qfroms, .inl (cA 1, 4, .inl d_cfroms)), (d_qtos, .inl (cA 1, 4, .inl d_ctos))]) [0, 1, 10, 2, 3, 4, 5, 6, 7, 8, 9] rfl
      have hD9 := hD.sub (ws' := [(h0, .inr (6, [.ref dr, .int r_firstFault, .int r_faultPlace, .ref tp, .int r_at, .int r_kind, .int r_begin, .int r_value, .int 5, .int r_taken, .int r_isWordDue, .int r_isTaking, .ref r_qnumbers])), (r_qnumbers, .inl (cA 1, 3, .inl r_cnumbers)), (dr, .inr (3, [.int (r_cnumbers 2), .int d_pot, .int x_9, .int d_men, .int d_clauses, .int d_winds, .int (r_cnumbers 0), .int (r_cnumbers 1), .ref d_qsides, .ref d_qgrips, .ref d_qwits, .ref d_qsays, .ref d_qgives0, .ref d_qgives1, .ref d_qfroms, .ref d_qtos])), (d_qsides, .inl (cA 1, 8, .inl d_csides)), (d_qgrips, .inl (cA 1, 8, .inl d_cgrips)), (d_qwits, .inl (cA 1, 8, .inl d_cwits)), (d_qsays, .inl (cA 1, 7, .inl d_csays)), (d_qgives0, .inl (cA 1, 7, .inl d_cgives0)), (d_qgives1, .inl (cA 1, 7, .inl d_cgives1)), (d_qfroms, .inl (cA 1, 4, .inl d_cfroms)), (d_qtos, .inl (cA 1, 4, .inl d_ctos))]) [0, 1, 10, 2, 3, 4, 5, 6, 7, 8, 9] (by decide) rfl
      exact W.vret hx hb hr (fun t ht hW => ⟨⟨((fun _ => 0), (selI [r_firstFault, r_faultPlace, 5, (r_cnumbers 2), d_pot, x_9, d_men, d_clauses, d_winds, (r_cnumbers 0), (r_cnumbers 1)]), (selF [d_csides, d_cgrips, d_cwits, d_csays, d_cgives0, d_cgives1, d_cfroms, d_ctos]), (fun _ _ => 0)), rfl, ⟨(show -999 ≤ (r_cnumbers 2).toInt ∧ (r_cnumbers 2).toInt ≤ 999 from by omega), (show -999 ≤ d_pot.toInt ∧ d_pot.toInt ≤ 999 from by omega), (show 0 ≤ d_men.toInt ∧ d_men.toInt ≤ 8 from by omega), (show 0 ≤ d_clauses.toInt ∧ d_clauses.toInt ≤ 7 from by omega), (show 0 ≤ d_winds.toInt ∧ d_winds.toInt ≤ 4 from by omega), (show -999 ≤ (r_cnumbers 0).toInt ∧ (r_cnumbers 0).toInt ≤ 999 from by omega), (show -999 ≤ (r_cnumbers 1).toInt ∧ (r_cnumbers 1).toInt ≤ 999 from by omega)⟩, by rw [ht]; exact hP9, hD9⟩, hS.F ht⟩) hS.2.2 dX6_closeLine_192
    · skip
      refine lv_tableIn (tgt := 83) hx hb dX6_closeLine_18 (by omega) (by omega) (by rw [c_4]; rfl) (by decide) ?_
      refine lv_aload_n hx hb dX6_closeLine_83 rfl (lv_at hl 0 rfl) ?_
      refine va_get (D := D) (ci := 6) (v := .ref dr) (C := RX6) (T := TX6) (N := 13) hx hb hts inX6 hown hKN.1 hP 0 rfl rfl 0 (by decide) (hts _ tw_224) (fun _ h9 => h9) rfl dX6_closeLine_84 ?_
      refine lv_aload_n hx hb dX6_closeLine_87 rfl (lv_at hl 0 rfl) ?_
      refine va_get (D := D) (ci := 6) (v := .ref r_qnumbers) (C := RX6) (T := TX6) (N := 13) hx hb hts inX6 hown hKN.1 hP 0 rfl rfl 12 (by decide) (hts _ tw_239) (fun _ h9 => h9) rfl dX6_closeLine_88 ?_
      refine lv_iconst (v := 0) hx hb dX6_closeLine_91 (by decide) ?_
      refine va_iald hx hb hKN.1 hP 1 1 rfl rfl (by unfold vp_in; decide) dX6_closeLine_92 ?_
      refine W.eq (g2 := F0 m 93 ls [.int (r_cnumbers 0), .ref dr]) rfl ?_
      have k_11 := a_r_cnumbers_0 (0)
      refine lv_aload_n hx hb dX6_closeLine_93 rfl (lv_at hl 0 rfl) ?_
      refine va_get (D := D) (ci := 6) (v := .ref r_qnumbers) (C := RX6) (T := TX6) (N := 13) hx hb hts inX6 hown hKN.1 hP 0 rfl rfl 12 (by decide) (hts _ tw_239) (fun _ h9 => h9) rfl dX6_closeLine_94 ?_
      refine lv_iconst (v := 1) hx hb dX6_closeLine_97 (by decide) ?_
      refine va_iald hx hb hKN.1 hP 1 1 rfl rfl (by unfold vp_in; decide) dX6_closeLine_98 ?_
      refine W.eq (g2 := F0 m 99 ls [.int (r_cnumbers 1), .int (r_cnumbers 0), .ref dr]) rfl ?_
      have k_12 := a_r_cnumbers_0 (1)
      refine lv_aload_n hx hb dX6_closeLine_99 rfl (lv_at hl 0 rfl) ?_
      refine va_get (D := D) (ci := 6) (v := .ref r_qnumbers) (C := RX6) (T := TX6) (N := 13) hx hb hts inX6 hown hKN.1 hP 0 rfl rfl 12 (by decide) (hts _ tw_239) (fun _ h9 => h9) rfl dX6_closeLine_100 ?_
      refine lv_iconst (v := 2) hx hb dX6_closeLine_103 (by decide) ?_
      refine va_iald hx hb hKN.1 hP 1 1 rfl rfl (by unfold vp_in; decide) dX6_closeLine_104 ?_
      refine W.eq (g2 := F0 m 105 ls [.int (r_cnumbers 2), .int (r_cnumbers 1), .int (r_cnumbers 0), .ref dr]) rfl ?_
      have k_13 := a_r_cnumbers_0 (2)
      refine cmVv (rest := []) (wsC := [(dr, .inr (3, [.int d_odds, .int d_pot, .int d_lines, .int d_men, .int d_clauses, .int d_winds, .int d_far0, .int d_far1, .ref d_qsides, .ref d_qgrips, .ref d_qwits, .ref d_qsays, .ref d_qgives0, .ref d_qgives1, .ref d_qfroms, .ref d_qtos])), (d_qsides, .inl (cA 1, 8, .inl d_csides)), (d_qgrips, .inl (cA 1, 8, .inl d_cgrips)), (d_qwits, .inl (cA 1, 8, .inl d_cwits))]) (wr := [(h0, .inr (6, [.ref dr, .int r_firstFault, .int r_faultPlace, .ref tp, .int r_at, .int r_kind, .int r_begin, .int r_value, .int r_line, .int r_taken, .int r_isWordDue, .int r_isTaking, .ref r_qnumbers])), (r_qnumbers, .inl (cA 1, 3, .inl r_cnumbers)), (d_qsays, .inl (cA 1, 7, .inl d_csays)), (d_qgives0, .inl (cA 1, 7, .inl d_cgives0)), (d_qgives1, .inl (cA 1, 7, .inl d_cgives1)), (d_qfroms, .inl (cA 1, 4, .inl d_cfroms)), (d_qtos, .inl (cA 1, 4, .inl d_ctos))]) ⟨hx, hb, hml, hown, hts⟩ hKN hP hD hS hA [2, 3, 4, 5] [0, 1, 6, 7, 8, 9, 10] rfl rfl (by decide) (by decide) (by decide) (g_X3_addMan l D cA _ dr d_odds d_pot d_lines d_men d_clauses d_winds d_far0 d_far1 d_qsides d_qgrips d_qwits d_qsays d_qgives0 d_qgives1 d_qfroms d_qtos d_csides d_cgrips d_cwits (r_cnumbers 0) (r_cnumbers 1) (r_cnumbers 2) (by omega) (by omega) (by omega) (by omega) (by omega) (by omega) (by omega)) (tb_V tw_641 tw_642 tw_643 tw_104 tw_644) hdX3_addMan ⟨rfl, rfl, Nat.le_of_ble_eq_true rfl, Nat.le_of_ble_eq_true rfl⟩ ⟨Nat.le_of_ble_eq_true rfl, Nat.le_of_ble_eq_true rfl⟩ rfl rfl rfl hl.1 rfl (Nat.le_of_ble_eq_true rfl) dX6_closeLine_105 (fun u_14 H locs hr_14 hP hD hS => ?_)
      have hP : va_P D vwCl [(h0, .inr (6, [.ref dr, .int r_firstFault, .int r_faultPlace, .ref tp, .int r_at, .int r_kind, .int r_begin, .int r_value, .int r_line, .int r_taken, .int r_isWordDue, .int r_isTaking, .ref r_qnumbers])), (r_qnumbers, .inl (cA 1, 3, .inl r_cnumbers)), (d_qsays, .inl (cA 1, 7, .inl d_csays)), (d_qgives0, .inl (cA 1, 7, .inl d_cgives0)), (d_qgives1, .inl (cA 1, 7, .inl d_cgives1)), (d_qfroms, .inl (cA 1, 4, .inl d_cfroms)), (d_qtos, .inl (cA 1, 4, .inl d_ctos)), (dr, .inr (3, [.int d_odds, .int d_pot, .int d_lines, .int (u_14.2.1 0), .int d_clauses, .int d_winds, .int d_far0, .int d_far1, .ref d_qsides, .ref d_qgrips, .ref d_qwits, .ref d_qsays, .ref d_qgives0, .ref d_qgives1, .ref d_qfroms, .ref d_qtos])), (d_qsides, .inl (cA 1, 8, .inl (u_14.2.2.1 0))), (d_qgrips, .inl (cA 1, 8, .inl (u_14.2.2.1 1))), (d_qwits, .inl (cA 1, 8, .inl (u_14.2.2.1 2)))] H := hP
      have hD : va_D A [(h0, .inr (6, [.ref dr, .int r_firstFault, .int r_faultPlace, .ref tp, .int r_at, .int r_kind, .int r_begin, .int r_value, .int r_line, .int r_taken, .int r_isWordDue, .int r_isTaking, .ref r_qnumbers])), (r_qnumbers, .inl (cA 1, 3, .inl r_cnumbers)), (d_qsays, .inl (cA 1, 7, .inl d_csays)), (d_qgives0, .inl (cA 1, 7, .inl d_cgives0)), (d_qgives1, .inl (cA 1, 7, .inl d_cgives1)), (d_qfroms, .inl (cA 1, 4, .inl d_cfroms)), (d_qtos, .inl (cA 1, 4, .inl d_ctos)), (dr, .inr (3, [.int d_odds, .int d_pot, .int d_lines, .int (u_14.2.1 0), .int d_clauses, .int d_winds, .int d_far0, .int d_far1, .ref d_qsides, .ref d_qgrips, .ref d_qwits, .ref d_qsays, .ref d_qgives0, .ref d_qgives1, .ref d_qfroms, .ref d_qtos])), (d_qsides, .inl (cA 1, 8, .inl (u_14.2.2.1 0))), (d_qgrips, .inl (cA 1, 8, .inl (u_14.2.2.1 1))), (d_qwits, .inl (cA 1, 8, .inl (u_14.2.2.1 2)))] := hD
      have hr_14_0 := hr_14
      refine lv_goto (tgt := 174) hx hb dX6_closeLine_108 (by decide) ?_
      refine lv_aload_n hx hb dX6_closeLine_174 rfl (lv_at hl 0 rfl) ?_
      refine va_get (D := D) (ci := 6) (v := .ref dr) (C := RX6) (T := TX6) (N := 13) hx hb hts inX6 hown hKN.1 hP 0 rfl rfl 0 (by decide) (hts _ tw_224) (fun _ h9 => h9) rfl dX6_closeLine_175 ?_
      refine lv_dup hx hb dX6_closeLine_178 rfl ?_
      refine va_get (D := D) (ci := 3) (v := .int d_lines) (C := RX3) (T := TX3) (N := 16) hx hb hts inX3 hown hKN.1 hP 7 rfl rfl 2 (by decide) (hts _ tw_166) (fun _ h9 => h9) rfl dX6_closeLine_179 ?_
      refine lv_iconst (v := 1) hx hb dX6_closeLine_182 (by decide) ?_
      refine lv_iadd hx hb dX6_closeLine_183 ?_
      refine lv_topi (fun x_15 ex_15 => ?_)
      refine va_put (D := D) (ci := 3) (v := .int x_15) (ty := .int) (C := RX3) (T := TX3) (N := 16) hx hb hts inX3 tyX3 tyX3_ok nmX3 hown hKN.1 hP hD hS 7 rfl rfl 2 (by decide) (hts _ tw_166) (fun _ h9 => h9) rfl (by decide +kernel) rfl rfl (Nat.le_of_ble_eq_true rfl) dX6_closeLine_184 (fun H locs hP hD hS => ?_)
      have hP : va_P D vwCl [(h0, .inr (6, [.ref dr, .int r_firstFault, .int r_faultPlace, .ref tp, .int r_at, .int r_kind, .int r_begin, .int r_value, .int r_line, .int r_taken, .int r_isWordDue, .int r_isTaking, .ref r_qnumbers])), (r_qnumbers, .inl (cA 1, 3, .inl r_cnumbers)), (d_qsays, .inl (cA 1, 7, .inl d_csays)), (d_qgives0, .inl (cA 1, 7, .inl d_cgives0)), (d_qgives1, .inl (cA 1, 7, .inl d_cgives1)), (d_qfroms, .inl (cA 1, 4, .inl d_cfroms)), (d_qtos, .inl (cA 1, 4, .inl d_ctos)), (dr, .inr (3, [.int d_odds, .int d_pot, .int x_15, .int (u_14.2.1 0), .int d_clauses, .int d_winds, .int d_far0, .int d_far1, .ref d_qsides, .ref d_qgrips, .ref d_qwits, .ref d_qsays, .ref d_qgives0, .ref d_qgives1, .ref d_qfroms, .ref d_qtos])), (d_qsides, .inl (cA 1, 8, .inl (u_14.2.2.1 0))), (d_qgrips, .inl (cA 1, 8, .inl (u_14.2.2.1 1))), (d_qwits, .inl (cA 1, 8, .inl (u_14.2.2.1 2)))] H := hP
      have hD : va_D A [(h0, .inr (6, [.ref dr, .int r_firstFault, .int r_faultPlace, .ref tp, .int r_at, .int r_kind, .int r_begin, .int r_value, .int r_line, .int r_taken, .int r_isWordDue, .int r_isTaking, .ref r_qnumbers])), (r_qnumbers, .inl (cA 1, 3, .inl r_cnumbers)), (d_qsays, .inl (cA 1, 7, .inl d_csays)), (d_qgives0, .inl (cA 1, 7, .inl d_cgives0)), (d_qgives1, .inl (cA 1, 7, .inl d_cgives1)), (d_qfroms, .inl (cA 1, 4, .inl d_cfroms)), (d_qtos, .inl (cA 1, 4, .inl d_ctos)), (dr, .inr (3, [.int d_odds, .int d_pot, .int x_15, .int (u_14.2.1 0), .int d_clauses, .int d_winds, .int d_far0, .int d_far1, .ref d_qsides, .ref d_qgrips, .ref d_qwits, .ref d_qsays, .ref d_qgives0, .ref d_qgives1, .ref d_qfroms, .ref d_qtos])), (d_qsides, .inl (cA 1, 8, .inl (u_14.2.2.1 0))), (d_qgrips, .inl (cA 1, 8, .inl (u_14.2.2.1 1))), (d_qwits, .inl (cA 1, 8, .inl (u_14.2.2.1 2)))] := hD
      refine lv_aload_n hx hb dX6_closeLine_187 rfl (lv_at hl 0 rfl) ?_
      refine lv_iconst (v := 5) hx hb dX6_closeLine_188 (by decide) ?_
      refine va_put (D := D) (ci := 6) (v := .int 5) (ty := .int) (C := RX6) (T := TX6) (N := 13) hx hb hts inX6 tyX6 tyX6_ok nmX6 hown hKN.1 hP hD hS 0 rfl rfl 8 (by decide) (hts _ tw_235) (fun _ h9 => h9) rfl (by decide +kernel) rfl rfl (Nat.le_of_ble_eq_true rfl) dX6_closeLine_189 (fun H locs hP hD hS => ?_)
      have hP : va_P D vwCl [(h0, .inr (6, [.ref dr, .int r_firstFault, .int r_faultPlace, .ref tp, .int r_at, .int r_kind, .int r_begin, .int r_value, .int 5, .int r_taken, .int r_isWordDue, .int r_isTaking, .ref r_qnumbers])), (r_qnumbers, .inl (cA 1, 3, .inl r_cnumbers)), (d_qsays, .inl (cA 1, 7, .inl d_csays)), (d_qgives0, .inl (cA 1, 7, .inl d_cgives0)), (d_qgives1, .inl (cA 1, 7, .inl d_cgives1)), (d_qfroms, .inl (cA 1, 4, .inl d_cfroms)), (d_qtos, .inl (cA 1, 4, .inl d_ctos)), (dr, .inr (3, [.int d_odds, .int d_pot, .int x_15, .int (u_14.2.1 0), .int d_clauses, .int d_winds, .int d_far0, .int d_far1, .ref d_qsides, .ref d_qgrips, .ref d_qwits, .ref d_qsays, .ref d_qgives0, .ref d_qgives1, .ref d_qfroms, .ref d_qtos])), (d_qsides, .inl (cA 1, 8, .inl (u_14.2.2.1 0))), (d_qgrips, .inl (cA 1, 8, .inl (u_14.2.2.1 1))), (d_qwits, .inl (cA 1, 8, .inl (u_14.2.2.1 2)))] H := hP
      have hD : va_D A [(h0, .inr (6, [.ref dr, .int r_firstFault, .int r_faultPlace, .ref tp, .int r_at, .int r_kind, .int r_begin, .int r_value, .int 5, .int r_taken, .int r_isWordDue, .int r_isTaking, .ref r_qnumbers])), (r_qnumbers, .inl (cA 1, 3, .inl r_cnumbers)), (d_qsays, .inl (cA 1, 7, .inl d_csays)), (d_qgives0, .inl (cA 1, 7, .inl d_cgives0)), (d_qgives1, .inl (cA 1, 7, .inl d_cgives1)), (d_qfroms, .inl (cA 1, 4, .inl d_cfroms)), (d_qtos, .inl (cA 1, 4, .inl d_ctos)), (dr, .inr (3, [.int d_odds, .int d_pot, .int x_15, .int (u_14.2.1 0), .int d_clauses, .int d_winds, .int d_far0, .int d_far1, .ref d_qsides, .ref d_qgrips, .ref d_qwits, .ref d_qsays, .ref d_qgives0, .ref d_qgives1, .ref d_qfroms, .ref d_qtos])), (d_qsides, .inl (cA 1, 8, .inl (u_14.2.2.1 0))), (d_qgrips, .inl (cA 1, 8, .inl (u_14.2.2.1 1))), (d_qwits, .inl (cA 1, 8, .inl (u_14.2.2.1 2)))] := hD
      have hP9 := hP.sub (ws' := [(h0, .inr (6, [.ref dr, .int r_firstFault, .int r_faultPlace, .ref tp, .int r_at, .int r_kind, .int r_begin, .int r_value, .int 5, .int r_taken, .int r_isWordDue, .int r_isTaking, .ref r_qnumbers])), (r_qnumbers, .inl (cA 1, 3, .inl r_cnumbers)), (dr, .inr (3, [.int d_odds, .int d_pot, .int x_15, .int (u_14.2.1 0), .int d_clauses, .int d_winds, .int d_far0, .int d_far1, .ref d_qsides, .ref d_qgrips, .ref d_qwits, .ref d_qsays, .ref d_qgives0, .ref d_qgives1, .ref d_qfroms, .ref d_qtos])), (d_qsides, .inl (cA 1, 8, .inl (u_14.2.2.1 0))), (d_qgrips, .inl (cA 1, 8, .inl (u_14.2.2.1 1))), (d_qwits, .inl (cA 1, 8, .inl (u_14.2.2.1 2))), (d_qsays, .inl (cA 1, 7, .inl d_csays)), (d_qgives0, .inl (cA 1, 7, .inl d_cgives0)), (d_qgives1, .inl (cA 1, 7, .inl d_cgives1)), (d_qfroms, .inl (cA 1, 4, .inl d_cfroms)), (d_qtos, .inl (cA 1, 4, .inl d_ctos))]) [0, 1, 7, 8, 9, 10, 2, 3, 4, 5, 6] rfl
      have hD9 := hD.sub (ws' := [(h0, .inr (6, [.ref dr, .int r_firstFault, .int r_faultPlace, .ref tp, .int r_at, .int r_kind, .int r_begin, .int r_value, .int 5, .int r_taken, .int r_isWordDue, .int r_isTaking, .ref r_qnumbers])), (r_qnumbers, .inl (cA 1, 3, .inl r_cnumbers)), (dr, .inr (3, [.int d_odds, .int d_pot, .int x_15, .int (u_14.2.1 0), .int d_clauses, .int d_winds, .int d_far0, .int d_far1, .ref d_qsides, .ref d_qgrips, .ref d_qwits, .ref d_qsays, .ref d_qgives0, .ref d_qgives1, .ref d_qfroms, .ref d_qtos])), (d_qsides, .inl (cA 1, 8, .inl (u_14.2.2.1 0))), (d_qgrips, .inl (cA 1, 8, .inl (u_14.2.2.1 1))), (d_qwits, .inl (cA 1, 8, .inl (u_14.2.2.1 2))), (d_qsays, .inl (cA 1, 7, .inl d_csays)), (d_qgives0, .inl (cA 1, 7, .inl d_cgives0)), (d_qgives1, .inl (cA 1, 7, .inl d_cgives1)), (d_qfroms, .inl (cA 1, 4, .inl d_cfroms)), (d_qtos, .inl (cA 1, 4, .inl d_ctos))]) [0, 1, 7, 8, 9, 10, 2, 3, 4, 5, 6] (by decide) rfl
      exact W.vret hx hb hr (fun t ht hW => ⟨⟨((fun _ => 0), (selI [r_firstFault, r_faultPlace, 5, d_odds, d_pot, x_15, (u_14.2.1 0), d_clauses, d_winds, d_far0, d_far1]), (selF [(u_14.2.2.1 0), (u_14.2.2.1 1), (u_14.2.2.1 2), d_csays, d_cgives0, d_cgives1, d_cfroms, d_ctos]), (fun _ _ => 0)), rfl, ⟨(show -999 ≤ d_odds.toInt ∧ d_odds.toInt ≤ 999 from by omega), (show -999 ≤ d_pot.toInt ∧ d_pot.toInt ≤ 999 from by omega), (show 0 ≤ (u_14.2.1 0).toInt ∧ (u_14.2.1 0).toInt ≤ 8 from by omega), (show 0 ≤ d_clauses.toInt ∧ d_clauses.toInt ≤ 7 from by omega), (show 0 ≤ d_winds.toInt ∧ d_winds.toInt ≤ 4 from by omega), (show -999 ≤ d_far0.toInt ∧ d_far0.toInt ≤ 999 from by omega), (show -999 ≤ d_far1.toInt ∧ d_far1.toInt ≤ 999 from by omega)⟩, by rw [ht]; exact hP9, hD9⟩, hS.F ht⟩) hS.2.2 dX6_closeLine_192
    · skip
      refine lv_tableIn (tgt := 111) hx hb dX6_closeLine_18 (by omega) (by omega) (by rw [c_4]; rfl) (by decide) ?_
      refine lv_aload_n hx hb dX6_closeLine_111 rfl (lv_at hl 0 rfl) ?_
      refine va_get (D := D) (ci := 6) (v := .ref dr) (C := RX6) (T := TX6) (N := 13) hx hb hts inX6 hown hKN.1 hP 0 rfl rfl 0 (by decide) (hts _ tw_224) (fun _ h9 => h9) rfl dX6_closeLine_112 ?_
      refine lv_aload_n hx hb dX6_closeLine_115 rfl (lv_at hl 0 rfl) ?_
      refine va_get (D := D) (ci := 6) (v := .ref r_qnumbers) (C := RX6) (T := TX6) (N := 13) hx hb hts inX6 hown hKN.1 hP 0 rfl rfl 12 (by decide) (hts _ tw_239) (fun _ h9 => h9) rfl dX6_closeLine_116 ?_
      refine lv_iconst (v := 0) hx hb dX6_closeLine_119 (by decide) ?_
      refine va_iald hx hb hKN.1 hP 1 1 rfl rfl (by unfold vp_in; decide) dX6_closeLine_120 ?_
      refine W.eq (g2 := F0 m 121 ls [.int (r_cnumbers 0), .ref dr]) rfl ?_
      have k_17 := a_r_cnumbers_0 (0)
      refine lv_aload_n hx hb dX6_closeLine_121 rfl (lv_at hl 0 rfl) ?_
      refine va_get (D := D) (ci := 6) (v := .ref r_qnumbers) (C := RX6) (T := TX6) (N := 13) hx hb hts inX6 hown hKN.1 hP 0 rfl rfl 12 (by decide) (hts _ tw_239) (fun _ h9 => h9) rfl dX6_closeLine_122 ?_
      refine lv_iconst (v := 1) hx hb dX6_closeLine_125 (by decide) ?_
      refine va_iald hx hb hKN.1 hP 1 1 rfl rfl (by unfold vp_in; decide) dX6_closeLine_126 ?_
      refine W.eq (g2 := F0 m 127 ls [.int (r_cnumbers 1), .int (r_cnumbers 0), .ref dr]) rfl ?_
      have k_18 := a_r_cnumbers_0 (1)
      refine lv_aload_n hx hb dX6_closeLine_127 rfl (lv_at hl 0 rfl) ?_
      refine va_get (D := D) (ci := 6) (v := .ref r_qnumbers) (C := RX6) (T := TX6) (N := 13) hx hb hts inX6 hown hKN.1 hP 0 rfl rfl 12 (by decide) (hts _ tw_239) (fun _ h9 => h9) rfl dX6_closeLine_128 ?_
      refine lv_iconst (v := 2) hx hb dX6_closeLine_131 (by decide) ?_
      refine va_iald hx hb hKN.1 hP 1 1 rfl rfl (by unfold vp_in; decide) dX6_closeLine_132 ?_
      refine W.eq (g2 := F0 m 133 ls [.int (r_cnumbers 2), .int (r_cnumbers 1), .int (r_cnumbers 0), .ref dr]) rfl ?_
      have k_19 := a_r_cnumbers_0 (2)
      refine cmVv (rest := []) (wsC := [(dr, .inr (3, [.int d_odds, .int d_pot, .int d_lines, .int d_men, .int d_clauses, .int d_winds, .int d_far0, .int d_far1, .ref d_qsides, .ref d_qgrips, .ref d_qwits, .ref d_qsays, .ref d_qgives0, .ref d_qgives1, .ref d_qfroms, .ref d_qtos])), (d_qsays, .inl (cA 1, 7, .inl d_csays)), (d_qgives0, .inl (cA 1, 7, .inl d_cgives0)), (d_qgives1, .inl (cA 1, 7, .inl d_cgives1))]) (wr := [(h0, .inr (6, [.ref dr, .int r_firstFault, .int r_faultPlace, .ref tp, .int r_at, .int r_kind, .int r_begin, .int r_value, .int r_line, .int r_taken, .int r_isWordDue, .int r_isTaking, .ref r_qnumbers])), (r_qnumbers, .inl (cA 1, 3, .inl r_cnumbers)), (d_qsides, .inl (cA 1, 8, .inl d_csides)), (d_qgrips, .inl (cA 1, 8, .inl d_cgrips)), (d_qwits, .inl (cA 1, 8, .inl d_cwits)), (d_qfroms, .inl (cA 1, 4, .inl d_cfroms)), (d_qtos, .inl (cA 1, 4, .inl d_ctos))]) ⟨hx, hb, hml, hown, hts⟩ hKN hP hD hS hA [2, 6, 7, 8] [0, 1, 3, 4, 5, 9, 10] rfl rfl (by decide) (by decide) (by decide) (g_X3_addClause l D cA _ dr d_odds d_pot d_lines d_men d_clauses d_winds d_far0 d_far1 d_qsides d_qgrips d_qwits d_qsays d_qgives0 d_qgives1 d_qfroms d_qtos d_csays d_cgives0 d_cgives1 (r_cnumbers 0) (r_cnumbers 1) (r_cnumbers 2) (by omega) (by omega) (by omega) (by omega) (by omega) (by omega) (by omega)) (tb_V tw_645 tw_646 tw_647 tw_104 tw_648) hdX3_addClause ⟨rfl, rfl, Nat.le_of_ble_eq_true rfl, Nat.le_of_ble_eq_true rfl⟩ ⟨Nat.le_of_ble_eq_true rfl, Nat.le_of_ble_eq_true rfl⟩ rfl rfl rfl hl.1 rfl (Nat.le_of_ble_eq_true rfl) dX6_closeLine_133 (fun u_20 H locs hr_20 hP hD hS => ?_)
      have hP : va_P D vwCl [(h0, .inr (6, [.ref dr, .int r_firstFault, .int r_faultPlace, .ref tp, .int r_at, .int r_kind, .int r_begin, .int r_value, .int r_line, .int r_taken, .int r_isWordDue, .int r_isTaking, .ref r_qnumbers])), (r_qnumbers, .inl (cA 1, 3, .inl r_cnumbers)), (d_qsides, .inl (cA 1, 8, .inl d_csides)), (d_qgrips, .inl (cA 1, 8, .inl d_cgrips)), (d_qwits, .inl (cA 1, 8, .inl d_cwits)), (d_qfroms, .inl (cA 1, 4, .inl d_cfroms)), (d_qtos, .inl (cA 1, 4, .inl d_ctos)), (dr, .inr (3, [.int d_odds, .int d_pot, .int d_lines, .int d_men, .int (u_20.2.1 0), .int d_winds, .int d_far0, .int d_far1, .ref d_qsides, .ref d_qgrips, .ref d_qwits, .ref d_qsays, .ref d_qgives0, .ref d_qgives1, .ref d_qfroms, .ref d_qtos])), (d_qsays, .inl (cA 1, 7, .inl (u_20.2.2.1 0))), (d_qgives0, .inl (cA 1, 7, .inl (u_20.2.2.1 1))), (d_qgives1, .inl (cA 1, 7, .inl (u_20.2.2.1 2)))] H := hP
      have hD : va_D A [(h0, .inr (6, [.ref dr, .int r_firstFault, .int r_faultPlace, .ref tp, .int r_at, .int r_kind, .int r_begin, .int r_value, .int r_line, .int r_taken, .int r_isWordDue, .int r_isTaking, .ref r_qnumbers])), (r_qnumbers, .inl (cA 1, 3, .inl r_cnumbers)), (d_qsides, .inl (cA 1, 8, .inl d_csides)), (d_qgrips, .inl (cA 1, 8, .inl d_cgrips)), (d_qwits, .inl (cA 1, 8, .inl d_cwits)), (d_qfroms, .inl (cA 1, 4, .inl d_cfroms)), (d_qtos, .inl (cA 1, 4, .inl d_ctos)), (dr, .inr (3, [.int d_odds, .int d_pot, .int d_lines, .int d_men, .int (u_20.2.1 0), .int d_winds, .int d_far0, .int d_far1, .ref d_qsides, .ref d_qgrips, .ref d_qwits, .ref d_qsays, .ref d_qgives0, .ref d_qgives1, .ref d_qfroms, .ref d_qtos])), (d_qsays, .inl (cA 1, 7, .inl (u_20.2.2.1 0))), (d_qgives0, .inl (cA 1, 7, .inl (u_20.2.2.1 1))), (d_qgives1, .inl (cA 1, 7, .inl (u_20.2.2.1 2)))] := hD
      have hr_20_0 := hr_20
      refine lv_goto (tgt := 174) hx hb dX6_closeLine_136 (by decide) ?_
      refine lv_aload_n hx hb dX6_closeLine_174 rfl (lv_at hl 0 rfl) ?_
      refine va_get (D := D) (ci := 6) (v := .ref dr) (C := RX6) (T := TX6) (N := 13) hx hb hts inX6 hown hKN.1 hP 0 rfl rfl 0 (by decide) (hts _ tw_224) (fun _ h9 => h9) rfl dX6_closeLine_175 ?_
      refine lv_dup hx hb dX6_closeLine_178 rfl ?_
      refine va_get (D := D) (ci := 3) (v := .int d_lines) (C := RX3) (T := TX3) (N := 16) hx hb hts inX3 hown hKN.1 hP 7 rfl rfl 2 (by decide) (hts _ tw_166) (fun _ h9 => h9) rfl dX6_closeLine_179 ?_
      refine lv_iconst (v := 1) hx hb dX6_closeLine_182 (by decide) ?_
      refine lv_iadd hx hb dX6_closeLine_183 ?_
      refine lv_topi (fun x_21 ex_21 => ?_)
      refine va_put (D := D) (ci := 3) (v := .int x_21) (ty := .int) (C := RX3) (T := TX3) (N := 16) hx hb hts inX3 tyX3 tyX3_ok nmX3 hown hKN.1 hP hD hS 7 rfl rfl 2 (by decide) (hts _ tw_166) (fun _ h9 => h9) rfl (by decide +kernel) rfl rfl (Nat.le_of_ble_eq_true rfl) dX6_closeLine_184 (fun H locs hP hD hS => ?_)
      have hP : va_P D vwCl [(h0, .inr (6, [.ref dr, .int r_firstFault, .int r_faultPlace, .ref tp, .int r_at, .int r_kind, .int r_begin, .int r_value, .int r_line, .int r_taken, .int r_isWordDue, .int r_isTaking, .ref r_qnumbers])), (r_qnumbers, .inl (cA 1, 3, .inl r_cnumbers)), (d_qsides, .inl (cA 1, 8, .inl d_csides)), (d_qgrips, .inl (cA 1, 8, .inl d_cgrips)), (d_qwits, .inl (cA 1, 8, .inl d_cwits)), (d_qfroms, .inl (cA 1, 4, .inl d_cfroms)), (d_qtos, .inl (cA 1, 4, .inl d_ctos)), (dr, .inr (3, [.int d_odds, .int d_pot, .int x_21, .int d_men, .int (u_20.2.1 0), .int d_winds, .int d_far0, .int d_far1, .ref d_qsides, .ref d_qgrips, .ref d_qwits, .ref d_qsays, .ref d_qgives0, .ref d_qgives1, .ref d_qfroms, .ref d_qtos])), (d_qsays, .inl (cA 1, 7, .inl (u_20.2.2.1 0))), (d_qgives0, .inl (cA 1, 7, .inl (u_20.2.2.1 1))), (d_qgives1, .inl (cA 1, 7, .inl (u_20.2.2.1 2)))] H := hP
      have hD : va_D A [(h0, .inr (6, [.ref dr, .int r_firstFault, .int r_faultPlace, .ref tp, .int r_at, .int r_kind, .int r_begin, .int r_value, .int r_line, .int r_taken, .int r_isWordDue, .int r_isTaking, .ref r_qnumbers])), (r_qnumbers, .inl (cA 1, 3, .inl r_cnumbers)), (d_qsides, .inl (cA 1, 8, .inl d_csides)), (d_qgrips, .inl (cA 1, 8, .inl d_cgrips)), (d_qwits, .inl (cA 1, 8, .inl d_cwits)), (d_qfroms, .inl (cA 1, 4, .inl d_cfroms)), (d_qtos, .inl (cA 1, 4, .inl d_ctos)), (dr, .inr (3, [.int d_odds, .int d_pot, .int x_21, .int d_men, .int (u_20.2.1 0), .int d_winds, .int d_far0, .int d_far1, .ref d_qsides, .ref d_qgrips, .ref d_qwits, .ref d_qsays, .ref d_qgives0, .ref d_qgives1, .ref d_qfroms, .ref d_qtos])), (d_qsays, .inl (cA 1, 7, .inl (u_20.2.2.1 0))), (d_qgives0, .inl (cA 1, 7, .inl (u_20.2.2.1 1))), (d_qgives1, .inl (cA 1, 7, .inl (u_20.2.2.1 2)))] := hD
      refine lv_aload_n hx hb dX6_closeLine_187 rfl (lv_at hl 0 rfl) ?_
      refine lv_iconst (v := 5) hx hb dX6_closeLine_188 (by decide) ?_
      refine va_put (D := D) (ci := 6) (v := .int 5) (ty := .int) (C := RX6) (T := TX6) (N := 13) hx hb hts inX6 tyX6 tyX6_ok nmX6 hown hKN.1 hP hD hS 0 rfl rfl 8 (by decide) (hts _ tw_235) (fun _ h9 => h9) rfl (by decide +kernel) rfl rfl (Nat.le_of_ble_eq_true rfl) dX6_closeLine_189 (fun H locs hP hD hS => ?_)
      have hP : va_P D vwCl [(h0, .inr (6, [.ref dr, .int r_firstFault, .int r_faultPlace, .ref tp, .int r_at, .int r_kind, .int r_begin, .int r_value, .int 5, .int r_taken, .int r_isWordDue, .int r_isTaking, .ref r_qnumbers])), (r_qnumbers, .inl (cA 1, 3, .inl r_cnumbers)), (d_qsides, .inl (cA 1, 8, .inl d_csides)), (d_qgrips, .inl (cA 1, 8, .inl d_cgrips)), (d_qwits, .inl (cA 1, 8, .inl d_cwits)), (d_qfroms, .inl (cA 1, 4, .inl d_cfroms)), (d_qtos, .inl (cA 1, 4, .inl d_ctos)), (dr, .inr (3, [.int d_odds, .int d_pot, .int x_21, .int d_men, .int (u_20.2.1 0), .int d_winds, .int d_far0, .int d_far1, .ref d_qsides, .ref d_qgrips, .ref d_qwits, .ref d_qsays, .ref d_qgives0, .ref d_qgives1, .ref d_qfroms, .ref d_qtos])), (d_qsays, .inl (cA 1, 7, .inl (u_20.2.2.1 0))), (d_qgives0, .inl (cA 1, 7, .inl (u_20.2.2.1 1))), (d_qgives1, .inl (cA 1, 7, .inl (u_20.2.2.1 2)))] H := hP
      have hD : va_D A [(h0, .inr (6, [.ref dr, .int r_firstFault, .int r_faultPlace, .ref tp, .int r_at, .int r_kind, .int r_begin, .int r_value, .int 5, .int r_taken, .int r_isWordDue, .int r_isTaking, .ref r_qnumbers])), (r_qnumbers, .inl (cA 1, 3, .inl r_cnumbers)), (d_qsides, .inl (cA 1, 8, .inl d_csides)), (d_qgrips, .inl (cA 1, 8, .inl d_cgrips)), (d_qwits, .inl (cA 1, 8, .inl d_cwits)), (d_qfroms, .inl (cA 1, 4, .inl d_cfroms)), (d_qtos, .inl (cA 1, 4, .inl d_ctos)), (dr, .inr (3, [.int d_odds, .int d_pot, .int x_21, .int d_men, .int (u_20.2.1 0), .int d_winds, .int d_far0, .int d_far1, .ref d_qsides, .ref d_qgrips, .ref d_qwits, .ref d_qsays, .ref d_qgives0, .ref d_qgives1, .ref d_qfroms, .ref d_qtos])), (d_qsays, .inl (cA 1, 7, .inl (u_20.2.2.1 0))), (d_qgives0, .inl (cA 1, 7, .inl (u_20.2.2.1 1))), (d_qgives1, .inl (cA 1, 7, .inl (u_20.2.2.1 2)))] := hD
      have hP9 := hP.sub (ws' := [(h0, .inr (6, [.ref dr, .int r_firstFault, .int r_faultPlace, .ref tp, .int r_at, .int r_kind, .int r_begin, .int r_value, .int 5, .int r_taken, .int r_isWordDue, .int r_isTaking, .ref r_qnumbers])), (r_qnumbers, .inl (cA 1, 3, .inl r_cnumbers)), (dr, .inr (3, [.int d_odds, .int d_pot, .int x_21, .int d_men, .int (u_20.2.1 0), .int d_winds, .int d_far0, .int d_far1, .ref d_qsides, .ref d_qgrips, .ref d_qwits, .ref d_qsays, .ref d_qgives0, .ref d_qgives1, .ref d_qfroms, .ref d_qtos])), (d_qsides, .inl (cA 1, 8, .inl d_csides)), (d_qgrips, .inl (cA 1, 8, .inl d_cgrips)), (d_qwits, .inl (cA 1, 8, .inl d_cwits)), (d_qsays, .inl (cA 1, 7, .inl (u_20.2.2.1 0))), (d_qgives0, .inl (cA 1, 7, .inl (u_20.2.2.1 1))), (d_qgives1, .inl (cA 1, 7, .inl (u_20.2.2.1 2))), (d_qfroms, .inl (cA 1, 4, .inl d_cfroms)), (d_qtos, .inl (cA 1, 4, .inl d_ctos))]) [0, 1, 7, 2, 3, 4, 8, 9, 10, 5, 6] rfl
      have hD9 := hD.sub (ws' := [(h0, .inr (6, [.ref dr, .int r_firstFault, .int r_faultPlace, .ref tp, .int r_at, .int r_kind, .int r_begin, .int r_value, .int 5, .int r_taken, .int r_isWordDue, .int r_isTaking, .ref r_qnumbers])), (r_qnumbers, .inl (cA 1, 3, .inl r_cnumbers)), (dr, .inr (3, [.int d_odds, .int d_pot, .int x_21, .int d_men, .int (u_20.2.1 0), .int d_winds, .int d_far0, .int d_far1, .ref d_qsides, .ref d_qgrips, .ref d_qwits, .ref d_qsays, .ref d_qgives0, .ref d_qgives1, .ref d_qfroms, .ref d_qtos])), (d_qsides, .inl (cA 1, 8, .inl d_csides)), (d_qgrips, .inl (cA 1, 8, .inl d_cgrips)), (d_qwits, .inl (cA 1, 8, .inl d_cwits)), (d_qsays, .inl (cA 1, 7, .inl (u_20.2.2.1 0))), (d_qgives0, .inl (cA 1, 7, .inl (u_20.2.2.1 1))), (d_qgives1, .inl (cA 1, 7, .inl (u_20.2.2.1 2))), (d_qfroms, .inl (cA 1, 4, .inl d_cfroms)), (d_qtos, .inl (cA 1, 4, .inl d_ctos))]) [0, 1, 7, 2, 3, 4, 8, 9, 10, 5, 6] (by decide) rfl
      exact W.vret hx hb hr (fun t ht hW => ⟨⟨((fun _ => 0), (selI [r_firstFault, r_faultPlace, 5, d_odds, d_pot, x_21, d_men, (u_20.2.1 0), d_winds, d_far0, d_far1]), (selF [d_csides, d_cgrips, d_cwits, (u_20.2.2.1 0), (u_20.2.2.1 1), (u_20.2.2.1 2), d_cfroms, d_ctos]), (fun _ _ => 0)), rfl, ⟨(show -999 ≤ d_odds.toInt ∧ d_odds.toInt ≤ 999 from by omega), (show -999 ≤ d_pot.toInt ∧ d_pot.toInt ≤ 999 from by omega), (show 0 ≤ d_men.toInt ∧ d_men.toInt ≤ 8 from by omega), (show 0 ≤ (u_20.2.1 0).toInt ∧ (u_20.2.1 0).toInt ≤ 7 from by omega), (show 0 ≤ d_winds.toInt ∧ d_winds.toInt ≤ 4 from by omega), (show -999 ≤ d_far0.toInt ∧ d_far0.toInt ≤ 999 from by omega), (show -999 ≤ d_far1.toInt ∧ d_far1.toInt ≤ 999 from by omega)⟩, by rw [ht]; exact hP9, hD9⟩, hS.F ht⟩) hS.2.2 dX6_closeLine_192
    · skip
      refine lv_tableIn (tgt := 139) hx hb dX6_closeLine_18 (by omega) (by omega) (by rw [c_4]; rfl) (by decide) ?_
      refine lv_aload_n hx hb dX6_closeLine_139 rfl (lv_at hl 0 rfl) ?_
      refine va_get (D := D) (ci := 6) (v := .ref dr) (C := RX6) (T := TX6) (N := 13) hx hb hts inX6 hown hKN.1 hP 0 rfl rfl 0 (by decide) (hts _ tw_224) (fun _ h9 => h9) rfl dX6_closeLine_140 ?_
      refine lv_aload_n hx hb dX6_closeLine_143 rfl (lv_at hl 0 rfl) ?_
      refine va_get (D := D) (ci := 6) (v := .ref r_qnumbers) (C := RX6) (T := TX6) (N := 13) hx hb hts inX6 hown hKN.1 hP 0 rfl rfl 12 (by decide) (hts _ tw_239) (fun _ h9 => h9) rfl dX6_closeLine_144 ?_
      refine lv_iconst (v := 0) hx hb dX6_closeLine_147 (by decide) ?_
      refine va_iald hx hb hKN.1 hP 1 1 rfl rfl (by unfold vp_in; decide) dX6_closeLine_148 ?_
      refine W.eq (g2 := F0 m 149 ls [.int (r_cnumbers 0), .ref dr]) rfl ?_
      have k_23 := a_r_cnumbers_0 (0)
      refine lv_aload_n hx hb dX6_closeLine_149 rfl (lv_at hl 0 rfl) ?_
      refine va_get (D := D) (ci := 6) (v := .ref r_qnumbers) (C := RX6) (T := TX6) (N := 13) hx hb hts inX6 hown hKN.1 hP 0 rfl rfl 12 (by decide) (hts _ tw_239) (fun _ h9 => h9) rfl dX6_closeLine_150 ?_
      refine lv_iconst (v := 1) hx hb dX6_closeLine_153 (by decide) ?_
      refine va_iald hx hb hKN.1 hP 1 1 rfl rfl (by unfold vp_in; decide) dX6_closeLine_154 ?_
      refine W.eq (g2 := F0 m 155 ls [.int (r_cnumbers 1), .int (r_cnumbers 0), .ref dr]) rfl ?_
      have k_24 := a_r_cnumbers_0 (1)
      refine cmVv (rest := []) (wsC := [(dr, .inr (3, [.int d_odds, .int d_pot, .int d_lines, .int d_men, .int d_clauses, .int d_winds, .int d_far0, .int d_far1, .ref d_qsides, .ref d_qgrips, .ref d_qwits, .ref d_qsays, .ref d_qgives0, .ref d_qgives1, .ref d_qfroms, .ref d_qtos])), (d_qfroms, .inl (cA 1, 4, .inl d_cfroms)), (d_qtos, .inl (cA 1, 4, .inl d_ctos))]) (wr := [(h0, .inr (6, [.ref dr, .int r_firstFault, .int r_faultPlace, .ref tp, .int r_at, .int r_kind, .int r_begin, .int r_value, .int r_line, .int r_taken, .int r_isWordDue, .int r_isTaking, .ref r_qnumbers])), (r_qnumbers, .inl (cA 1, 3, .inl r_cnumbers)), (d_qsides, .inl (cA 1, 8, .inl d_csides)), (d_qgrips, .inl (cA 1, 8, .inl d_cgrips)), (d_qwits, .inl (cA 1, 8, .inl d_cwits)), (d_qsays, .inl (cA 1, 7, .inl d_csays)), (d_qgives0, .inl (cA 1, 7, .inl d_cgives0)), (d_qgives1, .inl (cA 1, 7, .inl d_cgives1))]) ⟨hx, hb, hml, hown, hts⟩ hKN hP hD hS hA [2, 9, 10] [0, 1, 3, 4, 5, 6, 7, 8] rfl rfl (by decide) (by decide) (by decide) (g_X3_addWind l D cA _ dr d_odds d_pot d_lines d_men d_clauses d_winds d_far0 d_far1 d_qsides d_qgrips d_qwits d_qsays d_qgives0 d_qgives1 d_qfroms d_qtos d_cfroms d_ctos (r_cnumbers 0) (r_cnumbers 1) (by omega) (by omega) (by omega) (by omega) (by omega) (by omega) (by omega)) (tb_V tw_649 tw_650 tw_651 tw_104 tw_652) hdX3_addWind ⟨rfl, rfl, Nat.le_of_ble_eq_true rfl, Nat.le_of_ble_eq_true rfl⟩ ⟨Nat.le_of_ble_eq_true rfl, Nat.le_of_ble_eq_true rfl⟩ rfl rfl rfl hl.1 rfl (Nat.le_of_ble_eq_true rfl) dX6_closeLine_155 (fun u_25 H locs hr_25 hP hD hS => ?_)
      have hP : va_P D vwCl [(h0, .inr (6, [.ref dr, .int r_firstFault, .int r_faultPlace, .ref tp, .int r_at, .int r_kind, .int r_begin, .int r_value, .int r_line, .int r_taken, .int r_isWordDue, .int r_isTaking, .ref r_qnumbers])), (r_qnumbers, .inl (cA 1, 3, .inl r_cnumbers)), (d_qsides, .inl (cA 1, 8, .inl d_csides)), (d_qgrips, .inl (cA 1, 8, .inl d_cgrips)), (d_qwits, .inl (cA 1, 8, .inl d_cwits)), (d_qsays, .inl (cA 1, 7, .inl d_csays)), (d_qgives0, .inl (cA 1, 7, .inl d_cgives0)), (d_qgives1, .inl (cA 1, 7, .inl d_cgives1)), (dr, .inr (3, [.int d_odds, .int d_pot, .int d_lines, .int d_men, .int d_clauses, .int (u_25.2.1 0), .int d_far0, .int d_far1, .ref d_qsides, .ref d_qgrips, .ref d_qwits, .ref d_qsays, .ref d_qgives0, .ref d_qgives1, .ref d_qfroms, .ref d_qtos])), (d_qfroms, .inl (cA 1, 4, .inl (u_25.2.2.1 0))), (d_qtos, .inl (cA 1, 4, .inl (u_25.2.2.1 1)))] H := hP
      have hD : va_D A [(h0, .inr (6, [.ref dr, .int r_firstFault, .int r_faultPlace, .ref tp, .int r_at, .int r_kind, .int r_begin, .int r_value, .int r_line, .int r_taken, .int r_isWordDue, .int r_isTaking, .ref r_qnumbers])), (r_qnumbers, .inl (cA 1, 3, .inl r_cnumbers)), (d_qsides, .inl (cA 1, 8, .inl d_csides)), (d_qgrips, .inl (cA 1, 8, .inl d_cgrips)), (d_qwits, .inl (cA 1, 8, .inl d_cwits)), (d_qsays, .inl (cA 1, 7, .inl d_csays)), (d_qgives0, .inl (cA 1, 7, .inl d_cgives0)), (d_qgives1, .inl (cA 1, 7, .inl d_cgives1)), (dr, .inr (3, [.int d_odds, .int d_pot, .int d_lines, .int d_men, .int d_clauses, .int (u_25.2.1 0), .int d_far0, .int d_far1, .ref d_qsides, .ref d_qgrips, .ref d_qwits, .ref d_qsays, .ref d_qgives0, .ref d_qgives1, .ref d_qfroms, .ref d_qtos])), (d_qfroms, .inl (cA 1, 4, .inl (u_25.2.2.1 0))), (d_qtos, .inl (cA 1, 4, .inl (u_25.2.2.1 1)))] := hD
      have hr_25_0 := hr_25
      refine lv_goto (tgt := 174) hx hb dX6_closeLine_158 (by decide) ?_
      refine lv_aload_n hx hb dX6_closeLine_174 rfl (lv_at hl 0 rfl) ?_
      refine va_get (D := D) (ci := 6) (v := .ref dr) (C := RX6) (T := TX6) (N := 13) hx hb hts inX6 hown hKN.1 hP 0 rfl rfl 0 (by decide) (hts _ tw_224) (fun _ h9 => h9) rfl dX6_closeLine_175 ?_
      refine lv_dup hx hb dX6_closeLine_178 rfl ?_
      refine va_get (D := D) (ci := 3) (v := .int d_lines) (C := RX3) (T := TX3) (N := 16) hx hb hts inX3 hown hKN.1 hP 8 rfl rfl 2 (by decide) (hts _ tw_166) (fun _ h9 => h9) rfl dX6_closeLine_179 ?_
      refine lv_iconst (v := 1) hx hb dX6_closeLine_182 (by decide) ?_
      refine lv_iadd hx hb dX6_closeLine_183 ?_
      refine lv_topi (fun x_26 ex_26 => ?_)
      refine va_put (D := D) (ci := 3) (v := .int x_26) (ty := .int) (C := RX3) (T := TX3) (N := 16) hx hb hts inX3 tyX3 tyX3_ok nmX3 hown hKN.1 hP hD hS 8 rfl rfl 2 (by decide) (hts _ tw_166) (fun _ h9 => h9) rfl (by decide +kernel) rfl rfl (Nat.le_of_ble_eq_true rfl) dX6_closeLine_184 (fun H locs hP hD hS => ?_)
      have hP : va_P D vwCl [(h0, .inr (6, [.ref dr, .int r_firstFault, .int r_faultPlace, .ref tp, .int r_at, .int r_kind, .int r_begin, .int r_value, .int r_line, .int r_taken, .int r_isWordDue, .int r_isTaking, .ref r_qnumbers])), (r_qnumbers, .inl (cA 1, 3, .inl r_cnumbers)), (d_qsides, .inl (cA 1, 8, .inl d_csides)), (d_qgrips, .inl (cA 1, 8, .inl d_cgrips)), (d_qwits, .inl (cA 1, 8, .inl d_cwits)), (d_qsays, .inl (cA 1, 7, .inl d_csays)), (d_qgives0, .inl (cA 1, 7, .inl d_cgives0)), (d_qgives1, .inl (cA 1, 7, .inl d_cgives1)), (dr, .inr (3, [.int d_odds, .int d_pot, .int x_26, .int d_men, .int d_clauses, .int (u_25.2.1 0), .int d_far0, .int d_far1, .ref d_qsides, .ref d_qgrips, .ref d_qwits, .ref d_qsays, .ref d_qgives0, .ref d_qgives1, .ref d_qfroms, .ref d_qtos])), (d_qfroms, .inl (cA 1, 4, .inl (u_25.2.2.1 0))), (d_qtos, .inl (cA 1, 4, .inl (u_25.2.2.1 1)))] H := hP
      have hD : va_D A [(h0, .inr (6, [.ref dr, .int r_firstFault, .int r_faultPlace, .ref tp, .int r_at, .int r_kind, .int r_begin, .int r_value, .int r_line, .int r_taken, .int r_isWordDue, .int r_isTaking, .ref r_qnumbers])), (r_qnumbers, .inl (cA 1, 3, .inl r_cnumbers)), (d_qsides, .inl (cA 1, 8, .inl d_csides)), (d_qgrips, .inl (cA 1, 8, .inl d_cgrips)), (d_qwits, .inl (cA 1, 8, .inl d_cwits)), (d_qsays, .inl (cA 1, 7, .inl d_csays)), (d_qgives0, .inl (cA 1, 7, .inl d_cgives0)), (d_qgives1, .inl (cA 1, 7, .inl d_cgives1)), (dr, .inr (3, [.int d_odds, .int d_pot, .int x_26, .int d_men, .int d_clauses, .int (u_25.2.1 0), .int d_far0, .int d_far1, .ref d_qsides, .ref d_qgrips, .ref d_qwits, .ref d_qsays, .ref d_qgives0, .ref d_qgives1, .ref d_qfroms, .ref d_qtos])), (d_qfroms, .inl (cA 1, 4, .inl (u_25.2.2.1 0))), (d_qtos, .inl (cA 1, 4, .inl (u_25.2.2.1 1)))] := hD
      refine lv_aload_n hx hb dX6_closeLine_187 rfl (lv_at hl 0 rfl) ?_
      refine lv_iconst (v := 5) hx hb dX6_closeLine_188 (by decide) ?_
      refine va_put (D := D) (ci := 6) (v := .int 5) (ty := .int) (C := RX6) (T := TX6) (N := 13) hx hb hts inX6 tyX6 tyX6_ok nmX6 hown hKN.1 hP hD hS 0 rfl rfl 8 (by decide) (hts _ tw_235) (fun _ h9 => h9) rfl (by decide +kernel) rfl rfl (Nat.le_of_ble_eq_true rfl) dX6_closeLine_189 (fun H locs hP hD hS => ?_)
      have hP : va_P D vwCl [(h0, .inr (6, [.ref dr, .int r_firstFault, .int r_faultPlace, .ref tp, .int r_at, .int r_kind, .int r_begin, .int r_value, .int 5, .int r_taken, .int r_isWordDue, .int r_isTaking, .ref r_qnumbers])), (r_qnumbers, .inl (cA 1, 3, .inl r_cnumbers)), (d_qsides, .inl (cA 1, 8, .inl d_csides)), (d_qgrips, .inl (cA 1, 8, .inl d_cgrips)), (d_qwits, .inl (cA 1, 8, .inl d_cwits)), (d_qsays, .inl (cA 1, 7, .inl d_csays)), (d_qgives0, .inl (cA 1, 7, .inl d_cgives0)), (d_qgives1, .inl (cA 1, 7, .inl d_cgives1)), (dr, .inr (3, [.int d_odds, .int d_pot, .int x_26, .int d_men, .int d_clauses, .int (u_25.2.1 0), .int d_far0, .int d_far1, .ref d_qsides, .ref d_qgrips, .ref d_qwits, .ref d_qsays, .ref d_qgives0, .ref d_qgives1, .ref d_qfroms, .ref d_qtos])), (d_qfroms, .inl (cA 1, 4, .inl (u_25.2.2.1 0))), (d_qtos, .inl (cA 1, 4, .inl (u_25.2.2.1 1)))] H := hP
      have hD : va_D A [(h0, .inr (6, [.ref dr, .int r_firstFault, .int r_faultPlace, .ref tp, .int r_at, .int r_kind, .int r_begin, .int r_value, .int 5, .int r_taken, .int r_isWordDue, .int r_isTaking, .ref r_qnumbers])), (r_qnumbers, .inl (cA 1, 3, .inl r_cnumbers)), (d_qsides, .inl (cA 1, 8, .inl d_csides)), (d_qgrips, .inl (cA 1, 8, .inl d_cgrips)), (d_qwits, .inl (cA 1, 8, .inl d_cwits)), (d_qsays, .inl (cA 1, 7, .inl d_csays)), (d_qgives0, .inl (cA 1, 7, .inl d_cgives0)), (d_qgives1, .inl (cA 1, 7, .inl d_cgives1)), (dr, .inr (3, [.int d_odds, .int d_pot, .int x_26, .int d_men, .int d_clauses, .int (u_25.2.1 0), .int d_far0, .int d_far1, .ref d_qsides, .ref d_qgrips, .ref d_qwits, .ref d_qsays, .ref d_qgives0, .ref d_qgives1, .ref d_qfroms, .ref d_qtos])), (d_qfroms, .inl (cA 1, 4, .inl (u_25.2.2.1 0))), (d_qtos, .inl (cA 1, 4, .inl (u_25.2.2.1 1)))] := hD
      have hP9 := hP.sub (ws' := [(h0, .inr (6, [.ref dr, .int r_firstFault, .int r_faultPlace, .ref tp, .int r_at, .int r_kind, .int r_begin, .int r_value, .int 5, .int r_taken, .int r_isWordDue, .int r_isTaking, .ref r_qnumbers])), (r_qnumbers, .inl (cA 1, 3, .inl r_cnumbers)), (dr, .inr (3, [.int d_odds, .int d_pot, .int x_26, .int d_men, .int d_clauses, .int (u_25.2.1 0), .int d_far0, .int d_far1, .ref d_qsides, .ref d_qgrips, .ref d_qwits, .ref d_qsays, .ref d_qgives0, .ref d_qgives1, .ref d_qfroms, .ref d_qtos])), (d_qsides, .inl (cA 1, 8, .inl d_csides)), (d_qgrips, .inl (cA 1, 8, .inl d_cgrips)), (d_qwits, .inl (cA 1, 8, .inl d_cwits)), (d_qsays, .inl (cA 1, 7, .inl d_csays)), (d_qgives0, .inl (cA 1, 7, .inl d_cgives0)), (d_qgives1, .inl (cA 1, 7, .inl d_cgives1)), (d_qfroms, .inl (cA 1, 4, .inl (u_25.2.2.1 0))), (d_qtos, .inl (cA 1, 4, .inl (u_25.2.2.1 1)))]) [0, 1, 8, 2, 3, 4, 5, 6, 7, 9, 10] rfl
      have hD9 := hD.sub (ws' := [(h0, .inr (6, [.ref dr, .int r_firstFault, .int r_faultPlace, .ref tp, .int r_at, .int r_kind, .int r_begin, .int r_value, .int 5, .int r_taken, .int r_isWordDue, .int r_isTaking, .ref r_qnumbers])), (r_qnumbers, .inl (cA 1, 3, .inl r_cnumbers)), (dr, .inr (3, [.int d_odds, .int d_pot, .int x_26, .int d_men, .int d_clauses, .int (u_25.2.1 0), .int d_far0, .int d_far1, .ref d_qsides, .ref d_qgrips, .ref d_qwits, .ref d_qsays, .ref d_qgives0, .ref d_qgives1, .ref d_qfroms, .ref d_qtos])), (d_qsides, .inl (cA 1, 8, .inl d_csides)), (d_qgrips, .inl (cA 1, 8, .inl d_cgrips)), (d_qwits, .inl (cA 1, 8, .inl d_cwits)), (d_qsays, .inl (cA 1, 7, .inl d_csays)), (d_qgives0, .inl (cA 1, 7, .inl d_cgives0)), (d_qgives1, .inl (cA 1, 7, .inl d_cgives1)), (d_qfroms, .inl (cA 1, 4, .inl (u_25.2.2.1 0))), (d_qtos, .inl (cA 1, 4, .inl (u_25.2.2.1 1)))]) [0, 1, 8, 2, 3, 4, 5, 6, 7, 9, 10] (by decide) rfl
      exact W.vret hx hb hr (fun t ht hW => ⟨⟨((fun _ => 0), (selI [r_firstFault, r_faultPlace, 5, d_odds, d_pot, x_26, d_men, d_clauses, (u_25.2.1 0), d_far0, d_far1]), (selF [d_csides, d_cgrips, d_cwits, d_csays, d_cgives0, d_cgives1, (u_25.2.2.1 0), (u_25.2.2.1 1)]), (fun _ _ => 0)), rfl, ⟨(show -999 ≤ d_odds.toInt ∧ d_odds.toInt ≤ 999 from by omega), (show -999 ≤ d_pot.toInt ∧ d_pot.toInt ≤ 999 from by omega), (show 0 ≤ d_men.toInt ∧ d_men.toInt ≤ 8 from by omega), (show 0 ≤ d_clauses.toInt ∧ d_clauses.toInt ≤ 7 from by omega), (show 0 ≤ (u_25.2.1 0).toInt ∧ (u_25.2.1 0).toInt ≤ 4 from by omega), (show -999 ≤ d_far0.toInt ∧ d_far0.toInt ≤ 999 from by omega), (show -999 ≤ d_far1.toInt ∧ d_far1.toInt ≤ 999 from by omega)⟩, by rw [ht]; exact hP9, hD9⟩, hS.F ht⟩) hS.2.2 dX6_closeLine_192
    · skip
      refine lv_tableOut (tgt := 161) hx hb dX6_closeLine_18 c_4 (by decide) ?_
      refine lv_aload_n hx hb dX6_closeLine_161 rfl (lv_at hl 0 rfl) ?_
      refine va_get (D := D) (ci := 6) (v := .ref dr) (C := RX6) (T := TX6) (N := 13) hx hb hts inX6 hown hKN.1 hP 0 rfl rfl 0 (by decide) (hts _ tw_224) (fun _ h9 => h9) rfl dX6_closeLine_162 ?_
      refine lv_aload_n hx hb dX6_closeLine_165 rfl (lv_at hl 0 rfl) ?_
      refine va_get (D := D) (ci := 6) (v := .ref r_qnumbers) (C := RX6) (T := TX6) (N := 13) hx hb hts inX6 hown hKN.1 hP 0 rfl rfl 12 (by decide) (hts _ tw_239) (fun _ h9 => h9) rfl dX6_closeLine_166 ?_
      refine lv_iconst (v := 0) hx hb dX6_closeLine_169 (by decide) ?_
      refine va_iald hx hb hKN.1 hP 1 1 rfl rfl (by unfold vp_in; decide) dX6_closeLine_170 ?_
      refine W.eq (g2 := F0 m 171 ls [.int (r_cnumbers 0), .ref dr]) rfl ?_
      have k_28 := a_r_cnumbers_0 (0)
      refine va_put (D := D) (ci := 3) (v := .int (r_cnumbers 0)) (ty := .int) (C := RX3) (T := TX3) (N := 16) hx hb hts inX3 tyX3 tyX3_ok nmX3 hown hKN.1 hP hD hS 2 rfl rfl 1 (by decide) (hts _ tw_162) (fun _ h9 => h9) rfl (by decide +kernel) rfl rfl (Nat.le_of_ble_eq_true rfl) dX6_closeLine_171 (fun H locs hP hD hS => ?_)
      have hP : va_P D vwCl [(h0, .inr (6, [.ref dr, .int r_firstFault, .int r_faultPlace, .ref tp, .int r_at, .int r_kind, .int r_begin, .int r_value, .int r_line, .int r_taken, .int r_isWordDue, .int r_isTaking, .ref r_qnumbers])), (r_qnumbers, .inl (cA 1, 3, .inl r_cnumbers)), (dr, .inr (3, [.int d_odds, .int (r_cnumbers 0), .int d_lines, .int d_men, .int d_clauses, .int d_winds, .int d_far0, .int d_far1, .ref d_qsides, .ref d_qgrips, .ref d_qwits, .ref d_qsays, .ref d_qgives0, .ref d_qgives1, .ref d_qfroms, .ref d_qtos])), (d_qsides, .inl (cA 1, 8, .inl d_csides)), (d_qgrips, .inl (cA 1, 8, .inl d_cgrips)), (d_qwits, .inl (cA 1, 8, .inl d_cwits)), (d_qsays, .inl (cA 1, 7, .inl d_csays)), (d_qgives0, .inl (cA 1, 7, .inl d_cgives0)), (d_qgives1, .inl (cA 1, 7, .inl d_cgives1)), (d_qfroms, .inl (cA 1, 4, .inl d_cfroms)), (d_qtos, .inl (cA 1, 4, .inl d_ctos))] H := hP
      have hD : va_D A [(h0, .inr (6, [.ref dr, .int r_firstFault, .int r_faultPlace, .ref tp, .int r_at, .int r_kind, .int r_begin, .int r_value, .int r_line, .int r_taken, .int r_isWordDue, .int r_isTaking, .ref r_qnumbers])), (r_qnumbers, .inl (cA 1, 3, .inl r_cnumbers)), (dr, .inr (3, [.int d_odds, .int (r_cnumbers 0), .int d_lines, .int d_men, .int d_clauses, .int d_winds, .int d_far0, .int d_far1, .ref d_qsides, .ref d_qgrips, .ref d_qwits, .ref d_qsays, .ref d_qgives0, .ref d_qgives1, .ref d_qfroms, .ref d_qtos])), (d_qsides, .inl (cA 1, 8, .inl d_csides)), (d_qgrips, .inl (cA 1, 8, .inl d_cgrips)), (d_qwits, .inl (cA 1, 8, .inl d_cwits)), (d_qsays, .inl (cA 1, 7, .inl d_csays)), (d_qgives0, .inl (cA 1, 7, .inl d_cgives0)), (d_qgives1, .inl (cA 1, 7, .inl d_cgives1)), (d_qfroms, .inl (cA 1, 4, .inl d_cfroms)), (d_qtos, .inl (cA 1, 4, .inl d_ctos))] := hD
      refine lv_aload_n hx hb dX6_closeLine_174 rfl (lv_at hl 0 rfl) ?_
      refine va_get (D := D) (ci := 6) (v := .ref dr) (C := RX6) (T := TX6) (N := 13) hx hb hts inX6 hown hKN.1 hP 0 rfl rfl 0 (by decide) (hts _ tw_224) (fun _ h9 => h9) rfl dX6_closeLine_175 ?_
      refine lv_dup hx hb dX6_closeLine_178 rfl ?_
      refine va_get (D := D) (ci := 3) (v := .int d_lines) (C := RX3) (T := TX3) (N := 16) hx hb hts inX3 hown hKN.1 hP 2 rfl rfl 2 (by decide) (hts _ tw_166) (fun _ h9 => h9) rfl dX6_closeLine_179 ?_
      refine lv_iconst (v := 1) hx hb dX6_closeLine_182 (by decide) ?_
      refine lv_iadd hx hb dX6_closeLine_183 ?_
      refine lv_topi (fun x_29 ex_29 => ?_)
      refine va_put (D := D) (ci := 3) (v := .int x_29) (ty := .int) (C := RX3) (T := TX3) (N := 16) hx hb hts inX3 tyX3 tyX3_ok nmX3 hown hKN.1 hP hD hS 2 rfl rfl 2 (by decide) (hts _ tw_166) (fun _ h9 => h9) rfl (by decide +kernel) rfl rfl (Nat.le_of_ble_eq_true rfl) dX6_closeLine_184 (fun H locs hP hD hS => ?_)
      have hP : va_P D vwCl [(h0, .inr (6, [.ref dr, .int r_firstFault, .int r_faultPlace, .ref tp, .int r_at, .int r_kind, .int r_begin, .int r_value, .int r_line, .int r_taken, .int r_isWordDue, .int r_isTaking, .ref r_qnumbers])), (r_qnumbers, .inl (cA 1, 3, .inl r_cnumbers)), (dr, .inr (3, [.int d_odds, .int (r_cnumbers 0), .int x_29, .int d_men, .int d_clauses, .int d_winds, .int d_far0, .int d_far1, .ref d_qsides, .ref d_qgrips, .ref d_qwits, .ref d_qsays, .ref d_qgives0, .ref d_qgives1, .ref d_qfroms, .ref d_qtos])), (d_qsides, .inl (cA 1, 8, .inl d_csides)), (d_qgrips, .inl (cA 1, 8, .inl d_cgrips)), (d_qwits, .inl (cA 1, 8, .inl d_cwits)), (d_qsays, .inl (cA 1, 7, .inl d_csays)), (d_qgives0, .inl (cA 1, 7, .inl d_cgives0)), (d_qgives1, .inl (cA 1, 7, .inl d_cgives1)), (d_qfroms, .inl (cA 1, 4, .inl d_cfroms)), (d_qtos, .inl (cA 1, 4, .inl d_ctos))] H := hP
      have hD : va_D A [(h0, .inr (6, [.ref dr, .int r_firstFault, .int r_faultPlace, .ref tp, .int r_at, .int r_kind, .int r_begin, .int r_value, .int r_line, .int r_taken, .int r_isWordDue, .int r_isTaking, .ref r_qnumbers])), (r_qnumbers, .inl (cA 1, 3, .inl r_cnumbers)), (dr, .inr (3, [.int d_odds, .int (r_cnumbers 0), .int x_29, .int d_men, .int d_clauses, .int d_winds, .int d_far0, .int d_far1, .ref d_qsides, .ref d_qgrips, .ref d_qwits, .ref d_qsays, .ref d_qgives0, .ref d_qgives1, .ref d_qfroms, .ref d_qtos])), (d_qsides, .inl (cA 1, 8, .inl d_csides)), (d_qgrips, .inl (cA 1, 8, .inl d_cgrips)), (d_qwits, .inl (cA 1, 8, .inl d_cwits)), (d_qsays, .inl (cA 1, 7, .inl d_csays)), (d_qgives0, .inl (cA 1, 7, .inl d_cgives0)), (d_qgives1, .inl (cA 1, 7, .inl d_cgives1)), (d_qfroms, .inl (cA 1, 4, .inl d_cfroms)), (d_qtos, .inl (cA 1, 4, .inl d_ctos))] := hD
      refine lv_aload_n hx hb dX6_closeLine_187 rfl (lv_at hl 0 rfl) ?_
      refine lv_iconst (v := 5) hx hb dX6_closeLine_188 (by decide) ?_
      refine va_put (D := D) (ci := 6) (v := .int 5) (ty := .int) (C := RX6) (T := TX6) (N := 13) hx hb hts inX6 tyX6 tyX6_ok nmX6 hown hKN.1 hP hD hS 0 rfl rfl 8 (by decide) (hts _ tw_235) (fun _ h9 => h9) rfl (by decide +kernel) rfl rfl (Nat.le_of_ble_eq_true rfl) dX6_closeLine_189 (fun H locs hP hD hS => ?_)
      have hP : va_P D vwCl [(h0, .inr (6, [.ref dr, .int r_firstFault, .int r_faultPlace, .ref tp, .int r_at, .int r_kind, .int r_begin, .int r_value, .int 5, .int r_taken, .int r_isWordDue, .int r_isTaking, .ref r_qnumbers])), (r_qnumbers, .inl (cA 1, 3, .inl r_cnumbers)), (dr, .inr (3, [.int d_odds, .int (r_cnumbers 0), .int x_29, .int d_men, .int d_clauses, .int d_winds, .int d_far0, .int d_far1, .ref d_qsides, .ref d_qgrips, .ref d_qwits, .ref d_qsays, .ref d_qgives0, .ref d_qgives1, .ref d_qfroms, .ref d_qtos])), (d_qsides, .inl (cA 1, 8, .inl d_csides)), (d_qgrips, .inl (cA 1, 8, .inl d_cgrips)), (d_qwits, .inl (cA 1, 8, .inl d_cwits)), (d_qsays, .inl (cA 1, 7, .inl d_csays)), (d_qgives0, .inl (cA 1, 7, .inl d_cgives0)), (d_qgives1, .inl (cA 1, 7, .inl d_cgives1)), (d_qfroms, .inl (cA 1, 4, .inl d_cfroms)), (d_qtos, .inl (cA 1, 4, .inl d_ctos))] H := hP
      have hD : va_D A [(h0, .inr (6, [.ref dr, .int r_firstFault, .int r_faultPlace, .ref tp, .int r_at, .int r_kind, .int r_begin, .int r_value, .int 5, .int r_taken, .int r_isWordDue, .int r_isTaking, .ref r_qnumbers])), (r_qnumbers, .inl (cA 1, 3, .inl r_cnumbers)), (dr, .inr (3, [.int d_odds, .int (r_cnumbers 0), .int x_29, .int d_men, .int d_clauses, .int d_winds, .int d_far0, .int d_far1, .ref d_qsides, .ref d_qgrips, .ref d_qwits, .ref d_qsays, .ref d_qgives0, .ref d_qgives1, .ref d_qfroms, .ref d_qtos])), (d_qsides, .inl (cA 1, 8, .inl d_csides)), (d_qgrips, .inl (cA 1, 8, .inl d_cgrips)), (d_qwits, .inl (cA 1, 8, .inl d_cwits)), (d_qsays, .inl (cA 1, 7, .inl d_csays)), (d_qgives0, .inl (cA 1, 7, .inl d_cgives0)), (d_qgives1, .inl (cA 1, 7, .inl d_cgives1)), (d_qfroms, .inl (cA 1, 4, .inl d_cfroms)), (d_qtos, .inl (cA 1, 4, .inl d_ctos))] := hD
      have hP9 := hP.sub (ws' := [(h0, .inr (6, [.ref dr, .int r_firstFault, .int r_faultPlace, .ref tp, .int r_at, .int r_kind, .int r_begin, .int r_value, .int 5, .int r_taken, .int r_isWordDue, .int r_isTaking, .ref r_qnumbers])), (r_qnumbers, .inl (cA 1, 3, .inl r_cnumbers)), (dr, .inr (3, [.int d_odds, .int (r_cnumbers 0), .int x_29, .int d_men, .int d_clauses, .int d_winds, .int d_far0, .int d_far1, .ref d_qsides, .ref d_qgrips, .ref d_qwits, .ref d_qsays, .ref d_qgives0, .ref d_qgives1, .ref d_qfroms, .ref d_qtos])), (d_qsides, .inl (cA 1, 8, .inl d_csides)), (d_qgrips, .inl (cA 1, 8, .inl d_cgrips)), (d_qwits, .inl (cA 1, 8, .inl d_cwits)), (d_qsays, .inl (cA 1, 7, .inl d_csays)), (d_qgives0, .inl (cA 1, 7, .inl d_cgives0)), (d_qgives1, .inl (cA 1, 7, .inl d_cgives1)), (d_qfroms, .inl (cA 1, 4, .inl d_cfroms)), (d_qtos, .inl (cA 1, 4, .inl d_ctos))]) [0, 1, 2, 3, 4, 5, 6, 7, 8, 9, 10] rfl
      have hD9 := hD.sub (ws' := [(h0, .inr (6, [.ref dr, .int r_firstFault, .int r_faultPlace, .ref tp, .int r_at, .int r_kind, .int r_begin, .int r_value, .int 5, .int r_taken, .int r_isWordDue, .int r_isTaking, .ref r_qnumbers])), (r_qnumbers, .inl (cA 1, 3, .inl r_cnumbers)), (dr, .inr (3, [.int d_odds, .int (r_cnumbers 0), .int x_29, .int d_men, .int d_clauses, .int d_winds, .int d_far0, .int d_far1, .ref d_qsides, .ref d_qgrips, .ref d_qwits, .ref d_qsays, .ref d_qgives0, .ref d_qgives1, .ref d_qfroms, .ref d_qtos])), (d_qsides, .inl (cA 1, 8, .inl d_csides)), (d_qgrips, .inl (cA 1, 8, .inl d_cgrips)), (d_qwits, .inl (cA 1, 8, .inl d_cwits)), (d_qsays, .inl (cA 1, 7, .inl d_csays)), (d_qgives0, .inl (cA 1, 7, .inl d_cgives0)), (d_qgives1, .inl (cA 1, 7, .inl d_cgives1)), (d_qfroms, .inl (cA 1, 4, .inl d_cfroms)), (d_qtos, .inl (cA 1, 4, .inl d_ctos))]) [0, 1, 2, 3, 4, 5, 6, 7, 8, 9, 10] (by decide) rfl
      exact W.vret hx hb hr (fun t ht hW => ⟨⟨((fun _ => 0), (selI [r_firstFault, r_faultPlace, 5, d_odds, (r_cnumbers 0), x_29, d_men, d_clauses, d_winds, d_far0, d_far1]), (selF [d_csides, d_cgrips, d_cwits, d_csays, d_cgives0, d_cgives1, d_cfroms, d_ctos]), (fun _ _ => 0)), rfl, ⟨(show -999 ≤ d_odds.toInt ∧ d_odds.toInt ≤ 999 from by omega), (show -999 ≤ (r_cnumbers 0).toInt ∧ (r_cnumbers 0).toInt ≤ 999 from by omega), (show 0 ≤ d_men.toInt ∧ d_men.toInt ≤ 8 from by omega), (show 0 ≤ d_clauses.toInt ∧ d_clauses.toInt ≤ 7 from by omega), (show 0 ≤ d_winds.toInt ∧ d_winds.toInt ≤ 4 from by omega), (show -999 ≤ d_far0.toInt ∧ d_far0.toInt ≤ 999 from by omega), (show -999 ≤ d_far1.toInt ∧ d_far1.toInt ≤ 999 from by omega)⟩, by rw [ht]; exact hP9, hD9⟩, hS.F ht⟩) hS.2.2 dX6_closeLine_192
  · skip
    have b_32 := i32_bd r_kind
    have k_31 := kk_ne rfl zi_3 c_1
    refine lv_aload_n hx hb dX6_closeLine_8 rfl (lv_at hl 0 rfl) ?_
    refine lv_iconst (v := 1) hx hb dX6_closeLine_9 (by decide) ?_
    have z_33 := zi_1
    refine cmVv (rest := []) (wsC := [(h0, .inr (6, [.ref dr, .int r_firstFault, .int r_faultPlace, .ref tp, .int r_at, .int r_kind, .int r_begin, .int r_value, .int r_line, .int r_taken, .int r_isWordDue, .int r_isTaking, .ref r_qnumbers]))]) (wr := [(r_qnumbers, .inl (cA 1, 3, .inl r_cnumbers)), (dr, .inr (3, [.int d_odds, .int d_pot, .int d_lines, .int d_men, .int d_clauses, .int d_winds, .int d_far0, .int d_far1, .ref d_qsides, .ref d_qgrips, .ref d_qwits, .ref d_qsays, .ref d_qgives0, .ref d_qgives1, .ref d_qfroms, .ref d_qtos])), (d_qsides, .inl (cA 1, 8, .inl d_csides)), (d_qgrips, .inl (cA 1, 8, .inl d_cgrips)), (d_qwits, .inl (cA 1, 8, .inl d_cwits)), (d_qsays, .inl (cA 1, 7, .inl d_csays)), (d_qgives0, .inl (cA 1, 7, .inl d_cgives0)), (d_qgives1, .inl (cA 1, 7, .inl d_cgives1)), (d_qfroms, .inl (cA 1, 4, .inl d_cfroms)), (d_qtos, .inl (cA 1, 4, .inl d_ctos))]) ⟨hx, hb, hml, hown, hts⟩ hKN hP hD hS hA [0] [1, 2, 3, 4, 5, 6, 7, 8, 9, 10] rfl rfl (by decide) (by decide) (by decide) (g_X6_fail l D cA _ h0 dr r_firstFault r_faultPlace tp r_at r_kind r_begin r_value r_line r_taken r_isWordDue r_isTaking r_qnumbers 1) (tb_V tw_626 tw_628 tw_6 tw_103 tw_629) hdX6_fail ⟨rfl, rfl, Nat.le_of_ble_eq_true rfl, Nat.le_of_ble_eq_true rfl⟩ ⟨Nat.le_of_ble_eq_true rfl, Nat.le_of_ble_eq_true rfl⟩ rfl rfl rfl hl.1 rfl (Nat.le_of_ble_eq_true rfl) dX6_closeLine_10 (fun u_34 H locs hr_34 hP hD hS => ?_)
    have hP : va_P D vwCl [(r_qnumbers, .inl (cA 1, 3, .inl r_cnumbers)), (dr, .inr (3, [.int d_odds, .int d_pot, .int d_lines, .int d_men, .int d_clauses, .int d_winds, .int d_far0, .int d_far1, .ref d_qsides, .ref d_qgrips, .ref d_qwits, .ref d_qsays, .ref d_qgives0, .ref d_qgives1, .ref d_qfroms, .ref d_qtos])), (d_qsides, .inl (cA 1, 8, .inl d_csides)), (d_qgrips, .inl (cA 1, 8, .inl d_cgrips)), (d_qwits, .inl (cA 1, 8, .inl d_cwits)), (d_qsays, .inl (cA 1, 7, .inl d_csays)), (d_qgives0, .inl (cA 1, 7, .inl d_cgives0)), (d_qgives1, .inl (cA 1, 7, .inl d_cgives1)), (d_qfroms, .inl (cA 1, 4, .inl d_cfroms)), (d_qtos, .inl (cA 1, 4, .inl d_ctos)), (h0, .inr (6, [.ref dr, .int 1, .int r_begin, .ref tp, .int r_at, .int r_kind, .int r_begin, .int r_value, .int r_line, .int r_taken, .int r_isWordDue, .int r_isTaking, .ref r_qnumbers]))] H := hP
    have hD : va_D A [(r_qnumbers, .inl (cA 1, 3, .inl r_cnumbers)), (dr, .inr (3, [.int d_odds, .int d_pot, .int d_lines, .int d_men, .int d_clauses, .int d_winds, .int d_far0, .int d_far1, .ref d_qsides, .ref d_qgrips, .ref d_qwits, .ref d_qsays, .ref d_qgives0, .ref d_qgives1, .ref d_qfroms, .ref d_qtos])), (d_qsides, .inl (cA 1, 8, .inl d_csides)), (d_qgrips, .inl (cA 1, 8, .inl d_cgrips)), (d_qwits, .inl (cA 1, 8, .inl d_cwits)), (d_qsays, .inl (cA 1, 7, .inl d_csays)), (d_qgives0, .inl (cA 1, 7, .inl d_cgives0)), (d_qgives1, .inl (cA 1, 7, .inl d_cgives1)), (d_qfroms, .inl (cA 1, 4, .inl d_cfroms)), (d_qtos, .inl (cA 1, 4, .inl d_ctos)), (h0, .inr (6, [.ref dr, .int 1, .int r_begin, .ref tp, .int r_at, .int r_kind, .int r_begin, .int r_value, .int r_line, .int r_taken, .int r_isWordDue, .int r_isTaking, .ref r_qnumbers]))] := hD
    have hP9 := hP.sub (ws' := [(h0, .inr (6, [.ref dr, .int 1, .int r_begin, .ref tp, .int r_at, .int r_kind, .int r_begin, .int r_value, .int r_line, .int r_taken, .int r_isWordDue, .int r_isTaking, .ref r_qnumbers])), (r_qnumbers, .inl (cA 1, 3, .inl r_cnumbers)), (dr, .inr (3, [.int d_odds, .int d_pot, .int d_lines, .int d_men, .int d_clauses, .int d_winds, .int d_far0, .int d_far1, .ref d_qsides, .ref d_qgrips, .ref d_qwits, .ref d_qsays, .ref d_qgives0, .ref d_qgives1, .ref d_qfroms, .ref d_qtos])), (d_qsides, .inl (cA 1, 8, .inl d_csides)), (d_qgrips, .inl (cA 1, 8, .inl d_cgrips)), (d_qwits, .inl (cA 1, 8, .inl d_cwits)), (d_qsays, .inl (cA 1, 7, .inl d_csays)), (d_qgives0, .inl (cA 1, 7, .inl d_cgives0)), (d_qgives1, .inl (cA 1, 7, .inl d_cgives1)), (d_qfroms, .inl (cA 1, 4, .inl d_cfroms)), (d_qtos, .inl (cA 1, 4, .inl d_ctos))]) [10, 0, 1, 2, 3, 4, 5, 6, 7, 8, 9] rfl
    have hD9 := hD.sub (ws' := [(h0, .inr (6, [.ref dr, .int 1, .int r_begin, .ref tp, .int r_at, .int r_kind, .int r_begin, .int r_value, .int r_line, .int r_taken, .int r_isWordDue, .int r_isTaking, .ref r_qnumbers])), (r_qnumbers, .inl (cA 1, 3, .inl r_cnumbers)), (dr, .inr (3, [.int d_odds, .int d_pot, .int d_lines, .int d_men, .int d_clauses, .int d_winds, .int d_far0, .int d_far1, .ref d_qsides, .ref d_qgrips, .ref d_qwits, .ref d_qsays, .ref d_qgives0, .ref d_qgives1, .ref d_qfroms, .ref d_qtos])), (d_qsides, .inl (cA 1, 8, .inl d_csides)), (d_qgrips, .inl (cA 1, 8, .inl d_cgrips)), (d_qwits, .inl (cA 1, 8, .inl d_cwits)), (d_qsays, .inl (cA 1, 7, .inl d_csays)), (d_qgives0, .inl (cA 1, 7, .inl d_cgives0)), (d_qgives1, .inl (cA 1, 7, .inl d_cgives1)), (d_qfroms, .inl (cA 1, 4, .inl d_cfroms)), (d_qtos, .inl (cA 1, 4, .inl d_ctos))]) [10, 0, 1, 2, 3, 4, 5, 6, 7, 8, 9] (by decide) rfl
    exact W.vret hx hb hr (fun t ht hW => ⟨⟨((fun _ => 0), (selI [1, r_begin, r_line, d_odds, d_pot, d_lines, d_men, d_clauses, d_winds, d_far0, d_far1]), (selF [d_csides, d_cgrips, d_cwits, d_csays, d_cgives0, d_cgives1, d_cfroms, d_ctos]), (fun _ _ => 0)), rfl, ⟨(show -999 ≤ d_odds.toInt ∧ d_odds.toInt ≤ 999 from by omega), (show -999 ≤ d_pot.toInt ∧ d_pot.toInt ≤ 999 from by omega), (show 0 ≤ d_men.toInt ∧ d_men.toInt ≤ 8 from by omega), (show 0 ≤ d_clauses.toInt ∧ d_clauses.toInt ≤ 7 from by omega), (show 0 ≤ d_winds.toInt ∧ d_winds.toInt ≤ 4 from by omega), (show -999 ≤ d_far0.toInt ∧ d_far0.toInt ≤ 999 from by omega), (show -999 ≤ d_far1.toInt ∧ d_far1.toInt ≤ 999 from by omega)⟩, by rw [ht]; exact hP9, hD9⟩, hS.F ht⟩) hS.2.2 dX6_closeLine_13
set_option maxHeartbeats 8000000 in
set_option maxRecDepth 100000 in
theorem g_X6_isWord (l : Launch) (D : va_G) (cA : Nat → ClassId) (sz : Nat) (κ : KT) (h0 : Nat) (dr : Nat) (r_firstFault : Int32) (r_faultPlace : Int32) (tp : Nat) (r_at : Int32) (r_kind : Int32) (r_begin : Int32) (r_value : Int32) (r_line : Int32) (r_taken : Int32) (r_isWordDue : Int32) (r_isTaking : Int32) (r_qnumbers : Nat) (t_qbytes : Nat) (t_length : Int32) (t_cbytes : Nat → Int32) (ti : Nat) (h_t_length : 0 ≤ (t_length : Int32).toInt ∧ (t_length : Int32).toInt ≤ 800) (hti : ti < 30) : Met l yX6_isWord (Cond.code yX6_isWord cX6_isWord 3 (some .boolean) :: TB) (rmd 4 0 0) (PMK κ D cA sz [(h0, .inr (6, [.ref dr, .int r_firstFault, .int r_faultPlace, .ref tp, .int r_at, .int r_kind, .int r_begin, .int r_value, .int r_line, .int r_taken, .int r_isWordDue, .int r_isTaking, .ref r_qnumbers])), (tp, .inr (9, [.ref t_qbytes, .int t_length])), (t_qbytes, .inl (cA 0, 800, .inl t_cbytes))] [.ref h0, .ref (κ.2.1 ti)]) (va_Qi (fun r (u : SU) => (0 ≤ r.toInt ∧ r.toInt ≤ 1)) (fun u t => va_P D vwCl [(h0, .inr (6, [.ref dr, .int r_firstFault, .int r_faultPlace, .ref tp, .int r_at, .int r_kind, .int r_begin, .int r_value, .int r_line, .int r_taken, .int r_isWordDue, .int r_isTaking, .ref r_qnumbers])), (tp, .inr (9, [.ref t_qbytes, .int t_length])), (t_qbytes, .inl (cA 0, 800, .inl t_cbytes))] t.heap ∧ va_D (va_A [(h0, .inr (6, [.ref dr, .int r_firstFault, .int r_faultPlace, .ref tp, .int r_at, .int r_kind, .int r_begin, .int r_value, .int r_line, .int r_taken, .int r_isWordDue, .int r_isTaking, .ref r_qnumbers])), (tp, .inr (9, [.ref t_qbytes, .int t_length])), (t_qbytes, .inl (cA 0, 800, .inl t_cbytes))] sz) [(h0, .inr (6, [.ref dr, .int r_firstFault, .int r_faultPlace, .ref tp, .int r_at, .int r_kind, .int r_begin, .int r_value, .int r_line, .int r_taken, .int r_isWordDue, .int r_isTaking, .ref r_qnumbers])), (tp, .inr (9, [.ref t_qbytes, .int t_length])), (t_qbytes, .inl (cA 0, 800, .inl t_cbytes))]) (va_A [(h0, .inr (6, [.ref dr, .int r_firstFault, .int r_faultPlace, .ref tp, .int r_at, .int r_kind, .int r_begin, .int r_value, .int r_line, .int r_taken, .int r_isWordDue, .int r_isTaking, .ref r_qnumbers])), (tp, .inr (9, [.ref t_qbytes, .int t_length])), (t_qbytes, .inl (cA 0, 800, .inl t_cbytes))] sz)) 0 0 (va_A [(h0, .inr (6, [.ref dr, .int r_firstFault, .int r_faultPlace, .ref tp, .int r_at, .int r_kind, .int r_begin, .int r_value, .int r_line, .int r_taken, .int r_isWordDue, .int r_isTaking, .ref r_qnumbers])), (tp, .inr (9, [.ref t_qbytes, .int t_length])), (t_qbytes, .inl (cA 0, 800, .inl t_cbytes))] sz) := by
  refine Met.ofW (cc := cX6_isWord) (maxL := 3) (ret := (some .boolean)) (by decide) rfl ?_
  intro p e s m args below meth c s₁ B hml hv
  obtain ⟨rfl, hsz, hP, hKN, hD0, hKC⟩ := hv
  have hx := B.exec
  have hb := B.bytes
  have hr := B.returns
  have hts : ∀ w ∈ TB, w.before _ s = true := fun w h => atoms_spec B.pre w (List.mem_cons_of_mem _ h)
  have hown : s.vm.findClass RX6 = some m.cls := findClass_of_methodNamed B.named
  have hlocks := B.notSynchronized
  subst hsz
  have hD := hD0.self (sz := s.heap.size)
  generalize hAe : va_A [(h0, .inr (6, [.ref dr, .int r_firstFault, .int r_faultPlace, .ref tp, .int r_at, .int r_kind, .int r_begin, .int r_value, .int r_line, .int r_taken, .int r_isWordDue, .int r_isTaking, .ref r_qnumbers])), (tp, .inr (9, [.ref t_qbytes, .int t_length])), (t_qbytes, .inl (cA 0, 800, .inl t_cbytes))] s.heap.size = A at hD hKC ⊢
  have hA : ∀ q : Nat, s.heap.size ≤ q → A q := fun q h => by rw [← hAe]; exact Or.inr h
  have hS : va_S A s.heap s.heap [] := va_S.rf
  have hl := lv_entry ([.ref h0, .ref (κ.2.1 ti)]) (n := 3) (Nat.le_of_ble_eq_true rfl)
  rw [lg_entry_eq]
  generalize (lg_sl ([.ref h0, .ref (κ.2.1 ti)]) ++ List.replicate (3 - (lg_sl ([.ref h0, .ref (κ.2.1 ti)])).length) Slot.unset).toArray = ls at hl ⊢
  have hl : lv_has ls 3 [(0, .ref h0), (1, .ref (κ.2.1 ti))] := hl
  refine lv_aload_n hx hb dX6_isWord_0 rfl (lv_at hl 0 rfl) ?_
  refine va_get (D := D) (ci := 6) (v := .int r_kind) (C := RX6) (T := TX6) (N := 13) hx hb hts inX6 hown hKN.1 hP 0 rfl rfl 5 (by decide) (hts _ tw_232) (fun _ h9 => h9) rfl dX6_isWord_1 ?_
  refine lv_iconst (v := 1) hx hb dX6_isWord_4 (by decide) ?_
  refine lv_icmp_ne (tgt := 24) hx hb dX6_isWord_5 (by decide) (fun c_1 => ?_) (fun c_1 => ?_)
  · skip
    have b_3 := i32_bd r_kind
    have k_2 := kk_ne rfl zi_1 c_1
    refine lv_iconst (v := 0) hx hb dX6_isWord_24 (by decide) ?_
    have hP9 := hP.sub (ws' := [(h0, .inr (6, [.ref dr, .int r_firstFault, .int r_faultPlace, .ref tp, .int r_at, .int r_kind, .int r_begin, .int r_value, .int r_line, .int r_taken, .int r_isWordDue, .int r_isTaking, .ref r_qnumbers])), (tp, .inr (9, [.ref t_qbytes, .int t_length])), (t_qbytes, .inl (cA 0, 800, .inl t_cbytes))]) [0, 1, 2] rfl
    have hD9 := hD.sub (ws' := [(h0, .inr (6, [.ref dr, .int r_firstFault, .int r_faultPlace, .ref tp, .int r_at, .int r_kind, .int r_begin, .int r_value, .int r_line, .int r_taken, .int r_isWordDue, .int r_isTaking, .ref r_qnumbers])), (tp, .inr (9, [.ref t_qbytes, .int t_length])), (t_qbytes, .inl (cA 0, 800, .inl t_cbytes))]) [0, 1, 2] (by decide) rfl
    exact W.zret (v := 0) hx hb hr (by decide) (fun t ht hW => ⟨⟨0, ((fun _ => 0), (fun _ => 0), (fun _ _ => 0), (fun _ _ => 0)), rfl, (show 0 ≤ (0 : Int32).toInt ∧ (0 : Int32).toInt ≤ 1 from by decide), by rw [ht]; exact hP9, hD9⟩, hS.F ht⟩) hS.2.2 dX6_isWord_25
  · skip
    have b_5 := i32_bd r_kind
    have k_4 := kk_eq rfl zi_1 c_1
    refine lv_aload_n hx hb dX6_isWord_8 rfl (lv_at hl 0 rfl) ?_
    refine va_get (D := D) (ci := 6) (v := .int r_at) (C := RX6) (T := TX6) (N := 13) hx hb hts inX6 hown hKN.1 hP 0 rfl rfl 4 (by decide) (hts _ tw_231) (fun _ h9 => h9) rfl dX6_isWord_9 ?_
    refine lv_aload_n hx hb dX6_isWord_12 rfl (lv_at hl 0 rfl) ?_
    refine va_get (D := D) (ci := 6) (v := .int r_begin) (C := RX6) (T := TX6) (N := 13) hx hb hts inX6 hown hKN.1 hP 0 rfl rfl 6 (by decide) (hts _ tw_233) (fun _ h9 => h9) rfl dX6_isWord_13 ?_
    refine lv_isub hx hb dX6_isWord_16 ?_
    refine lv_topi (fun x_6 ex_6 => ?_)
    refine lv_aload_n hx hb dX6_isWord_17 rfl (lv_at hl 1 rfl) ?_
    refine cpTiK (rest := [.int x_6]) hti ⟨hx, hb, hml, hown, hts⟩ hKN ((hKC.kept hS.2.1).narrow (fun _ h => h.elim)) (hP.sub (ws' := []) [] rfl) rfl (g_J0_length_8abf5 l D cA κ ti hti) (tb_V tw_574 tw_575 tw_576 tw_116 tw_577) hdJ0_length_8abf5 ⟨rfl, rfl, Nat.le_of_ble_eq_true rfl, Nat.le_of_ble_eq_true rfl⟩ ⟨Nat.le_of_ble_eq_true rfl, Nat.le_of_ble_eq_true rfl⟩ rfl hl.1 rfl (Nat.le_of_ble_eq_true rfl) dX6_isWord_18 (fun r_8 hr_8 => ?_)
    obtain ⟨k_8_0_0, k_8_0_1⟩ := hr_8
    refine lv_icmp_eq (tgt := 26) hx hb dX6_isWord_21 (by decide) (fun c_9 => ?_) (fun c_9 => ?_)
    · skip
      have b_11 := i32_bd x_6
      have k_10 := kk_eq rfl rfl c_9
      refine lv_iconst (v := 0) hx hb dX6_isWord_26 (by decide) ?_
      refine lv_istore_n (lv' := [(2, .int 0), (0, .ref h0), (1, .ref (κ.2.1 ti))]) hx hb dX6_isWord_27 rfl hl (by decide) rfl (fun ls hl => ?_)
      refine loopW (σ := Int32) (fun _ => []) (fun L2_83 H locs ls => (0 ≤ L2_83.toInt ∧ L2_83.toInt ≤ 8) ∧ va_P D vwCl [(h0, .inr (6, [.ref dr, .int r_firstFault, .int r_faultPlace, .ref tp, .int r_at, .int r_kind, .int r_begin, .int r_value, .int r_line, .int r_taken, .int r_isWordDue, .int r_isTaking, .ref r_qnumbers])), (tp, .inr (9, [.ref t_qbytes, .int t_length])), (t_qbytes, .inl (cA 0, 800, .inl t_cbytes))] H ∧ va_D A [(h0, .inr (6, [.ref dr, .int r_firstFault, .int r_faultPlace, .ref tp, .int r_at, .int r_kind, .int r_begin, .int r_value, .int r_line, .int r_taken, .int r_isWordDue, .int r_isTaking, .ref r_qnumbers])), (tp, .inr (9, [.ref t_qbytes, .int t_length])), (t_qbytes, .inl (cA 0, 800, .inl t_cbytes))] ∧ va_S A s.heap H locs ∧ lv_has ls 3 [(2, .int L2_83), (0, .ref h0), (1, .ref (κ.2.1 ti))]) (fun L2_83 => (2147483647 - L2_83.toInt).toNat) ?_ (0 : Int32) ⟨(by decide), hP, hD, hS, hl⟩
      intro x_83 H locs ls hI_83 ih_83
      obtain ⟨L2_83, rfl⟩ : ∃ z, z = x_83 := ⟨_, rfl⟩
      obtain ⟨k0_83, hP, hD, hS, hl⟩ := hI_83
      have hP : va_P D vwCl [(h0, .inr (6, [.ref dr, .int r_firstFault, .int r_faultPlace, .ref tp, .int r_at, .int r_kind, .int r_begin, .int r_value, .int r_line, .int r_taken, .int r_isWordDue, .int r_isTaking, .ref r_qnumbers])), (tp, .inr (9, [.ref t_qbytes, .int t_length])), (t_qbytes, .inl (cA 0, 800, .inl t_cbytes))] H := hP
      have hD : va_D A [(h0, .inr (6, [.ref dr, .int r_firstFault, .int r_faultPlace, .ref tp, .int r_at, .int r_kind, .int r_begin, .int r_value, .int r_line, .int r_taken, .int r_isWordDue, .int r_isTaking, .ref r_qnumbers])), (tp, .inr (9, [.ref t_qbytes, .int t_length])), (t_qbytes, .inl (cA 0, 800, .inl t_cbytes))] := hD
      have hl : lv_has ls 3 [(2, .int L2_83), (0, .ref h0), (1, .ref (κ.2.1 ti))] := hl
      refine lv_iload_n hx hb dX6_isWord_28 rfl (lv_at hl 0 rfl) ?_
      refine lv_aload_n hx hb dX6_isWord_29 rfl (lv_at hl 2 rfl) ?_
      refine cpTiK (rest := [.int L2_83]) hti ⟨hx, hb, hml, hown, hts⟩ hKN ((hKC.kept hS.2.1).narrow (fun _ h => h.elim)) (hP.sub (ws' := []) [] rfl) rfl (g_J0_length_8abf5 l D cA κ ti hti) (tb_V tw_574 tw_575 tw_576 tw_116 tw_577) hdJ0_length_8abf5 ⟨rfl, rfl, Nat.le_of_ble_eq_true rfl, Nat.le_of_ble_eq_true rfl⟩ ⟨Nat.le_of_ble_eq_true rfl, Nat.le_of_ble_eq_true rfl⟩ rfl hl.1 rfl (Nat.le_of_ble_eq_true rfl) dX6_isWord_30 (fun r_84 hr_84 => ?_)
      obtain ⟨k_84_0_0, k_84_0_1⟩ := hr_84
      refine lv_icmp_ge (tgt := 65) hx hb dX6_isWord_33 (by decide) (fun c_85 => ?_) (fun c_85 => ?_)
      · skip
        have k_86 := kk_le rfl rfl c_85
        refine lv_iconst (v := 1) hx hb dX6_isWord_65 (by decide) ?_
        have hP9 := hP.sub (ws' := [(h0, .inr (6, [.ref dr, .int r_firstFault, .int r_faultPlace, .ref tp, .int r_at, .int r_kind, .int r_begin, .int r_value, .int r_line, .int r_taken, .int r_isWordDue, .int r_isTaking, .ref r_qnumbers])), (tp, .inr (9, [.ref t_qbytes, .int t_length])), (t_qbytes, .inl (cA 0, 800, .inl t_cbytes))]) [0, 1, 2] rfl
        have hD9 := hD.sub (ws' := [(h0, .inr (6, [.ref dr, .int r_firstFault, .int r_faultPlace, .ref tp, .int r_at, .int r_kind, .int r_begin, .int r_value, .int r_line, .int r_taken, .int r_isWordDue, .int r_isTaking, .ref r_qnumbers])), (tp, .inr (9, [.ref t_qbytes, .int t_length])), (t_qbytes, .inl (cA 0, 800, .inl t_cbytes))]) [0, 1, 2] (by decide) rfl
        exact W.zret (v := 1) hx hb hr (by decide) (fun t ht hW => ⟨⟨1, ((fun _ => 0), (fun _ => 0), (fun _ _ => 0), (fun _ _ => 0)), rfl, (show 0 ≤ (1 : Int32).toInt ∧ (1 : Int32).toInt ≤ 1 from by decide), by rw [ht]; exact hP9, hD9⟩, hS.F ht⟩) hS.2.2 dX6_isWord_66
      · skip
        have k_87 := kk_nle rfl rfl c_85
        refine lv_aload_n hx hb dX6_isWord_36 rfl (lv_at hl 1 rfl) ?_
        refine va_get (D := D) (ci := 6) (v := .ref tp) (C := RX6) (T := TX6) (N := 13) hx hb hts inX6 hown hKN.1 hP 0 rfl rfl 3 (by decide) (hts _ tw_230) (fun _ h9 => h9) rfl dX6_isWord_37 ?_
        refine lv_aload_n hx hb dX6_isWord_40 rfl (lv_at hl 1 rfl) ?_
        refine va_get (D := D) (ci := 6) (v := .int r_begin) (C := RX6) (T := TX6) (N := 13) hx hb hts inX6 hown hKN.1 hP 0 rfl rfl 6 (by decide) (hts _ tw_233) (fun _ h9 => h9) rfl dX6_isWord_41 ?_
        refine lv_iload_n hx hb dX6_isWord_44 rfl (lv_at hl 0 rfl) ?_
        refine lv_iadd hx hb dX6_isWord_45 ?_
        refine lv_topi (fun x_88 ex_88 => ?_)
        refine cpVi (rest := []) ⟨hx, hb, hml, hown, hts⟩ hKN (hP.sub (ws' := [(tp, .inr (9, [.ref t_qbytes, .int t_length])), (t_qbytes, .inl (cA 0, 800, .inl t_cbytes))]) [1, 2] rfl) (g_X9_byteAt l D cA tp t_qbytes t_length t_cbytes x_88 (by omega)) (tb_V tw_538 tw_539 tw_540 tw_102 tw_541) hdX9_byteAt ⟨rfl, rfl, Nat.le_of_ble_eq_true rfl, Nat.le_of_ble_eq_true rfl⟩ ⟨Nat.le_of_ble_eq_true rfl, Nat.le_of_ble_eq_true rfl⟩ rfl rfl rfl hl.1 rfl (Nat.le_of_ble_eq_true rfl) dX6_isWord_46 (fun r_90 hr_90 => ?_)
        refine lv_aload_n hx hb dX6_isWord_49 rfl (lv_at hl 2 rfl) ?_
        refine lv_iload_n hx hb dX6_isWord_50 rfl (lv_at hl 0 rfl) ?_
        refine cmTiK (rest := [.int r_90]) (wsC := []) (wr := [(h0, .inr (6, [.ref dr, .int r_firstFault, .int r_faultPlace, .ref tp, .int r_at, .int r_kind, .int r_begin, .int r_value, .int r_line, .int r_taken, .int r_isWordDue, .int r_isTaking, .ref r_qnumbers])), (tp, .inr (9, [.ref t_qbytes, .int t_length])), (t_qbytes, .inl (cA 0, 800, .inl t_cbytes))]) hti ⟨hx, hb, hml, hown, hts⟩ hKN hKC rfl hP hD hS hA [] [0, 1, 2] rfl rfl (by decide) (by decide) (by decide) (g_J0_charAt_5068e l D cA _ κ ti L2_83 (by omega) hti (by omega)) (tb_V tw_584 tw_585 tw_586 tw_116 tw_587) hdJ0_charAt_5068e ⟨rfl, rfl, Nat.le_of_ble_eq_true rfl, Nat.le_of_ble_eq_true rfl⟩ ⟨Nat.le_of_ble_eq_true rfl, Nat.le_of_ble_eq_true rfl⟩ rfl hl.1 rfl (Nat.le_of_ble_eq_true rfl) dX6_isWord_51 (fun r_91 u_91 H locs hr_91 hP hD hS => ?_)
        have hP : va_P D vwCl [(h0, .inr (6, [.ref dr, .int r_firstFault, .int r_faultPlace, .ref tp, .int r_at, .int r_kind, .int r_begin, .int r_value, .int r_line, .int r_taken, .int r_isWordDue, .int r_isTaking, .ref r_qnumbers])), (tp, .inr (9, [.ref t_qbytes, .int t_length])), (t_qbytes, .inl (cA 0, 800, .inl t_cbytes))] H := hP
        have hD : va_D A [(h0, .inr (6, [.ref dr, .int r_firstFault, .int r_faultPlace, .ref tp, .int r_at, .int r_kind, .int r_begin, .int r_value, .int r_line, .int r_taken, .int r_isWordDue, .int r_isTaking, .ref r_qnumbers])), (tp, .inr (9, [.ref t_qbytes, .int t_length])), (t_qbytes, .inl (cA 0, 800, .inl t_cbytes))] := hD
        have hr_91_r := hr_91
        refine lv_icmp_eq (tgt := 59) hx hb dX6_isWord_54 (by decide) (fun c_92 => ?_) (fun c_92 => ?_)
        · skip
          have k_93 := kk_eq rfl rfl c_92
          obtain ⟨x_94, ex_94⟩ : ∃ y : Int32, L2_83 + Int32.ofInt 1 = y := ⟨_, rfl⟩
          have k_95 := ar_add (b := 1) rfl zi_1 ex_94.symm (by omega) (by omega)
          refine lv_iinc (v := x_94) (lv' := [(2, .int x_94), (0, .ref h0), (1, .ref (κ.2.1 ti))]) hx hb dX6_isWord_59 hl (k := 0) rfl ex_94 (by decide) rfl (fun ls hl => ?_)
          refine lv_goto (tgt := 28) hx hb dX6_isWord_62 (by decide) ?_
          exact ih_83 (x_94) _ _ _ ⟨(show 0 ≤ x_94.toInt ∧ x_94.toInt ≤ 8 from by omega), hP.sub [0, 1, 2] rfl, hD.sub [0, 1, 2] (by decide) rfl, hS, lv_sub hl [0, 1, 2] rfl⟩ (by show (2147483647 - x_94.toInt).toNat < (2147483647 - L2_83.toInt).toNat; omega)
        · skip
          have k_96 := kk_ne rfl rfl c_92
          refine lv_iconst (v := 0) hx hb dX6_isWord_57 (by decide) ?_
          have hP9 := hP.sub (ws' := [(h0, .inr (6, [.ref dr, .int r_firstFault, .int r_faultPlace, .ref tp, .int r_at, .int r_kind, .int r_begin, .int r_value, .int r_line, .int r_taken, .int r_isWordDue, .int r_isTaking, .ref r_qnumbers])), (tp, .inr (9, [.ref t_qbytes, .int t_length])), (t_qbytes, .inl (cA 0, 800, .inl t_cbytes))]) [0, 1, 2] rfl
          have hD9 := hD.sub (ws' := [(h0, .inr (6, [.ref dr, .int r_firstFault, .int r_faultPlace, .ref tp, .int r_at, .int r_kind, .int r_begin, .int r_value, .int r_line, .int r_taken, .int r_isWordDue, .int r_isTaking, .ref r_qnumbers])), (tp, .inr (9, [.ref t_qbytes, .int t_length])), (t_qbytes, .inl (cA 0, 800, .inl t_cbytes))]) [0, 1, 2] (by decide) rfl
          exact W.zret (v := 0) hx hb hr (by decide) (fun t ht hW => ⟨⟨0, ((fun _ => 0), (fun _ => 0), (fun _ _ => 0), (fun _ _ => 0)), rfl, (show 0 ≤ (0 : Int32).toInt ∧ (0 : Int32).toInt ≤ 1 from by decide), by rw [ht]; exact hP9, hD9⟩, hS.F ht⟩) hS.2.2 dX6_isWord_58
    · skip
      have b_98 := i32_bd x_6
      have k_97 := kk_ne rfl rfl c_9
      refine lv_iconst (v := 0) hx hb dX6_isWord_24 (by decide) ?_
      have hP9 := hP.sub (ws' := [(h0, .inr (6, [.ref dr, .int r_firstFault, .int r_faultPlace, .ref tp, .int r_at, .int r_kind, .int r_begin, .int r_value, .int r_line, .int r_taken, .int r_isWordDue, .int r_isTaking, .ref r_qnumbers])), (tp, .inr (9, [.ref t_qbytes, .int t_length])), (t_qbytes, .inl (cA 0, 800, .inl t_cbytes))]) [0, 1, 2] rfl
      have hD9 := hD.sub (ws' := [(h0, .inr (6, [.ref dr, .int r_firstFault, .int r_faultPlace, .ref tp, .int r_at, .int r_kind, .int r_begin, .int r_value, .int r_line, .int r_taken, .int r_isWordDue, .int r_isTaking, .ref r_qnumbers])), (tp, .inr (9, [.ref t_qbytes, .int t_length])), (t_qbytes, .inl (cA 0, 800, .inl t_cbytes))]) [0, 1, 2] (by decide) rfl
      exact W.zret (v := 0) hx hb hr (by decide) (fun t ht hW => ⟨⟨0, ((fun _ => 0), (fun _ => 0), (fun _ _ => 0), (fun _ _ => 0)), rfl, (show 0 ≤ (0 : Int32).toInt ∧ (0 : Int32).toInt ≤ 1 from by decide), by rw [ht]; exact hP9, hD9⟩, hS.F ht⟩) hS.2.2 dX6_isWord_25
set_option maxHeartbeats 8000000 in
set_option maxRecDepth 100000 in
theorem g_X6_lineOfWord (l : Launch) (D : va_G) (cA : Nat → ClassId) (sz : Nat) (κ : KT) (h0 : Nat) (dr : Nat) (r_firstFault : Int32) (r_faultPlace : Int32) (tp : Nat) (r_at : Int32) (r_kind : Int32) (r_begin : Int32) (r_value : Int32) (r_line : Int32) (r_taken : Int32) (r_isWordDue : Int32) (r_isTaking : Int32) (r_qnumbers : Nat) (t_qbytes : Nat) (t_length : Int32) (t_cbytes : Nat → Int32) (h_t_length : 0 ≤ (t_length : Int32).toInt ∧ (t_length : Int32).toInt ≤ 800) : Met l yX6_lineOfWord (Cond.code yX6_lineOfWord cX6_lineOfWord 1 (some .int) :: TB) (rmd 5 0 0) (PMK κ D cA sz [(h0, .inr (6, [.ref dr, .int r_firstFault, .int r_faultPlace, .ref tp, .int r_at, .int r_kind, .int r_begin, .int r_value, .int r_line, .int r_taken, .int r_isWordDue, .int r_isTaking, .ref r_qnumbers])), (tp, .inr (9, [.ref t_qbytes, .int t_length])), (t_qbytes, .inl (cA 0, 800, .inl t_cbytes))] [.ref h0]) (va_Qi (fun r (u : SU) => (0 ≤ r.toInt ∧ r.toInt ≤ 5)) (fun u t => va_P D vwCl [(h0, .inr (6, [.ref dr, .int r_firstFault, .int r_faultPlace, .ref tp, .int r_at, .int r_kind, .int r_begin, .int r_value, .int r_line, .int r_taken, .int r_isWordDue, .int r_isTaking, .ref r_qnumbers])), (tp, .inr (9, [.ref t_qbytes, .int t_length])), (t_qbytes, .inl (cA 0, 800, .inl t_cbytes))] t.heap ∧ va_D (va_A [(h0, .inr (6, [.ref dr, .int r_firstFault, .int r_faultPlace, .ref tp, .int r_at, .int r_kind, .int r_begin, .int r_value, .int r_line, .int r_taken, .int r_isWordDue, .int r_isTaking, .ref r_qnumbers])), (tp, .inr (9, [.ref t_qbytes, .int t_length])), (t_qbytes, .inl (cA 0, 800, .inl t_cbytes))] sz) [(h0, .inr (6, [.ref dr, .int r_firstFault, .int r_faultPlace, .ref tp, .int r_at, .int r_kind, .int r_begin, .int r_value, .int r_line, .int r_taken, .int r_isWordDue, .int r_isTaking, .ref r_qnumbers])), (tp, .inr (9, [.ref t_qbytes, .int t_length])), (t_qbytes, .inl (cA 0, 800, .inl t_cbytes))]) (va_A [(h0, .inr (6, [.ref dr, .int r_firstFault, .int r_faultPlace, .ref tp, .int r_at, .int r_kind, .int r_begin, .int r_value, .int r_line, .int r_taken, .int r_isWordDue, .int r_isTaking, .ref r_qnumbers])), (tp, .inr (9, [.ref t_qbytes, .int t_length])), (t_qbytes, .inl (cA 0, 800, .inl t_cbytes))] sz)) 0 0 (va_A [(h0, .inr (6, [.ref dr, .int r_firstFault, .int r_faultPlace, .ref tp, .int r_at, .int r_kind, .int r_begin, .int r_value, .int r_line, .int r_taken, .int r_isWordDue, .int r_isTaking, .ref r_qnumbers])), (tp, .inr (9, [.ref t_qbytes, .int t_length])), (t_qbytes, .inl (cA 0, 800, .inl t_cbytes))] sz) := by
  refine Met.ofW (cc := cX6_lineOfWord) (maxL := 1) (ret := (some .int)) (by decide) rfl ?_
  intro p e s m args below meth c s₁ B hml hv
  obtain ⟨rfl, hsz, hP, hKN, hD0, hKC⟩ := hv
  have hx := B.exec
  have hb := B.bytes
  have hr := B.returns
  have hts : ∀ w ∈ TB, w.before _ s = true := fun w h => atoms_spec B.pre w (List.mem_cons_of_mem _ h)
  have hown : s.vm.findClass RX6 = some m.cls := findClass_of_methodNamed B.named
  have hlocks := B.notSynchronized
  subst hsz
  have hD := hD0.self (sz := s.heap.size)
  generalize hAe : va_A [(h0, .inr (6, [.ref dr, .int r_firstFault, .int r_faultPlace, .ref tp, .int r_at, .int r_kind, .int r_begin, .int r_value, .int r_line, .int r_taken, .int r_isWordDue, .int r_isTaking, .ref r_qnumbers])), (tp, .inr (9, [.ref t_qbytes, .int t_length])), (t_qbytes, .inl (cA 0, 800, .inl t_cbytes))] s.heap.size = A at hD hKC ⊢
  have hA : ∀ q : Nat, s.heap.size ≤ q → A q := fun q h => by rw [← hAe]; exact Or.inr h
  have hS : va_S A s.heap s.heap [] := va_S.rf
  have hl := lv_entry ([.ref h0]) (n := 1) (Nat.le_of_ble_eq_true rfl)
  rw [lg_entry_eq]
  generalize (lg_sl ([.ref h0]) ++ List.replicate (1 - (lg_sl ([.ref h0])).length) Slot.unset).toArray = ls at hl ⊢
  have hl : lv_has ls 1 [(0, .ref h0)] := hl
  refine lv_aload_n hx hb dX6_lineOfWord_0 rfl (lv_at hl 0 rfl) ?_
  refine va_ldcS hx hb hown (hKC.R 0 (by decide) : vk_R RX6 171 "gorge" (κ.2.1 0) s) dX6_lineOfWord_1 ?_
  refine cmViK (rest := []) (wsC := [(h0, .inr (6, [.ref dr, .int r_firstFault, .int r_faultPlace, .ref tp, .int r_at, .int r_kind, .int r_begin, .int r_value, .int r_line, .int r_taken, .int r_isWordDue, .int r_isTaking, .ref r_qnumbers])), (tp, .inr (9, [.ref t_qbytes, .int t_length])), (t_qbytes, .inl (cA 0, 800, .inl t_cbytes))]) (wr := []) ⟨hx, hb, hml, hown, hts⟩ hKN hKC hP hD hS hA [0, 1, 2] [] rfl rfl (by decide) (by decide) (by decide) (g_X6_isWord l D cA _ κ h0 dr r_firstFault r_faultPlace tp r_at r_kind r_begin r_value r_line r_taken r_isWordDue r_isTaking r_qnumbers t_qbytes t_length t_cbytes 0 (by omega) (by decide)) (tb_V tw_570 tw_572 tw_5 tw_103 tw_573) hdX6_isWord ⟨rfl, rfl, Nat.le_of_ble_eq_true rfl, Nat.le_of_ble_eq_true rfl⟩ ⟨Nat.le_of_ble_eq_true rfl, Nat.le_of_ble_eq_true rfl⟩ rfl rfl rfl hl.1 rfl (Nat.le_of_ble_eq_true rfl) dX6_lineOfWord_3 (fun r_1 u_1 H locs hr_1 hP hD hS => ?_)
  have hP : va_P D vwCl [(h0, .inr (6, [.ref dr, .int r_firstFault, .int r_faultPlace, .ref tp, .int r_at, .int r_kind, .int r_begin, .int r_value, .int r_line, .int r_taken, .int r_isWordDue, .int r_isTaking, .ref r_qnumbers])), (tp, .inr (9, [.ref t_qbytes, .int t_length])), (t_qbytes, .inl (cA 0, 800, .inl t_cbytes))] H := hP
  have hD : va_D A [(h0, .inr (6, [.ref dr, .int r_firstFault, .int r_faultPlace, .ref tp, .int r_at, .int r_kind, .int r_begin, .int r_value, .int r_line, .int r_taken, .int r_isWordDue, .int r_isTaking, .ref r_qnumbers])), (tp, .inr (9, [.ref t_qbytes, .int t_length])), (t_qbytes, .inl (cA 0, 800, .inl t_cbytes))] := hD
  have hr_1_r := hr_1
  refine lv_if_eq (tgt := 11) hx hb dX6_lineOfWord_6 (by decide) (fun c_2 => ?_) (fun c_2 => ?_)
  · skip
    have k_3 := kk_eq rfl zi_0 c_2
    refine lv_aload_n hx hb dX6_lineOfWord_11 rfl (lv_at hl 0 rfl) ?_
    refine va_ldcS hx hb hown (hKC.R 1 (by decide) : vk_R RX6 173 "man" (κ.2.1 1) s) dX6_lineOfWord_12 ?_
    refine cmViK (rest := []) (wsC := [(h0, .inr (6, [.ref dr, .int r_firstFault, .int r_faultPlace, .ref tp, .int r_at, .int r_kind, .int r_begin, .int r_value, .int r_line, .int r_taken, .int r_isWordDue, .int r_isTaking, .ref r_qnumbers])), (tp, .inr (9, [.ref t_qbytes, .int t_length])), (t_qbytes, .inl (cA 0, 800, .inl t_cbytes))]) (wr := []) ⟨hx, hb, hml, hown, hts⟩ hKN hKC hP hD hS hA [0, 1, 2] [] rfl rfl (by decide) (by decide) (by decide) (g_X6_isWord l D cA _ κ h0 dr r_firstFault r_faultPlace tp r_at r_kind r_begin r_value r_line r_taken r_isWordDue r_isTaking r_qnumbers t_qbytes t_length t_cbytes 1 (by omega) (by decide)) (tb_V tw_570 tw_572 tw_5 tw_103 tw_573) hdX6_isWord ⟨rfl, rfl, Nat.le_of_ble_eq_true rfl, Nat.le_of_ble_eq_true rfl⟩ ⟨Nat.le_of_ble_eq_true rfl, Nat.le_of_ble_eq_true rfl⟩ rfl rfl rfl hl.1 rfl (Nat.le_of_ble_eq_true rfl) dX6_lineOfWord_14 (fun r_4 u_4 H locs hr_4 hP hD hS => ?_)
    have hP : va_P D vwCl [(h0, .inr (6, [.ref dr, .int r_firstFault, .int r_faultPlace, .ref tp, .int r_at, .int r_kind, .int r_begin, .int r_value, .int r_line, .int r_taken, .int r_isWordDue, .int r_isTaking, .ref r_qnumbers])), (tp, .inr (9, [.ref t_qbytes, .int t_length])), (t_qbytes, .inl (cA 0, 800, .inl t_cbytes))] H := hP
    have hD : va_D A [(h0, .inr (6, [.ref dr, .int r_firstFault, .int r_faultPlace, .ref tp, .int r_at, .int r_kind, .int r_begin, .int r_value, .int r_line, .int r_taken, .int r_isWordDue, .int r_isTaking, .ref r_qnumbers])), (tp, .inr (9, [.ref t_qbytes, .int t_length])), (t_qbytes, .inl (cA 0, 800, .inl t_cbytes))] := hD
    have hr_4_r := hr_4
    refine lv_if_eq (tgt := 22) hx hb dX6_lineOfWord_17 (by decide) (fun c_5 => ?_) (fun c_5 => ?_)
    · skip
      have k_6 := kk_eq rfl zi_0 c_5
      refine lv_aload_n hx hb dX6_lineOfWord_22 rfl (lv_at hl 0 rfl) ?_
      refine va_ldcS hx hb hown (hKC.R 2 (by decide) : vk_R RX6 175 "clause" (κ.2.1 2) s) dX6_lineOfWord_23 ?_
      refine cmViK (rest := []) (wsC := [(h0, .inr (6, [.ref dr, .int r_firstFault, .int r_faultPlace, .ref tp, .int r_at, .int r_kind, .int r_begin, .int r_value, .int r_line, .int r_taken, .int r_isWordDue, .int r_isTaking, .ref r_qnumbers])), (tp, .inr (9, [.ref t_qbytes, .int t_length])), (t_qbytes, .inl (cA 0, 800, .inl t_cbytes))]) (wr := []) ⟨hx, hb, hml, hown, hts⟩ hKN hKC hP hD hS hA [0, 1, 2] [] rfl rfl (by decide) (by decide) (by decide) (g_X6_isWord l D cA _ κ h0 dr r_firstFault r_faultPlace tp r_at r_kind r_begin r_value r_line r_taken r_isWordDue r_isTaking r_qnumbers t_qbytes t_length t_cbytes 2 (by omega) (by decide)) (tb_V tw_570 tw_572 tw_5 tw_103 tw_573) hdX6_isWord ⟨rfl, rfl, Nat.le_of_ble_eq_true rfl, Nat.le_of_ble_eq_true rfl⟩ ⟨Nat.le_of_ble_eq_true rfl, Nat.le_of_ble_eq_true rfl⟩ rfl rfl rfl hl.1 rfl (Nat.le_of_ble_eq_true rfl) dX6_lineOfWord_25 (fun r_7 u_7 H locs hr_7 hP hD hS => ?_)
      have hP : va_P D vwCl [(h0, .inr (6, [.ref dr, .int r_firstFault, .int r_faultPlace, .ref tp, .int r_at, .int r_kind, .int r_begin, .int r_value, .int r_line, .int r_taken, .int r_isWordDue, .int r_isTaking, .ref r_qnumbers])), (tp, .inr (9, [.ref t_qbytes, .int t_length])), (t_qbytes, .inl (cA 0, 800, .inl t_cbytes))] H := hP
      have hD : va_D A [(h0, .inr (6, [.ref dr, .int r_firstFault, .int r_faultPlace, .ref tp, .int r_at, .int r_kind, .int r_begin, .int r_value, .int r_line, .int r_taken, .int r_isWordDue, .int r_isTaking, .ref r_qnumbers])), (tp, .inr (9, [.ref t_qbytes, .int t_length])), (t_qbytes, .inl (cA 0, 800, .inl t_cbytes))] := hD
      have hr_7_r := hr_7
      refine lv_if_eq (tgt := 33) hx hb dX6_lineOfWord_28 (by decide) (fun c_8 => ?_) (fun c_8 => ?_)
      · skip
        have k_9 := kk_eq rfl zi_0 c_8
        refine lv_aload_n hx hb dX6_lineOfWord_33 rfl (lv_at hl 0 rfl) ?_
        refine va_ldcS hx hb hown (hKC.R 3 (by decide) : vk_R RX6 177 "wind" (κ.2.1 3) s) dX6_lineOfWord_34 ?_
        refine cmViK (rest := []) (wsC := [(h0, .inr (6, [.ref dr, .int r_firstFault, .int r_faultPlace, .ref tp, .int r_at, .int r_kind, .int r_begin, .int r_value, .int r_line, .int r_taken, .int r_isWordDue, .int r_isTaking, .ref r_qnumbers])), (tp, .inr (9, [.ref t_qbytes, .int t_length])), (t_qbytes, .inl (cA 0, 800, .inl t_cbytes))]) (wr := []) ⟨hx, hb, hml, hown, hts⟩ hKN hKC hP hD hS hA [0, 1, 2] [] rfl rfl (by decide) (by decide) (by decide) (g_X6_isWord l D cA _ κ h0 dr r_firstFault r_faultPlace tp r_at r_kind r_begin r_value r_line r_taken r_isWordDue r_isTaking r_qnumbers t_qbytes t_length t_cbytes 3 (by omega) (by decide)) (tb_V tw_570 tw_572 tw_5 tw_103 tw_573) hdX6_isWord ⟨rfl, rfl, Nat.le_of_ble_eq_true rfl, Nat.le_of_ble_eq_true rfl⟩ ⟨Nat.le_of_ble_eq_true rfl, Nat.le_of_ble_eq_true rfl⟩ rfl rfl rfl hl.1 rfl (Nat.le_of_ble_eq_true rfl) dX6_lineOfWord_36 (fun r_10 u_10 H locs hr_10 hP hD hS => ?_)
        have hP : va_P D vwCl [(h0, .inr (6, [.ref dr, .int r_firstFault, .int r_faultPlace, .ref tp, .int r_at, .int r_kind, .int r_begin, .int r_value, .int r_line, .int r_taken, .int r_isWordDue, .int r_isTaking, .ref r_qnumbers])), (tp, .inr (9, [.ref t_qbytes, .int t_length])), (t_qbytes, .inl (cA 0, 800, .inl t_cbytes))] H := hP
        have hD : va_D A [(h0, .inr (6, [.ref dr, .int r_firstFault, .int r_faultPlace, .ref tp, .int r_at, .int r_kind, .int r_begin, .int r_value, .int r_line, .int r_taken, .int r_isWordDue, .int r_isTaking, .ref r_qnumbers])), (tp, .inr (9, [.ref t_qbytes, .int t_length])), (t_qbytes, .inl (cA 0, 800, .inl t_cbytes))] := hD
        have hr_10_r := hr_10
        refine lv_if_eq (tgt := 44) hx hb dX6_lineOfWord_39 (by decide) (fun c_11 => ?_) (fun c_11 => ?_)
        · skip
          have k_12 := kk_eq rfl zi_0 c_11
          refine lv_aload_n hx hb dX6_lineOfWord_44 rfl (lv_at hl 0 rfl) ?_
          refine va_ldcS hx hb hown (hKC.R 4 (by decide) : vk_R RX6 179 "pot" (κ.2.1 4) s) dX6_lineOfWord_45 ?_
          refine cmViK (rest := []) (wsC := [(h0, .inr (6, [.ref dr, .int r_firstFault, .int r_faultPlace, .ref tp, .int r_at, .int r_kind, .int r_begin, .int r_value, .int r_line, .int r_taken, .int r_isWordDue, .int r_isTaking, .ref r_qnumbers])), (tp, .inr (9, [.ref t_qbytes, .int t_length])), (t_qbytes, .inl (cA 0, 800, .inl t_cbytes))]) (wr := []) ⟨hx, hb, hml, hown, hts⟩ hKN hKC hP hD hS hA [0, 1, 2] [] rfl rfl (by decide) (by decide) (by decide) (g_X6_isWord l D cA _ κ h0 dr r_firstFault r_faultPlace tp r_at r_kind r_begin r_value r_line r_taken r_isWordDue r_isTaking r_qnumbers t_qbytes t_length t_cbytes 4 (by omega) (by decide)) (tb_V tw_570 tw_572 tw_5 tw_103 tw_573) hdX6_isWord ⟨rfl, rfl, Nat.le_of_ble_eq_true rfl, Nat.le_of_ble_eq_true rfl⟩ ⟨Nat.le_of_ble_eq_true rfl, Nat.le_of_ble_eq_true rfl⟩ rfl rfl rfl hl.1 rfl (Nat.le_of_ble_eq_true rfl) dX6_lineOfWord_47 (fun r_13 u_13 H locs hr_13 hP hD hS => ?_)
          have hP : va_P D vwCl [(h0, .inr (6, [.ref dr, .int r_firstFault, .int r_faultPlace, .ref tp, .int r_at, .int r_kind, .int r_begin, .int r_value, .int r_line, .int r_taken, .int r_isWordDue, .int r_isTaking, .ref r_qnumbers])), (tp, .inr (9, [.ref t_qbytes, .int t_length])), (t_qbytes, .inl (cA 0, 800, .inl t_cbytes))] H := hP
          have hD : va_D A [(h0, .inr (6, [.ref dr, .int r_firstFault, .int r_faultPlace, .ref tp, .int r_at, .int r_kind, .int r_begin, .int r_value, .int r_line, .int r_taken, .int r_isWordDue, .int r_isTaking, .ref r_qnumbers])), (tp, .inr (9, [.ref t_qbytes, .int t_length])), (t_qbytes, .inl (cA 0, 800, .inl t_cbytes))] := hD
          have hr_13_r := hr_13
          refine lv_if_eq (tgt := 57) hx hb dX6_lineOfWord_50 (by decide) (fun c_14 => ?_) (fun c_14 => ?_)
          · skip
            have k_15 := kk_eq rfl zi_0 c_14
            refine lv_iconst (v := 5) hx hb dX6_lineOfWord_57 (by decide) ?_
            have hP9 := hP.sub (ws' := [(h0, .inr (6, [.ref dr, .int r_firstFault, .int r_faultPlace, .ref tp, .int r_at, .int r_kind, .int r_begin, .int r_value, .int r_line, .int r_taken, .int r_isWordDue, .int r_isTaking, .ref r_qnumbers])), (tp, .inr (9, [.ref t_qbytes, .int t_length])), (t_qbytes, .inl (cA 0, 800, .inl t_cbytes))]) [0, 1, 2] rfl
            have hD9 := hD.sub (ws' := [(h0, .inr (6, [.ref dr, .int r_firstFault, .int r_faultPlace, .ref tp, .int r_at, .int r_kind, .int r_begin, .int r_value, .int r_line, .int r_taken, .int r_isWordDue, .int r_isTaking, .ref r_qnumbers])), (tp, .inr (9, [.ref t_qbytes, .int t_length])), (t_qbytes, .inl (cA 0, 800, .inl t_cbytes))]) [0, 1, 2] (by decide) rfl
            exact W.iret (v := 5) hx hb hr (fun t ht hW => ⟨⟨5, ((fun _ => 0), (fun _ => 0), (fun _ _ => 0), (fun _ _ => 0)), rfl, (show 0 ≤ (5 : Int32).toInt ∧ (5 : Int32).toInt ≤ 5 from by decide), by rw [ht]; exact hP9, hD9⟩, hS.F ht⟩) hS.2.2 dX6_lineOfWord_58
          · skip
            have k_16 := kk_ne rfl zi_0 c_14
            refine lv_iconst (v := 4) hx hb dX6_lineOfWord_53 (by decide) ?_
            refine lv_goto (tgt := 58) hx hb dX6_lineOfWord_54 (by decide) ?_
            have hP9 := hP.sub (ws' := [(h0, .inr (6, [.ref dr, .int r_firstFault, .int r_faultPlace, .ref tp, .int r_at, .int r_kind, .int r_begin, .int r_value, .int r_line, .int r_taken, .int r_isWordDue, .int r_isTaking, .ref r_qnumbers])), (tp, .inr (9, [.ref t_qbytes, .int t_length])), (t_qbytes, .inl (cA 0, 800, .inl t_cbytes))]) [0, 1, 2] rfl
            have hD9 := hD.sub (ws' := [(h0, .inr (6, [.ref dr, .int r_firstFault, .int r_faultPlace, .ref tp, .int r_at, .int r_kind, .int r_begin, .int r_value, .int r_line, .int r_taken, .int r_isWordDue, .int r_isTaking, .ref r_qnumbers])), (tp, .inr (9, [.ref t_qbytes, .int t_length])), (t_qbytes, .inl (cA 0, 800, .inl t_cbytes))]) [0, 1, 2] (by decide) rfl
            exact W.iret (v := 4) hx hb hr (fun t ht hW => ⟨⟨4, ((fun _ => 0), (fun _ => 0), (fun _ _ => 0), (fun _ _ => 0)), rfl, (show 0 ≤ (4 : Int32).toInt ∧ (4 : Int32).toInt ≤ 5 from by decide), by rw [ht]; exact hP9, hD9⟩, hS.F ht⟩) hS.2.2 dX6_lineOfWord_58
        · skip
          have k_17 := kk_ne rfl zi_0 c_11
          refine lv_iconst (v := 3) hx hb dX6_lineOfWord_42 (by decide) ?_
          have hP9 := hP.sub (ws' := [(h0, .inr (6, [.ref dr, .int r_firstFault, .int r_faultPlace, .ref tp, .int r_at, .int r_kind, .int r_begin, .int r_value, .int r_line, .int r_taken, .int r_isWordDue, .int r_isTaking, .ref r_qnumbers])), (tp, .inr (9, [.ref t_qbytes, .int t_length])), (t_qbytes, .inl (cA 0, 800, .inl t_cbytes))]) [0, 1, 2] rfl
          have hD9 := hD.sub (ws' := [(h0, .inr (6, [.ref dr, .int r_firstFault, .int r_faultPlace, .ref tp, .int r_at, .int r_kind, .int r_begin, .int r_value, .int r_line, .int r_taken, .int r_isWordDue, .int r_isTaking, .ref r_qnumbers])), (tp, .inr (9, [.ref t_qbytes, .int t_length])), (t_qbytes, .inl (cA 0, 800, .inl t_cbytes))]) [0, 1, 2] (by decide) rfl
          exact W.iret (v := 3) hx hb hr (fun t ht hW => ⟨⟨3, ((fun _ => 0), (fun _ => 0), (fun _ _ => 0), (fun _ _ => 0)), rfl, (show 0 ≤ (3 : Int32).toInt ∧ (3 : Int32).toInt ≤ 5 from by decide), by rw [ht]; exact hP9, hD9⟩, hS.F ht⟩) hS.2.2 dX6_lineOfWord_43
      · skip
        have k_18 := kk_ne rfl zi_0 c_8
        refine lv_iconst (v := 2) hx hb dX6_lineOfWord_31 (by decide) ?_
        have hP9 := hP.sub (ws' := [(h0, .inr (6, [.ref dr, .int r_firstFault, .int r_faultPlace, .ref tp, .int r_at, .int r_kind, .int r_begin, .int r_value, .int r_line, .int r_taken, .int r_isWordDue, .int r_isTaking, .ref r_qnumbers])), (tp, .inr (9, [.ref t_qbytes, .int t_length])), (t_qbytes, .inl (cA 0, 800, .inl t_cbytes))]) [0, 1, 2] rfl
        have hD9 := hD.sub (ws' := [(h0, .inr (6, [.ref dr, .int r_firstFault, .int r_faultPlace, .ref tp, .int r_at, .int r_kind, .int r_begin, .int r_value, .int r_line, .int r_taken, .int r_isWordDue, .int r_isTaking, .ref r_qnumbers])), (tp, .inr (9, [.ref t_qbytes, .int t_length])), (t_qbytes, .inl (cA 0, 800, .inl t_cbytes))]) [0, 1, 2] (by decide) rfl
        exact W.iret (v := 2) hx hb hr (fun t ht hW => ⟨⟨2, ((fun _ => 0), (fun _ => 0), (fun _ _ => 0), (fun _ _ => 0)), rfl, (show 0 ≤ (2 : Int32).toInt ∧ (2 : Int32).toInt ≤ 5 from by decide), by rw [ht]; exact hP9, hD9⟩, hS.F ht⟩) hS.2.2 dX6_lineOfWord_32
    · skip
      have k_19 := kk_ne rfl zi_0 c_5
      refine lv_iconst (v := 1) hx hb dX6_lineOfWord_20 (by decide) ?_
      have hP9 := hP.sub (ws' := [(h0, .inr (6, [.ref dr, .int r_firstFault, .int r_faultPlace, .ref tp, .int r_at, .int r_kind, .int r_begin, .int r_value, .int r_line, .int r_taken, .int r_isWordDue, .int r_isTaking, .ref r_qnumbers])), (tp, .inr (9, [.ref t_qbytes, .int t_length])), (t_qbytes, .inl (cA 0, 800, .inl t_cbytes))]) [0, 1, 2] rfl
      have hD9 := hD.sub (ws' := [(h0, .inr (6, [.ref dr, .int r_firstFault, .int r_faultPlace, .ref tp, .int r_at, .int r_kind, .int r_begin, .int r_value, .int r_line, .int r_taken, .int r_isWordDue, .int r_isTaking, .ref r_qnumbers])), (tp, .inr (9, [.ref t_qbytes, .int t_length])), (t_qbytes, .inl (cA 0, 800, .inl t_cbytes))]) [0, 1, 2] (by decide) rfl
      exact W.iret (v := 1) hx hb hr (fun t ht hW => ⟨⟨1, ((fun _ => 0), (fun _ => 0), (fun _ _ => 0), (fun _ _ => 0)), rfl, (show 0 ≤ (1 : Int32).toInt ∧ (1 : Int32).toInt ≤ 5 from by decide), by rw [ht]; exact hP9, hD9⟩, hS.F ht⟩) hS.2.2 dX6_lineOfWord_21
  · skip
    have k_20 := kk_ne rfl zi_0 c_2
    refine lv_iconst (v := 0) hx hb dX6_lineOfWord_9 (by decide) ?_
    have hP9 := hP.sub (ws' := [(h0, .inr (6, [.ref dr, .int r_firstFault, .int r_faultPlace, .ref tp, .int r_at, .int r_kind, .int r_begin, .int r_value, .int r_line, .int r_taken, .int r_isWordDue, .int r_isTaking, .ref r_qnumbers])), (tp, .inr (9, [.ref t_qbytes, .int t_length])), (t_qbytes, .inl (cA 0, 800, .inl t_cbytes))]) [0, 1, 2] rfl
    have hD9 := hD.sub (ws' := [(h0, .inr (6, [.ref dr, .int r_firstFault, .int r_faultPlace, .ref tp, .int r_at, .int r_kind, .int r_begin, .int r_value, .int r_line, .int r_taken, .int r_isWordDue, .int r_isTaking, .ref r_qnumbers])), (tp, .inr (9, [.ref t_qbytes, .int t_length])), (t_qbytes, .inl (cA 0, 800, .inl t_cbytes))]) [0, 1, 2] (by decide) rfl
    exact W.iret (v := 0) hx hb hr (fun t ht hW => ⟨⟨0, ((fun _ => 0), (fun _ => 0), (fun _ _ => 0), (fun _ _ => 0)), rfl, (show 0 ≤ (0 : Int32).toInt ∧ (0 : Int32).toInt ≤ 5 from by decide), by rw [ht]; exact hP9, hD9⟩, hS.F ht⟩) hS.2.2 dX6_lineOfWord_10
set_option maxHeartbeats 8000000 in
set_option maxRecDepth 100000 in
theorem g_X6_wordDue (l : Launch) (D : va_G) (cA : Nat → ClassId) (κ : KT) (h0 : Nat) (dr : Nat) (r_firstFault : Int32) (r_faultPlace : Int32) (tp : Nat) (r_at : Int32) (r_kind : Int32) (r_begin : Int32) (r_value : Int32) (r_line : Int32) (r_taken : Int32) (r_isWordDue : Int32) (r_isTaking : Int32) (r_qnumbers : Nat) : Met l yX6_wordDue (Cond.code yX6_wordDue cX6_wordDue 1 (some (.object "java/lang/String")) :: TB) (rmd 0 0 0) (PPK κ D cA [(h0, .inr (6, [.ref dr, .int r_firstFault, .int r_faultPlace, .ref tp, .int r_at, .int r_kind, .int r_begin, .int r_value, .int r_line, .int r_taken, .int r_isWordDue, .int r_isTaking, .ref r_qnumbers]))] [.ref h0]) (vp_SrK (fun r => ∃ i, i < 30 ∧ r = κ.2.1 i)) 0 0 (fun _ => False) := by
  refine Met.ofW (cc := cX6_wordDue) (maxL := 1) (ret := (some (.object "java/lang/String"))) (by decide) rfl ?_
  intro p e s m args below meth c s₁ B hml hv
  obtain ⟨rfl, hP, hKN, hKC⟩ := hv
  have hS : va_S (fun _ => False) s.heap s.heap [] := va_S.rf
  have hx := B.exec
  have hb := B.bytes
  have hr := B.returns
  have hts : ∀ w ∈ TB, w.before _ s = true := fun w h => atoms_spec B.pre w (List.mem_cons_of_mem _ h)
  have hown : s.vm.findClass RX6 = some m.cls := findClass_of_methodNamed B.named
  have hlocks := B.notSynchronized
  have hl := lv_entry ([.ref h0]) (n := 1) (Nat.le_of_ble_eq_true rfl)
  rw [lg_entry_eq]
  generalize (lg_sl ([.ref h0]) ++ List.replicate (1 - (lg_sl ([.ref h0])).length) Slot.unset).toArray = ls at hl ⊢
  have hl : lv_has ls 1 [(0, .ref h0)] := hl
  refine lv_iconst (v := 3) hx hb dX6_wordDue_0 (by decide) ?_
  refine lv_aload_n hx hb dX6_wordDue_1 rfl (lv_at hl 0 rfl) ?_
  refine va_get (D := D) (ci := 6) (v := .int r_line) (C := RX6) (T := TX6) (N := 13) hx hb hts inX6 hown hKN.1 hP 0 rfl rfl 8 (by decide) (hts _ tw_235) (fun _ h9 => h9) rfl dX6_wordDue_2 ?_
  refine lv_imul hx hb dX6_wordDue_5 ?_
  refine lv_topi (fun x_1 ex_1 => ?_)
  refine lv_aload_n hx hb dX6_wordDue_6 rfl (lv_at hl 0 rfl) ?_
  refine va_get (D := D) (ci := 6) (v := .int r_taken) (C := RX6) (T := TX6) (N := 13) hx hb hts inX6 hown hKN.1 hP 0 rfl rfl 9 (by decide) (hts _ tw_236) (fun _ h9 => h9) rfl dX6_wordDue_7 ?_
  refine lv_iadd hx hb dX6_wordDue_10 ?_
  refine lv_topi (fun x_3 ex_3 => ?_)
  rcases (by omega : x_3.toInt = 2 ∨ x_3.toInt = 3 ∨ x_3.toInt = 4 ∨ x_3.toInt = 5 ∨ x_3.toInt = 6 ∨ x_3.toInt = 7 ∨ x_3.toInt = 8 ∨ x_3.toInt = 9 ∨ x_3.toInt = 10 ∨ x_3.toInt < 2 ∨ 10 < x_3.toInt) with c_5 | c_5 | c_5 | c_5 | c_5 | c_5 | c_5 | c_5 | c_5 | c_5
  · skip
    refine lv_tableIn (tgt := 60) hx hb dX6_wordDue_11 (by omega) (by omega) (by rw [c_5]; rfl) (by decide) ?_
    refine va_ldcS hx hb hown (hKC.R 6 (by decide) : vk_R RX6 180 "odds" (κ.2.1 6) s) dX6_wordDue_60 ?_
    exact W.aret (v := .ref (κ.2.1 6)) hx hb hr (Or.inl ⟨_, rfl⟩) (Or.inr ⟨_, rfl⟩) (fun t ht hW => ⟨(κ.2.1 6), rfl, ⟨6, by decide, rfl⟩, ht⟩) (fun _ h => by cases h) dX6_wordDue_62
  · skip
    refine lv_tableIn (tgt := 63) hx hb dX6_wordDue_11 (by omega) (by omega) (by rw [c_5]; rfl) (by decide) ?_
    refine va_ldcS hx hb hown (hKC.R 7 (by decide) : vk_R RX6 181 "on" (κ.2.1 7) s) dX6_wordDue_63 ?_
    exact W.aret (v := .ref (κ.2.1 7)) hx hb hr (Or.inl ⟨_, rfl⟩) (Or.inr ⟨_, rfl⟩) (fun t ht hW => ⟨(κ.2.1 7), rfl, ⟨7, by decide, rfl⟩, ht⟩) (fun _ h => by cases h) dX6_wordDue_65
  · skip
    refine lv_tableIn (tgt := 66) hx hb dX6_wordDue_11 (by omega) (by omega) (by rw [c_5]; rfl) (by decide) ?_
    refine va_ldcS hx hb hown (hKC.R 8 (by decide) : vk_R RX6 183 "grip" (κ.2.1 8) s) dX6_wordDue_66 ?_
    exact W.aret (v := .ref (κ.2.1 8)) hx hb hr (Or.inl ⟨_, rfl⟩) (Or.inr ⟨_, rfl⟩) (fun t ht hW => ⟨(κ.2.1 8), rfl, ⟨8, by decide, rfl⟩, ht⟩) (fun _ h => by cases h) dX6_wordDue_68
  · skip
    refine lv_tableIn (tgt := 69) hx hb dX6_wordDue_11 (by omega) (by omega) (by rw [c_5]; rfl) (by decide) ?_
    refine va_ldcS hx hb hown (hKC.R 9 (by decide) : vk_R RX6 185 "wits" (κ.2.1 9) s) dX6_wordDue_69 ?_
    exact W.aret (v := .ref (κ.2.1 9)) hx hb hr (Or.inl ⟨_, rfl⟩) (Or.inr ⟨_, rfl⟩) (fun t ht hW => ⟨(κ.2.1 9), rfl, ⟨9, by decide, rfl⟩, ht⟩) (fun _ h => by cases h) dX6_wordDue_71
  · skip
    refine lv_tableIn (tgt := 72) hx hb dX6_wordDue_11 (by omega) (by omega) (by rw [c_5]; rfl) (by decide) ?_
    refine va_ldcS hx hb hown (hKC.R 10 (by decide) : vk_R RX6 187 "says" (κ.2.1 10) s) dX6_wordDue_72 ?_
    exact W.aret (v := .ref (κ.2.1 10)) hx hb hr (Or.inl ⟨_, rfl⟩) (Or.inr ⟨_, rfl⟩) (fun t ht hW => ⟨(κ.2.1 10), rfl, ⟨10, by decide, rfl⟩, ht⟩) (fun _ h => by cases h) dX6_wordDue_74
  · skip
    refine lv_tableIn (tgt := 75) hx hb dX6_wordDue_11 (by omega) (by omega) (by rw [c_5]; rfl) (by decide) ?_
    refine va_ldcS hx hb hown (hKC.R 11 (by decide) : vk_R RX6 189 "gives" (κ.2.1 11) s) dX6_wordDue_75 ?_
    exact W.aret (v := .ref (κ.2.1 11)) hx hb hr (Or.inl ⟨_, rfl⟩) (Or.inr ⟨_, rfl⟩) (fun t ht hW => ⟨(κ.2.1 11), rfl, ⟨11, by decide, rfl⟩, ht⟩) (fun _ h => by cases h) dX6_wordDue_77
  · skip
    refine lv_tableIn (tgt := 75) hx hb dX6_wordDue_11 (by omega) (by omega) (by rw [c_5]; rfl) (by decide) ?_
    refine va_ldcS hx hb hown (hKC.R 11 (by decide) : vk_R RX6 189 "gives" (κ.2.1 11) s) dX6_wordDue_75 ?_
    exact W.aret (v := .ref (κ.2.1 11)) hx hb hr (Or.inl ⟨_, rfl⟩) (Or.inr ⟨_, rfl⟩) (fun t ht hW => ⟨(κ.2.1 11), rfl, ⟨11, by decide, rfl⟩, ht⟩) (fun _ h => by cases h) dX6_wordDue_77
  · skip
    refine lv_tableIn (tgt := 78) hx hb dX6_wordDue_11 (by omega) (by omega) (by rw [c_5]; rfl) (by decide) ?_
    refine va_ldcS hx hb hown (hKC.R 12 (by decide) : vk_R RX6 191 "from" (κ.2.1 12) s) dX6_wordDue_78 ?_
    exact W.aret (v := .ref (κ.2.1 12)) hx hb hr (Or.inl ⟨_, rfl⟩) (Or.inr ⟨_, rfl⟩) (fun t ht hW => ⟨(κ.2.1 12), rfl, ⟨12, by decide, rfl⟩, ht⟩) (fun _ h => by cases h) dX6_wordDue_80
  · skip
    refine lv_tableIn (tgt := 81) hx hb dX6_wordDue_11 (by omega) (by omega) (by rw [c_5]; rfl) (by decide) ?_
    refine va_ldcS hx hb hown (hKC.R 13 (by decide) : vk_R RX6 193 "to" (κ.2.1 13) s) dX6_wordDue_81 ?_
    exact W.aret (v := .ref (κ.2.1 13)) hx hb hr (Or.inl ⟨_, rfl⟩) (Or.inr ⟨_, rfl⟩) (fun t ht hW => ⟨(κ.2.1 13), rfl, ⟨13, by decide, rfl⟩, ht⟩) (fun _ h => by cases h) dX6_wordDue_83
  · skip
    refine lv_tableOut (tgt := 84) hx hb dX6_wordDue_11 c_5 (by decide) ?_
    refine va_ldcS hx hb hown (hKC.R 14 (by decide) : vk_R RX6 195 "far" (κ.2.1 14) s) dX6_wordDue_84 ?_
    exact W.aret (v := .ref (κ.2.1 14)) hx hb hr (Or.inl ⟨_, rfl⟩) (Or.inr ⟨_, rfl⟩) (fun t ht hW => ⟨(κ.2.1 14), rfl, ⟨14, by decide, rfl⟩, ht⟩) (fun _ h => by cases h) dX6_wordDue_86

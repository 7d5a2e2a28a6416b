theorem zi_255 : (255 : Int32).toInt = 255 := by decide
theorem zi_3 : (3 : Int32).toInt = 3 := by decide
theorem zi_60 : (60 : Int32).toInt = 60 := by decide
theorem zi_800 : (800 : Int32).toInt = 800 := by decide
theorem zi_m8 : ((-8) : Int32).toInt = -8 := by decide
set_option maxHeartbeats 8000000 in
set_option maxRecDepth 100000 in
theorem g_X2_clear (l : Launch) (D : va_G) (cA : Nat → ClassId) (sz : Nat) (h0 : Nat) (e_latest : Int32) (e_left : Int32) (e_signed : Int32) (e_met : Int32) (e_acts : Int32) (e_start0 : Int32) (e_start1 : Int32) (e_qkinds : Nat) (e_qwhats : Nat) (e_qbefores : Nat) (h_e_acts : 0 ≤ (e_acts : Int32).toInt ∧ (e_acts : Int32).toInt ≤ 60) : Met l yX2_clear (Cond.code yX2_clear cX2_clear 1 none :: TB) (rmd 0 0 0) (PM D cA sz [(h0, .inr (2, [.int e_latest, .int e_left, .int e_signed, .int e_met, .int e_acts, .int e_start0, .int e_start1, .ref e_qkinds, .ref e_qwhats, .ref e_qbefores]))] [.ref h0]) (va_Qv (fun (u : SU) => True) (fun u t => va_P D vwCl [(h0, .inr (2, [.int (-1), .int (-1), .int 0, .int 0, .int 0, .int 0, .int 0, .ref e_qkinds, .ref e_qwhats, .ref e_qbefores]))] t.heap ∧ va_D (va_A [(h0, .inr (2, [.int e_latest, .int e_left, .int e_signed, .int e_met, .int e_acts, .int e_start0, .int e_start1, .ref e_qkinds, .ref e_qwhats, .ref e_qbefores]))] sz) [(h0, .inr (2, [.int (-1), .int (-1), .int 0, .int 0, .int 0, .int 0, .int 0, .ref e_qkinds, .ref e_qwhats, .ref e_qbefores]))]) (va_A [(h0, .inr (2, [.int e_latest, .int e_left, .int e_signed, .int e_met, .int e_acts, .int e_start0, .int e_start1, .ref e_qkinds, .ref e_qwhats, .ref e_qbefores]))] sz)) 0 0 (va_A [(h0, .inr (2, [.int e_latest, .int e_left, .int e_signed, .int e_met, .int e_acts, .int e_start0, .int e_start1, .ref e_qkinds, .ref e_qwhats, .ref e_qbefores]))] sz) := by
  refine Met.ofW (cc := cX2_clear) (maxL := 1) (ret := none) (by decide) rfl ?_
  intro p e s m args below meth c s₁ B hml hv
  obtain ⟨rfl, hsz, hP, hKN, hD0⟩ := hv
  have hx := B.exec
  have hb := B.bytes
  have hr := B.returns
  have hts : ∀ w ∈ TB, w.before _ s = true := fun w h => atoms_spec B.pre w (List.mem_cons_of_mem _ h)
  have hown : s.vm.findClass RX2 = some m.cls := findClass_of_methodNamed B.named
  have hlocks := B.notSynchronized
  subst hsz
  have hD := hD0.self (sz := s.heap.size)
  generalize hAe : va_A [(h0, .inr (2, [.int e_latest, .int e_left, .int e_signed, .int e_met, .int e_acts, .int e_start0, .int e_start1, .ref e_qkinds, .ref e_qwhats, .ref e_qbefores]))] s.heap.size = A at hD ⊢
  have hA : ∀ q : Nat, s.heap.size ≤ q → A q := fun q h => by rw [← hAe]; exact Or.inr h
  have hS : va_S A s.heap s.heap [] := va_S.rf
  have hl := lv_entry ([.ref h0]) (n := 1) (Nat.le_of_ble_eq_true rfl)
  rw [lg_entry_eq]
  generalize (lg_sl ([.ref h0]) ++ List.replicate (1 - (lg_sl ([.ref h0])).length) Slot.unset).toArray = ls at hl ⊢
  have hl : lv_has ls 1 [(0, .ref h0)] := hl
  refine lv_aload_n hx hb dX2_clear_0 rfl (lv_at hl 0 rfl) ?_
  refine lv_iconst (v := (-1)) hx hb dX2_clear_1 (by decide) ?_
  refine va_put (D := D) (ci := 2) (v := .int (-1)) (ty := .int) (C := RX2) (T := TX2) (N := 10) hx hb hts inX2 tyX2 tyX2_ok nmX2 hown hKN.1 hP hD hS 0 rfl rfl 0 (by decide) (hts _ tw_275) (fun _ h9 => h9) rfl (by decide +kernel) rfl rfl (Nat.le_of_ble_eq_true rfl) dX2_clear_2 (fun H locs hP hD hS => ?_)
  have hP : va_P D vwCl [(h0, .inr (2, [.int (-1), .int e_left, .int e_signed, .int e_met, .int e_acts, .int e_start0, .int e_start1, .ref e_qkinds, .ref e_qwhats, .ref e_qbefores]))] H := hP
  have hD : va_D A [(h0, .inr (2, [.int (-1), .int e_left, .int e_signed, .int e_met, .int e_acts, .int e_start0, .int e_start1, .ref e_qkinds, .ref e_qwhats, .ref e_qbefores]))] := hD
  refine lv_aload_n hx hb dX2_clear_5 rfl (lv_at hl 0 rfl) ?_
  refine lv_iconst (v := (-1)) hx hb dX2_clear_6 (by decide) ?_
  refine va_put (D := D) (ci := 2) (v := .int (-1)) (ty := .int) (C := RX2) (T := TX2) (N := 10) hx hb hts inX2 tyX2 tyX2_ok nmX2 hown hKN.1 hP hD hS 0 rfl rfl 1 (by decide) (hts _ tw_277) (fun _ h9 => h9) rfl (by decide +kernel) rfl rfl (Nat.le_of_ble_eq_true rfl) dX2_clear_7 (fun H locs hP hD hS => ?_)
  have hP : va_P D vwCl [(h0, .inr (2, [.int (-1), .int (-1), .int e_signed, .int e_met, .int e_acts, .int e_start0, .int e_start1, .ref e_qkinds, .ref e_qwhats, .ref e_qbefores]))] H := hP
  have hD : va_D A [(h0, .inr (2, [.int (-1), .int (-1), .int e_signed, .int e_met, .int e_acts, .int e_start0, .int e_start1, .ref e_qkinds, .ref e_qwhats, .ref e_qbefores]))] := hD
  refine lv_aload_n hx hb dX2_clear_10 rfl (lv_at hl 0 rfl) ?_
  refine lv_iconst (v := 0) hx hb dX2_clear_11 (by decide) ?_
  refine va_put (D := D) (ci := 2) (v := .int 0) (ty := .int) (C := RX2) (T := TX2) (N := 10) hx hb hts inX2 tyX2 tyX2_ok nmX2 hown hKN.1 hP hD hS 0 rfl rfl 2 (by decide) (hts _ tw_279) (fun _ h9 => h9) rfl (by decide +kernel) rfl rfl (Nat.le_of_ble_eq_true rfl) dX2_clear_12 (fun H locs hP hD hS => ?_)
  have hP : va_P D vwCl [(h0, .inr (2, [.int (-1), .int (-1), .int 0, .int e_met, .int e_acts, .int e_start0, .int e_start1, .ref e_qkinds, .ref e_qwhats, .ref e_qbefores]))] H := hP
  have hD : va_D A [(h0, .inr (2, [.int (-1), .int (-1), .int 0, .int e_met, .int e_acts, .int e_start0, .int e_start1, .ref e_qkinds, .ref e_qwhats, .ref e_qbefores]))] := hD
  refine lv_aload_n hx hb dX2_clear_15 rfl (lv_at hl 0 rfl) ?_
  refine lv_iconst (v := 0) hx hb dX2_clear_16 (by decide) ?_
  refine va_put (D := D) (ci := 2) (v := .int 0) (ty := .int) (C := RX2) (T := TX2) (N := 10) hx hb hts inX2 tyX2 tyX2_ok nmX2 hown hKN.1 hP hD hS 0 rfl rfl 3 (by decide) (hts _ tw_281) (fun _ h9 => h9) rfl (by decide +kernel) rfl rfl (Nat.le_of_ble_eq_true rfl) dX2_clear_17 (fun H locs hP hD hS => ?_)
  have hP : va_P D vwCl [(h0, .inr (2, [.int (-1), .int (-1), .int 0, .int 0, .int e_acts, .int e_start0, .int e_start1, .ref e_qkinds, .ref e_qwhats, .ref e_qbefores]))] H := hP
  have hD : va_D A [(h0, .inr (2, [.int (-1), .int (-1), .int 0, .int 0, .int e_acts, .int e_start0, .int e_start1, .ref e_qkinds, .ref e_qwhats, .ref e_qbefores]))] := hD
  refine lv_aload_n hx hb dX2_clear_20 rfl (lv_at hl 0 rfl) ?_
  refine lv_iconst (v := 0) hx hb dX2_clear_21 (by decide) ?_
  refine va_put (D := D) (ci := 2) (v := .int 0) (ty := .int) (C := RX2) (T := TX2) (N := 10) hx hb hts inX2 tyX2 tyX2_ok nmX2 hown hKN.1 hP hD hS 0 rfl rfl 4 (by decide) (hts _ tw_283) (fun _ h9 => h9) rfl (by decide +kernel) rfl rfl (Nat.le_of_ble_eq_true rfl) dX2_clear_22 (fun H locs hP hD hS => ?_)
  have hP : va_P D vwCl [(h0, .inr (2, [.int (-1), .int (-1), .int 0, .int 0, .int 0, .int e_start0, .int e_start1, .ref e_qkinds, .ref e_qwhats, .ref e_qbefores]))] H := hP
  have hD : va_D A [(h0, .inr (2, [.int (-1), .int (-1), .int 0, .int 0, .int 0, .int e_start0, .int e_start1, .ref e_qkinds, .ref e_qwhats, .ref e_qbefores]))] := hD
  refine lv_aload_n hx hb dX2_clear_25 rfl (lv_at hl 0 rfl) ?_
  refine lv_iconst (v := 0) hx hb dX2_clear_26 (by decide) ?_
  refine va_put (D := D) (ci := 2) (v := .int 0) (ty := .int) (C := RX2) (T := TX2) (N := 10) hx hb hts inX2 tyX2 tyX2_ok nmX2 hown hKN.1 hP hD hS 0 rfl rfl 5 (by decide) (hts _ tw_285) (fun _ h9 => h9) rfl (by decide +kernel) rfl rfl (Nat.le_of_ble_eq_true rfl) dX2_clear_27 (fun H locs hP hD hS => ?_)
  have hP : va_P D vwCl [(h0, .inr (2, [.int (-1), .int (-1), .int 0, .int 0, .int 0, .int 0, .int e_start1, .ref e_qkinds, .ref e_qwhats, .ref e_qbefores]))] H := hP
  have hD : va_D A [(h0, .inr (2, [.int (-1), .int (-1), .int 0, .int 0, .int 0, .int 0, .int e_start1, .ref e_qkinds, .ref e_qwhats, .ref e_qbefores]))] := hD
  refine lv_aload_n hx hb dX2_clear_30 rfl (lv_at hl 0 rfl) ?_
  refine lv_iconst (v := 0) hx hb dX2_clear_31 (by decide) ?_
  refine va_put (D := D) (ci := 2) (v := .int 0) (ty := .int) (C := RX2) (T := TX2) (N := 10) hx hb hts inX2 tyX2 tyX2_ok nmX2 hown hKN.1 hP hD hS 0 rfl rfl 6 (by decide) (hts _ tw_286) (fun _ h9 => h9) rfl (by decide +kernel) rfl rfl (Nat.le_of_ble_eq_true rfl) dX2_clear_32 (fun H locs hP hD hS => ?_)
  have hP : va_P D vwCl [(h0, .inr (2, [.int (-1), .int (-1), .int 0, .int 0, .int 0, .int 0, .int 0, .ref e_qkinds, .ref e_qwhats, .ref e_qbefores]))] H := hP
  have hD : va_D A [(h0, .inr (2, [.int (-1), .int (-1), .int 0, .int 0, .int 0, .int 0, .int 0, .ref e_qkinds, .ref e_qwhats, .ref e_qbefores]))] := hD
  have hP9 := hP.sub (ws' := [(h0, .inr (2, [.int (-1), .int (-1), .int 0, .int 0, .int 0, .int 0, .int 0, .ref e_qkinds, .ref e_qwhats, .ref e_qbefores]))]) [0] rfl
  have hD9 := hD.sub (ws' := [(h0, .inr (2, [.int (-1), .int (-1), .int 0, .int 0, .int 0, .int 0, .int 0, .ref e_qkinds, .ref e_qwhats, .ref e_qbefores]))]) [0] (by decide) rfl
  exact W.vret hx hb hr (fun t ht hW => ⟨⟨((fun _ => 0), (fun _ => 0), (fun _ _ => 0), (fun _ _ => 0)), rfl, trivial, by rw [ht]; exact hP9, hD9⟩, hS.F ht⟩) hS.2.2 dX2_clear_35
set_option maxHeartbeats 8000000 in
set_option maxRecDepth 100000 in
theorem g_X2_copyFrom (l : Launch) (D : va_G) (cA : Nat → ClassId) (sz : Nat) (h0 : Nat) (e_latest : Int32) (e_left : Int32) (e_signed : Int32) (e_met : Int32) (e_acts : Int32) (e_start0 : Int32) (e_start1 : Int32) (e_qkinds : Nat) (e_qwhats : Nat) (e_qbefores : Nat) (e_ckinds : Nat → Int32) (e_cwhats : Nat → Int32) (e_cbefores : Nat → Int32) (h1 : Nat) (o_latest : Int32) (o_left : Int32) (o_signed : Int32) (o_met : Int32) (o_acts : Int32) (o_start0 : Int32) (o_start1 : Int32) (o_qkinds : Nat) (o_qwhats : Nat) (o_qbefores : Nat) (o_ckinds : Nat → Int32) (o_cwhats : Nat → Int32) (o_cbefores : Nat → Int32) (h_e_acts : 0 ≤ (e_acts : Int32).toInt ∧ (e_acts : Int32).toInt ≤ 60) (h_o_acts : 0 ≤ (o_acts : Int32).toInt ∧ (o_acts : Int32).toInt ≤ 60) : Met l yX2_copyFrom (Cond.code yX2_copyFrom cX2_copyFrom 2 none :: TB) (rmd 1 0 0) (PM D cA sz [(h0, .inr (2, [.int e_latest, .int e_left, .int e_signed, .int e_met, .int e_acts, .int e_start0, .int e_start1, .ref e_qkinds, .ref e_qwhats, .ref e_qbefores])), (e_qkinds, .inl (cA 1, 60, .inl e_ckinds)), (e_qwhats, .inl (cA 1, 60, .inl e_cwhats)), (e_qbefores, .inl (cA 1, 60, .inl e_cbefores)), (h1, .inr (2, [.int o_latest, .int o_left, .int o_signed, .int o_met, .int o_acts, .int o_start0, .int o_start1, .ref o_qkinds, .ref o_qwhats, .ref o_qbefores])), (o_qkinds, .inl (cA 1, 60, .inl o_ckinds)), (o_qwhats, .inl (cA 1, 60, .inl o_cwhats)), (o_qbefores, .inl (cA 1, 60, .inl o_cbefores))] [.ref h0, .ref h1]) (va_Qv (fun (u : SU) => True) (fun u t => va_P D vwCl [(h0, .inr (2, [.int o_latest, .int o_left, .int o_signed, .int o_met, .int o_acts, .int o_start0, .int o_start1, .ref e_qkinds, .ref e_qwhats, .ref e_qbefores])), (e_qkinds, .inl (cA 1, 60, .inl (u.2.2.1 0))), (e_qwhats, .inl (cA 1, 60, .inl (u.2.2.1 1))), (e_qbefores, .inl (cA 1, 60, .inl (u.2.2.1 2))), (h1, .inr (2, [.int o_latest, .int o_left, .int o_signed, .int o_met, .int o_acts, .int o_start0, .int o_start1, .ref o_qkinds, .ref o_qwhats, .ref o_qbefores])), (o_qkinds, .inl (cA 1, 60, .inl o_ckinds)), (o_qwhats, .inl (cA 1, 60, .inl o_cwhats)), (o_qbefores, .inl (cA 1, 60, .inl o_cbefores))] t.heap ∧ va_D (va_A [(h0, .inr (2, [.int e_latest, .int e_left, .int e_signed, .int e_met, .int e_acts, .int e_start0, .int e_start1, .ref e_qkinds, .ref e_qwhats, .ref e_qbefores])), (e_qkinds, .inl (cA 1, 60, .inl e_ckinds)), (e_qwhats, .inl (cA 1, 60, .inl e_cwhats)), (e_qbefores, .inl (cA 1, 60, .inl e_cbefores)), (h1, .inr (2, [.int o_latest, .int o_left, .int o_signed, .int o_met, .int o_acts, .int o_start0, .int o_start1, .ref o_qkinds, .ref o_qwhats, .ref o_qbefores])), (o_qkinds, .inl (cA 1, 60, .inl o_ckinds)), (o_qwhats, .inl (cA 1, 60, .inl o_cwhats)), (o_qbefores, .inl (cA 1, 60, .inl o_cbefores))] sz) [(h0, .inr (2, [.int o_latest, .int o_left, .int o_signed, .int o_met, .int o_acts, .int o_start0, .int o_start1, .ref e_qkinds, .ref e_qwhats, .ref e_qbefores])), (e_qkinds, .inl (cA 1, 60, .inl (u.2.2.1 0))), (e_qwhats, .inl (cA 1, 60, .inl (u.2.2.1 1))), (e_qbefores, .inl (cA 1, 60, .inl (u.2.2.1 2))), (h1, .inr (2, [.int o_latest, .int o_left, .int o_signed, .int o_met, .int o_acts, .int o_start0, .int o_start1, .ref o_qkinds, .ref o_qwhats, .ref o_qbefores])), (o_qkinds, .inl (cA 1, 60, .inl o_ckinds)), (o_qwhats, .inl (cA 1, 60, .inl o_cwhats)), (o_qbefores, .inl (cA 1, 60, .inl o_cbefores))]) (va_A [(h0, .inr (2, [.int e_latest, .int e_left, .int e_signed, .int e_met, .int e_acts, .int e_start0, .int e_start1, .ref e_qkinds, .ref e_qwhats, .ref e_qbefores])), (e_qkinds, .inl (cA 1, 60, .inl e_ckinds)), (e_qwhats, .inl (cA 1, 60, .inl e_cwhats)), (e_qbefores, .inl (cA 1, 60, .inl e_cbefores)), (h1, .inr (2, [.int o_latest, .int o_left, .int o_signed, .int o_met, .int o_acts, .int o_start0, .int o_start1, .ref o_qkinds, .ref o_qwhats, .ref o_qbefores])), (o_qkinds, .inl (cA 1, 60, .inl o_ckinds)), (o_qwhats, .inl (cA 1, 60, .inl o_cwhats)), (o_qbefores, .inl (cA 1, 60, .inl o_cbefores))] sz)) 0 0 (va_A [(h0, .inr (2, [.int e_latest, .int e_left, .int e_signed, .int e_met, .int e_acts, .int e_start0, .int e_start1, .ref e_qkinds, .ref e_qwhats, .ref e_qbefores])), (e_qkinds, .inl (cA 1, 60, .inl e_ckinds)), (e_qwhats, .inl (cA 1, 60, .inl e_cwhats)), (e_qbefores, .inl (cA 1, 60, .inl e_cbefores)), (h1, .inr (2, [.int o_latest, .int o_left, .int o_signed, .int o_met, .int o_acts, .int o_start0, .int o_start1, .ref o_qkinds, .ref o_qwhats, .ref o_qbefores])), (o_qkinds, .inl (cA 1, 60, .inl o_ckinds)), (o_qwhats, .inl (cA 1, 60, .inl o_cwhats)), (o_qbefores, .inl (cA 1, 60, .inl o_cbefores))] sz) := by
  refine Met.ofW (cc := cX2_copyFrom) (maxL := 2) (ret := none) (by decide) rfl ?_
  intro p e s m args below meth c s₁ B hml hv
  obtain ⟨rfl, hsz, hP, hKN, hD0⟩ := hv
  have hx := B.exec
  have hb := B.bytes
  have hr := B.returns
  have hts : ∀ w ∈ TB, w.before _ s = true := fun w h => atoms_spec B.pre w (List.mem_cons_of_mem _ h)
  have hown : s.vm.findClass RX2 = some m.cls := findClass_of_methodNamed B.named
  have hlocks := B.notSynchronized
  subst hsz
  have hD := hD0.self (sz := s.heap.size)
  generalize hAe : va_A [(h0, .inr (2, [.int e_latest, .int e_left, .int e_signed, .int e_met, .int e_acts, .int e_start0, .int e_start1, .ref e_qkinds, .ref e_qwhats, .ref e_qbefores])), (e_qkinds, .inl (cA 1, 60, .inl e_ckinds)), (e_qwhats, .inl (cA 1, 60, .inl e_cwhats)), (e_qbefores, .inl (cA 1, 60, .inl e_cbefores)), (h1, .inr (2, [.int o_latest, .int o_left, .int o_signed, .int o_met, .int o_acts, .int o_start0, .int o_start1, .ref o_qkinds, .ref o_qwhats, .ref o_qbefores])), (o_qkinds, .inl (cA 1, 60, .inl o_ckinds)), (o_qwhats, .inl (cA 1, 60, .inl o_cwhats)), (o_qbefores, .inl (cA 1, 60, .inl o_cbefores))] s.heap.size = A at hD ⊢
  have hA : ∀ q : Nat, s.heap.size ≤ q → A q := fun q h => by rw [← hAe]; exact Or.inr h
  have hS : va_S A s.heap s.heap [] := va_S.rf
  have hl := lv_entry ([.ref h0, .ref h1]) (n := 2) (Nat.le_of_ble_eq_true rfl)
  rw [lg_entry_eq]
  generalize (lg_sl ([.ref h0, .ref h1]) ++ List.replicate (2 - (lg_sl ([.ref h0, .ref h1])).length) Slot.unset).toArray = ls at hl ⊢
  have hl : lv_has ls 2 [(0, .ref h0), (1, .ref h1)] := hl
  refine lv_aload_n hx hb dX2_copyFrom_0 rfl (lv_at hl 0 rfl) ?_
  refine lv_aload_n hx hb dX2_copyFrom_1 rfl (lv_at hl 1 rfl) ?_
  refine va_get (D := D) (ci := 2) (v := .int o_latest) (C := RX2) (T := TX2) (N := 10) hx hb hts inX2 hown hKN.1 hP 4 rfl rfl 0 (by decide) (hts _ tw_275) (fun _ h9 => h9) rfl dX2_copyFrom_2 ?_
  refine va_put (D := D) (ci := 2) (v := .int o_latest) (ty := .int) (C := RX2) (T := TX2) (N := 10) hx hb hts inX2 tyX2 tyX2_ok nmX2 hown hKN.1 hP hD hS 0 rfl rfl 0 (by decide) (hts _ tw_275) (fun _ h9 => h9) rfl (by decide +kernel) rfl rfl (Nat.le_of_ble_eq_true rfl) dX2_copyFrom_5 (fun H locs hP hD hS => ?_)
  have hP : va_P D vwCl [(h0, .inr (2, [.int o_latest, .int e_left, .int e_signed, .int e_met, .int e_acts, .int e_start0, .int e_start1, .ref e_qkinds, .ref e_qwhats, .ref e_qbefores])), (e_qkinds, .inl (cA 1, 60, .inl e_ckinds)), (e_qwhats, .inl (cA 1, 60, .inl e_cwhats)), (e_qbefores, .inl (cA 1, 60, .inl e_cbefores)), (h1, .inr (2, [.int o_latest, .int o_left, .int o_signed, .int o_met, .int o_acts, .int o_start0, .int o_start1, .ref o_qkinds, .ref o_qwhats, .ref o_qbefores])), (o_qkinds, .inl (cA 1, 60, .inl o_ckinds)), (o_qwhats, .inl (cA 1, 60, .inl o_cwhats)), (o_qbefores, .inl (cA 1, 60, .inl o_cbefores))] H := hP
  have hD : va_D A [(h0, .inr (2, [.int o_latest, .int e_left, .int e_signed, .int e_met, .int e_acts, .int e_start0, .int e_start1, .ref e_qkinds, .ref e_qwhats, .ref e_qbefores])), (e_qkinds, .inl (cA 1, 60, .inl e_ckinds)), (e_qwhats, .inl (cA 1, 60, .inl e_cwhats)), (e_qbefores, .inl (cA 1, 60, .inl e_cbefores)), (h1, .inr (2, [.int o_latest, .int o_left, .int o_signed, .int o_met, .int o_acts, .int o_start0, .int o_start1, .ref o_qkinds, .ref o_qwhats, .ref o_qbefores])), (o_qkinds, .inl (cA 1, 60, .inl o_ckinds)), (o_qwhats, .inl (cA 1, 60, .inl o_cwhats)), (o_qbefores, .inl (cA 1, 60, .inl o_cbefores))] := hD
  refine lv_aload_n hx hb dX2_copyFrom_8 rfl (lv_at hl 0 rfl) ?_
  refine lv_aload_n hx hb dX2_copyFrom_9 rfl (lv_at hl 1 rfl) ?_
  refine va_get (D := D) (ci := 2) (v := .int o_left) (C := RX2) (T := TX2) (N := 10) hx hb hts inX2 hown hKN.1 hP 4 rfl rfl 1 (by decide) (hts _ tw_277) (fun _ h9 => h9) rfl dX2_copyFrom_10 ?_
  refine va_put (D := D) (ci := 2) (v := .int o_left) (ty := .int) (C := RX2) (T := TX2) (N := 10) hx hb hts inX2 tyX2 tyX2_ok nmX2 hown hKN.1 hP hD hS 0 rfl rfl 1 (by decide) (hts _ tw_277) (fun _ h9 => h9) rfl (by decide +kernel) rfl rfl (Nat.le_of_ble_eq_true rfl) dX2_copyFrom_13 (fun H locs hP hD hS => ?_)
  have hP : va_P D vwCl [(h0, .inr (2, [.int o_latest, .int o_left, .int e_signed, .int e_met, .int e_acts, .int e_start0, .int e_start1, .ref e_qkinds, .ref e_qwhats, .ref e_qbefores])), (e_qkinds, .inl (cA 1, 60, .inl e_ckinds)), (e_qwhats, .inl (cA 1, 60, .inl e_cwhats)), (e_qbefores, .inl (cA 1, 60, .inl e_cbefores)), (h1, .inr (2, [.int o_latest, .int o_left, .int o_signed, .int o_met, .int o_acts, .int o_start0, .int o_start1, .ref o_qkinds, .ref o_qwhats, .ref o_qbefores])), (o_qkinds, .inl (cA 1, 60, .inl o_ckinds)), (o_qwhats, .inl (cA 1, 60, .inl o_cwhats)), (o_qbefores, .inl (cA 1, 60, .inl o_cbefores))] H := hP
  have hD : va_D A [(h0, .inr (2, [.int o_latest, .int o_left, .int e_signed, .int e_met, .int e_acts, .int e_start0, .int e_start1, .ref e_qkinds, .ref e_qwhats, .ref e_qbefores])), (e_qkinds, .inl (cA 1, 60, .inl e_ckinds)), (e_qwhats, .inl (cA 1, 60, .inl e_cwhats)), (e_qbefores, .inl (cA 1, 60, .inl e_cbefores)), (h1, .inr (2, [.int o_latest, .int o_left, .int o_signed, .int o_met, .int o_acts, .int o_start0, .int o_start1, .ref o_qkinds, .ref o_qwhats, .ref o_qbefores])), (o_qkinds, .inl (cA 1, 60, .inl o_ckinds)), (o_qwhats, .inl (cA 1, 60, .inl o_cwhats)), (o_qbefores, .inl (cA 1, 60, .inl o_cbefores))] := hD
  refine lv_aload_n hx hb dX2_copyFrom_16 rfl (lv_at hl 0 rfl) ?_
  refine lv_aload_n hx hb dX2_copyFrom_17 rfl (lv_at hl 1 rfl) ?_
  refine va_get (D := D) (ci := 2) (v := .int o_signed) (C := RX2) (T := TX2) (N := 10) hx hb hts inX2 hown hKN.1 hP 4 rfl rfl 2 (by decide) (hts _ tw_279) (fun _ h9 => h9) rfl dX2_copyFrom_18 ?_
  refine va_put (D := D) (ci := 2) (v := .int o_signed) (ty := .int) (C := RX2) (T := TX2) (N := 10) hx hb hts inX2 tyX2 tyX2_ok nmX2 hown hKN.1 hP hD hS 0 rfl rfl 2 (by decide) (hts _ tw_279) (fun _ h9 => h9) rfl (by decide +kernel) rfl rfl (Nat.le_of_ble_eq_true rfl) dX2_copyFrom_21 (fun H locs hP hD hS => ?_)
  have hP : va_P D vwCl [(h0, .inr (2, [.int o_latest, .int o_left, .int o_signed, .int e_met, .int e_acts, .int e_start0, .int e_start1, .ref e_qkinds, .ref e_qwhats, .ref e_qbefores])), (e_qkinds, .inl (cA 1, 60, .inl e_ckinds)), (e_qwhats, .inl (cA 1, 60, .inl e_cwhats)), (e_qbefores, .inl (cA 1, 60, .inl e_cbefores)), (h1, .inr (2, [.int o_latest, .int o_left, .int o_signed, .int o_met, .int o_acts, .int o_start0, .int o_start1, .ref o_qkinds, .ref o_qwhats, .ref o_qbefores])), (o_qkinds, .inl (cA 1, 60, .inl o_ckinds)), (o_qwhats, .inl (cA 1, 60, .inl o_cwhats)), (o_qbefores, .inl (cA 1, 60, .inl o_cbefores))] H := hP
  have hD : va_D A [(h0, .inr (2, [.int o_latest, .int o_left, .int o_signed, .int e_met, .int e_acts, .int e_start0, .int e_start1, .ref e_qkinds, .ref e_qwhats, .ref e_qbefores])), (e_qkinds, .inl (cA 1, 60, .inl e_ckinds)), (e_qwhats, .inl (cA 1, 60, .inl e_cwhats)), (e_qbefores, .inl (cA 1, 60, .inl e_cbefores)), (h1, .inr (2, [.int o_latest, .int o_left, .int o_signed, .int o_met, .int o_acts, .int o_start0, .int o_start1, .ref o_qkinds, .ref o_qwhats, .ref o_qbefores])), (o_qkinds, .inl (cA 1, 60, .inl o_ckinds)), (o_qwhats, .inl (cA 1, 60, .inl o_cwhats)), (o_qbefores, .inl (cA 1, 60, .inl o_cbefores))] := hD
  refine lv_aload_n hx hb dX2_copyFrom_24 rfl (lv_at hl 0 rfl) ?_
  refine lv_aload_n hx hb dX2_copyFrom_25 rfl (lv_at hl 1 rfl) ?_
  refine va_get (D := D) (ci := 2) (v := .int o_met) (C := RX2) (T := TX2) (N := 10) hx hb hts inX2 hown hKN.1 hP 4 rfl rfl 3 (by decide) (hts _ tw_281) (fun _ h9 => h9) rfl dX2_copyFrom_26 ?_
  refine va_put (D := D) (ci := 2) (v := .int o_met) (ty := .int) (C := RX2) (T := TX2) (N := 10) hx hb hts inX2 tyX2 tyX2_ok nmX2 hown hKN.1 hP hD hS 0 rfl rfl 3 (by decide) (hts _ tw_281) (fun _ h9 => h9) rfl (by decide +kernel) rfl rfl (Nat.le_of_ble_eq_true rfl) dX2_copyFrom_29 (fun H locs hP hD hS => ?_)
  have hP : va_P D vwCl [(h0, .inr (2, [.int o_latest, .int o_left, .int o_signed, .int o_met, .int e_acts, .int e_start0, .int e_start1, .ref e_qkinds, .ref e_qwhats, .ref e_qbefores])), (e_qkinds, .inl (cA 1, 60, .inl e_ckinds)), (e_qwhats, .inl (cA 1, 60, .inl e_cwhats)), (e_qbefores, .inl (cA 1, 60, .inl e_cbefores)), (h1, .inr (2, [.int o_latest, .int o_left, .int o_signed, .int o_met, .int o_acts, .int o_start0, .int o_start1, .ref o_qkinds, .ref o_qwhats, .ref o_qbefores])), (o_qkinds, .inl (cA 1, 60, .inl o_ckinds)), (o_qwhats, .inl (cA 1, 60, .inl o_cwhats)), (o_qbefores, .inl (cA 1, 60, .inl o_cbefores))] H := hP
  have hD : va_D A [(h0, .inr (2, [.int o_latest, .int o_left, .int o_signed, .int o_met, .int e_acts, .int e_start0, .int e_start1, .ref e_qkinds, .ref e_qwhats, .ref e_qbefores])), (e_qkinds, .inl (cA 1, 60, .inl e_ckinds)), (e_qwhats, .inl (cA 1, 60, .inl e_cwhats)), (e_qbefores, .inl (cA 1, 60, .inl e_cbefores)), (h1, .inr (2, [.int o_latest, .int o_left, .int o_signed, .int o_met, .int o_acts, .int o_start0, .int o_start1, .ref o_qkinds, .ref o_qwhats, .ref o_qbefores])), (o_qkinds, .inl (cA 1, 60, .inl o_ckinds)), (o_qwhats, .inl (cA 1, 60, .inl o_cwhats)), (o_qbefores, .inl (cA 1, 60, .inl o_cbefores))] := hD
  refine lv_aload_n hx hb dX2_copyFrom_32 rfl (lv_at hl 0 rfl) ?_
  refine lv_aload_n hx hb dX2_copyFrom_33 rfl (lv_at hl 1 rfl) ?_
  refine va_get (D := D) (ci := 2) (v := .int o_acts) (C := RX2) (T := TX2) (N := 10) hx hb hts inX2 hown hKN.1 hP 4 rfl rfl 4 (by decide) (hts _ tw_283) (fun _ h9 => h9) rfl dX2_copyFrom_34 ?_
  refine va_put (D := D) (ci := 2) (v := .int o_acts) (ty := .int) (C := RX2) (T := TX2) (N := 10) hx hb hts inX2 tyX2 tyX2_ok nmX2 hown hKN.1 hP hD hS 0 rfl rfl 4 (by decide) (hts _ tw_283) (fun _ h9 => h9) rfl (by decide +kernel) rfl rfl (Nat.le_of_ble_eq_true rfl) dX2_copyFrom_37 (fun H locs hP hD hS => ?_)
  have hP : va_P D vwCl [(h0, .inr (2, [.int o_latest, .int o_left, .int o_signed, .int o_met, .int o_acts, .int e_start0, .int e_start1, .ref e_qkinds, .ref e_qwhats, .ref e_qbefores])), (e_qkinds, .inl (cA 1, 60, .inl e_ckinds)), (e_qwhats, .inl (cA 1, 60, .inl e_cwhats)), (e_qbefores, .inl (cA 1, 60, .inl e_cbefores)), (h1, .inr (2, [.int o_latest, .int o_left, .int o_signed, .int o_met, .int o_acts, .int o_start0, .int o_start1, .ref o_qkinds, .ref o_qwhats, .ref o_qbefores])), (o_qkinds, .inl (cA 1, 60, .inl o_ckinds)), (o_qwhats, .inl (cA 1, 60, .inl o_cwhats)), (o_qbefores, .inl (cA 1, 60, .inl o_cbefores))] H := hP
  have hD : va_D A [(h0, .inr (2, [.int o_latest, .int o_left, .int o_signed, .int o_met, .int o_acts, .int e_start0, .int e_start1, .ref e_qkinds, .ref e_qwhats, .ref e_qbefores])), (e_qkinds, .inl (cA 1, 60, .inl e_ckinds)), (e_qwhats, .inl (cA 1, 60, .inl e_cwhats)), (e_qbefores, .inl (cA 1, 60, .inl e_cbefores)), (h1, .inr (2, [.int o_latest, .int o_left, .int o_signed, .int o_met, .int o_acts, .int o_start0, .int o_start1, .ref o_qkinds, .ref o_qwhats, .ref o_qbefores])), (o_qkinds, .inl (cA 1, 60, .inl o_ckinds)), (o_qwhats, .inl (cA 1, 60, .inl o_cwhats)), (o_qbefores, .inl (cA 1, 60, .inl o_cbefores))] := hD
  refine lv_aload_n hx hb dX2_copyFrom_40 rfl (lv_at hl 0 rfl) ?_
  refine lv_aload_n hx hb dX2_copyFrom_41 rfl (lv_at hl 1 rfl) ?_
  refine va_get (D := D) (ci := 2) (v := .int o_start0) (C := RX2) (T := TX2) (N := 10) hx hb hts inX2 hown hKN.1 hP 4 rfl rfl 5 (by decide) (hts _ tw_285) (fun _ h9 => h9) rfl dX2_copyFrom_42 ?_
  refine va_put (D := D) (ci := 2) (v := .int o_start0) (ty := .int) (C := RX2) (T := TX2) (N := 10) hx hb hts inX2 tyX2 tyX2_ok nmX2 hown hKN.1 hP hD hS 0 rfl rfl 5 (by decide) (hts _ tw_285) (fun _ h9 => h9) rfl (by decide +kernel) rfl rfl (Nat.le_of_ble_eq_true rfl) dX2_copyFrom_45 (fun H locs hP hD hS => ?_)
  have hP : va_P D vwCl [(h0, .inr (2, [.int o_latest, .int o_left, .int o_signed, .int o_met, .int o_acts, .int o_start0, .int e_start1, .ref e_qkinds, .ref e_qwhats, .ref e_qbefores])), (e_qkinds, .inl (cA 1, 60, .inl e_ckinds)), (e_qwhats, .inl (cA 1, 60, .inl e_cwhats)), (e_qbefores, .inl (cA 1, 60, .inl e_cbefores)), (h1, .inr (2, [.int o_latest, .int o_left, .int o_signed, .int o_met, .int o_acts, .int o_start0, .int o_start1, .ref o_qkinds, .ref o_qwhats, .ref o_qbefores])), (o_qkinds, .inl (cA 1, 60, .inl o_ckinds)), (o_qwhats, .inl (cA 1, 60, .inl o_cwhats)), (o_qbefores, .inl (cA 1, 60, .inl o_cbefores))] H := hP
  have hD : va_D A [(h0, .inr (2, [.int o_latest, .int o_left, .int o_signed, .int o_met, .int o_acts, .int o_start0, .int e_start1, .ref e_qkinds, .ref e_qwhats, .ref e_qbefores])), (e_qkinds, .inl (cA 1, 60, .inl e_ckinds)), (e_qwhats, .inl (cA 1, 60, .inl e_cwhats)), (e_qbefores, .inl (cA 1, 60, .inl e_cbefores)), (h1, .inr (2, [.int o_latest, .int o_left, .int o_signed, .int o_met, .int o_acts, .int o_start0, .int o_start1, .ref o_qkinds, .ref o_qwhats, .ref o_qbefores])), (o_qkinds, .inl (cA 1, 60, .inl o_ckinds)), (o_qwhats, .inl (cA 1, 60, .inl o_cwhats)), (o_qbefores, .inl (cA 1, 60, .inl o_cbefores))] := hD
  refine lv_aload_n hx hb dX2_copyFrom_48 rfl (lv_at hl 0 rfl) ?_
  refine lv_aload_n hx hb dX2_copyFrom_49 rfl (lv_at hl 1 rfl) ?_
  refine va_get (D := D) (ci := 2) (v := .int o_start1) (C := RX2) (T := TX2) (N := 10) hx hb hts inX2 hown hKN.1 hP 4 rfl rfl 6 (by decide) (hts _ tw_286) (fun _ h9 => h9) rfl dX2_copyFrom_50 ?_
  refine va_put (D := D) (ci := 2) (v := .int o_start1) (ty := .int) (C := RX2) (T := TX2) (N := 10) hx hb hts inX2 tyX2 tyX2_ok nmX2 hown hKN.1 hP hD hS 0 rfl rfl 6 (by decide) (hts _ tw_286) (fun _ h9 => h9) rfl (by decide +kernel) rfl rfl (Nat.le_of_ble_eq_true rfl) dX2_copyFrom_53 (fun H locs hP hD hS => ?_)
  have hP : va_P D vwCl [(h0, .inr (2, [.int o_latest, .int o_left, .int o_signed, .int o_met, .int o_acts, .int o_start0, .int o_start1, .ref e_qkinds, .ref e_qwhats, .ref e_qbefores])), (e_qkinds, .inl (cA 1, 60, .inl e_ckinds)), (e_qwhats, .inl (cA 1, 60, .inl e_cwhats)), (e_qbefores, .inl (cA 1, 60, .inl e_cbefores)), (h1, .inr (2, [.int o_latest, .int o_left, .int o_signed, .int o_met, .int o_acts, .int o_start0, .int o_start1, .ref o_qkinds, .ref o_qwhats, .ref o_qbefores])), (o_qkinds, .inl (cA 1, 60, .inl o_ckinds)), (o_qwhats, .inl (cA 1, 60, .inl o_cwhats)), (o_qbefores, .inl (cA 1, 60, .inl o_cbefores))] H := hP
  have hD : va_D A [(h0, .inr (2, [.int o_latest, .int o_left, .int o_signed, .int o_met, .int o_acts, .int o_start0, .int o_start1, .ref e_qkinds, .ref e_qwhats, .ref e_qbefores])), (e_qkinds, .inl (cA 1, 60, .inl e_ckinds)), (e_qwhats, .inl (cA 1, 60, .inl e_cwhats)), (e_qbefores, .inl (cA 1, 60, .inl e_cbefores)), (h1, .inr (2, [.int o_latest, .int o_left, .int o_signed, .int o_met, .int o_acts, .int o_start0, .int o_start1, .ref o_qkinds, .ref o_qwhats, .ref o_qbefores])), (o_qkinds, .inl (cA 1, 60, .inl o_ckinds)), (o_qwhats, .inl (cA 1, 60, .inl o_cwhats)), (o_qbefores, .inl (cA 1, 60, .inl o_cbefores))] := hD
  refine lv_aload_n hx hb dX2_copyFrom_56 rfl (lv_at hl 1 rfl) ?_
  refine va_get (D := D) (ci := 2) (v := .ref o_qkinds) (C := RX2) (T := TX2) (N := 10) hx hb hts inX2 hown hKN.1 hP 4 rfl rfl 7 (by decide) (hts _ tw_287) (fun _ h9 => h9) rfl dX2_copyFrom_57 ?_
  refine lv_iconst (v := 0) hx hb dX2_copyFrom_60 (by decide) ?_
  refine lv_aload_n hx hb dX2_copyFrom_61 rfl (lv_at hl 0 rfl) ?_
  refine va_get (D := D) (ci := 2) (v := .ref e_qkinds) (C := RX2) (T := TX2) (N := 10) hx hb hts inX2 hown hKN.1 hP 0 rfl rfl 7 (by decide) (hts _ tw_287) (fun _ h9 => h9) rfl dX2_copyFrom_62 ?_
  refine lv_iconst (v := 0) hx hb dX2_copyFrom_65 (by decide) ?_
  refine lv_bipush (v := 60) hx hb dX2_copyFrom_66 (by decide) ?_
  refine va_copyi hx hb (by rw [hml]; exact hl.1.symm) hown (hts _ tw_1376) (hts _ tw_685) (hts _ tw_684) (hts _ tw_120) hKN.1 hP hD hS 5 1 1 1 rfl rfl rfl rfl rfl (by decide) (by decide) (by decide) (by decide) (by decide) (fun _ _ => rfl) (Nat.le_of_ble_eq_true rfl) (Nat.le_of_ble_eq_true rfl) dX2_copyFrom_68 (fun H locs hP hD hS => ?_)
  have hP : va_P D vwCl [(h0, .inr (2, [.int o_latest, .int o_left, .int o_signed, .int o_met, .int o_acts, .int o_start0, .int o_start1, .ref e_qkinds, .ref e_qwhats, .ref e_qbefores])), (e_qkinds, .inl (cA 1, 60, .inl (va_cpy o_ckinds e_ckinds 0 0 60))), (e_qwhats, .inl (cA 1, 60, .inl e_cwhats)), (e_qbefores, .inl (cA 1, 60, .inl e_cbefores)), (h1, .inr (2, [.int o_latest, .int o_left, .int o_signed, .int o_met, .int o_acts, .int o_start0, .int o_start1, .ref o_qkinds, .ref o_qwhats, .ref o_qbefores])), (o_qkinds, .inl (cA 1, 60, .inl o_ckinds)), (o_qwhats, .inl (cA 1, 60, .inl o_cwhats)), (o_qbefores, .inl (cA 1, 60, .inl o_cbefores))] H := hP
  have hD : va_D A [(h0, .inr (2, [.int o_latest, .int o_left, .int o_signed, .int o_met, .int o_acts, .int o_start0, .int o_start1, .ref e_qkinds, .ref e_qwhats, .ref e_qbefores])), (e_qkinds, .inl (cA 1, 60, .inl (va_cpy o_ckinds e_ckinds 0 0 60))), (e_qwhats, .inl (cA 1, 60, .inl e_cwhats)), (e_qbefores, .inl (cA 1, 60, .inl e_cbefores)), (h1, .inr (2, [.int o_latest, .int o_left, .int o_signed, .int o_met, .int o_acts, .int o_start0, .int o_start1, .ref o_qkinds, .ref o_qwhats, .ref o_qbefores])), (o_qkinds, .inl (cA 1, 60, .inl o_ckinds)), (o_qwhats, .inl (cA 1, 60, .inl o_cwhats)), (o_qbefores, .inl (cA 1, 60, .inl o_cbefores))] := hD
  generalize ef_1 : (va_cpy o_ckinds e_ckinds 0 0 60) = f_1 at hP hD
  refine lv_aload_n hx hb dX2_copyFrom_71 rfl (lv_at hl 1 rfl) ?_
  refine va_get (D := D) (ci := 2) (v := .ref o_qwhats) (C := RX2) (T := TX2) (N := 10) hx hb hts inX2 hown hKN.1 hP 4 rfl rfl 8 (by decide) (hts _ tw_288) (fun _ h9 => h9) rfl dX2_copyFrom_72 ?_
  refine lv_iconst (v := 0) hx hb dX2_copyFrom_75 (by decide) ?_
  refine lv_aload_n hx hb dX2_copyFrom_76 rfl (lv_at hl 0 rfl) ?_
  refine va_get (D := D) (ci := 2) (v := .ref e_qwhats) (C := RX2) (T := TX2) (N := 10) hx hb hts inX2 hown hKN.1 hP 0 rfl rfl 8 (by decide) (hts _ tw_288) (fun _ h9 => h9) rfl dX2_copyFrom_77 ?_
  refine lv_iconst (v := 0) hx hb dX2_copyFrom_80 (by decide) ?_
  refine lv_bipush (v := 60) hx hb dX2_copyFrom_81 (by decide) ?_
  refine va_copyi hx hb (by rw [hml]; exact hl.1.symm) hown (hts _ tw_1376) (hts _ tw_685) (hts _ tw_684) (hts _ tw_120) hKN.1 hP hD hS 6 2 1 1 rfl rfl rfl rfl rfl (by decide) (by decide) (by decide) (by decide) (by decide) (fun _ _ => rfl) (Nat.le_of_ble_eq_true rfl) (Nat.le_of_ble_eq_true rfl) dX2_copyFrom_83 (fun H locs hP hD hS => ?_)
  have hP : va_P D vwCl [(h0, .inr (2, [.int o_latest, .int o_left, .int o_signed, .int o_met, .int o_acts, .int o_start0, .int o_start1, .ref e_qkinds, .ref e_qwhats, .ref e_qbefores])), (e_qkinds, .inl (cA 1, 60, .inl f_1)), (e_qwhats, .inl (cA 1, 60, .inl (va_cpy o_cwhats e_cwhats 0 0 60))), (e_qbefores, .inl (cA 1, 60, .inl e_cbefores)), (h1, .inr (2, [.int o_latest, .int o_left, .int o_signed, .int o_met, .int o_acts, .int o_start0, .int o_start1, .ref o_qkinds, .ref o_qwhats, .ref o_qbefores])), (o_qkinds, .inl (cA 1, 60, .inl o_ckinds)), (o_qwhats, .inl (cA 1, 60, .inl o_cwhats)), (o_qbefores, .inl (cA 1, 60, .inl o_cbefores))] H := hP
  have hD : va_D A [(h0, .inr (2, [.int o_latest, .int o_left, .int o_signed, .int o_met, .int o_acts, .int o_start0, .int o_start1, .ref e_qkinds, .ref e_qwhats, .ref e_qbefores])), (e_qkinds, .inl (cA 1, 60, .inl f_1)), (e_qwhats, .inl (cA 1, 60, .inl (va_cpy o_cwhats e_cwhats 0 0 60))), (e_qbefores, .inl (cA 1, 60, .inl e_cbefores)), (h1, .inr (2, [.int o_latest, .int o_left, .int o_signed, .int o_met, .int o_acts, .int o_start0, .int o_start1, .ref o_qkinds, .ref o_qwhats, .ref o_qbefores])), (o_qkinds, .inl (cA 1, 60, .inl o_ckinds)), (o_qwhats, .inl (cA 1, 60, .inl o_cwhats)), (o_qbefores, .inl (cA 1, 60, .inl o_cbefores))] := hD
  generalize ef_2 : (va_cpy o_cwhats e_cwhats 0 0 60) = f_2 at hP hD
  refine lv_aload_n hx hb dX2_copyFrom_86 rfl (lv_at hl 1 rfl) ?_
  refine va_get (D := D) (ci := 2) (v := .ref o_qbefores) (C := RX2) (T := TX2) (N := 10) hx hb hts inX2 hown hKN.1 hP 4 rfl rfl 9 (by decide) (hts _ tw_289) (fun _ h9 => h9) rfl dX2_copyFrom_87 ?_
  refine lv_iconst (v := 0) hx hb dX2_copyFrom_90 (by decide) ?_
  refine lv_aload_n hx hb dX2_copyFrom_91 rfl (lv_at hl 0 rfl) ?_
  refine va_get (D := D) (ci := 2) (v := .ref e_qbefores) (C := RX2) (T := TX2) (N := 10) hx hb hts inX2 hown hKN.1 hP 0 rfl rfl 9 (by decide) (hts _ tw_289) (fun _ h9 => h9) rfl dX2_copyFrom_92 ?_
  refine lv_iconst (v := 0) hx hb dX2_copyFrom_95 (by decide) ?_
  refine lv_bipush (v := 60) hx hb dX2_copyFrom_96 (by decide) ?_
  refine va_copyi hx hb (by rw [hml]; exact hl.1.symm) hown (hts _ tw_1376) (hts _ tw_685) (hts _ tw_684) (hts _ tw_120) hKN.1 hP hD hS 7 3 1 1 rfl rfl rfl rfl rfl (by decide) (by decide) (by decide) (by decide) (by decide) (fun _ _ => rfl) (Nat.le_of_ble_eq_true rfl) (Nat.le_of_ble_eq_true rfl) dX2_copyFrom_98 (fun H locs hP hD hS => ?_)
  have hP : va_P D vwCl [(h0, .inr (2, [.int o_latest, .int o_left, .int o_signed, .int o_met, .int o_acts, .int o_start0, .int o_start1, .ref e_qkinds, .ref e_qwhats, .ref e_qbefores])), (e_qkinds, .inl (cA 1, 60, .inl f_1)), (e_qwhats, .inl (cA 1, 60, .inl f_2)), (e_qbefores, .inl (cA 1, 60, .inl (va_cpy o_cbefores e_cbefores 0 0 60))), (h1, .inr (2, [.int o_latest, .int o_left, .int o_signed, .int o_met, .int o_acts, .int o_start0, .int o_start1, .ref o_qkinds, .ref o_qwhats, .ref o_qbefores])), (o_qkinds, .inl (cA 1, 60, .inl o_ckinds)), (o_qwhats, .inl (cA 1, 60, .inl o_cwhats)), (o_qbefores, .inl (cA 1, 60, .inl o_cbefores))] H := hP
  have hD : va_D A [(h0, .inr (2, [.int o_latest, .int o_left, .int o_signed, .int o_met, .int o_acts, .int o_start0, .int o_start1, .ref e_qkinds, .ref e_qwhats, .ref e_qbefores])), (e_qkinds, .inl (cA 1, 60, .inl f_1)), (e_qwhats, .inl (cA 1, 60, .inl f_2)), (e_qbefores, .inl (cA 1, 60, .inl (va_cpy o_cbefores e_cbefores 0 0 60))), (h1, .inr (2, [.int o_latest, .int o_left, .int o_signed, .int o_met, .int o_acts, .int o_start0, .int o_start1, .ref o_qkinds, .ref o_qwhats, .ref o_qbefores])), (o_qkinds, .inl (cA 1, 60, .inl o_ckinds)), (o_qwhats, .inl (cA 1, 60, .inl o_cwhats)), (o_qbefores, .inl (cA 1, 60, .inl o_cbefores))] := hD
  generalize ef_3 : (va_cpy o_cbefores e_cbefores 0 0 60) = f_3 at hP hD
  have hP9 := hP.sub (ws' := [(h0, .inr (2, [.int o_latest, .int o_left, .int o_signed, .int o_met, .int o_acts, .int o_start0, .int o_start1, .ref e_qkinds, .ref e_qwhats, .ref e_qbefores])), (e_qkinds, .inl (cA 1, 60, .inl f_1)), (e_qwhats, .inl (cA 1, 60, .inl f_2)), (e_qbefores, .inl (cA 1, 60, .inl f_3)), (h1, .inr (2, [.int o_latest, .int o_left, .int o_signed, .int o_met, .int o_acts, .int o_start0, .int o_start1, .ref o_qkinds, .ref o_qwhats, .ref o_qbefores])), (o_qkinds, .inl (cA 1, 60, .inl o_ckinds)), (o_qwhats, .inl (cA 1, 60, .inl o_cwhats)), (o_qbefores, .inl (cA 1, 60, .inl o_cbefores))]) [0, 1, 2, 3, 4, 5, 6, 7] rfl
  have hD9 := hD.sub (ws' := [(h0, .inr (2, [.int o_latest, .int o_left, .int o_signed, .int o_met, .int o_acts, .int o_start0, .int o_start1, .ref e_qkinds, .ref e_qwhats, .ref e_qbefores])), (e_qkinds, .inl (cA 1, 60, .inl f_1)), (e_qwhats, .inl (cA 1, 60, .inl f_2)), (e_qbefores, .inl (cA 1, 60, .inl f_3)), (h1, .inr (2, [.int o_latest, .int o_left, .int o_signed, .int o_met, .int o_acts, .int o_start0, .int o_start1, .ref o_qkinds, .ref o_qwhats, .ref o_qbefores])), (o_qkinds, .inl (cA 1, 60, .inl o_ckinds)), (o_qwhats, .inl (cA 1, 60, .inl o_cwhats)), (o_qbefores, .inl (cA 1, 60, .inl o_cbefores))]) [0, 1, 2, 3, 4, 5, 6, 7] (by decide) rfl
  exact W.vret hx hb hr (fun t ht hW => ⟨⟨((fun _ => 0), (fun _ => 0), (selF [f_1, f_2, f_3]), (fun _ _ => 0)), rfl, trivial, by rw [ht]; exact hP9, hD9⟩, hS.F ht⟩) hS.2.2 dX2_copyFrom_101
set_option maxHeartbeats 8000000 in
set_option maxRecDepth 100000 in
theorem g_X2_startOf (l : Launch) (D : va_G) (cA : Nat → ClassId) (h0 : Nat) (e_latest : Int32) (e_left : Int32) (e_signed : Int32) (e_met : Int32) (e_acts : Int32) (e_start0 : Int32) (e_start1 : Int32) (e_qkinds : Nat) (e_qwhats : Nat) (e_qbefores : Nat) (p0 : Int32) (h_e_acts : 0 ≤ (e_acts : Int32).toInt ∧ (e_acts : Int32).toInt ≤ 60) : Met l yX2_startOf (Cond.code yX2_startOf cX2_startOf 2 (some .int) :: TB) (rmd 0 0 0) (PP D cA [(h0, .inr (2, [.int e_latest, .int e_left, .int e_signed, .int e_met, .int e_acts, .int e_start0, .int e_start1, .ref e_qkinds, .ref e_qwhats, .ref e_qbefores]))] [.ref h0, .int p0]) (vp_Si (fun r => True)) 0 0 (fun _ => False) := by
  refine Met.ofW (cc := cX2_startOf) (maxL := 2) (ret := (some .int)) (by decide) rfl ?_
  intro p e s m args below meth c s₁ B hml hv
  obtain ⟨rfl, hP, hKN⟩ := hv
  have hx := B.exec
  have hb := B.bytes
  have hr := B.returns
  have hts : ∀ w ∈ TB, w.before _ s = true := fun w h => atoms_spec B.pre w (List.mem_cons_of_mem _ h)
  have hown : s.vm.findClass RX2 = some m.cls := findClass_of_methodNamed B.named
  have hlocks := B.notSynchronized
  have hl := lv_entry ([.ref h0, .int p0]) (n := 2) (Nat.le_of_ble_eq_true rfl)
  rw [lg_entry_eq]
  generalize (lg_sl ([.ref h0, .int p0]) ++ List.replicate (2 - (lg_sl ([.ref h0, .int p0])).length) Slot.unset).toArray = ls at hl ⊢
  have hl : lv_has ls 2 [(0, .ref h0), (1, .int p0)] := hl
  refine lv_iload_n hx hb dX2_startOf_0 rfl (lv_at hl 1 rfl) ?_
  refine lv_if_ne (tgt := 11) hx hb dX2_startOf_1 (by decide) (fun c_1 => ?_) (fun c_1 => ?_)
  · skip
    have b_3 := i32_bd p0
    have k_2 := kk_ne rfl zi_0 c_1
    refine lv_aload_n hx hb dX2_startOf_11 rfl (lv_at hl 0 rfl) ?_
    refine va_get (D := D) (ci := 2) (v := .int e_start1) (C := RX2) (T := TX2) (N := 10) hx hb hts inX2 hown hKN.1 hP 0 rfl rfl 6 (by decide) (hts _ tw_286) (fun _ h9 => h9) rfl dX2_startOf_12 ?_
    exact W.iret (v := e_start1) hx hb hr (fun t ht hW => ⟨e_start1, rfl, trivial, ht⟩) (fun _ h => by cases h) dX2_startOf_15
  · skip
    have b_5 := i32_bd p0
    have k_4 := kk_eq rfl zi_0 c_1
    refine lv_aload_n hx hb dX2_startOf_4 rfl (lv_at hl 0 rfl) ?_
    refine va_get (D := D) (ci := 2) (v := .int e_start0) (C := RX2) (T := TX2) (N := 10) hx hb hts inX2 hown hKN.1 hP 0 rfl rfl 5 (by decide) (hts _ tw_285) (fun _ h9 => h9) rfl dX2_startOf_5 ?_
    refine lv_goto (tgt := 15) hx hb dX2_startOf_8 (by decide) ?_
    exact W.iret (v := e_start0) hx hb hr (fun t ht hW => ⟨e_start0, rfl, trivial, ht⟩) (fun _ h => by cases h) dX2_startOf_15
set_option maxHeartbeats 8000000 in
set_option maxRecDepth 100000 in
theorem g_X2_isHolding (l : Launch) (D : va_G) (cA : Nat → ClassId) (h0 : Nat) (e_latest : Int32) (e_left : Int32) (e_signed : Int32) (e_met : Int32) (e_acts : Int32) (e_start0 : Int32) (e_start1 : Int32) (e_qkinds : Nat) (e_qwhats : Nat) (e_qbefores : Nat) (h_e_acts : 0 ≤ (e_acts : Int32).toInt ∧ (e_acts : Int32).toInt ≤ 60) : Met l yX2_isHolding (Cond.code yX2_isHolding cX2_isHolding 1 (some .boolean) :: TB) (rmd 0 0 0) (PP D cA [(h0, .inr (2, [.int e_latest, .int e_left, .int e_signed, .int e_met, .int e_acts, .int e_start0, .int e_start1, .ref e_qkinds, .ref e_qwhats, .ref e_qbefores]))] [.ref h0]) (vp_Si (fun r => 0 ≤ r.toInt ∧ r.toInt ≤ 1)) 0 0 (fun _ => False) := by
  refine Met.ofW (cc := cX2_isHolding) (maxL := 1) (ret := (some .boolean)) (by decide) rfl ?_
  intro p e s m args below meth c s₁ B hml hv
  obtain ⟨rfl, hP, hKN⟩ := hv
  have hx := B.exec
  have hb := B.bytes
  have hr := B.returns
  have hts : ∀ w ∈ TB, w.before _ s = true := fun w h => atoms_spec B.pre w (List.mem_cons_of_mem _ h)
  have hown : s.vm.findClass RX2 = some m.cls := findClass_of_methodNamed B.named
  have hlocks := B.notSynchronized
  have hl := lv_entry ([.ref h0]) (n := 1) (Nat.le_of_ble_eq_true rfl)
  rw [lg_entry_eq]
  generalize (lg_sl ([.ref h0]) ++ List.replicate (1 - (lg_sl ([.ref h0])).length) Slot.unset).toArray = ls at hl ⊢
  have hl : lv_has ls 1 [(0, .ref h0)] := hl
  refine lv_aload_n hx hb dX2_isHolding_0 rfl (lv_at hl 0 rfl) ?_
  refine va_get (D := D) (ci := 2) (v := .int e_left) (C := RX2) (T := TX2) (N := 10) hx hb hts inX2 hown hKN.1 hP 0 rfl rfl 1 (by decide) (hts _ tw_277) (fun _ h9 => h9) rfl dX2_isHolding_1 ?_
  refine lv_iconst (v := (-1)) hx hb dX2_isHolding_4 (by decide) ?_
  refine lv_icmp_eq (tgt := 12) hx hb dX2_isHolding_5 (by decide) (fun c_1 => ?_) (fun c_1 => ?_)
  · skip
    have b_3 := i32_bd e_left
    have k_2 := kk_eq rfl zi_m1 c_1
    refine lv_iconst (v := 0) hx hb dX2_isHolding_12 (by decide) ?_
    exact W.zret (v := 0) hx hb hr (by decide) (fun t ht hW => ⟨0, rfl, (show 0 ≤ (0 : Int32).toInt ∧ (0 : Int32).toInt ≤ 1 from by decide), ht⟩) (fun _ h => by cases h) dX2_isHolding_13
  · skip
    have b_5 := i32_bd e_left
    have k_4 := kk_ne rfl zi_m1 c_1
    refine lv_iconst (v := 1) hx hb dX2_isHolding_8 (by decide) ?_
    refine lv_goto (tgt := 13) hx hb dX2_isHolding_9 (by decide) ?_
    exact W.zret (v := 1) hx hb hr (by decide) (fun t ht hW => ⟨1, rfl, (show 0 ≤ (1 : Int32).toInt ∧ (1 : Int32).toInt ≤ 1 from by decide), ht⟩) (fun _ h => by cases h) dX2_isHolding_13
set_option maxHeartbeats 8000000 in
set_option maxRecDepth 100000 in
theorem g_X2_isOver (l : Launch) (D : va_G) (cA : Nat → ClassId) (h0 : Nat) (e_latest : Int32) (e_left : Int32) (e_signed : Int32) (e_met : Int32) (e_acts : Int32) (e_start0 : Int32) (e_start1 : Int32) (e_qkinds : Nat) (e_qwhats : Nat) (e_qbefores : Nat) (h_e_acts : 0 ≤ (e_acts : Int32).toInt ∧ (e_acts : Int32).toInt ≤ 60) : Met l yX2_isOver (Cond.code yX2_isOver cX2_isOver 1 (some .boolean) :: TB) (rmd 0 0 0) (PP D cA [(h0, .inr (2, [.int e_latest, .int e_left, .int e_signed, .int e_met, .int e_acts, .int e_start0, .int e_start1, .ref e_qkinds, .ref e_qwhats, .ref e_qbefores]))] [.ref h0]) (vp_Si (fun r => 0 ≤ r.toInt ∧ r.toInt ≤ 1)) 0 0 (fun _ => False) := by
  refine Met.ofW (cc := cX2_isOver) (maxL := 1) (ret := (some .boolean)) (by decide) rfl ?_
  intro p e s m args below meth c s₁ B hml hv
  obtain ⟨rfl, hP, hKN⟩ := hv
  have hx := B.exec
  have hb := B.bytes
  have hr := B.returns
  have hts : ∀ w ∈ TB, w.before _ s = true := fun w h => atoms_spec B.pre w (List.mem_cons_of_mem _ h)
  have hown : s.vm.findClass RX2 = some m.cls := findClass_of_methodNamed B.named
  have hlocks := B.notSynchronized
  have hl := lv_entry ([.ref h0]) (n := 1) (Nat.le_of_ble_eq_true rfl)
  rw [lg_entry_eq]
  generalize (lg_sl ([.ref h0]) ++ List.replicate (1 - (lg_sl ([.ref h0])).length) Slot.unset).toArray = ls at hl ⊢
  have hl : lv_has ls 1 [(0, .ref h0)] := hl
  refine lv_aload_n hx hb dX2_isOver_0 rfl (lv_at hl 0 rfl) ?_
  refine va_get (D := D) (ci := 2) (v := .int e_acts) (C := RX2) (T := TX2) (N := 10) hx hb hts inX2 hown hKN.1 hP 0 rfl rfl 4 (by decide) (hts _ tw_283) (fun _ h9 => h9) rfl dX2_isOver_1 ?_
  refine lv_bipush (v := 60) hx hb dX2_isOver_4 (by decide) ?_
  refine lv_icmp_lt (tgt := 13) hx hb dX2_isOver_6 (by decide) (fun c_1 => ?_) (fun c_1 => ?_)
  · skip
    have k_2 := kk_lt rfl zi_60 c_1
    refine lv_iconst (v := 0) hx hb dX2_isOver_13 (by decide) ?_
    exact W.zret (v := 0) hx hb hr (by decide) (fun t ht hW => ⟨0, rfl, (show 0 ≤ (0 : Int32).toInt ∧ (0 : Int32).toInt ≤ 1 from by decide), ht⟩) (fun _ h => by cases h) dX2_isOver_14
  · skip
    have k_3 := kk_nlt rfl zi_60 c_1
    refine lv_iconst (v := 1) hx hb dX2_isOver_9 (by decide) ?_
    refine lv_goto (tgt := 14) hx hb dX2_isOver_10 (by decide) ?_
    exact W.zret (v := 1) hx hb hr (by decide) (fun t ht hW => ⟨1, rfl, (show 0 ≤ (1 : Int32).toInt ∧ (1 : Int32).toInt ≤ 1 from by decide), ht⟩) (fun _ h => by cases h) dX2_isOver_14
set_option maxHeartbeats 8000000 in
set_option maxRecDepth 100000 in
theorem g_X2_hasSigned (l : Launch) (D : va_G) (cA : Nat → ClassId) (h0 : Nat) (e_latest : Int32) (e_left : Int32) (e_signed : Int32) (e_met : Int32) (e_acts : Int32) (e_start0 : Int32) (e_start1 : Int32) (e_qkinds : Nat) (e_qwhats : Nat) (e_qbefores : Nat) (p0 : Int32) (h_e_acts : 0 ≤ (e_acts : Int32).toInt ∧ (e_acts : Int32).toInt ≤ 60) : Met l yX2_hasSigned (Cond.code yX2_hasSigned cX2_hasSigned 2 (some .boolean) :: TB) (rmd 0 0 0) (PP D cA [(h0, .inr (2, [.int e_latest, .int e_left, .int e_signed, .int e_met, .int e_acts, .int e_start0, .int e_start1, .ref e_qkinds, .ref e_qwhats, .ref e_qbefores]))] [.ref h0, .int p0]) (vp_Si (fun r => 0 ≤ r.toInt ∧ r.toInt ≤ 1)) 0 0 (fun _ => False) := by
  refine Met.ofW (cc := cX2_hasSigned) (maxL := 2) (ret := (some .boolean)) (by decide) rfl ?_
  intro p e s m args below meth c s₁ B hml hv
  obtain ⟨rfl, hP, hKN⟩ := hv
  have hx := B.exec
  have hb := B.bytes
  have hr := B.returns
  have hts : ∀ w ∈ TB, w.before _ s = true := fun w h => atoms_spec B.pre w (List.mem_cons_of_mem _ h)
  have hown : s.vm.findClass RX2 = some m.cls := findClass_of_methodNamed B.named
  have hlocks := B.notSynchronized
  have hl := lv_entry ([.ref h0, .int p0]) (n := 2) (Nat.le_of_ble_eq_true rfl)
  rw [lg_entry_eq]
  generalize (lg_sl ([.ref h0, .int p0]) ++ List.replicate (2 - (lg_sl ([.ref h0, .int p0])).length) Slot.unset).toArray = ls at hl ⊢
  have hl : lv_has ls 2 [(0, .ref h0), (1, .int p0)] := hl
  refine lv_aload_n hx hb dX2_hasSigned_0 rfl (lv_at hl 0 rfl) ?_
  refine va_get (D := D) (ci := 2) (v := .int e_signed) (C := RX2) (T := TX2) (N := 10) hx hb hts inX2 hown hKN.1 hP 0 rfl rfl 2 (by decide) (hts _ tw_279) (fun _ h9 => h9) rfl dX2_hasSigned_1 ?_
  refine lv_iload_n hx hb dX2_hasSigned_4 rfl (lv_at hl 1 rfl) ?_
  refine lv_ishr hx hb dX2_hasSigned_5 ?_
  refine lv_topi (fun x_1 ex_1 => ?_)
  refine lv_iconst (v := 1) hx hb dX2_hasSigned_6 (by decide) ?_
  refine lv_iand hx hb dX2_hasSigned_7 ?_
  refine lv_topi (fun x_3 ex_3 => ?_)
  have k_4 := ar_andR zi_1 ex_3 (by omega)
  refine lv_iconst (v := 1) hx hb dX2_hasSigned_8 (by decide) ?_
  refine lv_icmp_ne (tgt := 16) hx hb dX2_hasSigned_9 (by decide) (fun c_5 => ?_) (fun c_5 => ?_)
  · skip
    have k_6 := kk_ne rfl zi_1 c_5
    refine lv_iconst (v := 0) hx hb dX2_hasSigned_16 (by decide) ?_
    exact W.zret (v := 0) hx hb hr (by decide) (fun t ht hW => ⟨0, rfl, (show 0 ≤ (0 : Int32).toInt ∧ (0 : Int32).toInt ≤ 1 from by decide), ht⟩) (fun _ h => by cases h) dX2_hasSigned_17
  · skip
    have k_7 := kk_eq rfl zi_1 c_5
    refine lv_iconst (v := 1) hx hb dX2_hasSigned_12 (by decide) ?_
    refine lv_goto (tgt := 17) hx hb dX2_hasSigned_13 (by decide) ?_
    exact W.zret (v := 1) hx hb hr (by decide) (fun t ht hW => ⟨1, rfl, (show 0 ≤ (1 : Int32).toInt ∧ (1 : Int32).toInt ≤ 1 from by decide), ht⟩) (fun _ h => by cases h) dX2_hasSigned_17
set_option maxHeartbeats 8000000 in
set_option maxRecDepth 100000 in
theorem g_X2_setStart (l : Launch) (D : va_G) (cA : Nat → ClassId) (sz : Nat) (h0 : Nat) (e_latest : Int32) (e_left : Int32) (e_signed : Int32) (e_met : Int32) (e_acts : Int32) (e_start0 : Int32) (e_start1 : Int32) (e_qkinds : Nat) (e_qwhats : Nat) (e_qbefores : Nat) (p0 : Int32) (p1 : Int32) (h_e_acts : 0 ≤ (e_acts : Int32).toInt ∧ (e_acts : Int32).toInt ≤ 60) : Met l yX2_setStart (Cond.code yX2_setStart cX2_setStart 3 none :: TB) (rmd 0 0 0) (PM D cA sz [(h0, .inr (2, [.int e_latest, .int e_left, .int e_signed, .int e_met, .int e_acts, .int e_start0, .int e_start1, .ref e_qkinds, .ref e_qwhats, .ref e_qbefores]))] [.ref h0, .int p0, .int p1]) (va_Qv (fun (u : SU) => True) (fun u t => va_P D vwCl [(h0, .inr (2, [.int e_latest, .int e_left, .int e_signed, .int e_met, .int e_acts, .int (u.2.1 0), .int (u.2.1 1), .ref e_qkinds, .ref e_qwhats, .ref e_qbefores]))] t.heap ∧ va_D (va_A [(h0, .inr (2, [.int e_latest, .int e_left, .int e_signed, .int e_met, .int e_acts, .int e_start0, .int e_start1, .ref e_qkinds, .ref e_qwhats, .ref e_qbefores]))] sz) [(h0, .inr (2, [.int e_latest, .int e_left, .int e_signed, .int e_met, .int e_acts, .int (u.2.1 0), .int (u.2.1 1), .ref e_qkinds, .ref e_qwhats, .ref e_qbefores]))]) (va_A [(h0, .inr (2, [.int e_latest, .int e_left, .int e_signed, .int e_met, .int e_acts, .int e_start0, .int e_start1, .ref e_qkinds, .ref e_qwhats, .ref e_qbefores]))] sz)) 0 0 (va_A [(h0, .inr (2, [.int e_latest, .int e_left, .int e_signed, .int e_met, .int e_acts, .int e_start0, .int e_start1, .ref e_qkinds, .ref e_qwhats, .ref e_qbefores]))] sz) := by
  refine Met.ofW (cc := cX2_setStart) (maxL := 3) (ret := none) (by decide) rfl ?_
  intro p e s m args below meth c s₁ B hml hv
  obtain ⟨rfl, hsz, hP, hKN, hD0⟩ := hv
  have hx := B.exec
  have hb := B.bytes
  have hr := B.returns
  have hts : ∀ w ∈ TB, w.before _ s = true := fun w h => atoms_spec B.pre w (List.mem_cons_of_mem _ h)
  have hown : s.vm.findClass RX2 = some m.cls := findClass_of_methodNamed B.named
  have hlocks := B.notSynchronized
  subst hsz
  have hD := hD0.self (sz := s.heap.size)
  generalize hAe : va_A [(h0, .inr (2, [.int e_latest, .int e_left, .int e_signed, .int e_met, .int e_acts, .int e_start0, .int e_start1, .ref e_qkinds, .ref e_qwhats, .ref e_qbefores]))] s.heap.size = A at hD ⊢
  have hA : ∀ q : Nat, s.heap.size ≤ q → A q := fun q h => by rw [← hAe]; exact Or.inr h
  have hS : va_S A s.heap s.heap [] := va_S.rf
  have hl := lv_entry ([.ref h0, .int p0, .int p1]) (n := 3) (Nat.le_of_ble_eq_true rfl)
  rw [lg_entry_eq]
  generalize (lg_sl ([.ref h0, .int p0, .int p1]) ++ List.replicate (3 - (lg_sl ([.ref h0, .int p0, .int p1])).length) Slot.unset).toArray = ls at hl ⊢
  have hl : lv_has ls 3 [(0, .ref h0), (1, .int p0), (2, .int p1)] := hl
  refine lv_iload_n hx hb dX2_setStart_0 rfl (lv_at hl 1 rfl) ?_
  refine lv_if_ne (tgt := 12) hx hb dX2_setStart_1 (by decide) (fun c_1 => ?_) (fun c_1 => ?_)
  · skip
    have b_3 := i32_bd p0
    have k_2 := kk_ne rfl zi_0 c_1
    refine lv_aload_n hx hb dX2_setStart_12 rfl (lv_at hl 0 rfl) ?_
    refine lv_iload_n hx hb dX2_setStart_13 rfl (lv_at hl 2 rfl) ?_
    refine va_put (D := D) (ci := 2) (v := .int p1) (ty := .int) (C := RX2) (T := TX2) (N := 10) hx hb hts inX2 tyX2 tyX2_ok nmX2 hown hKN.1 hP hD hS 0 rfl rfl 6 (by decide) (hts _ tw_286) (fun _ h9 => h9) rfl (by decide +kernel) rfl rfl (Nat.le_of_ble_eq_true rfl) dX2_setStart_14 (fun H locs hP hD hS => ?_)
    have hP : va_P D vwCl [(h0, .inr (2, [.int e_latest, .int e_left, .int e_signed, .int e_met, .int e_acts, .int e_start0, .int p1, .ref e_qkinds, .ref e_qwhats, .ref e_qbefores]))] H := hP
    have hD : va_D A [(h0, .inr (2, [.int e_latest, .int e_left, .int e_signed, .int e_met, .int e_acts, .int e_start0, .int p1, .ref e_qkinds, .ref e_qwhats, .ref e_qbefores]))] := hD
    have hP9 := hP.sub (ws' := [(h0, .inr (2, [.int e_latest, .int e_left, .int e_signed, .int e_met, .int e_acts, .int e_start0, .int p1, .ref e_qkinds, .ref e_qwhats, .ref e_qbefores]))]) [0] rfl
    have hD9 := hD.sub (ws' := [(h0, .inr (2, [.int e_latest, .int e_left, .int e_signed, .int e_met, .int e_acts, .int e_start0, .int p1, .ref e_qkinds, .ref e_qwhats, .ref e_qbefores]))]) [0] (by decide) rfl
    exact W.vret hx hb hr (fun t ht hW => ⟨⟨((fun _ => 0), (selI [e_start0, p1]), (fun _ _ => 0), (fun _ _ => 0)), rfl, trivial, by rw [ht]; exact hP9, hD9⟩, hS.F ht⟩) hS.2.2 dX2_setStart_17
  · skip
    have b_5 := i32_bd p0
    have k_4 := kk_eq rfl zi_0 c_1
    refine lv_aload_n hx hb dX2_setStart_4 rfl (lv_at hl 0 rfl) ?_
    refine lv_iload_n hx hb dX2_setStart_5 rfl (lv_at hl 2 rfl) ?_
    refine va_put (D := D) (ci := 2) (v := .int p1) (ty := .int) (C := RX2) (T := TX2) (N := 10) hx hb hts inX2 tyX2 tyX2_ok nmX2 hown hKN.1 hP hD hS 0 rfl rfl 5 (by decide) (hts _ tw_285) (fun _ h9 => h9) rfl (by decide +kernel) rfl rfl (Nat.le_of_ble_eq_true rfl) dX2_setStart_6 (fun H locs hP hD hS => ?_)
    have hP : va_P D vwCl [(h0, .inr (2, [.int e_latest, .int e_left, .int e_signed, .int e_met, .int e_acts, .int p1, .int e_start1, .ref e_qkinds, .ref e_qwhats, .ref e_qbefores]))] H := hP
    have hD : va_D A [(h0, .inr (2, [.int e_latest, .int e_left, .int e_signed, .int e_met, .int e_acts, .int p1, .int e_start1, .ref e_qkinds, .ref e_qwhats, .ref e_qbefores]))] := hD
    refine lv_goto (tgt := 17) hx hb dX2_setStart_9 (by decide) ?_
    have hP9 := hP.sub (ws' := [(h0, .inr (2, [.int e_latest, .int e_left, .int e_signed, .int e_met, .int e_acts, .int p1, .int e_start1, .ref e_qkinds, .ref e_qwhats, .ref e_qbefores]))]) [0] rfl
    have hD9 := hD.sub (ws' := [(h0, .inr (2, [.int e_latest, .int e_left, .int e_signed, .int e_met, .int e_acts, .int p1, .int e_start1, .ref e_qkinds, .ref e_qwhats, .ref e_qbefores]))]) [0] (by decide) rfl
    exact W.vret hx hb hr (fun t ht hW => ⟨⟨((fun _ => 0), (selI [p1, e_start1]), (fun _ _ => 0), (fun _ _ => 0)), rfl, trivial, by rw [ht]; exact hP9, hD9⟩, hS.F ht⟩) hS.2.2 dX2_setStart_17
set_option maxHeartbeats 8000000 in
set_option maxRecDepth 100000 in
theorem g_X2_note (l : Launch) (D : va_G) (cA : Nat → ClassId) (sz : Nat) (h0 : Nat) (e_latest : Int32) (e_left : Int32) (e_signed : Int32) (e_met : Int32) (e_acts : Int32) (e_start0 : Int32) (e_start1 : Int32) (e_qkinds : Nat) (e_qwhats : Nat) (e_qbefores : Nat) (e_ckinds : Nat → Int32) (e_cwhats : Nat → Int32) (e_cbefores : Nat → Int32) (p0 : Int32) (p1 : Int32) (p2 : Int32) (h_e_acts : 0 ≤ (e_acts : Int32).toInt ∧ (e_acts : Int32).toInt ≤ 60) : Met l yX2_note (Cond.code yX2_note cX2_note 4 none :: TB) (rmd 0 0 0) (PM D cA sz [(h0, .inr (2, [.int e_latest, .int e_left, .int e_signed, .int e_met, .int e_acts, .int e_start0, .int e_start1, .ref e_qkinds, .ref e_qwhats, .ref e_qbefores])), (e_qkinds, .inl (cA 1, 60, .inl e_ckinds)), (e_qwhats, .inl (cA 1, 60, .inl e_cwhats)), (e_qbefores, .inl (cA 1, 60, .inl e_cbefores))] [.ref h0, .int p0, .int p1, .int p2]) (va_Qv (fun (u : SU) => (1 ≤ (u.2.1 0).toInt ∧ (u.2.1 0).toInt ≤ 60)) (fun u t => va_P D vwCl [(h0, .inr (2, [.int e_latest, .int e_left, .int e_signed, .int e_met, .int (u.2.1 0), .int e_start0, .int e_start1, .ref e_qkinds, .ref e_qwhats, .ref e_qbefores])), (e_qkinds, .inl (cA 1, 60, .inl (u.2.2.1 0))), (e_qwhats, .inl (cA 1, 60, .inl (u.2.2.1 1))), (e_qbefores, .inl (cA 1, 60, .inl (u.2.2.1 2)))] t.heap ∧ va_D (va_A [(h0, .inr (2, [.int e_latest, .int e_left, .int e_signed, .int e_met, .int e_acts, .int e_start0, .int e_start1, .ref e_qkinds, .ref e_qwhats, .ref e_qbefores])), (e_qkinds, .inl (cA 1, 60, .inl e_ckinds)), (e_qwhats, .inl (cA 1, 60, .inl e_cwhats)), (e_qbefores, .inl (cA 1, 60, .inl e_cbefores))] sz) [(h0, .inr (2, [.int e_latest, .int e_left, .int e_signed, .int e_met, .int (u.2.1 0), .int e_start0, .int e_start1, .ref e_qkinds, .ref e_qwhats, .ref e_qbefores])), (e_qkinds, .inl (cA 1, 60, .inl (u.2.2.1 0))), (e_qwhats, .inl (cA 1, 60, .inl (u.2.2.1 1))), (e_qbefores, .inl (cA 1, 60, .inl (u.2.2.1 2)))]) (va_A [(h0, .inr (2, [.int e_latest, .int e_left, .int e_signed, .int e_met, .int e_acts, .int e_start0, .int e_start1, .ref e_qkinds, .ref e_qwhats, .ref e_qbefores])), (e_qkinds, .inl (cA 1, 60, .inl e_ckinds)), (e_qwhats, .inl (cA 1, 60, .inl e_cwhats)), (e_qbefores, .inl (cA 1, 60, .inl e_cbefores))] sz)) 0 0 (va_A [(h0, .inr (2, [.int e_latest, .int e_left, .int e_signed, .int e_met, .int e_acts, .int e_start0, .int e_start1, .ref e_qkinds, .ref e_qwhats, .ref e_qbefores])), (e_qkinds, .inl (cA 1, 60, .inl e_ckinds)), (e_qwhats, .inl (cA 1, 60, .inl e_cwhats)), (e_qbefores, .inl (cA 1, 60, .inl e_cbefores))] sz) := by
  refine Met.ofW (cc := cX2_note) (maxL := 4) (ret := none) (by decide) rfl ?_
  intro p e s m args below meth c s₁ B hml hv
  obtain ⟨rfl, hsz, hP, hKN, hD0⟩ := hv
  have hx := B.exec
  have hb := B.bytes
  have hr := B.returns
  have hts : ∀ w ∈ TB, w.before _ s = true := fun w h => atoms_spec B.pre w (List.mem_cons_of_mem _ h)
  have hown : s.vm.findClass RX2 = some m.cls := findClass_of_methodNamed B.named
  have hlocks := B.notSynchronized
  subst hsz
  have hD := hD0.self (sz := s.heap.size)
  generalize hAe : va_A [(h0, .inr (2, [.int e_latest, .int e_left, .int e_signed, .int e_met, .int e_acts, .int e_start0, .int e_start1, .ref e_qkinds, .ref e_qwhats, .ref e_qbefores])), (e_qkinds, .inl (cA 1, 60, .inl e_ckinds)), (e_qwhats, .inl (cA 1, 60, .inl e_cwhats)), (e_qbefores, .inl (cA 1, 60, .inl e_cbefores))] s.heap.size = A at hD ⊢
  have hA : ∀ q : Nat, s.heap.size ≤ q → A q := fun q h => by rw [← hAe]; exact Or.inr h
  have hS : va_S A s.heap s.heap [] := va_S.rf
  have hl := lv_entry ([.ref h0, .int p0, .int p1, .int p2]) (n := 4) (Nat.le_of_ble_eq_true rfl)
  rw [lg_entry_eq]
  generalize (lg_sl ([.ref h0, .int p0, .int p1, .int p2]) ++ List.replicate (4 - (lg_sl ([.ref h0, .int p0, .int p1, .int p2])).length) Slot.unset).toArray = ls at hl ⊢
  have hl : lv_has ls 4 [(0, .ref h0), (1, .int p0), (2, .int p1), (3, .int p2)] := hl
  refine lv_aload_n hx hb dX2_note_0 rfl (lv_at hl 0 rfl) ?_
  refine va_get (D := D) (ci := 2) (v := .int e_acts) (C := RX2) (T := TX2) (N := 10) hx hb hts inX2 hown hKN.1 hP 0 rfl rfl 4 (by decide) (hts _ tw_283) (fun _ h9 => h9) rfl dX2_note_1 ?_
  refine lv_bipush (v := 60) hx hb dX2_note_4 (by decide) ?_
  refine lv_icmp_ge (tgt := 49) hx hb dX2_note_6 (by decide) (fun c_1 => ?_) (fun c_1 => ?_)
  · skip
    have k_2 := kk_le zi_60 rfl c_1
    have hP9 := hP.sub (ws' := [(h0, .inr (2, [.int e_latest, .int e_left, .int e_signed, .int e_met, .int e_acts, .int e_start0, .int e_start1, .ref e_qkinds, .ref e_qwhats, .ref e_qbefores])), (e_qkinds, .inl (cA 1, 60, .inl e_ckinds)), (e_qwhats, .inl (cA 1, 60, .inl e_cwhats)), (e_qbefores, .inl (cA 1, 60, .inl e_cbefores))]) [0, 1, 2, 3] rfl
    have hD9 := hD.sub (ws' := [(h0, .inr (2, [.int e_latest, .int e_left, .int e_signed, .int e_met, .int e_acts, .int e_start0, .int e_start1, .ref e_qkinds, .ref e_qwhats, .ref e_qbefores])), (e_qkinds, .inl (cA 1, 60, .inl e_ckinds)), (e_qwhats, .inl (cA 1, 60, .inl e_cwhats)), (e_qbefores, .inl (cA 1, 60, .inl e_cbefores))]) [0, 1, 2, 3] (by decide) rfl
    exact W.vret hx hb hr (fun t ht hW => ⟨⟨((fun _ => 0), (selI [e_acts]), (selF [e_ckinds, e_cwhats, e_cbefores]), (fun _ _ => 0)), rfl, (show 1 ≤ e_acts.toInt ∧ e_acts.toInt ≤ 60 from by omega), by rw [ht]; exact hP9, hD9⟩, hS.F ht⟩) hS.2.2 dX2_note_49
  · skip
    have k_3 := kk_nle zi_60 rfl c_1
    refine lv_aload_n hx hb dX2_note_9 rfl (lv_at hl 0 rfl) ?_
    refine va_get (D := D) (ci := 2) (v := .ref e_qkinds) (C := RX2) (T := TX2) (N := 10) hx hb hts inX2 hown hKN.1 hP 0 rfl rfl 7 (by decide) (hts _ tw_287) (fun _ h9 => h9) rfl dX2_note_10 ?_
    refine lv_aload_n hx hb dX2_note_13 rfl (lv_at hl 0 rfl) ?_
    refine va_get (D := D) (ci := 2) (v := .int e_acts) (C := RX2) (T := TX2) (N := 10) hx hb hts inX2 hown hKN.1 hP 0 rfl rfl 4 (by decide) (hts _ tw_283) (fun _ h9 => h9) rfl dX2_note_14 ?_
    refine lv_iload_n hx hb dX2_note_17 rfl (lv_at hl 1 rfl) ?_
    refine va_iast hx hb hKN.1 hP hD hS 1 1 rfl rfl (vp_in_iff.mpr ⟨by omega, by omega⟩) dX2_note_18 (fun H locs hP hD hS => ?_)
    have hP : va_P D vwCl [(h0, .inr (2, [.int e_latest, .int e_left, .int e_signed, .int e_met, .int e_acts, .int e_start0, .int e_start1, .ref e_qkinds, .ref e_qwhats, .ref e_qbefores])), (e_qkinds, .inl (cA 1, 60, .inl (upd e_ckinds e_acts.toNatClampNeg p0))), (e_qwhats, .inl (cA 1, 60, .inl e_cwhats)), (e_qbefores, .inl (cA 1, 60, .inl e_cbefores))] H := hP
    have hD : va_D A [(h0, .inr (2, [.int e_latest, .int e_left, .int e_signed, .int e_met, .int e_acts, .int e_start0, .int e_start1, .ref e_qkinds, .ref e_qwhats, .ref e_qbefores])), (e_qkinds, .inl (cA 1, 60, .inl (upd e_ckinds e_acts.toNatClampNeg p0))), (e_qwhats, .inl (cA 1, 60, .inl e_cwhats)), (e_qbefores, .inl (cA 1, 60, .inl e_cbefores))] := hD
    generalize ef_4 : (upd e_ckinds e_acts.toNatClampNeg p0) = f_4 at hP hD
    refine lv_aload_n hx hb dX2_note_19 rfl (lv_at hl 0 rfl) ?_
    refine va_get (D := D) (ci := 2) (v := .ref e_qwhats) (C := RX2) (T := TX2) (N := 10) hx hb hts inX2 hown hKN.1 hP 0 rfl rfl 8 (by decide) (hts _ tw_288) (fun _ h9 => h9) rfl dX2_note_20 ?_
    refine lv_aload_n hx hb dX2_note_23 rfl (lv_at hl 0 rfl) ?_
    refine va_get (D := D) (ci := 2) (v := .int e_acts) (C := RX2) (T := TX2) (N := 10) hx hb hts inX2 hown hKN.1 hP 0 rfl rfl 4 (by decide) (hts _ tw_283) (fun _ h9 => h9) rfl dX2_note_24 ?_
    refine lv_iload_n hx hb dX2_note_27 rfl (lv_at hl 2 rfl) ?_
    refine va_iast hx hb hKN.1 hP hD hS 2 1 rfl rfl (vp_in_iff.mpr ⟨by omega, by omega⟩) dX2_note_28 (fun H locs hP hD hS => ?_)
    have hP : va_P D vwCl [(h0, .inr (2, [.int e_latest, .int e_left, .int e_signed, .int e_met, .int e_acts, .int e_start0, .int e_start1, .ref e_qkinds, .ref e_qwhats, .ref e_qbefores])), (e_qkinds, .inl (cA 1, 60, .inl f_4)), (e_qwhats, .inl (cA 1, 60, .inl (upd e_cwhats e_acts.toNatClampNeg p1))), (e_qbefores, .inl (cA 1, 60, .inl e_cbefores))] H := hP
    have hD : va_D A [(h0, .inr (2, [.int e_latest, .int e_left, .int e_signed, .int e_met, .int e_acts, .int e_start0, .int e_start1, .ref e_qkinds, .ref e_qwhats, .ref e_qbefores])), (e_qkinds, .inl (cA 1, 60, .inl f_4)), (e_qwhats, .inl (cA 1, 60, .inl (upd e_cwhats e_acts.toNatClampNeg p1))), (e_qbefores, .inl (cA 1, 60, .inl e_cbefores))] := hD
    generalize ef_5 : (upd e_cwhats e_acts.toNatClampNeg p1) = f_5 at hP hD
    refine lv_aload_n hx hb dX2_note_29 rfl (lv_at hl 0 rfl) ?_
    refine va_get (D := D) (ci := 2) (v := .ref e_qbefores) (C := RX2) (T := TX2) (N := 10) hx hb hts inX2 hown hKN.1 hP 0 rfl rfl 9 (by decide) (hts _ tw_289) (fun _ h9 => h9) rfl dX2_note_30 ?_
    refine lv_aload_n hx hb dX2_note_33 rfl (lv_at hl 0 rfl) ?_
    refine va_get (D := D) (ci := 2) (v := .int e_acts) (C := RX2) (T := TX2) (N := 10) hx hb hts inX2 hown hKN.1 hP 0 rfl rfl 4 (by decide) (hts _ tw_283) (fun _ h9 => h9) rfl dX2_note_34 ?_
    refine lv_iload_n hx hb dX2_note_37 rfl (lv_at hl 3 rfl) ?_
    refine va_iast hx hb hKN.1 hP hD hS 3 1 rfl rfl (vp_in_iff.mpr ⟨by omega, by omega⟩) dX2_note_38 (fun H locs hP hD hS => ?_)
    have hP : va_P D vwCl [(h0, .inr (2, [.int e_latest, .int e_left, .int e_signed, .int e_met, .int e_acts, .int e_start0, .int e_start1, .ref e_qkinds, .ref e_qwhats, .ref e_qbefores])), (e_qkinds, .inl (cA 1, 60, .inl f_4)), (e_qwhats, .inl (cA 1, 60, .inl f_5)), (e_qbefores, .inl (cA 1, 60, .inl (upd e_cbefores e_acts.toNatClampNeg p2)))] H := hP
    have hD : va_D A [(h0, .inr (2, [.int e_latest, .int e_left, .int e_signed, .int e_met, .int e_acts, .int e_start0, .int e_start1, .ref e_qkinds, .ref e_qwhats, .ref e_qbefores])), (e_qkinds, .inl (cA 1, 60, .inl f_4)), (e_qwhats, .inl (cA 1, 60, .inl f_5)), (e_qbefores, .inl (cA 1, 60, .inl (upd e_cbefores e_acts.toNatClampNeg p2)))] := hD
    generalize ef_6 : (upd e_cbefores e_acts.toNatClampNeg p2) = f_6 at hP hD
    refine lv_aload_n hx hb dX2_note_39 rfl (lv_at hl 0 rfl) ?_
    refine lv_dup hx hb dX2_note_40 rfl ?_
    refine va_get (D := D) (ci := 2) (v := .int e_acts) (C := RX2) (T := TX2) (N := 10) hx hb hts inX2 hown hKN.1 hP 0 rfl rfl 4 (by decide) (hts _ tw_283) (fun _ h9 => h9) rfl dX2_note_41 ?_
    refine lv_iconst (v := 1) hx hb dX2_note_44 (by decide) ?_
    refine lv_iadd hx hb dX2_note_45 ?_
    refine lv_topi (fun x_7 ex_7 => ?_)
    have k_8 := ar_add rfl zi_1 ex_7 (by omega) (by omega)
    refine va_put (D := D) (ci := 2) (v := .int x_7) (ty := .int) (C := RX2) (T := TX2) (N := 10) hx hb hts inX2 tyX2 tyX2_ok nmX2 hown hKN.1 hP hD hS 0 rfl rfl 4 (by decide) (hts _ tw_283) (fun _ h9 => h9) rfl (by decide +kernel) rfl rfl (Nat.le_of_ble_eq_true rfl) dX2_note_46 (fun H locs hP hD hS => ?_)
    have hP : va_P D vwCl [(h0, .inr (2, [.int e_latest, .int e_left, .int e_signed, .int e_met, .int x_7, .int e_start0, .int e_start1, .ref e_qkinds, .ref e_qwhats, .ref e_qbefores])), (e_qkinds, .inl (cA 1, 60, .inl f_4)), (e_qwhats, .inl (cA 1, 60, .inl f_5)), (e_qbefores, .inl (cA 1, 60, .inl f_6))] H := hP
    have hD : va_D A [(h0, .inr (2, [.int e_latest, .int e_left, .int e_signed, .int e_met, .int x_7, .int e_start0, .int e_start1, .ref e_qkinds, .ref e_qwhats, .ref e_qbefores])), (e_qkinds, .inl (cA 1, 60, .inl f_4)), (e_qwhats, .inl (cA 1, 60, .inl f_5)), (e_qbefores, .inl (cA 1, 60, .inl f_6))] := hD
    have hP9 := hP.sub (ws' := [(h0, .inr (2, [.int e_latest, .int e_left, .int e_signed, .int e_met, .int x_7, .int e_start0, .int e_start1, .ref e_qkinds, .ref e_qwhats, .ref e_qbefores])), (e_qkinds, .inl (cA 1, 60, .inl f_4)), (e_qwhats, .inl (cA 1, 60, .inl f_5)), (e_qbefores, .inl (cA 1, 60, .inl f_6))]) [0, 1, 2, 3] rfl
    have hD9 := hD.sub (ws' := [(h0, .inr (2, [.int e_latest, .int e_left, .int e_signed, .int e_met, .int x_7, .int e_start0, .int e_start1, .ref e_qkinds, .ref e_qwhats, .ref e_qbefores])), (e_qkinds, .inl (cA 1, 60, .inl f_4)), (e_qwhats, .inl (cA 1, 60, .inl f_5)), (e_qbefores, .inl (cA 1, 60, .inl f_6))]) [0, 1, 2, 3] (by decide) rfl
    exact W.vret hx hb hr (fun t ht hW => ⟨⟨((fun _ => 0), (selI [x_7]), (selF [f_4, f_5, f_6]), (fun _ _ => 0)), rfl, (show 1 ≤ x_7.toInt ∧ x_7.toInt ≤ 60 from by omega), by rw [ht]; exact hP9, hD9⟩, hS.F ht⟩) hS.2.2 dX2_note_49
set_option maxHeartbeats 8000000 in
set_option maxRecDepth 100000 in
theorem g_X2_moveStart (l : Launch) (D : va_G) (cA : Nat → ClassId) (sz : Nat) (h0 : Nat) (e_latest : Int32) (e_left : Int32) (e_signed : Int32) (e_met : Int32) (e_acts : Int32) (e_start0 : Int32) (e_start1 : Int32) (e_qkinds : Nat) (e_qwhats : Nat) (e_qbefores : Nat) (e_ckinds : Nat → Int32) (e_cwhats : Nat → Int32) (e_cbefores : Nat → Int32) (p0 : Int32) (p1 : Int32) (h_e_acts : 0 ≤ (e_acts : Int32).toInt ∧ (e_acts : Int32).toInt ≤ 60) : Met l yX2_moveStart (Cond.code yX2_moveStart cX2_moveStart 3 none :: TB) (rmd 1 0 0) (PM D cA sz [(h0, .inr (2, [.int e_latest, .int e_left, .int e_signed, .int e_met, .int e_acts, .int e_start0, .int e_start1, .ref e_qkinds, .ref e_qwhats, .ref e_qbefores])), (e_qkinds, .inl (cA 1, 60, .inl e_ckinds)), (e_qwhats, .inl (cA 1, 60, .inl e_cwhats)), (e_qbefores, .inl (cA 1, 60, .inl e_cbefores))] [.ref h0, .int p0, .int p1]) (va_Qv (fun (u : SU) => (1 ≤ (u.2.1 0).toInt ∧ (u.2.1 0).toInt ≤ 60)) (fun u t => va_P D vwCl [(h0, .inr (2, [.int e_latest, .int e_left, .int e_signed, .int e_met, .int (u.2.1 0), .int (u.2.1 1), .int (u.2.1 2), .ref e_qkinds, .ref e_qwhats, .ref e_qbefores])), (e_qkinds, .inl (cA 1, 60, .inl (u.2.2.1 0))), (e_qwhats, .inl (cA 1, 60, .inl (u.2.2.1 1))), (e_qbefores, .inl (cA 1, 60, .inl (u.2.2.1 2)))] t.heap ∧ va_D (va_A [(h0, .inr (2, [.int e_latest, .int e_left, .int e_signed, .int e_met, .int e_acts, .int e_start0, .int e_start1, .ref e_qkinds, .ref e_qwhats, .ref e_qbefores])), (e_qkinds, .inl (cA 1, 60, .inl e_ckinds)), (e_qwhats, .inl (cA 1, 60, .inl e_cwhats)), (e_qbefores, .inl (cA 1, 60, .inl e_cbefores))] sz) [(h0, .inr (2, [.int e_latest, .int e_left, .int e_signed, .int e_met, .int (u.2.1 0), .int (u.2.1 1), .int (u.2.1 2), .ref e_qkinds, .ref e_qwhats, .ref e_qbefores])), (e_qkinds, .inl (cA 1, 60, .inl (u.2.2.1 0))), (e_qwhats, .inl (cA 1, 60, .inl (u.2.2.1 1))), (e_qbefores, .inl (cA 1, 60, .inl (u.2.2.1 2)))]) (va_A [(h0, .inr (2, [.int e_latest, .int e_left, .int e_signed, .int e_met, .int e_acts, .int e_start0, .int e_start1, .ref e_qkinds, .ref e_qwhats, .ref e_qbefores])), (e_qkinds, .inl (cA 1, 60, .inl e_ckinds)), (e_qwhats, .inl (cA 1, 60, .inl e_cwhats)), (e_qbefores, .inl (cA 1, 60, .inl e_cbefores))] sz)) 0 0 (va_A [(h0, .inr (2, [.int e_latest, .int e_left, .int e_signed, .int e_met, .int e_acts, .int e_start0, .int e_start1, .ref e_qkinds, .ref e_qwhats, .ref e_qbefores])), (e_qkinds, .inl (cA 1, 60, .inl e_ckinds)), (e_qwhats, .inl (cA 1, 60, .inl e_cwhats)), (e_qbefores, .inl (cA 1, 60, .inl e_cbefores))] sz) := by
  refine Met.ofW (cc := cX2_moveStart) (maxL := 3) (ret := none) (by decide) rfl ?_
  intro p e s m args below meth c s₁ B hml hv
  obtain ⟨rfl, hsz, hP, hKN, hD0⟩ := hv
  have hx := B.exec
  have hb := B.bytes
  have hr := B.returns
  have hts : ∀ w ∈ TB, w.before _ s = true := fun w h => atoms_spec B.pre w (List.mem_cons_of_mem _ h)
  have hown : s.vm.findClass RX2 = some m.cls := findClass_of_methodNamed B.named
  have hlocks := B.notSynchronized
  subst hsz
  have hD := hD0.self (sz := s.heap.size)
  generalize hAe : va_A [(h0, .inr (2, [.int e_latest, .int e_left, .int e_signed, .int e_met, .int e_acts, .int e_start0, .int e_start1, .ref e_qkinds, .ref e_qwhats, .ref e_qbefores])), (e_qkinds, .inl (cA 1, 60, .inl e_ckinds)), (e_qwhats, .inl (cA 1, 60, .inl e_cwhats)), (e_qbefores, .inl (cA 1, 60, .inl e_cbefores))] s.heap.size = A at hD ⊢
  have hA : ∀ q : Nat, s.heap.size ≤ q → A q := fun q h => by rw [← hAe]; exact Or.inr h
  have hS : va_S A s.heap s.heap [] := va_S.rf
  have hl := lv_entry ([.ref h0, .int p0, .int p1]) (n := 3) (Nat.le_of_ble_eq_true rfl)
  rw [lg_entry_eq]
  generalize (lg_sl ([.ref h0, .int p0, .int p1]) ++ List.replicate (3 - (lg_sl ([.ref h0, .int p0, .int p1])).length) Slot.unset).toArray = ls at hl ⊢
  have hl : lv_has ls 3 [(0, .ref h0), (1, .int p0), (2, .int p1)] := hl
  refine lv_aload_n hx hb dX2_moveStart_0 rfl (lv_at hl 0 rfl) ?_
  refine lv_iconst (v := 0) hx hb dX2_moveStart_1 (by decide) ?_
  refine lv_iload_n hx hb dX2_moveStart_2 rfl (lv_at hl 1 rfl) ?_
  refine lv_aload_n hx hb dX2_moveStart_3 rfl (lv_at hl 0 rfl) ?_
  refine lv_iload_n hx hb dX2_moveStart_4 rfl (lv_at hl 1 rfl) ?_
  refine cpVi (rest := [.int p0, .int 0, .ref h0]) ⟨hx, hb, hml, hown, hts⟩ hKN (hP.sub (ws' := [(h0, .inr (2, [.int e_latest, .int e_left, .int e_signed, .int e_met, .int e_acts, .int e_start0, .int e_start1, .ref e_qkinds, .ref e_qwhats, .ref e_qbefores]))]) [0] rfl) (g_X2_startOf l D cA h0 e_latest e_left e_signed e_met e_acts e_start0 e_start1 e_qkinds e_qwhats e_qbefores p0 (by omega)) (tb_V tw_1282 tw_746 tw_747 tw_105 tw_748) hdX2_startOf ⟨rfl, rfl, Nat.le_of_ble_eq_true rfl, Nat.le_of_ble_eq_true rfl⟩ ⟨Nat.le_of_ble_eq_true rfl, Nat.le_of_ble_eq_true rfl⟩ rfl rfl rfl hl.1 rfl (Nat.le_of_ble_eq_true rfl) dX2_moveStart_5 (fun r_1 hr_1 => ?_)
  have z_2 := zi_0
  refine cmVv (rest := []) (wsC := [(h0, .inr (2, [.int e_latest, .int e_left, .int e_signed, .int e_met, .int e_acts, .int e_start0, .int e_start1, .ref e_qkinds, .ref e_qwhats, .ref e_qbefores])), (e_qkinds, .inl (cA 1, 60, .inl e_ckinds)), (e_qwhats, .inl (cA 1, 60, .inl e_cwhats)), (e_qbefores, .inl (cA 1, 60, .inl e_cbefores))]) (wr := []) ⟨hx, hb, hml, hown, hts⟩ hKN hP hD hS hA [0, 1, 2, 3] [] rfl rfl (by decide) (by decide) (by decide) (g_X2_note l D cA _ h0 e_latest e_left e_signed e_met e_acts e_start0 e_start1 e_qkinds e_qwhats e_qbefores e_ckinds e_cwhats e_cbefores 0 p0 r_1 (by omega)) (tb_V tw_1283 tw_1285 tw_32 tw_105 tw_1286) hdX2_note ⟨rfl, rfl, Nat.le_of_ble_eq_true rfl, Nat.le_of_ble_eq_true rfl⟩ ⟨Nat.le_of_ble_eq_true rfl, Nat.le_of_ble_eq_true rfl⟩ rfl rfl rfl hl.1 rfl (Nat.le_of_ble_eq_true rfl) dX2_moveStart_8 (fun u_3 H locs hr_3 hP hD hS => ?_)
  have hP : va_P D vwCl [(h0, .inr (2, [.int e_latest, .int e_left, .int e_signed, .int e_met, .int (u_3.2.1 0), .int e_start0, .int e_start1, .ref e_qkinds, .ref e_qwhats, .ref e_qbefores])), (e_qkinds, .inl (cA 1, 60, .inl (u_3.2.2.1 0))), (e_qwhats, .inl (cA 1, 60, .inl (u_3.2.2.1 1))), (e_qbefores, .inl (cA 1, 60, .inl (u_3.2.2.1 2)))] H := hP
  have hD : va_D A [(h0, .inr (2, [.int e_latest, .int e_left, .int e_signed, .int e_met, .int (u_3.2.1 0), .int e_start0, .int e_start1, .ref e_qkinds, .ref e_qwhats, .ref e_qbefores])), (e_qkinds, .inl (cA 1, 60, .inl (u_3.2.2.1 0))), (e_qwhats, .inl (cA 1, 60, .inl (u_3.2.2.1 1))), (e_qbefores, .inl (cA 1, 60, .inl (u_3.2.2.1 2)))] := hD
  have hr_3_0 := hr_3
  refine lv_aload_n hx hb dX2_moveStart_11 rfl (lv_at hl 0 rfl) ?_
  refine lv_iload_n hx hb dX2_moveStart_12 rfl (lv_at hl 1 rfl) ?_
  refine lv_iload_n hx hb dX2_moveStart_13 rfl (lv_at hl 2 rfl) ?_
  refine cmVv (rest := []) (wsC := [(h0, .inr (2, [.int e_latest, .int e_left, .int e_signed, .int e_met, .int (u_3.2.1 0), .int e_start0, .int e_start1, .ref e_qkinds, .ref e_qwhats, .ref e_qbefores]))]) (wr := [(e_qkinds, .inl (cA 1, 60, .inl (u_3.2.2.1 0))), (e_qwhats, .inl (cA 1, 60, .inl (u_3.2.2.1 1))), (e_qbefores, .inl (cA 1, 60, .inl (u_3.2.2.1 2)))]) ⟨hx, hb, hml, hown, hts⟩ hKN hP hD hS hA [0] [1, 2, 3] rfl rfl (by decide) (by decide) (by decide) (g_X2_setStart l D cA _ h0 e_latest e_left e_signed e_met (u_3.2.1 0) e_start0 e_start1 e_qkinds e_qwhats e_qbefores p0 p1 (by omega)) (tb_V tw_1287 tw_1289 tw_33 tw_105 tw_1290) hdX2_setStart ⟨rfl, rfl, Nat.le_of_ble_eq_true rfl, Nat.le_of_ble_eq_true rfl⟩ ⟨Nat.le_of_ble_eq_true rfl, Nat.le_of_ble_eq_true rfl⟩ rfl rfl rfl hl.1 rfl (Nat.le_of_ble_eq_true rfl) dX2_moveStart_14 (fun u_4 H locs hr_4 hP hD hS => ?_)
  have hP : va_P D vwCl [(e_qkinds, .inl (cA 1, 60, .inl (u_3.2.2.1 0))), (e_qwhats, .inl (cA 1, 60, .inl (u_3.2.2.1 1))), (e_qbefores, .inl (cA 1, 60, .inl (u_3.2.2.1 2))), (h0, .inr (2, [.int e_latest, .int e_left, .int e_signed, .int e_met, .int (u_3.2.1 0), .int (u_4.2.1 0), .int (u_4.2.1 1), .ref e_qkinds, .ref e_qwhats, .ref e_qbefores]))] H := hP
  have hD : va_D A [(e_qkinds, .inl (cA 1, 60, .inl (u_3.2.2.1 0))), (e_qwhats, .inl (cA 1, 60, .inl (u_3.2.2.1 1))), (e_qbefores, .inl (cA 1, 60, .inl (u_3.2.2.1 2))), (h0, .inr (2, [.int e_latest, .int e_left, .int e_signed, .int e_met, .int (u_3.2.1 0), .int (u_4.2.1 0), .int (u_4.2.1 1), .ref e_qkinds, .ref e_qwhats, .ref e_qbefores]))] := hD
  have hP9 := hP.sub (ws' := [(h0, .inr (2, [.int e_latest, .int e_left, .int e_signed, .int e_met, .int (u_3.2.1 0), .int (u_4.2.1 0), .int (u_4.2.1 1), .ref e_qkinds, .ref e_qwhats, .ref e_qbefores])), (e_qkinds, .inl (cA 1, 60, .inl (u_3.2.2.1 0))), (e_qwhats, .inl (cA 1, 60, .inl (u_3.2.2.1 1))), (e_qbefores, .inl (cA 1, 60, .inl (u_3.2.2.1 2)))]) [3, 0, 1, 2] rfl
  have hD9 := hD.sub (ws' := [(h0, .inr (2, [.int e_latest, .int e_left, .int e_signed, .int e_met, .int (u_3.2.1 0), .int (u_4.2.1 0), .int (u_4.2.1 1), .ref e_qkinds, .ref e_qwhats, .ref e_qbefores])), (e_qkinds, .inl (cA 1, 60, .inl (u_3.2.2.1 0))), (e_qwhats, .inl (cA 1, 60, .inl (u_3.2.2.1 1))), (e_qbefores, .inl (cA 1, 60, .inl (u_3.2.2.1 2)))]) [3, 0, 1, 2] (by decide) rfl
  exact W.vret hx hb hr (fun t ht hW => ⟨⟨((fun _ => 0), (selI [(u_3.2.1 0), (u_4.2.1 0), (u_4.2.1 1)]), (selF [(u_3.2.2.1 0), (u_3.2.2.1 1), (u_3.2.2.1 2)]), (fun _ _ => 0)), rfl, (show 1 ≤ (u_3.2.1 0).toInt ∧ (u_3.2.1 0).toInt ≤ 60 from by omega), by rw [ht]; exact hP9, hD9⟩, hS.F ht⟩) hS.2.2 dX2_moveStart_17
set_option maxHeartbeats 8000000 in
set_option maxRecDepth 100000 in
theorem g_X2_takeHold (l : Launch) (D : va_G) (cA : Nat → ClassId) (sz : Nat) (h0 : Nat) (e_latest : Int32) (e_left : Int32) (e_signed : Int32) (e_met : Int32) (e_acts : Int32) (e_start0 : Int32) (e_start1 : Int32) (e_qkinds : Nat) (e_qwhats : Nat) (e_qbefores : Nat) (e_ckinds : Nat → Int32) (e_cwhats : Nat → Int32) (e_cbefores : Nat → Int32) (p0 : Int32) (p1 : Int32) (h_e_acts : 0 ≤ (e_acts : Int32).toInt ∧ (e_acts : Int32).toInt ≤ 60) : Met l yX2_takeHold (Cond.code yX2_takeHold cX2_takeHold 3 none :: TB) (rmd 1 0 0) (PM D cA sz [(h0, .inr (2, [.int e_latest, .int e_left, .int e_signed, .int e_met, .int e_acts, .int e_start0, .int e_start1, .ref e_qkinds, .ref e_qwhats, .ref e_qbefores])), (e_qkinds, .inl (cA 1, 60, .inl e_ckinds)), (e_qwhats, .inl (cA 1, 60, .inl e_cwhats)), (e_qbefores, .inl (cA 1, 60, .inl e_cbefores))] [.ref h0, .int p0, .int p1]) (va_Qv (fun (u : SU) => (1 ≤ (u.2.1 1).toInt ∧ (u.2.1 1).toInt ≤ 60)) (fun u t => va_P D vwCl [(h0, .inr (2, [.int p0, .int p1, .int e_signed, .int (u.2.1 0), .int (u.2.1 1), .int e_start0, .int e_start1, .ref e_qkinds, .ref e_qwhats, .ref e_qbefores])), (e_qkinds, .inl (cA 1, 60, .inl (u.2.2.1 0))), (e_qwhats, .inl (cA 1, 60, .inl (u.2.2.1 1))), (e_qbefores, .inl (cA 1, 60, .inl (u.2.2.1 2)))] t.heap ∧ va_D (va_A [(h0, .inr (2, [.int e_latest, .int e_left, .int e_signed, .int e_met, .int e_acts, .int e_start0, .int e_start1, .ref e_qkinds, .ref e_qwhats, .ref e_qbefores])), (e_qkinds, .inl (cA 1, 60, .inl e_ckinds)), (e_qwhats, .inl (cA 1, 60, .inl e_cwhats)), (e_qbefores, .inl (cA 1, 60, .inl e_cbefores))] sz) [(h0, .inr (2, [.int p0, .int p1, .int e_signed, .int (u.2.1 0), .int (u.2.1 1), .int e_start0, .int e_start1, .ref e_qkinds, .ref e_qwhats, .ref e_qbefores])), (e_qkinds, .inl (cA 1, 60, .inl (u.2.2.1 0))), (e_qwhats, .inl (cA 1, 60, .inl (u.2.2.1 1))), (e_qbefores, .inl (cA 1, 60, .inl (u.2.2.1 2)))]) (va_A [(h0, .inr (2, [.int e_latest, .int e_left, .int e_signed, .int e_met, .int e_acts, .int e_start0, .int e_start1, .ref e_qkinds, .ref e_qwhats, .ref e_qbefores])), (e_qkinds, .inl (cA 1, 60, .inl e_ckinds)), (e_qwhats, .inl (cA 1, 60, .inl e_cwhats)), (e_qbefores, .inl (cA 1, 60, .inl e_cbefores))] sz)) 0 0 (va_A [(h0, .inr (2, [.int e_latest, .int e_left, .int e_signed, .int e_met, .int e_acts, .int e_start0, .int e_start1, .ref e_qkinds, .ref e_qwhats, .ref e_qbefores])), (e_qkinds, .inl (cA 1, 60, .inl e_ckinds)), (e_qwhats, .inl (cA 1, 60, .inl e_cwhats)), (e_qbefores, .inl (cA 1, 60, .inl e_cbefores))] sz) := by
  refine Met.ofW (cc := cX2_takeHold) (maxL := 3) (ret := none) (by decide) rfl ?_
  intro p e s m args below meth c s₁ B hml hv
  obtain ⟨rfl, hsz, hP, hKN, hD0⟩ := hv
  have hx := B.exec
  have hb := B.bytes
  have hr := B.returns
  have hts : ∀ w ∈ TB, w.before _ s = true := fun w h => atoms_spec B.pre w (List.mem_cons_of_mem _ h)
  have hown : s.vm.findClass RX2 = some m.cls := findClass_of_methodNamed B.named
  have hlocks := B.notSynchronized
  subst hsz
  have hD := hD0.self (sz := s.heap.size)
  generalize hAe : va_A [(h0, .inr (2, [.int e_latest, .int e_left, .int e_signed, .int e_met, .int e_acts, .int e_start0, .int e_start1, .ref e_qkinds, .ref e_qwhats, .ref e_qbefores])), (e_qkinds, .inl (cA 1, 60, .inl e_ckinds)), (e_qwhats, .inl (cA 1, 60, .inl e_cwhats)), (e_qbefores, .inl (cA 1, 60, .inl e_cbefores))] s.heap.size = A at hD ⊢
  have hA : ∀ q : Nat, s.heap.size ≤ q → A q := fun q h => by rw [← hAe]; exact Or.inr h
  have hS : va_S A s.heap s.heap [] := va_S.rf
  have hl := lv_entry ([.ref h0, .int p0, .int p1]) (n := 3) (Nat.le_of_ble_eq_true rfl)
  rw [lg_entry_eq]
  generalize (lg_sl ([.ref h0, .int p0, .int p1]) ++ List.replicate (3 - (lg_sl ([.ref h0, .int p0, .int p1])).length) Slot.unset).toArray = ls at hl ⊢
  have hl : lv_has ls 3 [(0, .ref h0), (1, .int p0), (2, .int p1)] := hl
  refine lv_aload_n hx hb dX2_takeHold_0 rfl (lv_at hl 0 rfl) ?_
  refine lv_iconst (v := 1) hx hb dX2_takeHold_1 (by decide) ?_
  refine lv_iconst (v := 0) hx hb dX2_takeHold_2 (by decide) ?_
  refine lv_aload_n hx hb dX2_takeHold_3 rfl (lv_at hl 0 rfl) ?_
  refine va_get (D := D) (ci := 2) (v := .int e_latest) (C := RX2) (T := TX2) (N := 10) hx hb hts inX2 hown hKN.1 hP 0 rfl rfl 0 (by decide) (hts _ tw_275) (fun _ h9 => h9) rfl dX2_takeHold_4 ?_
  have z_1 := zi_1
  have z_2 := zi_0
  refine cmVv (rest := []) (wsC := [(h0, .inr (2, [.int e_latest, .int e_left, .int e_signed, .int e_met, .int e_acts, .int e_start0, .int e_start1, .ref e_qkinds, .ref e_qwhats, .ref e_qbefores])), (e_qkinds, .inl (cA 1, 60, .inl e_ckinds)), (e_qwhats, .inl (cA 1, 60, .inl e_cwhats)), (e_qbefores, .inl (cA 1, 60, .inl e_cbefores))]) (wr := []) ⟨hx, hb, hml, hown, hts⟩ hKN hP hD hS hA [0, 1, 2, 3] [] rfl rfl (by decide) (by decide) (by decide) (g_X2_note l D cA _ h0 e_latest e_left e_signed e_met e_acts e_start0 e_start1 e_qkinds e_qwhats e_qbefores e_ckinds e_cwhats e_cbefores 1 0 e_latest (by omega)) (tb_V tw_1283 tw_1285 tw_32 tw_105 tw_1286) hdX2_note ⟨rfl, rfl, Nat.le_of_ble_eq_true rfl, Nat.le_of_ble_eq_true rfl⟩ ⟨Nat.le_of_ble_eq_true rfl, Nat.le_of_ble_eq_true rfl⟩ rfl rfl rfl hl.1 rfl (Nat.le_of_ble_eq_true rfl) dX2_takeHold_7 (fun u_3 H locs hr_3 hP hD hS => ?_)
  have hP : va_P D vwCl [(h0, .inr (2, [.int e_latest, .int e_left, .int e_signed, .int e_met, .int (u_3.2.1 0), .int e_start0, .int e_start1, .ref e_qkinds, .ref e_qwhats, .ref e_qbefores])), (e_qkinds, .inl (cA 1, 60, .inl (u_3.2.2.1 0))), (e_qwhats, .inl (cA 1, 60, .inl (u_3.2.2.1 1))), (e_qbefores, .inl (cA 1, 60, .inl (u_3.2.2.1 2)))] H := hP
  have hD : va_D A [(h0, .inr (2, [.int e_latest, .int e_left, .int e_signed, .int e_met, .int (u_3.2.1 0), .int e_start0, .int e_start1, .ref e_qkinds, .ref e_qwhats, .ref e_qbefores])), (e_qkinds, .inl (cA 1, 60, .inl (u_3.2.2.1 0))), (e_qwhats, .inl (cA 1, 60, .inl (u_3.2.2.1 1))), (e_qbefores, .inl (cA 1, 60, .inl (u_3.2.2.1 2)))] := hD
  have hr_3_0 := hr_3
  refine lv_aload_n hx hb dX2_takeHold_10 rfl (lv_at hl 0 rfl) ?_
  refine lv_iload_n hx hb dX2_takeHold_11 rfl (lv_at hl 1 rfl) ?_
  refine va_put (D := D) (ci := 2) (v := .int p0) (ty := .int) (C := RX2) (T := TX2) (N := 10) hx hb hts inX2 tyX2 tyX2_ok nmX2 hown hKN.1 hP hD hS 0 rfl rfl 0 (by decide) (hts _ tw_275) (fun _ h9 => h9) rfl (by decide +kernel) rfl rfl (Nat.le_of_ble_eq_true rfl) dX2_takeHold_12 (fun H locs hP hD hS => ?_)
  have hP : va_P D vwCl [(h0, .inr (2, [.int p0, .int e_left, .int e_signed, .int e_met, .int (u_3.2.1 0), .int e_start0, .int e_start1, .ref e_qkinds, .ref e_qwhats, .ref e_qbefores])), (e_qkinds, .inl (cA 1, 60, .inl (u_3.2.2.1 0))), (e_qwhats, .inl (cA 1, 60, .inl (u_3.2.2.1 1))), (e_qbefores, .inl (cA 1, 60, .inl (u_3.2.2.1 2)))] H := hP
  have hD : va_D A [(h0, .inr (2, [.int p0, .int e_left, .int e_signed, .int e_met, .int (u_3.2.1 0), .int e_start0, .int e_start1, .ref e_qkinds, .ref e_qwhats, .ref e_qbefores])), (e_qkinds, .inl (cA 1, 60, .inl (u_3.2.2.1 0))), (e_qwhats, .inl (cA 1, 60, .inl (u_3.2.2.1 1))), (e_qbefores, .inl (cA 1, 60, .inl (u_3.2.2.1 2)))] := hD
  refine lv_aload_n hx hb dX2_takeHold_15 rfl (lv_at hl 0 rfl) ?_
  refine lv_iload_n hx hb dX2_takeHold_16 rfl (lv_at hl 2 rfl) ?_
  refine va_put (D := D) (ci := 2) (v := .int p1) (ty := .int) (C := RX2) (T := TX2) (N := 10) hx hb hts inX2 tyX2 tyX2_ok nmX2 hown hKN.1 hP hD hS 0 rfl rfl 1 (by decide) (hts _ tw_277) (fun _ h9 => h9) rfl (by decide +kernel) rfl rfl (Nat.le_of_ble_eq_true rfl) dX2_takeHold_17 (fun H locs hP hD hS => ?_)
  have hP : va_P D vwCl [(h0, .inr (2, [.int p0, .int p1, .int e_signed, .int e_met, .int (u_3.2.1 0), .int e_start0, .int e_start1, .ref e_qkinds, .ref e_qwhats, .ref e_qbefores])), (e_qkinds, .inl (cA 1, 60, .inl (u_3.2.2.1 0))), (e_qwhats, .inl (cA 1, 60, .inl (u_3.2.2.1 1))), (e_qbefores, .inl (cA 1, 60, .inl (u_3.2.2.1 2)))] H := hP
  have hD : va_D A [(h0, .inr (2, [.int p0, .int p1, .int e_signed, .int e_met, .int (u_3.2.1 0), .int e_start0, .int e_start1, .ref e_qkinds, .ref e_qwhats, .ref e_qbefores])), (e_qkinds, .inl (cA 1, 60, .inl (u_3.2.2.1 0))), (e_qwhats, .inl (cA 1, 60, .inl (u_3.2.2.1 1))), (e_qbefores, .inl (cA 1, 60, .inl (u_3.2.2.1 2)))] := hD
  refine lv_aload_n hx hb dX2_takeHold_20 rfl (lv_at hl 0 rfl) ?_
  refine lv_dup hx hb dX2_takeHold_21 rfl ?_
  refine va_get (D := D) (ci := 2) (v := .int e_met) (C := RX2) (T := TX2) (N := 10) hx hb hts inX2 hown hKN.1 hP 0 rfl rfl 3 (by decide) (hts _ tw_281) (fun _ h9 => h9) rfl dX2_takeHold_22 ?_
  refine lv_iconst (v := 1) hx hb dX2_takeHold_25 (by decide) ?_
  refine lv_iadd hx hb dX2_takeHold_26 ?_
  refine lv_topi (fun x_4 ex_4 => ?_)
  refine va_put (D := D) (ci := 2) (v := .int x_4) (ty := .int) (C := RX2) (T := TX2) (N := 10) hx hb hts inX2 tyX2 tyX2_ok nmX2 hown hKN.1 hP hD hS 0 rfl rfl 3 (by decide) (hts _ tw_281) (fun _ h9 => h9) rfl (by decide +kernel) rfl rfl (Nat.le_of_ble_eq_true rfl) dX2_takeHold_27 (fun H locs hP hD hS => ?_)
  have hP : va_P D vwCl [(h0, .inr (2, [.int p0, .int p1, .int e_signed, .int x_4, .int (u_3.2.1 0), .int e_start0, .int e_start1, .ref e_qkinds, .ref e_qwhats, .ref e_qbefores])), (e_qkinds, .inl (cA 1, 60, .inl (u_3.2.2.1 0))), (e_qwhats, .inl (cA 1, 60, .inl (u_3.2.2.1 1))), (e_qbefores, .inl (cA 1, 60, .inl (u_3.2.2.1 2)))] H := hP
  have hD : va_D A [(h0, .inr (2, [.int p0, .int p1, .int e_signed, .int x_4, .int (u_3.2.1 0), .int e_start0, .int e_start1, .ref e_qkinds, .ref e_qwhats, .ref e_qbefores])), (e_qkinds, .inl (cA 1, 60, .inl (u_3.2.2.1 0))), (e_qwhats, .inl (cA 1, 60, .inl (u_3.2.2.1 1))), (e_qbefores, .inl (cA 1, 60, .inl (u_3.2.2.1 2)))] := hD
  have hP9 := hP.sub (ws' := [(h0, .inr (2, [.int p0, .int p1, .int e_signed, .int x_4, .int (u_3.2.1 0), .int e_start0, .int e_start1, .ref e_qkinds, .ref e_qwhats, .ref e_qbefores])), (e_qkinds, .inl (cA 1, 60, .inl (u_3.2.2.1 0))), (e_qwhats, .inl (cA 1, 60, .inl (u_3.2.2.1 1))), (e_qbefores, .inl (cA 1, 60, .inl (u_3.2.2.1 2)))]) [0, 1, 2, 3] rfl
  have hD9 := hD.sub (ws' := [(h0, .inr (2, [.int p0, .int p1, .int e_signed, .int x_4, .int (u_3.2.1 0), .int e_start0, .int e_start1, .ref e_qkinds, .ref e_qwhats, .ref e_qbefores])), (e_qkinds, .inl (cA 1, 60, .inl (u_3.2.2.1 0))), (e_qwhats, .inl (cA 1, 60, .inl (u_3.2.2.1 1))), (e_qbefores, .inl (cA 1, 60, .inl (u_3.2.2.1 2)))]) [0, 1, 2, 3] (by decide) rfl
  exact W.vret hx hb hr (fun t ht hW => ⟨⟨((fun _ => 0), (selI [x_4, (u_3.2.1 0)]), (selF [(u_3.2.2.1 0), (u_3.2.2.1 1), (u_3.2.2.1 2)]), (fun _ _ => 0)), rfl, (show 1 ≤ (u_3.2.1 0).toInt ∧ (u_3.2.1 0).toInt ≤ 60 from by omega), by rw [ht]; exact hP9, hD9⟩, hS.F ht⟩) hS.2.2 dX2_takeHold_30
set_option maxHeartbeats 8000000 in
set_option maxRecDepth 100000 in
theorem g_X2_putName (l : Launch) (D : va_G) (cA : Nat → ClassId) (sz : Nat) (h0 : Nat) (e_latest : Int32) (e_left : Int32) (e_signed : Int32) (e_met : Int32) (e_acts : Int32) (e_start0 : Int32) (e_start1 : Int32) (e_qkinds : Nat) (e_qwhats : Nat) (e_qbefores : Nat) (e_ckinds : Nat → Int32) (e_cwhats : Nat → Int32) (e_cbefores : Nat → Int32) (p0 : Int32) (p1 : Int32) (h_e_acts : 0 ≤ (e_acts : Int32).toInt ∧ (e_acts : Int32).toInt ≤ 60) : Met l yX2_putName (Cond.code yX2_putName cX2_putName 3 none :: TB) (rmd 1 0 0) (PM D cA sz [(h0, .inr (2, [.int e_latest, .int e_left, .int e_signed, .int e_met, .int e_acts, .int e_start0, .int e_start1, .ref e_qkinds, .ref e_qwhats, .ref e_qbefores])), (e_qkinds, .inl (cA 1, 60, .inl e_ckinds)), (e_qwhats, .inl (cA 1, 60, .inl e_cwhats)), (e_qbefores, .inl (cA 1, 60, .inl e_cbefores))] [.ref h0, .int p0, .int p1]) (va_Qv (fun (u : SU) => (1 ≤ (u.2.1 2).toInt ∧ (u.2.1 2).toInt ≤ 60)) (fun u t => va_P D vwCl [(h0, .inr (2, [.int e_latest, .int (u.2.1 0), .int (u.2.1 1), .int e_met, .int (u.2.1 2), .int e_start0, .int e_start1, .ref e_qkinds, .ref e_qwhats, .ref e_qbefores])), (e_qkinds, .inl (cA 1, 60, .inl (u.2.2.1 0))), (e_qwhats, .inl (cA 1, 60, .inl (u.2.2.1 1))), (e_qbefores, .inl (cA 1, 60, .inl (u.2.2.1 2)))] t.heap ∧ va_D (va_A [(h0, .inr (2, [.int e_latest, .int e_left, .int e_signed, .int e_met, .int e_acts, .int e_start0, .int e_start1, .ref e_qkinds, .ref e_qwhats, .ref e_qbefores])), (e_qkinds, .inl (cA 1, 60, .inl e_ckinds)), (e_qwhats, .inl (cA 1, 60, .inl e_cwhats)), (e_qbefores, .inl (cA 1, 60, .inl e_cbefores))] sz) [(h0, .inr (2, [.int e_latest, .int (u.2.1 0), .int (u.2.1 1), .int e_met, .int (u.2.1 2), .int e_start0, .int e_start1, .ref e_qkinds, .ref e_qwhats, .ref e_qbefores])), (e_qkinds, .inl (cA 1, 60, .inl (u.2.2.1 0))), (e_qwhats, .inl (cA 1, 60, .inl (u.2.2.1 1))), (e_qbefores, .inl (cA 1, 60, .inl (u.2.2.1 2)))]) (va_A [(h0, .inr (2, [.int e_latest, .int e_left, .int e_signed, .int e_met, .int e_acts, .int e_start0, .int e_start1, .ref e_qkinds, .ref e_qwhats, .ref e_qbefores])), (e_qkinds, .inl (cA 1, 60, .inl e_ckinds)), (e_qwhats, .inl (cA 1, 60, .inl e_cwhats)), (e_qbefores, .inl (cA 1, 60, .inl e_cbefores))] sz)) 0 0 (va_A [(h0, .inr (2, [.int e_latest, .int e_left, .int e_signed, .int e_met, .int e_acts, .int e_start0, .int e_start1, .ref e_qkinds, .ref e_qwhats, .ref e_qbefores])), (e_qkinds, .inl (cA 1, 60, .inl e_ckinds)), (e_qwhats, .inl (cA 1, 60, .inl e_cwhats)), (e_qbefores, .inl (cA 1, 60, .inl e_cbefores))] sz) := by
  refine Met.ofW (cc := cX2_putName) (maxL := 3) (ret := none) (by decide) rfl ?_
  intro p e s m args below meth c s₁ B hml hv
  obtain ⟨rfl, hsz, hP, hKN, hD0⟩ := hv
  have hx := B.exec
  have hb := B.bytes
  have hr := B.returns
  have hts : ∀ w ∈ TB, w.before _ s = true := fun w h => atoms_spec B.pre w (List.mem_cons_of_mem _ h)
  have hown : s.vm.findClass RX2 = some m.cls := findClass_of_methodNamed B.named
  have hlocks := B.notSynchronized
  subst hsz
  have hD := hD0.self (sz := s.heap.size)
  generalize hAe : va_A [(h0, .inr (2, [.int e_latest, .int e_left, .int e_signed, .int e_met, .int e_acts, .int e_start0, .int e_start1, .ref e_qkinds, .ref e_qwhats, .ref e_qbefores])), (e_qkinds, .inl (cA 1, 60, .inl e_ckinds)), (e_qwhats, .inl (cA 1, 60, .inl e_cwhats)), (e_qbefores, .inl (cA 1, 60, .inl e_cbefores))] s.heap.size = A at hD ⊢
  have hA : ∀ q : Nat, s.heap.size ≤ q → A q := fun q h => by rw [← hAe]; exact Or.inr h
  have hS : va_S A s.heap s.heap [] := va_S.rf
  have hl := lv_entry ([.ref h0, .int p0, .int p1]) (n := 3) (Nat.le_of_ble_eq_true rfl)
  rw [lg_entry_eq]
  generalize (lg_sl ([.ref h0, .int p0, .int p1]) ++ List.replicate (3 - (lg_sl ([.ref h0, .int p0, .int p1])).length) Slot.unset).toArray = ls at hl ⊢
  have hl : lv_has ls 3 [(0, .ref h0), (1, .int p0), (2, .int p1)] := hl
  refine lv_aload_n hx hb dX2_putName_0 rfl (lv_at hl 0 rfl) ?_
  refine lv_iconst (v := 2) hx hb dX2_putName_1 (by decide) ?_
  refine lv_iload_n hx hb dX2_putName_2 rfl (lv_at hl 1 rfl) ?_
  refine lv_aload_n hx hb dX2_putName_3 rfl (lv_at hl 0 rfl) ?_
  refine va_get (D := D) (ci := 2) (v := .int e_left) (C := RX2) (T := TX2) (N := 10) hx hb hts inX2 hown hKN.1 hP 0 rfl rfl 1 (by decide) (hts _ tw_277) (fun _ h9 => h9) rfl dX2_putName_4 ?_
  have z_1 := zi_2
  refine cmVv (rest := []) (wsC := [(h0, .inr (2, [.int e_latest, .int e_left, .int e_signed, .int e_met, .int e_acts, .int e_start0, .int e_start1, .ref e_qkinds, .ref e_qwhats, .ref e_qbefores])), (e_qkinds, .inl (cA 1, 60, .inl e_ckinds)), (e_qwhats, .inl (cA 1, 60, .inl e_cwhats)), (e_qbefores, .inl (cA 1, 60, .inl e_cbefores))]) (wr := []) ⟨hx, hb, hml, hown, hts⟩ hKN hP hD hS hA [0, 1, 2, 3] [] rfl rfl (by decide) (by decide) (by decide) (g_X2_note l D cA _ h0 e_latest e_left e_signed e_met e_acts e_start0 e_start1 e_qkinds e_qwhats e_qbefores e_ckinds e_cwhats e_cbefores 2 p0 e_left (by omega)) (tb_V tw_1283 tw_1285 tw_32 tw_105 tw_1286) hdX2_note ⟨rfl, rfl, Nat.le_of_ble_eq_true rfl, Nat.le_of_ble_eq_true rfl⟩ ⟨Nat.le_of_ble_eq_true rfl, Nat.le_of_ble_eq_true rfl⟩ rfl rfl rfl hl.1 rfl (Nat.le_of_ble_eq_true rfl) dX2_putName_7 (fun u_2 H locs hr_2 hP hD hS => ?_)
  have hP : va_P D vwCl [(h0, .inr (2, [.int e_latest, .int e_left, .int e_signed, .int e_met, .int (u_2.2.1 0), .int e_start0, .int e_start1, .ref e_qkinds, .ref e_qwhats, .ref e_qbefores])), (e_qkinds, .inl (cA 1, 60, .inl (u_2.2.2.1 0))), (e_qwhats, .inl (cA 1, 60, .inl (u_2.2.2.1 1))), (e_qbefores, .inl (cA 1, 60, .inl (u_2.2.2.1 2)))] H := hP
  have hD : va_D A [(h0, .inr (2, [.int e_latest, .int e_left, .int e_signed, .int e_met, .int (u_2.2.1 0), .int e_start0, .int e_start1, .ref e_qkinds, .ref e_qwhats, .ref e_qbefores])), (e_qkinds, .inl (cA 1, 60, .inl (u_2.2.2.1 0))), (e_qwhats, .inl (cA 1, 60, .inl (u_2.2.2.1 1))), (e_qbefores, .inl (cA 1, 60, .inl (u_2.2.2.1 2)))] := hD
  have hr_2_0 := hr_2
  refine lv_aload_n hx hb dX2_putName_10 rfl (lv_at hl 0 rfl) ?_
  refine lv_dup hx hb dX2_putName_11 rfl ?_
  refine va_get (D := D) (ci := 2) (v := .int e_left) (C := RX2) (T := TX2) (N := 10) hx hb hts inX2 hown hKN.1 hP 0 rfl rfl 1 (by decide) (hts _ tw_277) (fun _ h9 => h9) rfl dX2_putName_12 ?_
  refine lv_iload_n hx hb dX2_putName_15 rfl (lv_at hl 2 rfl) ?_
  refine lv_isub hx hb dX2_putName_16 ?_
  refine lv_topi (fun x_3 ex_3 => ?_)
  refine va_put (D := D) (ci := 2) (v := .int x_3) (ty := .int) (C := RX2) (T := TX2) (N := 10) hx hb hts inX2 tyX2 tyX2_ok nmX2 hown hKN.1 hP hD hS 0 rfl rfl 1 (by decide) (hts _ tw_277) (fun _ h9 => h9) rfl (by decide +kernel) rfl rfl (Nat.le_of_ble_eq_true rfl) dX2_putName_17 (fun H locs hP hD hS => ?_)
  have hP : va_P D vwCl [(h0, .inr (2, [.int e_latest, .int x_3, .int e_signed, .int e_met, .int (u_2.2.1 0), .int e_start0, .int e_start1, .ref e_qkinds, .ref e_qwhats, .ref e_qbefores])), (e_qkinds, .inl (cA 1, 60, .inl (u_2.2.2.1 0))), (e_qwhats, .inl (cA 1, 60, .inl (u_2.2.2.1 1))), (e_qbefores, .inl (cA 1, 60, .inl (u_2.2.2.1 2)))] H := hP
  have hD : va_D A [(h0, .inr (2, [.int e_latest, .int x_3, .int e_signed, .int e_met, .int (u_2.2.1 0), .int e_start0, .int e_start1, .ref e_qkinds, .ref e_qwhats, .ref e_qbefores])), (e_qkinds, .inl (cA 1, 60, .inl (u_2.2.2.1 0))), (e_qwhats, .inl (cA 1, 60, .inl (u_2.2.2.1 1))), (e_qbefores, .inl (cA 1, 60, .inl (u_2.2.2.1 2)))] := hD
  refine lv_aload_n hx hb dX2_putName_20 rfl (lv_at hl 0 rfl) ?_
  refine lv_dup hx hb dX2_putName_21 rfl ?_
  refine va_get (D := D) (ci := 2) (v := .int e_signed) (C := RX2) (T := TX2) (N := 10) hx hb hts inX2 hown hKN.1 hP 0 rfl rfl 2 (by decide) (hts _ tw_279) (fun _ h9 => h9) rfl dX2_putName_22 ?_
  refine lv_iconst (v := 1) hx hb dX2_putName_25 (by decide) ?_
  refine lv_iload_n hx hb dX2_putName_26 rfl (lv_at hl 1 rfl) ?_
  refine lv_ishl hx hb dX2_putName_27 ?_
  refine lv_topi (fun x_5 ex_5 => ?_)
  refine lv_ior hx hb dX2_putName_28 ?_
  refine lv_topi (fun x_7 ex_7 => ?_)
  refine va_put (D := D) (ci := 2) (v := .int x_7) (ty := .int) (C := RX2) (T := TX2) (N := 10) hx hb hts inX2 tyX2 tyX2_ok nmX2 hown hKN.1 hP hD hS 0 rfl rfl 2 (by decide) (hts _ tw_279) (fun _ h9 => h9) rfl (by decide +kernel) rfl rfl (Nat.le_of_ble_eq_true rfl) dX2_putName_29 (fun H locs hP hD hS => ?_)
  have hP : va_P D vwCl [(h0, .inr (2, [.int e_latest, .int x_3, .int x_7, .int e_met, .int (u_2.2.1 0), .int e_start0, .int e_start1, .ref e_qkinds, .ref e_qwhats, .ref e_qbefores])), (e_qkinds, .inl (cA 1, 60, .inl (u_2.2.2.1 0))), (e_qwhats, .inl (cA 1, 60, .inl (u_2.2.2.1 1))), (e_qbefores, .inl (cA 1, 60, .inl (u_2.2.2.1 2)))] H := hP
  have hD : va_D A [(h0, .inr (2, [.int e_latest, .int x_3, .int x_7, .int e_met, .int (u_2.2.1 0), .int e_start0, .int e_start1, .ref e_qkinds, .ref e_qwhats, .ref e_qbefores])), (e_qkinds, .inl (cA 1, 60, .inl (u_2.2.2.1 0))), (e_qwhats, .inl (cA 1, 60, .inl (u_2.2.2.1 1))), (e_qbefores, .inl (cA 1, 60, .inl (u_2.2.2.1 2)))] := hD
  have hP9 := hP.sub (ws' := [(h0, .inr (2, [.int e_latest, .int x_3, .int x_7, .int e_met, .int (u_2.2.1 0), .int e_start0, .int e_start1, .ref e_qkinds, .ref e_qwhats, .ref e_qbefores])), (e_qkinds, .inl (cA 1, 60, .inl (u_2.2.2.1 0))), (e_qwhats, .inl (cA 1, 60, .inl (u_2.2.2.1 1))), (e_qbefores, .inl (cA 1, 60, .inl (u_2.2.2.1 2)))]) [0, 1, 2, 3] rfl
  have hD9 := hD.sub (ws' := [(h0, .inr (2, [.int e_latest, .int x_3, .int x_7, .int e_met, .int (u_2.2.1 0), .int e_start0, .int e_start1, .ref e_qkinds, .ref e_qwhats, .ref e_qbefores])), (e_qkinds, .inl (cA 1, 60, .inl (u_2.2.2.1 0))), (e_qwhats, .inl (cA 1, 60, .inl (u_2.2.2.1 1))), (e_qbefores, .inl (cA 1, 60, .inl (u_2.2.2.1 2)))]) [0, 1, 2, 3] (by decide) rfl
  exact W.vret hx hb hr (fun t ht hW => ⟨⟨((fun _ => 0), (selI [x_3, x_7, (u_2.2.1 0)]), (selF [(u_2.2.2.1 0), (u_2.2.2.1 1), (u_2.2.2.1 2)]), (fun _ _ => 0)), rfl, (show 1 ≤ (u_2.2.1 0).toInt ∧ (u_2.2.1 0).toInt ≤ 60 from by omega), by rw [ht]; exact hP9, hD9⟩, hS.F ht⟩) hS.2.2 dX2_putName_32
set_option maxHeartbeats 8000000 in
set_option maxRecDepth 100000 in
theorem g_X2_letGo (l : Launch) (D : va_G) (cA : Nat → ClassId) (sz : Nat) (h0 : Nat) (e_latest : Int32) (e_left : Int32) (e_signed : Int32) (e_met : Int32) (e_acts : Int32) (e_start0 : Int32) (e_start1 : Int32) (e_qkinds : Nat) (e_qwhats : Nat) (e_qbefores : Nat) (e_ckinds : Nat → Int32) (e_cwhats : Nat → Int32) (e_cbefores : Nat → Int32) (h_e_acts : 0 ≤ (e_acts : Int32).toInt ∧ (e_acts : Int32).toInt ≤ 60) : Met l yX2_letGo (Cond.code yX2_letGo cX2_letGo 1 none :: TB) (rmd 1 0 0) (PM D cA sz [(h0, .inr (2, [.int e_latest, .int e_left, .int e_signed, .int e_met, .int e_acts, .int e_start0, .int e_start1, .ref e_qkinds, .ref e_qwhats, .ref e_qbefores])), (e_qkinds, .inl (cA 1, 60, .inl e_ckinds)), (e_qwhats, .inl (cA 1, 60, .inl e_cwhats)), (e_qbefores, .inl (cA 1, 60, .inl e_cbefores))] [.ref h0]) (va_Qv (fun (u : SU) => (1 ≤ (u.2.1 0).toInt ∧ (u.2.1 0).toInt ≤ 60)) (fun u t => va_P D vwCl [(h0, .inr (2, [.int e_latest, .int (-1), .int e_signed, .int e_met, .int (u.2.1 0), .int e_start0, .int e_start1, .ref e_qkinds, .ref e_qwhats, .ref e_qbefores])), (e_qkinds, .inl (cA 1, 60, .inl (u.2.2.1 0))), (e_qwhats, .inl (cA 1, 60, .inl (u.2.2.1 1))), (e_qbefores, .inl (cA 1, 60, .inl (u.2.2.1 2)))] t.heap ∧ va_D (va_A [(h0, .inr (2, [.int e_latest, .int e_left, .int e_signed, .int e_met, .int e_acts, .int e_start0, .int e_start1, .ref e_qkinds, .ref e_qwhats, .ref e_qbefores])), (e_qkinds, .inl (cA 1, 60, .inl e_ckinds)), (e_qwhats, .inl (cA 1, 60, .inl e_cwhats)), (e_qbefores, .inl (cA 1, 60, .inl e_cbefores))] sz) [(h0, .inr (2, [.int e_latest, .int (-1), .int e_signed, .int e_met, .int (u.2.1 0), .int e_start0, .int e_start1, .ref e_qkinds, .ref e_qwhats, .ref e_qbefores])), (e_qkinds, .inl (cA 1, 60, .inl (u.2.2.1 0))), (e_qwhats, .inl (cA 1, 60, .inl (u.2.2.1 1))), (e_qbefores, .inl (cA 1, 60, .inl (u.2.2.1 2)))]) (va_A [(h0, .inr (2, [.int e_latest, .int e_left, .int e_signed, .int e_met, .int e_acts, .int e_start0, .int e_start1, .ref e_qkinds, .ref e_qwhats, .ref e_qbefores])), (e_qkinds, .inl (cA 1, 60, .inl e_ckinds)), (e_qwhats, .inl (cA 1, 60, .inl e_cwhats)), (e_qbefores, .inl (cA 1, 60, .inl e_cbefores))] sz)) 0 0 (va_A [(h0, .inr (2, [.int e_latest, .int e_left, .int e_signed, .int e_met, .int e_acts, .int e_start0, .int e_start1, .ref e_qkinds, .ref e_qwhats, .ref e_qbefores])), (e_qkinds, .inl (cA 1, 60, .inl e_ckinds)), (e_qwhats, .inl (cA 1, 60, .inl e_cwhats)), (e_qbefores, .inl (cA 1, 60, .inl e_cbefores))] sz) := by
  refine Met.ofW (cc := cX2_letGo) (maxL := 1) (ret := none) (by decide) rfl ?_
  intro p e s m args below meth c s₁ B hml hv
  obtain ⟨rfl, hsz, hP, hKN, hD0⟩ := hv
  have hx := B.exec
  have hb := B.bytes
  have hr := B.returns
  have hts : ∀ w ∈ TB, w.before _ s = true := fun w h => atoms_spec B.pre w (List.mem_cons_of_mem _ h)
  have hown : s.vm.findClass RX2 = some m.cls := findClass_of_methodNamed B.named
  have hlocks := B.notSynchronized
  subst hsz
  have hD := hD0.self (sz := s.heap.size)
  generalize hAe : va_A [(h0, .inr (2, [.int e_latest, .int e_left, .int e_signed, .int e_met, .int e_acts, .int e_start0, .int e_start1, .ref e_qkinds, .ref e_qwhats, .ref e_qbefores])), (e_qkinds, .inl (cA 1, 60, .inl e_ckinds)), (e_qwhats, .inl (cA 1, 60, .inl e_cwhats)), (e_qbefores, .inl (cA 1, 60, .inl e_cbefores))] s.heap.size = A at hD ⊢
  have hA : ∀ q : Nat, s.heap.size ≤ q → A q := fun q h => by rw [← hAe]; exact Or.inr h
  have hS : va_S A s.heap s.heap [] := va_S.rf
  have hl := lv_entry ([.ref h0]) (n := 1) (Nat.le_of_ble_eq_true rfl)
  rw [lg_entry_eq]
  generalize (lg_sl ([.ref h0]) ++ List.replicate (1 - (lg_sl ([.ref h0])).length) Slot.unset).toArray = ls at hl ⊢
  have hl : lv_has ls 1 [(0, .ref h0)] := hl
  refine lv_aload_n hx hb dX2_letGo_0 rfl (lv_at hl 0 rfl) ?_
  refine lv_iconst (v := 3) hx hb dX2_letGo_1 (by decide) ?_
  refine lv_iconst (v := 0) hx hb dX2_letGo_2 (by decide) ?_
  refine lv_aload_n hx hb dX2_letGo_3 rfl (lv_at hl 0 rfl) ?_
  refine va_get (D := D) (ci := 2) (v := .int e_left) (C := RX2) (T := TX2) (N := 10) hx hb hts inX2 hown hKN.1 hP 0 rfl rfl 1 (by decide) (hts _ tw_277) (fun _ h9 => h9) rfl dX2_letGo_4 ?_
  have z_1 := zi_3
  have z_2 := zi_0
  refine cmVv (rest := []) (wsC := [(h0, .inr (2, [.int e_latest, .int e_left, .int e_signed, .int e_met, .int e_acts, .int e_start0, .int e_start1, .ref e_qkinds, .ref e_qwhats, .ref e_qbefores])), (e_qkinds, .inl (cA 1, 60, .inl e_ckinds)), (e_qwhats, .inl (cA 1, 60, .inl e_cwhats)), (e_qbefores, .inl (cA 1, 60, .inl e_cbefores))]) (wr := []) ⟨hx, hb, hml, hown, hts⟩ hKN hP hD hS hA [0, 1, 2, 3] [] rfl rfl (by decide) (by decide) (by decide) (g_X2_note l D cA _ h0 e_latest e_left e_signed e_met e_acts e_start0 e_start1 e_qkinds e_qwhats e_qbefores e_ckinds e_cwhats e_cbefores 3 0 e_left (by omega)) (tb_V tw_1283 tw_1285 tw_32 tw_105 tw_1286) hdX2_note ⟨rfl, rfl, Nat.le_of_ble_eq_true rfl, Nat.le_of_ble_eq_true rfl⟩ ⟨Nat.le_of_ble_eq_true rfl, Nat.le_of_ble_eq_true rfl⟩ rfl rfl rfl hl.1 rfl (Nat.le_of_ble_eq_true rfl) dX2_letGo_7 (fun u_3 H locs hr_3 hP hD hS => ?_)
  have hP : va_P D vwCl [(h0, .inr (2, [.int e_latest, .int e_left, .int e_signed, .int e_met, .int (u_3.2.1 0), .int e_start0, .int e_start1, .ref e_qkinds, .ref e_qwhats, .ref e_qbefores])), (e_qkinds, .inl (cA 1, 60, .inl (u_3.2.2.1 0))), (e_qwhats, .inl (cA 1, 60, .inl (u_3.2.2.1 1))), (e_qbefores, .inl (cA 1, 60, .inl (u_3.2.2.1 2)))] H := hP
  have hD : va_D A [(h0, .inr (2, [.int e_latest, .int e_left, .int e_signed, .int e_met, .int (u_3.2.1 0), .int e_start0, .int e_start1, .ref e_qkinds, .ref e_qwhats, .ref e_qbefores])), (e_qkinds, .inl (cA 1, 60, .inl (u_3.2.2.1 0))), (e_qwhats, .inl (cA 1, 60, .inl (u_3.2.2.1 1))), (e_qbefores, .inl (cA 1, 60, .inl (u_3.2.2.1 2)))] := hD
  have hr_3_0 := hr_3
  refine lv_aload_n hx hb dX2_letGo_10 rfl (lv_at hl 0 rfl) ?_
  refine lv_iconst (v := (-1)) hx hb dX2_letGo_11 (by decide) ?_
  refine va_put (D := D) (ci := 2) (v := .int (-1)) (ty := .int) (C := RX2) (T := TX2) (N := 10) hx hb hts inX2 tyX2 tyX2_ok nmX2 hown hKN.1 hP hD hS 0 rfl rfl 1 (by decide) (hts _ tw_277) (fun _ h9 => h9) rfl (by decide +kernel) rfl rfl (Nat.le_of_ble_eq_true rfl) dX2_letGo_12 (fun H locs hP hD hS => ?_)
  have hP : va_P D vwCl [(h0, .inr (2, [.int e_latest, .int (-1), .int e_signed, .int e_met, .int (u_3.2.1 0), .int e_start0, .int e_start1, .ref e_qkinds, .ref e_qwhats, .ref e_qbefores])), (e_qkinds, .inl (cA 1, 60, .inl (u_3.2.2.1 0))), (e_qwhats, .inl (cA 1, 60, .inl (u_3.2.2.1 1))), (e_qbefores, .inl (cA 1, 60, .inl (u_3.2.2.1 2)))] H := hP
  have hD : va_D A [(h0, .inr (2, [.int e_latest, .int (-1), .int e_signed, .int e_met, .int (u_3.2.1 0), .int e_start0, .int e_start1, .ref e_qkinds, .ref e_qwhats, .ref e_qbefores])), (e_qkinds, .inl (cA 1, 60, .inl (u_3.2.2.1 0))), (e_qwhats, .inl (cA 1, 60, .inl (u_3.2.2.1 1))), (e_qbefores, .inl (cA 1, 60, .inl (u_3.2.2.1 2)))] := hD
  have hP9 := hP.sub (ws' := [(h0, .inr (2, [.int e_latest, .int (-1), .int e_signed, .int e_met, .int (u_3.2.1 0), .int e_start0, .int e_start1, .ref e_qkinds, .ref e_qwhats, .ref e_qbefores])), (e_qkinds, .inl (cA 1, 60, .inl (u_3.2.2.1 0))), (e_qwhats, .inl (cA 1, 60, .inl (u_3.2.2.1 1))), (e_qbefores, .inl (cA 1, 60, .inl (u_3.2.2.1 2)))]) [0, 1, 2, 3] rfl
  have hD9 := hD.sub (ws' := [(h0, .inr (2, [.int e_latest, .int (-1), .int e_signed, .int e_met, .int (u_3.2.1 0), .int e_start0, .int e_start1, .ref e_qkinds, .ref e_qwhats, .ref e_qbefores])), (e_qkinds, .inl (cA 1, 60, .inl (u_3.2.2.1 0))), (e_qwhats, .inl (cA 1, 60, .inl (u_3.2.2.1 1))), (e_qbefores, .inl (cA 1, 60, .inl (u_3.2.2.1 2)))]) [0, 1, 2, 3] (by decide) rfl
  exact W.vret hx hb hr (fun t ht hW => ⟨⟨((fun _ => 0), (selI [(u_3.2.1 0)]), (selF [(u_3.2.2.1 0), (u_3.2.2.1 1), (u_3.2.2.1 2)]), (fun _ _ => 0)), rfl, (show 1 ≤ (u_3.2.1 0).toInt ∧ (u_3.2.1 0).toInt ≤ 60 from by omega), by rw [ht]; exact hP9, hD9⟩, hS.F ht⟩) hS.2.2 dX2_letGo_15
set_option maxHeartbeats 8000000 in
set_option maxRecDepth 100000 in
theorem g_X2_takeBack (l : Launch) (D : va_G) (cA : Nat → ClassId) (sz : Nat) (h0 : Nat) (e_latest : Int32) (e_left : Int32) (e_signed : Int32) (e_met : Int32) (e_acts : Int32) (e_start0 : Int32) (e_start1 : Int32) (e_qkinds : Nat) (e_qwhats : Nat) (e_qbefores : Nat) (e_ckinds : Nat → Int32) (e_cwhats : Nat → Int32) (e_cbefores : Nat → Int32) (h_e_acts : 0 ≤ (e_acts : Int32).toInt ∧ (e_acts : Int32).toInt ≤ 60) : Met l yX2_takeBack (Cond.code yX2_takeBack cX2_takeBack 2 none :: TB) (rmd 1 0 0) (PM D cA sz [(h0, .inr (2, [.int e_latest, .int e_left, .int e_signed, .int e_met, .int e_acts, .int e_start0, .int e_start1, .ref e_qkinds, .ref e_qwhats, .ref e_qbefores])), (e_qkinds, .inl (cA 1, 60, .inl e_ckinds)), (e_qwhats, .inl (cA 1, 60, .inl e_cwhats)), (e_qbefores, .inl (cA 1, 60, .inl e_cbefores))] [.ref h0]) (va_Qv (fun (u : SU) => (0 ≤ (u.2.1 4).toInt ∧ (u.2.1 4).toInt ≤ 60)) (fun u t => va_P D vwCl [(h0, .inr (2, [.int (u.2.1 0), .int (u.2.1 1), .int (u.2.1 2), .int (u.2.1 3), .int (u.2.1 4), .int (u.2.1 5), .int (u.2.1 6), .ref e_qkinds, .ref e_qwhats, .ref e_qbefores])), (e_qkinds, .inl (cA 1, 60, .inl e_ckinds)), (e_qwhats, .inl (cA 1, 60, .inl e_cwhats)), (e_qbefores, .inl (cA 1, 60, .inl e_cbefores))] t.heap ∧ va_D (va_A [(h0, .inr (2, [.int e_latest, .int e_left, .int e_signed, .int e_met, .int e_acts, .int e_start0, .int e_start1, .ref e_qkinds, .ref e_qwhats, .ref e_qbefores])), (e_qkinds, .inl (cA 1, 60, .inl e_ckinds)), (e_qwhats, .inl (cA 1, 60, .inl e_cwhats)), (e_qbefores, .inl (cA 1, 60, .inl e_cbefores))] sz) [(h0, .inr (2, [.int (u.2.1 0), .int (u.2.1 1), .int (u.2.1 2), .int (u.2.1 3), .int (u.2.1 4), .int (u.2.1 5), .int (u.2.1 6), .ref e_qkinds, .ref e_qwhats, .ref e_qbefores])), (e_qkinds, .inl (cA 1, 60, .inl e_ckinds)), (e_qwhats, .inl (cA 1, 60, .inl e_cwhats)), (e_qbefores, .inl (cA 1, 60, .inl e_cbefores))]) (va_A [(h0, .inr (2, [.int e_latest, .int e_left, .int e_signed, .int e_met, .int e_acts, .int e_start0, .int e_start1, .ref e_qkinds, .ref e_qwhats, .ref e_qbefores])), (e_qkinds, .inl (cA 1, 60, .inl e_ckinds)), (e_qwhats, .inl (cA 1, 60, .inl e_cwhats)), (e_qbefores, .inl (cA 1, 60, .inl e_cbefores))] sz)) 0 0 (va_A [(h0, .inr (2, [.int e_latest, .int e_left, .int e_signed, .int e_met, .int e_acts, .int e_start0, .int e_start1, .ref e_qkinds, .ref e_qwhats, .ref e_qbefores])), (e_qkinds, .inl (cA 1, 60, .inl e_ckinds)), (e_qwhats, .inl (cA 1, 60, .inl e_cwhats)), (e_qbefores, .inl (cA 1, 60, .inl e_cbefores))] sz) := by
  refine Met.ofW (cc := cX2_takeBack) (maxL := 2) (ret := none) (by decide) rfl ?_
  intro p e s m args below meth c s₁ B hml hv
  obtain ⟨rfl, hsz, hP, hKN, hD0⟩ := hv
  have hx := B.exec
  have hb := B.bytes
  have hr := B.returns
  have hts : ∀ w ∈ TB, w.before _ s = true := fun w h => atoms_spec B.pre w (List.mem_cons_of_mem _ h)
  have hown : s.vm.findClass RX2 = some m.cls := findClass_of_methodNamed B.named
  have hlocks := B.notSynchronized
  subst hsz
  have hD := hD0.self (sz := s.heap.size)
  generalize hAe : va_A [(h0, .inr (2, [.int e_latest, .int e_left, .int e_signed, .int e_met, .int e_acts, .int e_start0, .int e_start1, .ref e_qkinds, .ref e_qwhats, .ref e_qbefores])), (e_qkinds, .inl (cA 1, 60, .inl e_ckinds)), (e_qwhats, .inl (cA 1, 60, .inl e_cwhats)), (e_qbefores, .inl (cA 1, 60, .inl e_cbefores))] s.heap.size = A at hD ⊢
  have hA : ∀ q : Nat, s.heap.size ≤ q → A q := fun q h => by rw [← hAe]; exact Or.inr h
  have hS : va_S A s.heap s.heap [] := va_S.rf
  have hl := lv_entry ([.ref h0]) (n := 2) (Nat.le_of_ble_eq_true rfl)
  rw [lg_entry_eq]
  generalize (lg_sl ([.ref h0]) ++ List.replicate (2 - (lg_sl ([.ref h0])).length) Slot.unset).toArray = ls at hl ⊢
  have hl : lv_has ls 2 [(0, .ref h0)] := hl
  refine lv_aload_n hx hb dX2_takeBack_0 rfl (lv_at hl 0 rfl) ?_
  refine va_get (D := D) (ci := 2) (v := .int e_acts) (C := RX2) (T := TX2) (N := 10) hx hb hts inX2 hown hKN.1 hP 0 rfl rfl 4 (by decide) (hts _ tw_283) (fun _ h9 => h9) rfl dX2_takeBack_1 ?_
  refine lv_iconst (v := 1) hx hb dX2_takeBack_4 (by decide) ?_
  refine lv_bipush (v := 60) hx hb dX2_takeBack_5 (by decide) ?_
  have z_1 := zi_1
  have z_2 := zi_60
  refine cpSNi (rest := []) ⟨hx, hb, hml, hown, hts⟩ hKN (hP.sub (ws' := []) [] rfl) (g_X11_isWithin l D cA e_acts 1 60) ⟨nw_13, tw_516, tw_101, tw_517⟩ hdX11_isWithin ⟨rfl, rfl, Nat.le_of_ble_eq_true rfl, Nat.le_of_ble_eq_true rfl⟩ ⟨Nat.le_of_ble_eq_true rfl, Nat.le_of_ble_eq_true rfl⟩ rfl hl.1 rfl (Nat.le_of_ble_eq_true rfl) dX2_takeBack_7 (fun r_3 hr_3 => ?_)
  rcases hr_3 with ⟨k_3_0_0, k_3_0_1, rfl⟩ | ⟨k_3_1_0, rfl⟩
  · skip
    refine lv_if_ne (tgt := 14) hx hb dX2_takeBack_10 (by decide) (fun c_4 => ?_) (fun c_4 => absurd c_4 (by decide))
    refine lv_aload_n hx hb dX2_takeBack_14 rfl (lv_at hl 0 rfl) ?_
    refine lv_dup hx hb dX2_takeBack_15 rfl ?_
    refine va_get (D := D) (ci := 2) (v := .int e_acts) (C := RX2) (T := TX2) (N := 10) hx hb hts inX2 hown hKN.1 hP 0 rfl rfl 4 (by decide) (hts _ tw_283) (fun _ h9 => h9) rfl dX2_takeBack_16 ?_
    refine lv_iconst (v := 1) hx hb dX2_takeBack_19 (by decide) ?_
    refine lv_isub hx hb dX2_takeBack_20 ?_
    refine lv_topi (fun x_5 ex_5 => ?_)
    have k_6 := ar_sub rfl zi_1 ex_5 (by omega) (by omega)
    refine va_put (D := D) (ci := 2) (v := .int x_5) (ty := .int) (C := RX2) (T := TX2) (N := 10) hx hb hts inX2 tyX2 tyX2_ok nmX2 hown hKN.1 hP hD hS 0 rfl rfl 4 (by decide) (hts _ tw_283) (fun _ h9 => h9) rfl (by decide +kernel) rfl rfl (Nat.le_of_ble_eq_true rfl) dX2_takeBack_21 (fun H locs hP hD hS => ?_)
    have hP : va_P D vwCl [(h0, .inr (2, [.int e_latest, .int e_left, .int e_signed, .int e_met, .int x_5, .int e_start0, .int e_start1, .ref e_qkinds, .ref e_qwhats, .ref e_qbefores])), (e_qkinds, .inl (cA 1, 60, .inl e_ckinds)), (e_qwhats, .inl (cA 1, 60, .inl e_cwhats)), (e_qbefores, .inl (cA 1, 60, .inl e_cbefores))] H := hP
    have hD : va_D A [(h0, .inr (2, [.int e_latest, .int e_left, .int e_signed, .int e_met, .int x_5, .int e_start0, .int e_start1, .ref e_qkinds, .ref e_qwhats, .ref e_qbefores])), (e_qkinds, .inl (cA 1, 60, .inl e_ckinds)), (e_qwhats, .inl (cA 1, 60, .inl e_cwhats)), (e_qbefores, .inl (cA 1, 60, .inl e_cbefores))] := hD
    refine lv_aload_n hx hb dX2_takeBack_24 rfl (lv_at hl 0 rfl) ?_
    refine va_get (D := D) (ci := 2) (v := .ref e_qbefores) (C := RX2) (T := TX2) (N := 10) hx hb hts inX2 hown hKN.1 hP 0 rfl rfl 9 (by decide) (hts _ tw_289) (fun _ h9 => h9) rfl dX2_takeBack_25 ?_
    refine lv_aload_n hx hb dX2_takeBack_28 rfl (lv_at hl 0 rfl) ?_
    refine va_get (D := D) (ci := 2) (v := .int x_5) (C := RX2) (T := TX2) (N := 10) hx hb hts inX2 hown hKN.1 hP 0 rfl rfl 4 (by decide) (hts _ tw_283) (fun _ h9 => h9) rfl dX2_takeBack_29 ?_
    refine va_iald hx hb hKN.1 hP 3 1 rfl rfl (vp_in_iff.mpr ⟨by omega, by omega⟩) dX2_takeBack_32 ?_
    refine lv_topi (fun x_7 ex_7 => ?_)
    refine lv_istore_n (lv' := [(1, .int x_7), (0, .ref h0)]) hx hb dX2_takeBack_33 rfl hl (by decide) rfl (fun ls hl => ?_)
    refine lv_aload_n hx hb dX2_takeBack_34 rfl (lv_at hl 1 rfl) ?_
    refine va_get (D := D) (ci := 2) (v := .ref e_qkinds) (C := RX2) (T := TX2) (N := 10) hx hb hts inX2 hown hKN.1 hP 0 rfl rfl 7 (by decide) (hts _ tw_287) (fun _ h9 => h9) rfl dX2_takeBack_35 ?_
    refine lv_aload_n hx hb dX2_takeBack_38 rfl (lv_at hl 1 rfl) ?_
    refine va_get (D := D) (ci := 2) (v := .int x_5) (C := RX2) (T := TX2) (N := 10) hx hb hts inX2 hown hKN.1 hP 0 rfl rfl 4 (by decide) (hts _ tw_283) (fun _ h9 => h9) rfl dX2_takeBack_39 ?_
    refine va_iald hx hb hKN.1 hP 1 1 rfl rfl (vp_in_iff.mpr ⟨by omega, by omega⟩) dX2_takeBack_42 ?_
    refine lv_topi (fun x_8 ex_8 => ?_)
    rcases (by omega : x_8.toInt = 0 ∨ x_8.toInt = 1 ∨ x_8.toInt = 2 ∨ x_8.toInt < 0 ∨ 2 < x_8.toInt) with c_9 | c_9 | c_9 | c_9
    · skip
      refine lv_tableIn (tgt := 68) hx hb dX2_takeBack_43 (by omega) (by omega) (by rw [c_9]; rfl) (by decide) ?_
      refine lv_aload_n hx hb dX2_takeBack_68 rfl (lv_at hl 1 rfl) ?_
      refine lv_aload_n hx hb dX2_takeBack_69 rfl (lv_at hl 1 rfl) ?_
      refine va_get (D := D) (ci := 2) (v := .ref e_qwhats) (C := RX2) (T := TX2) (N := 10) hx hb hts inX2 hown hKN.1 hP 0 rfl rfl 8 (by decide) (hts _ tw_288) (fun _ h9 => h9) rfl dX2_takeBack_70 ?_
      refine lv_aload_n hx hb dX2_takeBack_73 rfl (lv_at hl 1 rfl) ?_
      refine va_get (D := D) (ci := 2) (v := .int x_5) (C := RX2) (T := TX2) (N := 10) hx hb hts inX2 hown hKN.1 hP 0 rfl rfl 4 (by decide) (hts _ tw_283) (fun _ h9 => h9) rfl dX2_takeBack_74 ?_
      refine va_iald hx hb hKN.1 hP 2 1 rfl rfl (vp_in_iff.mpr ⟨by omega, by omega⟩) dX2_takeBack_77 ?_
      refine lv_topi (fun x_10 ex_10 => ?_)
      refine lv_iload_n hx hb dX2_takeBack_78 rfl (lv_at hl 0 rfl) ?_
      refine cmVv (rest := []) (wsC := [(h0, .inr (2, [.int e_latest, .int e_left, .int e_signed, .int e_met, .int x_5, .int e_start0, .int e_start1, .ref e_qkinds, .ref e_qwhats, .ref e_qbefores]))]) (wr := [(e_qkinds, .inl (cA 1, 60, .inl e_ckinds)), (e_qwhats, .inl (cA 1, 60, .inl e_cwhats)), (e_qbefores, .inl (cA 1, 60, .inl e_cbefores))]) ⟨hx, hb, hml, hown, hts⟩ hKN hP hD hS hA [0] [1, 2, 3] rfl rfl (by decide) (by decide) (by decide) (g_X2_setStart l D cA _ h0 e_latest e_left e_signed e_met x_5 e_start0 e_start1 e_qkinds e_qwhats e_qbefores x_10 x_7 (by omega)) (tb_V tw_1287 tw_1289 tw_33 tw_105 tw_1290) hdX2_setStart ⟨rfl, rfl, Nat.le_of_ble_eq_true rfl, Nat.le_of_ble_eq_true rfl⟩ ⟨Nat.le_of_ble_eq_true rfl, Nat.le_of_ble_eq_true rfl⟩ rfl rfl rfl hl.1 rfl (Nat.le_of_ble_eq_true rfl) dX2_takeBack_79 (fun u_11 H locs hr_11 hP hD hS => ?_)
      have hP : va_P D vwCl [(e_qkinds, .inl (cA 1, 60, .inl e_ckinds)), (e_qwhats, .inl (cA 1, 60, .inl e_cwhats)), (e_qbefores, .inl (cA 1, 60, .inl e_cbefores)), (h0, .inr (2, [.int e_latest, .int e_left, .int e_signed, .int e_met, .int x_5, .int (u_11.2.1 0), .int (u_11.2.1 1), .ref e_qkinds, .ref e_qwhats, .ref e_qbefores]))] H := hP
      have hD : va_D A [(e_qkinds, .inl (cA 1, 60, .inl e_ckinds)), (e_qwhats, .inl (cA 1, 60, .inl e_cwhats)), (e_qbefores, .inl (cA 1, 60, .inl e_cbefores)), (h0, .inr (2, [.int e_latest, .int e_left, .int e_signed, .int e_met, .int x_5, .int (u_11.2.1 0), .int (u_11.2.1 1), .ref e_qkinds, .ref e_qwhats, .ref e_qbefores]))] := hD
      refine lv_goto (tgt := 143) hx hb dX2_takeBack_82 (by decide) ?_
      have hP9 := hP.sub (ws' := [(h0, .inr (2, [.int e_latest, .int e_left, .int e_signed, .int e_met, .int x_5, .int (u_11.2.1 0), .int (u_11.2.1 1), .ref e_qkinds, .ref e_qwhats, .ref e_qbefores])), (e_qkinds, .inl (cA 1, 60, .inl e_ckinds)), (e_qwhats, .inl (cA 1, 60, .inl e_cwhats)), (e_qbefores, .inl (cA 1, 60, .inl e_cbefores))]) [3, 0, 1, 2] rfl
      have hD9 := hD.sub (ws' := [(h0, .inr (2, [.int e_latest, .int e_left, .int e_signed, .int e_met, .int x_5, .int (u_11.2.1 0), .int (u_11.2.1 1), .ref e_qkinds, .ref e_qwhats, .ref e_qbefores])), (e_qkinds, .inl (cA 1, 60, .inl e_ckinds)), (e_qwhats, .inl (cA 1, 60, .inl e_cwhats)), (e_qbefores, .inl (cA 1, 60, .inl e_cbefores))]) [3, 0, 1, 2] (by decide) rfl
      exact W.vret hx hb hr (fun t ht hW => ⟨⟨((fun _ => 0), (selI [e_latest, e_left, e_signed, e_met, x_5, (u_11.2.1 0), (u_11.2.1 1)]), (fun _ _ => 0), (fun _ _ => 0)), rfl, (show 0 ≤ x_5.toInt ∧ x_5.toInt ≤ 60 from by omega), by rw [ht]; exact hP9, hD9⟩, hS.F ht⟩) hS.2.2 dX2_takeBack_143
    · skip
      refine lv_tableIn (tgt := 85) hx hb dX2_takeBack_43 (by omega) (by omega) (by rw [c_9]; rfl) (by decide) ?_
      refine lv_aload_n hx hb dX2_takeBack_85 rfl (lv_at hl 1 rfl) ?_
      refine lv_iload_n hx hb dX2_takeBack_86 rfl (lv_at hl 0 rfl) ?_
      refine va_put (D := D) (ci := 2) (v := .int x_7) (ty := .int) (C := RX2) (T := TX2) (N := 10) hx hb hts inX2 tyX2 tyX2_ok nmX2 hown hKN.1 hP hD hS 0 rfl rfl 0 (by decide) (hts _ tw_275) (fun _ h9 => h9) rfl (by decide +kernel) rfl rfl (Nat.le_of_ble_eq_true rfl) dX2_takeBack_87 (fun H locs hP hD hS => ?_)
      have hP : va_P D vwCl [(h0, .inr (2, [.int x_7, .int e_left, .int e_signed, .int e_met, .int x_5, .int e_start0, .int e_start1, .ref e_qkinds, .ref e_qwhats, .ref e_qbefores])), (e_qkinds, .inl (cA 1, 60, .inl e_ckinds)), (e_qwhats, .inl (cA 1, 60, .inl e_cwhats)), (e_qbefores, .inl (cA 1, 60, .inl e_cbefores))] H := hP
      have hD : va_D A [(h0, .inr (2, [.int x_7, .int e_left, .int e_signed, .int e_met, .int x_5, .int e_start0, .int e_start1, .ref e_qkinds, .ref e_qwhats, .ref e_qbefores])), (e_qkinds, .inl (cA 1, 60, .inl e_ckinds)), (e_qwhats, .inl (cA 1, 60, .inl e_cwhats)), (e_qbefores, .inl (cA 1, 60, .inl e_cbefores))] := hD
      refine lv_aload_n hx hb dX2_takeBack_90 rfl (lv_at hl 1 rfl) ?_
      refine lv_iconst (v := (-1)) hx hb dX2_takeBack_91 (by decide) ?_
      refine va_put (D := D) (ci := 2) (v := .int (-1)) (ty := .int) (C := RX2) (T := TX2) (N := 10) hx hb hts inX2 tyX2 tyX2_ok nmX2 hown hKN.1 hP hD hS 0 rfl rfl 1 (by decide) (hts _ tw_277) (fun _ h9 => h9) rfl (by decide +kernel) rfl rfl (Nat.le_of_ble_eq_true rfl) dX2_takeBack_92 (fun H locs hP hD hS => ?_)
      have hP : va_P D vwCl [(h0, .inr (2, [.int x_7, .int (-1), .int e_signed, .int e_met, .int x_5, .int e_start0, .int e_start1, .ref e_qkinds, .ref e_qwhats, .ref e_qbefores])), (e_qkinds, .inl (cA 1, 60, .inl e_ckinds)), (e_qwhats, .inl (cA 1, 60, .inl e_cwhats)), (e_qbefores, .inl (cA 1, 60, .inl e_cbefores))] H := hP
      have hD : va_D A [(h0, .inr (2, [.int x_7, .int (-1), .int e_signed, .int e_met, .int x_5, .int e_start0, .int e_start1, .ref e_qkinds, .ref e_qwhats, .ref e_qbefores])), (e_qkinds, .inl (cA 1, 60, .inl e_ckinds)), (e_qwhats, .inl (cA 1, 60, .inl e_cwhats)), (e_qbefores, .inl (cA 1, 60, .inl e_cbefores))] := hD
      refine lv_aload_n hx hb dX2_takeBack_95 rfl (lv_at hl 1 rfl) ?_
      refine lv_dup hx hb dX2_takeBack_96 rfl ?_
      refine va_get (D := D) (ci := 2) (v := .int e_met) (C := RX2) (T := TX2) (N := 10) hx hb hts inX2 hown hKN.1 hP 0 rfl rfl 3 (by decide) (hts _ tw_281) (fun _ h9 => h9) rfl dX2_takeBack_97 ?_
      refine lv_iconst (v := 1) hx hb dX2_takeBack_100 (by decide) ?_
      refine lv_isub hx hb dX2_takeBack_101 ?_
      refine lv_topi (fun x_12 ex_12 => ?_)
      refine va_put (D := D) (ci := 2) (v := .int x_12) (ty := .int) (C := RX2) (T := TX2) (N := 10) hx hb hts inX2 tyX2 tyX2_ok nmX2 hown hKN.1 hP hD hS 0 rfl rfl 3 (by decide) (hts _ tw_281) (fun _ h9 => h9) rfl (by decide +kernel) rfl rfl (Nat.le_of_ble_eq_true rfl) dX2_takeBack_102 (fun H locs hP hD hS => ?_)
      have hP : va_P D vwCl [(h0, .inr (2, [.int x_7, .int (-1), .int e_signed, .int x_12, .int x_5, .int e_start0, .int e_start1, .ref e_qkinds, .ref e_qwhats, .ref e_qbefores])), (e_qkinds, .inl (cA 1, 60, .inl e_ckinds)), (e_qwhats, .inl (cA 1, 60, .inl e_cwhats)), (e_qbefores, .inl (cA 1, 60, .inl e_cbefores))] H := hP
      have hD : va_D A [(h0, .inr (2, [.int x_7, .int (-1), .int e_signed, .int x_12, .int x_5, .int e_start0, .int e_start1, .ref e_qkinds, .ref e_qwhats, .ref e_qbefores])), (e_qkinds, .inl (cA 1, 60, .inl e_ckinds)), (e_qwhats, .inl (cA 1, 60, .inl e_cwhats)), (e_qbefores, .inl (cA 1, 60, .inl e_cbefores))] := hD
      refine lv_goto (tgt := 143) hx hb dX2_takeBack_105 (by decide) ?_
      have hP9 := hP.sub (ws' := [(h0, .inr (2, [.int x_7, .int (-1), .int e_signed, .int x_12, .int x_5, .int e_start0, .int e_start1, .ref e_qkinds, .ref e_qwhats, .ref e_qbefores])), (e_qkinds, .inl (cA 1, 60, .inl e_ckinds)), (e_qwhats, .inl (cA 1, 60, .inl e_cwhats)), (e_qbefores, .inl (cA 1, 60, .inl e_cbefores))]) [0, 1, 2, 3] rfl
      have hD9 := hD.sub (ws' := [(h0, .inr (2, [.int x_7, .int (-1), .int e_signed, .int x_12, .int x_5, .int e_start0, .int e_start1, .ref e_qkinds, .ref e_qwhats, .ref e_qbefores])), (e_qkinds, .inl (cA 1, 60, .inl e_ckinds)), (e_qwhats, .inl (cA 1, 60, .inl e_cwhats)), (e_qbefores, .inl (cA 1, 60, .inl e_cbefores))]) [0, 1, 2, 3] (by decide) rfl
      exact W.vret hx hb hr (fun t ht hW => ⟨⟨((fun _ => 0), (selI [x_7, (-1), e_signed, x_12, x_5, e_start0, e_start1]), (fun _ _ => 0), (fun _ _ => 0)), rfl, (show 0 ≤ x_5.toInt ∧ x_5.toInt ≤ 60 from by omega), by rw [ht]; exact hP9, hD9⟩, hS.F ht⟩) hS.2.2 dX2_takeBack_143
    · skip
      refine lv_tableIn (tgt := 108) hx hb dX2_takeBack_43 (by omega) (by omega) (by rw [c_9]; rfl) (by decide) ?_
      refine lv_aload_n hx hb dX2_takeBack_108 rfl (lv_at hl 1 rfl) ?_
      refine lv_iload_n hx hb dX2_takeBack_109 rfl (lv_at hl 0 rfl) ?_
      refine va_put (D := D) (ci := 2) (v := .int x_7) (ty := .int) (C := RX2) (T := TX2) (N := 10) hx hb hts inX2 tyX2 tyX2_ok nmX2 hown hKN.1 hP hD hS 0 rfl rfl 1 (by decide) (hts _ tw_277) (fun _ h9 => h9) rfl (by decide +kernel) rfl rfl (Nat.le_of_ble_eq_true rfl) dX2_takeBack_110 (fun H locs hP hD hS => ?_)
      have hP : va_P D vwCl [(h0, .inr (2, [.int e_latest, .int x_7, .int e_signed, .int e_met, .int x_5, .int e_start0, .int e_start1, .ref e_qkinds, .ref e_qwhats, .ref e_qbefores])), (e_qkinds, .inl (cA 1, 60, .inl e_ckinds)), (e_qwhats, .inl (cA 1, 60, .inl e_cwhats)), (e_qbefores, .inl (cA 1, 60, .inl e_cbefores))] H := hP
      have hD : va_D A [(h0, .inr (2, [.int e_latest, .int x_7, .int e_signed, .int e_met, .int x_5, .int e_start0, .int e_start1, .ref e_qkinds, .ref e_qwhats, .ref e_qbefores])), (e_qkinds, .inl (cA 1, 60, .inl e_ckinds)), (e_qwhats, .inl (cA 1, 60, .inl e_cwhats)), (e_qbefores, .inl (cA 1, 60, .inl e_cbefores))] := hD
      refine lv_aload_n hx hb dX2_takeBack_113 rfl (lv_at hl 1 rfl) ?_
      refine lv_dup hx hb dX2_takeBack_114 rfl ?_
      refine va_get (D := D) (ci := 2) (v := .int e_signed) (C := RX2) (T := TX2) (N := 10) hx hb hts inX2 hown hKN.1 hP 0 rfl rfl 2 (by decide) (hts _ tw_279) (fun _ h9 => h9) rfl dX2_takeBack_115 ?_
      refine lv_iconst (v := 1) hx hb dX2_takeBack_118 (by decide) ?_
      refine lv_aload_n hx hb dX2_takeBack_119 rfl (lv_at hl 1 rfl) ?_
      refine va_get (D := D) (ci := 2) (v := .ref e_qwhats) (C := RX2) (T := TX2) (N := 10) hx hb hts inX2 hown hKN.1 hP 0 rfl rfl 8 (by decide) (hts _ tw_288) (fun _ h9 => h9) rfl dX2_takeBack_120 ?_
      refine lv_aload_n hx hb dX2_takeBack_123 rfl (lv_at hl 1 rfl) ?_
      refine va_get (D := D) (ci := 2) (v := .int x_5) (C := RX2) (T := TX2) (N := 10) hx hb hts inX2 hown hKN.1 hP 0 rfl rfl 4 (by decide) (hts _ tw_283) (fun _ h9 => h9) rfl dX2_takeBack_124 ?_
      refine va_iald hx hb hKN.1 hP 2 1 rfl rfl (vp_in_iff.mpr ⟨by omega, by omega⟩) dX2_takeBack_127 ?_
      refine lv_topi (fun x_14 ex_14 => ?_)
      refine lv_ishl hx hb dX2_takeBack_128 ?_
      refine lv_topi (fun x_15 ex_15 => ?_)
      refine lv_iconst (v := (-1)) hx hb dX2_takeBack_129 (by decide) ?_
      refine lv_ixor hx hb dX2_takeBack_130 ?_
      refine lv_topi (fun x_17 ex_17 => ?_)
      refine lv_iand hx hb dX2_takeBack_131 ?_
      refine lv_topi (fun x_19 ex_19 => ?_)
      refine va_put (D := D) (ci := 2) (v := .int x_19) (ty := .int) (C := RX2) (T := TX2) (N := 10) hx hb hts inX2 tyX2 tyX2_ok nmX2 hown hKN.1 hP hD hS 0 rfl rfl 2 (by decide) (hts _ tw_279) (fun _ h9 => h9) rfl (by decide +kernel) rfl rfl (Nat.le_of_ble_eq_true rfl) dX2_takeBack_132 (fun H locs hP hD hS => ?_)
      have hP : va_P D vwCl [(h0, .inr (2, [.int e_latest, .int x_7, .int x_19, .int e_met, .int x_5, .int e_start0, .int e_start1, .ref e_qkinds, .ref e_qwhats, .ref e_qbefores])), (e_qkinds, .inl (cA 1, 60, .inl e_ckinds)), (e_qwhats, .inl (cA 1, 60, .inl e_cwhats)), (e_qbefores, .inl (cA 1, 60, .inl e_cbefores))] H := hP
      have hD : va_D A [(h0, .inr (2, [.int e_latest, .int x_7, .int x_19, .int e_met, .int x_5, .int e_start0, .int e_start1, .ref e_qkinds, .ref e_qwhats, .ref e_qbefores])), (e_qkinds, .inl (cA 1, 60, .inl e_ckinds)), (e_qwhats, .inl (cA 1, 60, .inl e_cwhats)), (e_qbefores, .inl (cA 1, 60, .inl e_cbefores))] := hD
      refine lv_goto (tgt := 143) hx hb dX2_takeBack_135 (by decide) ?_
      have hP9 := hP.sub (ws' := [(h0, .inr (2, [.int e_latest, .int x_7, .int x_19, .int e_met, .int x_5, .int e_start0, .int e_start1, .ref e_qkinds, .ref e_qwhats, .ref e_qbefores])), (e_qkinds, .inl (cA 1, 60, .inl e_ckinds)), (e_qwhats, .inl (cA 1, 60, .inl e_cwhats)), (e_qbefores, .inl (cA 1, 60, .inl e_cbefores))]) [0, 1, 2, 3] rfl
      have hD9 := hD.sub (ws' := [(h0, .inr (2, [.int e_latest, .int x_7, .int x_19, .int e_met, .int x_5, .int e_start0, .int e_start1, .ref e_qkinds, .ref e_qwhats, .ref e_qbefores])), (e_qkinds, .inl (cA 1, 60, .inl e_ckinds)), (e_qwhats, .inl (cA 1, 60, .inl e_cwhats)), (e_qbefores, .inl (cA 1, 60, .inl e_cbefores))]) [0, 1, 2, 3] (by decide) rfl
      exact W.vret hx hb hr (fun t ht hW => ⟨⟨((fun _ => 0), (selI [e_latest, x_7, x_19, e_met, x_5, e_start0, e_start1]), (fun _ _ => 0), (fun _ _ => 0)), rfl, (show 0 ≤ x_5.toInt ∧ x_5.toInt ≤ 60 from by omega), by rw [ht]; exact hP9, hD9⟩, hS.F ht⟩) hS.2.2 dX2_takeBack_143
    · skip
      refine lv_tableOut (tgt := 138) hx hb dX2_takeBack_43 c_9 (by decide) ?_
      refine lv_aload_n hx hb dX2_takeBack_138 rfl (lv_at hl 1 rfl) ?_
      refine lv_iload_n hx hb dX2_takeBack_139 rfl (lv_at hl 0 rfl) ?_
      refine va_put (D := D) (ci := 2) (v := .int x_7) (ty := .int) (C := RX2) (T := TX2) (N := 10) hx hb hts inX2 tyX2 tyX2_ok nmX2 hown hKN.1 hP hD hS 0 rfl rfl 1 (by decide) (hts _ tw_277) (fun _ h9 => h9) rfl (by decide +kernel) rfl rfl (Nat.le_of_ble_eq_true rfl) dX2_takeBack_140 (fun H locs hP hD hS => ?_)
      have hP : va_P D vwCl [(h0, .inr (2, [.int e_latest, .int x_7, .int e_signed, .int e_met, .int x_5, .int e_start0, .int e_start1, .ref e_qkinds, .ref e_qwhats, .ref e_qbefores])), (e_qkinds, .inl (cA 1, 60, .inl e_ckinds)), (e_qwhats, .inl (cA 1, 60, .inl e_cwhats)), (e_qbefores, .inl (cA 1, 60, .inl e_cbefores))] H := hP
      have hD : va_D A [(h0, .inr (2, [.int e_latest, .int x_7, .int e_signed, .int e_met, .int x_5, .int e_start0, .int e_start1, .ref e_qkinds, .ref e_qwhats, .ref e_qbefores])), (e_qkinds, .inl (cA 1, 60, .inl e_ckinds)), (e_qwhats, .inl (cA 1, 60, .inl e_cwhats)), (e_qbefores, .inl (cA 1, 60, .inl e_cbefores))] := hD
      have hP9 := hP.sub (ws' := [(h0, .inr (2, [.int e_latest, .int x_7, .int e_signed, .int e_met, .int x_5, .int e_start0, .int e_start1, .ref e_qkinds, .ref e_qwhats, .ref e_qbefores])), (e_qkinds, .inl (cA 1, 60, .inl e_ckinds)), (e_qwhats, .inl (cA 1, 60, .inl e_cwhats)), (e_qbefores, .inl (cA 1, 60, .inl e_cbefores))]) [0, 1, 2, 3] rfl
      have hD9 := hD.sub (ws' := [(h0, .inr (2, [.int e_latest, .int x_7, .int e_signed, .int e_met, .int x_5, .int e_start0, .int e_start1, .ref e_qkinds, .ref e_qwhats, .ref e_qbefores])), (e_qkinds, .inl (cA 1, 60, .inl e_ckinds)), (e_qwhats, .inl (cA 1, 60, .inl e_cwhats)), (e_qbefores, .inl (cA 1, 60, .inl e_cbefores))]) [0, 1, 2, 3] (by decide) rfl
      exact W.vret hx hb hr (fun t ht hW => ⟨⟨((fun _ => 0), (selI [e_latest, x_7, e_signed, e_met, x_5, e_start0, e_start1]), (fun _ _ => 0), (fun _ _ => 0)), rfl, (show 0 ≤ x_5.toInt ∧ x_5.toInt ≤ 60 from by omega), by rw [ht]; exact hP9, hD9⟩, hS.F ht⟩) hS.2.2 dX2_takeBack_143
  · skip
    refine lv_if_ne (tgt := 14) hx hb dX2_takeBack_10 (by decide) (fun c_21 => absurd (by decide) c_21) (fun c_21 => ?_)
    have hP9 := hP.sub (ws' := [(h0, .inr (2, [.int e_latest, .int e_left, .int e_signed, .int e_met, .int e_acts, .int e_start0, .int e_start1, .ref e_qkinds, .ref e_qwhats, .ref e_qbefores])), (e_qkinds, .inl (cA 1, 60, .inl e_ckinds)), (e_qwhats, .inl (cA 1, 60, .inl e_cwhats)), (e_qbefores, .inl (cA 1, 60, .inl e_cbefores))]) [0, 1, 2, 3] rfl
    have hD9 := hD.sub (ws' := [(h0, .inr (2, [.int e_latest, .int e_left, .int e_signed, .int e_met, .int e_acts, .int e_start0, .int e_start1, .ref e_qkinds, .ref e_qwhats, .ref e_qbefores])), (e_qkinds, .inl (cA 1, 60, .inl e_ckinds)), (e_qwhats, .inl (cA 1, 60, .inl e_cwhats)), (e_qbefores, .inl (cA 1, 60, .inl e_cbefores))]) [0, 1, 2, 3] (by decide) rfl
    exact W.vret hx hb hr (fun t ht hW => ⟨⟨((fun _ => 0), (selI [e_latest, e_left, e_signed, e_met, e_acts, e_start0, e_start1]), (fun _ _ => 0), (fun _ _ => 0)), rfl, (show 0 ≤ e_acts.toInt ∧ e_acts.toInt ≤ 60 from by omega), by rw [ht]; exact hP9, hD9⟩, hS.F ht⟩) hS.2.2 dX2_takeBack_13
set_option maxHeartbeats 8000000 in
set_option maxRecDepth 100000 in
theorem g_X9_hasRoom (l : Launch) (D : va_G) (cA : Nat → ClassId) (h0 : Nat) (t_qbytes : Nat) (t_length : Int32) (p0 : Int32) (h_t_length : 0 ≤ (t_length : Int32).toInt ∧ (t_length : Int32).toInt ≤ 800) : Met l yX9_hasRoom (Cond.code yX9_hasRoom cX9_hasRoom 2 (some .boolean) :: TB) (rmd 0 0 0) (PP D cA [(h0, .inr (9, [.ref t_qbytes, .int t_length]))] [.ref h0, .int p0]) (vp_Si (fun r => 0 ≤ r.toInt ∧ r.toInt ≤ 1)) 0 0 (fun _ => False) := by
  refine Met.ofW (cc := cX9_hasRoom) (maxL := 2) (ret := (some .boolean)) (by decide) rfl ?_
  intro p e s m args below meth c s₁ B hml hv
  obtain ⟨rfl, hP, hKN⟩ := hv
  have hx := B.exec
  have hb := B.bytes
  have hr := B.returns
  have hts : ∀ w ∈ TB, w.before _ s = true := fun w h => atoms_spec B.pre w (List.mem_cons_of_mem _ h)
  have hown : s.vm.findClass RX9 = some m.cls := findClass_of_methodNamed B.named
  have hlocks := B.notSynchronized
  have hl := lv_entry ([.ref h0, .int p0]) (n := 2) (Nat.le_of_ble_eq_true rfl)
  rw [lg_entry_eq]
  generalize (lg_sl ([.ref h0, .int p0]) ++ List.replicate (2 - (lg_sl ([.ref h0, .int p0])).length) Slot.unset).toArray = ls at hl ⊢
  have hl : lv_has ls 2 [(0, .ref h0), (1, .int p0)] := hl
  refine lv_aload_n hx hb dX9_hasRoom_0 rfl (lv_at hl 0 rfl) ?_
  refine va_get (D := D) (ci := 9) (v := .int t_length) (C := RX9) (T := TX9) (N := 2) hx hb hts inX9 hown hKN.1 hP 0 rfl rfl 1 (by decide) (hts _ tw_137) (fun _ h9 => h9) rfl dX9_hasRoom_1 ?_
  refine lv_iload_n hx hb dX9_hasRoom_4 rfl (lv_at hl 1 rfl) ?_
  refine lv_iadd hx hb dX9_hasRoom_5 ?_
  refine lv_topi (fun x_1 ex_1 => ?_)
  refine lv_sipush (v := 800) hx hb dX9_hasRoom_6 (by decide) ?_
  refine lv_icmp_gt (tgt := 16) hx hb dX9_hasRoom_9 (by decide) (fun c_3 => ?_) (fun c_3 => ?_)
  · skip
    have b_5 := i32_bd x_1
    have k_4 := kk_lt zi_800 rfl c_3
    refine lv_iconst (v := 0) hx hb dX9_hasRoom_16 (by decide) ?_
    exact W.zret (v := 0) hx hb hr (by decide) (fun t ht hW => ⟨0, rfl, (show 0 ≤ (0 : Int32).toInt ∧ (0 : Int32).toInt ≤ 1 from by decide), ht⟩) (fun _ h => by cases h) dX9_hasRoom_17
  · skip
    have b_7 := i32_bd x_1
    have k_6 := kk_nlt zi_800 rfl c_3
    refine lv_iconst (v := 1) hx hb dX9_hasRoom_12 (by decide) ?_
    refine lv_goto (tgt := 17) hx hb dX9_hasRoom_13 (by decide) ?_
    exact W.zret (v := 1) hx hb hr (by decide) (fun t ht hW => ⟨1, rfl, (show 0 ≤ (1 : Int32).toInt ∧ (1 : Int32).toInt ≤ 1 from by decide), ht⟩) (fun _ h => by cases h) dX9_hasRoom_17
set_option maxHeartbeats 8000000 in
set_option maxRecDepth 100000 in
theorem g_X9_append (l : Launch) (D : va_G) (cA : Nat → ClassId) (sz : Nat) (h0 : Nat) (t_qbytes : Nat) (t_length : Int32) (t_cbytes : Nat → Int32) (p0 : Int32) (h_t_length : 0 ≤ (t_length : Int32).toInt ∧ (t_length : Int32).toInt ≤ 800) : Met l yX9_append (Cond.code yX9_append cX9_append 3 none :: TB) (rmd 0 0 0) (PM D cA sz [(h0, .inr (9, [.ref t_qbytes, .int t_length])), (t_qbytes, .inl (cA 0, 800, .inl t_cbytes))] [.ref h0, .int p0]) (va_Qv (fun (u : SU) => (0 ≤ (u.2.1 0).toInt ∧ (u.2.1 0).toInt ≤ 800)) (fun u t => va_P D vwCl [(h0, .inr (9, [.ref t_qbytes, .int (u.2.1 0)])), (t_qbytes, .inl (cA 0, 800, .inl (u.2.2.1 0)))] t.heap ∧ va_D (va_A [(h0, .inr (9, [.ref t_qbytes, .int t_length])), (t_qbytes, .inl (cA 0, 800, .inl t_cbytes))] sz) [(h0, .inr (9, [.ref t_qbytes, .int (u.2.1 0)])), (t_qbytes, .inl (cA 0, 800, .inl (u.2.2.1 0)))]) (va_A [(h0, .inr (9, [.ref t_qbytes, .int t_length])), (t_qbytes, .inl (cA 0, 800, .inl t_cbytes))] sz)) 0 0 (va_A [(h0, .inr (9, [.ref t_qbytes, .int t_length])), (t_qbytes, .inl (cA 0, 800, .inl t_cbytes))] sz) := by
  refine Met.ofW (cc := cX9_append) (maxL := 3) (ret := none) (by decide) rfl ?_
  intro p e s m args below meth c s₁ B hml hv
  obtain ⟨rfl, hsz, hP, hKN, hD0⟩ := hv
  have hx := B.exec
  have hb := B.bytes
  have hr := B.returns
  have hts : ∀ w ∈ TB, w.before _ s = true := fun w h => atoms_spec B.pre w (List.mem_cons_of_mem _ h)
  have hown : s.vm.findClass RX9 = some m.cls := findClass_of_methodNamed B.named
  have hlocks := B.notSynchronized
  subst hsz
  have hD := hD0.self (sz := s.heap.size)
  generalize hAe : va_A [(h0, .inr (9, [.ref t_qbytes, .int t_length])), (t_qbytes, .inl (cA 0, 800, .inl t_cbytes))] s.heap.size = A at hD ⊢
  have hA : ∀ q : Nat, s.heap.size ≤ q → A q := fun q h => by rw [← hAe]; exact Or.inr h
  have hS : va_S A s.heap s.heap [] := va_S.rf
  have hl := lv_entry ([.ref h0, .int p0]) (n := 3) (Nat.le_of_ble_eq_true rfl)
  rw [lg_entry_eq]
  generalize (lg_sl ([.ref h0, .int p0]) ++ List.replicate (3 - (lg_sl ([.ref h0, .int p0])).length) Slot.unset).toArray = ls at hl ⊢
  have hl : lv_has ls 3 [(0, .ref h0), (1, .int p0)] := hl
  refine lv_bipush (v := 24) hx hb dX9_append_0 (by decide) ?_
  refine lv_istore_n (lv' := [(2, .int 24), (0, .ref h0), (1, .int p0)]) hx hb dX9_append_2 rfl hl (by decide) rfl (fun ls hl => ?_)
  refine loopW (σ := Int32 × Int32 × (Nat → Int32)) (fun _ => []) (fun ⟨L2_103, F1_103, F2_103⟩ H locs ls => (-8 ≤ L2_103.toInt ∧ L2_103.toInt ≤ 24) ∧ (0 ≤ F1_103.toInt ∧ F1_103.toInt ≤ 800) ∧ va_P D vwCl [(h0, .inr (9, [.ref t_qbytes, .int F1_103])), (t_qbytes, .inl (cA 0, 800, .inl F2_103))] H ∧ va_D A [(h0, .inr (9, [.ref t_qbytes, .int F1_103])), (t_qbytes, .inl (cA 0, 800, .inl F2_103))] ∧ va_S A s.heap H locs ∧ lv_has ls 3 [(2, .int L2_103), (0, .ref h0), (1, .int p0)]) (fun ⟨L2_103, F1_103, F2_103⟩ => (L2_103.toInt + 2147483648).toNat) ?_ ((24, t_length, t_cbytes) : Int32 × Int32 × (Nat → Int32)) ⟨(by decide), (show 0 ≤ t_length.toInt ∧ t_length.toInt ≤ 800 from by omega), hP, hD, hS, hl⟩
  intro x_103 H locs ls hI_103 ih_103
  obtain ⟨L2_103, F1_103, F2_103⟩ := x_103
  obtain ⟨k0_103, k1_103, hP, hD, hS, hl⟩ := hI_103
  have hP : va_P D vwCl [(h0, .inr (9, [.ref t_qbytes, .int F1_103])), (t_qbytes, .inl (cA 0, 800, .inl F2_103))] H := hP
  have hD : va_D A [(h0, .inr (9, [.ref t_qbytes, .int F1_103])), (t_qbytes, .inl (cA 0, 800, .inl F2_103))] := hD
  have hl : lv_has ls 3 [(2, .int L2_103), (0, .ref h0), (1, .int p0)] := hl
  refine lv_iload_n hx hb dX9_append_3 rfl (lv_at hl 0 rfl) ?_
  refine lv_if_lt (tgt := 46) hx hb dX9_append_4 (by decide) (fun c_104 => ?_) (fun c_104 => ?_)
  · skip
    have k_105 := kk_lt rfl zi_0 c_104
    have hP9 := hP.sub (ws' := [(h0, .inr (9, [.ref t_qbytes, .int F1_103])), (t_qbytes, .inl (cA 0, 800, .inl F2_103))]) [0, 1] rfl
    have hD9 := hD.sub (ws' := [(h0, .inr (9, [.ref t_qbytes, .int F1_103])), (t_qbytes, .inl (cA 0, 800, .inl F2_103))]) [0, 1] (by decide) rfl
    exact W.vret hx hb hr (fun t ht hW => ⟨⟨((fun _ => 0), (selI [F1_103]), (selF [F2_103]), (fun _ _ => 0)), rfl, (show 0 ≤ F1_103.toInt ∧ F1_103.toInt ≤ 800 from by omega), by rw [ht]; exact hP9, hD9⟩, hS.F ht⟩) hS.2.2 dX9_append_46
  · skip
    have k_106 := kk_nlt rfl zi_0 c_104
    refine lv_aload_n hx hb dX9_append_7 rfl (lv_at hl 1 rfl) ?_
    refine va_get (D := D) (ci := 9) (v := .int F1_103) (C := RX9) (T := TX9) (N := 2) hx hb hts inX9 hown hKN.1 hP 0 rfl rfl 1 (by decide) (hts _ tw_137) (fun _ h9 => h9) rfl dX9_append_8 ?_
    refine lv_sipush (v := 800) hx hb dX9_append_11 (by decide) ?_
    refine lv_icmp_ge (tgt := 40) hx hb dX9_append_14 (by decide) (fun c_107 => ?_) (fun c_107 => ?_)
    · skip
      have k_108 := kk_le zi_800 rfl c_107
      obtain ⟨x_109, ex_109⟩ : ∃ y : Int32, L2_103 + Int32.ofInt (-8) = y := ⟨_, rfl⟩
      have k_110 := ar_add (b := (-8)) rfl zi_m8 ex_109.symm (by omega) (by omega)
      refine lv_iinc (v := x_109) (lv' := [(2, .int x_109), (0, .ref h0), (1, .int p0)]) hx hb dX9_append_40 hl (k := 0) rfl ex_109 (by decide) rfl (fun ls hl => ?_)
      refine lv_goto (tgt := 3) hx hb dX9_append_43 (by decide) ?_
      exact ih_103 (x_109, F1_103, F2_103) _ _ _ ⟨(show -8 ≤ x_109.toInt ∧ x_109.toInt ≤ 24 from by omega), (show 0 ≤ F1_103.toInt ∧ F1_103.toInt ≤ 800 from by omega), hP.sub [0, 1] rfl, hD.sub [0, 1] (by decide) rfl, hS, lv_sub hl [0, 1, 2] rfl⟩ (by show (x_109.toInt + 2147483648).toNat < (L2_103.toInt + 2147483648).toNat; omega)
    · skip
      have k_111 := kk_nle zi_800 rfl c_107
      refine lv_aload_n hx hb dX9_append_17 rfl (lv_at hl 1 rfl) ?_
      refine va_get (D := D) (ci := 9) (v := .ref t_qbytes) (C := RX9) (T := TX9) (N := 2) hx hb hts inX9 hown hKN.1 hP 0 rfl rfl 0 (by decide) (hts _ tw_136) (fun _ h9 => h9) rfl dX9_append_18 ?_
      refine lv_aload_n hx hb dX9_append_21 rfl (lv_at hl 1 rfl) ?_
      refine va_get (D := D) (ci := 9) (v := .int F1_103) (C := RX9) (T := TX9) (N := 2) hx hb hts inX9 hown hKN.1 hP 0 rfl rfl 1 (by decide) (hts _ tw_137) (fun _ h9 => h9) rfl dX9_append_22 ?_
      refine lv_iload_n hx hb dX9_append_25 rfl (lv_at hl 2 rfl) ?_
      refine lv_iload_n hx hb dX9_append_26 rfl (lv_at hl 0 rfl) ?_
      refine lv_ishr hx hb dX9_append_27 ?_
      refine lv_topi (fun x_112 ex_112 => ?_)
      obtain ⟨x_114, ex_114⟩ : ∃ y, x_112.toInt8.toInt32 = y := ⟨_, rfl⟩
      refine lv_i2b (v := x_114) hx hb dX9_append_28 ex_114 ?_
      refine va_bast hx hb hKN.1 hP hD hS 1 0 rfl rfl (vp_in_iff.mpr ⟨by omega, by omega⟩) dX9_append_29 (fun H locs hP hD hS => ?_)
      have hP : va_P D vwCl [(h0, .inr (9, [.ref t_qbytes, .int F1_103])), (t_qbytes, .inl (cA 0, 800, .inl (upd F2_103 F1_103.toNatClampNeg (vp_nar .byte x_114))))] H := hP
      have hD : va_D A [(h0, .inr (9, [.ref t_qbytes, .int F1_103])), (t_qbytes, .inl (cA 0, 800, .inl (upd F2_103 F1_103.toNatClampNeg (vp_nar .byte x_114))))] := hD
      generalize ef_115 : (upd F2_103 F1_103.toNatClampNeg (vp_nar .byte x_114)) = f_115 at hP hD
      refine lv_aload_n hx hb dX9_append_30 rfl (lv_at hl 1 rfl) ?_
      refine lv_dup hx hb dX9_append_31 rfl ?_
      refine va_get (D := D) (ci := 9) (v := .int F1_103) (C := RX9) (T := TX9) (N := 2) hx hb hts inX9 hown hKN.1 hP 0 rfl rfl 1 (by decide) (hts _ tw_137) (fun _ h9 => h9) rfl dX9_append_32 ?_
      refine lv_iconst (v := 1) hx hb dX9_append_35 (by decide) ?_
      refine lv_iadd hx hb dX9_append_36 ?_
      refine lv_topi (fun x_116 ex_116 => ?_)
      have k_117 := ar_add rfl zi_1 ex_116 (by omega) (by omega)
      refine va_put (D := D) (ci := 9) (v := .int x_116) (ty := .int) (C := RX9) (T := TX9) (N := 2) hx hb hts inX9 tyX9 tyX9_ok nmX9 hown hKN.1 hP hD hS 0 rfl rfl 1 (by decide) (hts _ tw_137) (fun _ h9 => h9) rfl (by decide +kernel) rfl rfl (Nat.le_of_ble_eq_true rfl) dX9_append_37 (fun H locs hP hD hS => ?_)
      have hP : va_P D vwCl [(h0, .inr (9, [.ref t_qbytes, .int x_116])), (t_qbytes, .inl (cA 0, 800, .inl f_115))] H := hP
      have hD : va_D A [(h0, .inr (9, [.ref t_qbytes, .int x_116])), (t_qbytes, .inl (cA 0, 800, .inl f_115))] := hD
      obtain ⟨x_118, ex_118⟩ : ∃ y : Int32, L2_103 + Int32.ofInt (-8) = y := ⟨_, rfl⟩
      have k_119 := ar_add (b := (-8)) rfl zi_m8 ex_118.symm (by omega) (by omega)
      refine lv_iinc (v := x_118) (lv' := [(2, .int x_118), (0, .ref h0), (1, .int p0)]) hx hb dX9_append_40 hl (k := 0) rfl ex_118 (by decide) rfl (fun ls hl => ?_)
      refine lv_goto (tgt := 3) hx hb dX9_append_43 (by decide) ?_
      exact ih_103 (x_118, x_116, f_115) _ _ _ ⟨(show -8 ≤ x_118.toInt ∧ x_118.toInt ≤ 24 from by omega), (show 0 ≤ x_116.toInt ∧ x_116.toInt ≤ 800 from by omega), hP.sub [0, 1] rfl, hD.sub [0, 1] (by decide) rfl, hS, lv_sub hl [0, 1, 2] rfl⟩ (by show (x_118.toInt + 2147483648).toNat < (L2_103.toInt + 2147483648).toNat; omega)
set_option maxHeartbeats 8000000 in
set_option maxRecDepth 100000 in
theorem g_X9_byteAt (l : Launch) (D : va_G) (cA : Nat → ClassId) (h0 : Nat) (t_qbytes : Nat) (t_length : Int32) (t_cbytes : Nat → Int32) (p0 : Int32) (h_t_length : 0 ≤ (t_length : Int32).toInt ∧ (t_length : Int32).toInt ≤ 800) : Met l yX9_byteAt (Cond.code yX9_byteAt cX9_byteAt 2 (some .int) :: TB) (rmd 0 0 0) (PP D cA [(h0, .inr (9, [.ref t_qbytes, .int t_length])), (t_qbytes, .inl (cA 0, 800, .inl t_cbytes))] [.ref h0, .int p0]) (vp_Si (fun r => -1 ≤ r.toInt ∧ r.toInt ≤ 255)) 0 0 (fun _ => False) := by
  refine Met.ofW (cc := cX9_byteAt) (maxL := 2) (ret := (some .int)) (by decide) rfl ?_
  intro p e s m args below meth c s₁ B hml hv
  obtain ⟨rfl, hP, hKN⟩ := hv
  have hx := B.exec
  have hb := B.bytes
  have hr := B.returns
  have hts : ∀ w ∈ TB, w.before _ s = true := fun w h => atoms_spec B.pre w (List.mem_cons_of_mem _ h)
  have hown : s.vm.findClass RX9 = some m.cls := findClass_of_methodNamed B.named
  have hlocks := B.notSynchronized
  have hl := lv_entry ([.ref h0, .int p0]) (n := 2) (Nat.le_of_ble_eq_true rfl)
  rw [lg_entry_eq]
  generalize (lg_sl ([.ref h0, .int p0]) ++ List.replicate (2 - (lg_sl ([.ref h0, .int p0])).length) Slot.unset).toArray = ls at hl ⊢
  have hl : lv_has ls 2 [(0, .ref h0), (1, .int p0)] := hl
  refine lv_iload_n hx hb dX9_byteAt_0 rfl (lv_at hl 1 rfl) ?_
  refine lv_if_lt (tgt := 32) hx hb dX9_byteAt_1 (by decide) (fun c_1 => ?_) (fun c_1 => ?_)
  · skip
    have b_3 := i32_bd p0
    have k_2 := kk_lt rfl zi_0 c_1
    refine lv_iconst (v := (-1)) hx hb dX9_byteAt_32 (by decide) ?_
    exact W.iret (v := (-1)) hx hb hr (fun t ht hW => ⟨(-1), rfl, (show -1 ≤ ((-1) : Int32).toInt ∧ ((-1) : Int32).toInt ≤ 255 from by decide), ht⟩) (fun _ h => by cases h) dX9_byteAt_33
  · skip
    have b_5 := i32_bd p0
    have k_4 := kk_nlt rfl zi_0 c_1
    refine lv_iload_n hx hb dX9_byteAt_4 rfl (lv_at hl 1 rfl) ?_
    refine lv_aload_n hx hb dX9_byteAt_5 rfl (lv_at hl 0 rfl) ?_
    refine va_get (D := D) (ci := 9) (v := .int t_length) (C := RX9) (T := TX9) (N := 2) hx hb hts inX9 hown hKN.1 hP 0 rfl rfl 1 (by decide) (hts _ tw_137) (fun _ h9 => h9) rfl dX9_byteAt_6 ?_
    refine lv_icmp_ge (tgt := 32) hx hb dX9_byteAt_9 (by decide) (fun c_6 => ?_) (fun c_6 => ?_)
    · skip
      have k_7 := kk_le rfl rfl c_6
      refine lv_iconst (v := (-1)) hx hb dX9_byteAt_32 (by decide) ?_
      exact W.iret (v := (-1)) hx hb hr (fun t ht hW => ⟨(-1), rfl, (show -1 ≤ ((-1) : Int32).toInt ∧ ((-1) : Int32).toInt ≤ 255 from by decide), ht⟩) (fun _ h => by cases h) dX9_byteAt_33
    · skip
      have k_8 := kk_nle rfl rfl c_6
      refine lv_iload_n hx hb dX9_byteAt_12 rfl (lv_at hl 1 rfl) ?_
      refine lv_sipush (v := 800) hx hb dX9_byteAt_13 (by decide) ?_
      refine lv_icmp_ge (tgt := 32) hx hb dX9_byteAt_16 (by decide) (fun c_9 => ?_) (fun c_9 => ?_)
      · skip
        have k_10 := kk_le zi_800 rfl c_9
        exfalso; omega
      · skip
        have k_11 := kk_nle zi_800 rfl c_9
        refine lv_aload_n hx hb dX9_byteAt_19 rfl (lv_at hl 0 rfl) ?_
        refine va_get (D := D) (ci := 9) (v := .ref t_qbytes) (C := RX9) (T := TX9) (N := 2) hx hb hts inX9 hown hKN.1 hP 0 rfl rfl 0 (by decide) (hts _ tw_136) (fun _ h9 => h9) rfl dX9_byteAt_20 ?_
        refine lv_iload_n hx hb dX9_byteAt_23 rfl (lv_at hl 1 rfl) ?_
        refine va_bald hx hb hKN.1 hP 1 0 rfl rfl (vp_in_iff.mpr ⟨by omega, by omega⟩) dX9_byteAt_24 ?_
        refine lv_topi (fun x_12 ex_12 => ?_)
        refine lv_sipush (v := 255) hx hb dX9_byteAt_25 (by decide) ?_
        refine lv_iand hx hb dX9_byteAt_28 ?_
        refine lv_topi (fun x_13 ex_13 => ?_)
        have k_14 := ar_andR zi_255 ex_13 (by omega)
        refine lv_goto (tgt := 33) hx hb dX9_byteAt_29 (by decide) ?_
        exact W.iret (v := x_13) hx hb hr (fun t ht hW => ⟨x_13, rfl, (show -1 ≤ x_13.toInt ∧ x_13.toInt ≤ 255 from by omega), ht⟩) (fun _ h => by cases h) dX9_byteAt_33
set_option maxHeartbeats 8000000 in
set_option maxRecDepth 100000 in
theorem g_X7_has (l : Launch) (D : va_G) (cA : Nat → ClassId) (h0 : Nat) (s_qsizes : Nat) (s_qwidths : Nat) (s_qnumbers : Nat) (p0 : Int32) : Met l yX7_has (Cond.code yX7_has cX7_has 2 (some .boolean) :: TB) (rmd 0 0 0) (PP D cA [(h0, .inr (7, [.ref s_qsizes, .ref s_qwidths, .ref s_qnumbers]))] [.ref h0, .int p0]) (vp_Si (fun r => ((0 ≤ (p0 : Int32).toInt) ∧ ((p0 : Int32).toInt < 4) ∧ (r = 1)) ∨ (((p0 : Int32).toInt < 0 ∨ 4 ≤ (p0 : Int32).toInt) ∧ (r = 0)))) 0 0 (fun _ => False) := by
  refine Met.ofW (cc := cX7_has) (maxL := 2) (ret := (some .boolean)) (by decide) rfl ?_
  intro p e s m args below meth c s₁ B hml hv
  obtain ⟨rfl, hP, hKN⟩ := hv
  have hx := B.exec
  have hb := B.bytes
  have hr := B.returns
  have hts : ∀ w ∈ TB, w.before _ s = true := fun w h => atoms_spec B.pre w (List.mem_cons_of_mem _ h)
  have hown : s.vm.findClass RX7 = some m.cls := findClass_of_methodNamed B.named
  have hlocks := B.notSynchronized
  have hl := lv_entry ([.ref h0, .int p0]) (n := 2) (Nat.le_of_ble_eq_true rfl)
  rw [lg_entry_eq]
  generalize (lg_sl ([.ref h0, .int p0]) ++ List.replicate (2 - (lg_sl ([.ref h0, .int p0])).length) Slot.unset).toArray = ls at hl ⊢
  have hl : lv_has ls 2 [(0, .ref h0), (1, .int p0)] := hl
  refine lv_iload_n hx hb dX7_has_0 rfl (lv_at hl 1 rfl) ?_
  refine lv_if_lt (tgt := 13) hx hb dX7_has_1 (by decide) (fun c_1 => ?_) (fun c_1 => ?_)
  · skip
    have b_3 := i32_bd p0
    have k_2 := kk_lt rfl zi_0 c_1
    refine lv_iconst (v := 0) hx hb dX7_has_13 (by decide) ?_
    exact W.zret (v := 0) hx hb hr (by decide) (fun t ht hW => ⟨0, rfl, (Or.inr (⟨(by first | omega | assumption), rfl⟩)), ht⟩) (fun _ h => by cases h) dX7_has_14
  · skip
    have b_5 := i32_bd p0
    have k_4 := kk_nlt rfl zi_0 c_1
    refine lv_iload_n hx hb dX7_has_4 rfl (lv_at hl 1 rfl) ?_
    refine lv_iconst (v := 4) hx hb dX7_has_5 (by decide) ?_
    refine lv_icmp_ge (tgt := 13) hx hb dX7_has_6 (by decide) (fun c_6 => ?_) (fun c_6 => ?_)
    · skip
      have k_7 := kk_le zi_4 rfl c_6
      refine lv_iconst (v := 0) hx hb dX7_has_13 (by decide) ?_
      exact W.zret (v := 0) hx hb hr (by decide) (fun t ht hW => ⟨0, rfl, (Or.inr (⟨(by first | omega | assumption), rfl⟩)), ht⟩) (fun _ h => by cases h) dX7_has_14
    · skip
      have k_8 := kk_nle zi_4 rfl c_6
      refine lv_iconst (v := 1) hx hb dX7_has_9 (by decide) ?_
      refine lv_goto (tgt := 14) hx hb dX7_has_10 (by decide) ?_
      exact W.zret (v := 1) hx hb hr (by decide) (fun t ht hW => ⟨1, rfl, (Or.inl (⟨(by first | omega | assumption), (by first | omega | assumption), rfl⟩)), ht⟩) (fun _ h => by cases h) dX7_has_14
set_option maxHeartbeats 8000000 in
set_option maxRecDepth 100000 in
theorem g_X7_sizeOf (l : Launch) (D : va_G) (cA : Nat → ClassId) (h0 : Nat) (s_qsizes : Nat) (s_qwidths : Nat) (s_qnumbers : Nat) (s_csizes : Nat → Int32) (p0 : Int32) (a_s_csizes_0 : AR (-1) 60 s_csizes) : Met l yX7_sizeOf (Cond.code yX7_sizeOf cX7_sizeOf 2 (some .int) :: TB) (rmd 1 0 0) (PP D cA [(h0, .inr (7, [.ref s_qsizes, .ref s_qwidths, .ref s_qnumbers])), (s_qsizes, .inl (cA 1, 4, .inl s_csizes))] [.ref h0, .int p0]) (vp_Si (fun r => -1 ≤ r.toInt ∧ r.toInt ≤ 60)) 0 0 (fun _ => False) := by
  refine Met.ofW (cc := cX7_sizeOf) (maxL := 2) (ret := (some .int)) (by decide) rfl ?_
  intro p e s m args below meth c s₁ B hml hv
  obtain ⟨rfl, hP, hKN⟩ := hv
  have hx := B.exec
  have hb := B.bytes
  have hr := B.returns
  have hts : ∀ w ∈ TB, w.before _ s = true := fun w h => atoms_spec B.pre w (List.mem_cons_of_mem _ h)
  have hown : s.vm.findClass RX7 = some m.cls := findClass_of_methodNamed B.named
  have hlocks := B.notSynchronized
  have hl := lv_entry ([.ref h0, .int p0]) (n := 2) (Nat.le_of_ble_eq_true rfl)
  rw [lg_entry_eq]
  generalize (lg_sl ([.ref h0, .int p0]) ++ List.replicate (2 - (lg_sl ([.ref h0, .int p0])).length) Slot.unset).toArray = ls at hl ⊢
  have hl : lv_has ls 2 [(0, .ref h0), (1, .int p0)] := hl
  refine lv_aload_n hx hb dX7_sizeOf_0 rfl (lv_at hl 0 rfl) ?_
  refine lv_iload_n hx hb dX7_sizeOf_1 rfl (lv_at hl 1 rfl) ?_
  refine cpVi (rest := []) ⟨hx, hb, hml, hown, hts⟩ hKN (hP.sub (ws' := [(h0, .inr (7, [.ref s_qsizes, .ref s_qwidths, .ref s_qnumbers]))]) [0] rfl) (g_X7_has l D cA h0 s_qsizes s_qwidths s_qnumbers p0) (tb_V tw_950 tw_939 tw_940 tw_107 tw_941) hdX7_has ⟨rfl, rfl, Nat.le_of_ble_eq_true rfl, Nat.le_of_ble_eq_true rfl⟩ ⟨Nat.le_of_ble_eq_true rfl, Nat.le_of_ble_eq_true rfl⟩ rfl rfl rfl hl.1 rfl (Nat.le_of_ble_eq_true rfl) dX7_sizeOf_2 (fun r_1 hr_1 => ?_)
  rcases hr_1 with ⟨k_1_0_0, k_1_0_1, rfl⟩ | ⟨k_1_1_0, rfl⟩
  · skip
    refine lv_if_eq (tgt := 17) hx hb dX7_sizeOf_5 (by decide) (fun c_2 => absurd c_2 (by decide)) (fun c_2 => ?_)
    refine lv_aload_n hx hb dX7_sizeOf_8 rfl (lv_at hl 0 rfl) ?_
    refine va_get (D := D) (ci := 7) (v := .ref s_qsizes) (C := RX7) (T := TX7) (N := 3) hx hb hts inX7 hown hKN.1 hP 0 rfl rfl 0 (by decide) (hts _ tw_343) (fun _ h9 => h9) rfl dX7_sizeOf_9 ?_
    refine lv_iload_n hx hb dX7_sizeOf_12 rfl (lv_at hl 1 rfl) ?_
    refine va_iald hx hb hKN.1 hP 1 1 rfl rfl (vp_in_iff.mpr ⟨by omega, by omega⟩) dX7_sizeOf_13 ?_
    refine lv_topi (fun x_3 ex_3 => ?_)
    have k_4 := a_s_csizes_0 (p0.toNatClampNeg)
    rw [← ex_3] at k_4
    refine lv_goto (tgt := 18) hx hb dX7_sizeOf_14 (by decide) ?_
    exact W.iret (v := x_3) hx hb hr (fun t ht hW => ⟨x_3, rfl, (show -1 ≤ x_3.toInt ∧ x_3.toInt ≤ 60 from by omega), ht⟩) (fun _ h => by cases h) dX7_sizeOf_18
  · skip
    refine lv_if_eq (tgt := 17) hx hb dX7_sizeOf_5 (by decide) (fun c_5 => ?_) (fun c_5 => absurd (by decide) c_5)
    refine lv_iconst (v := (-1)) hx hb dX7_sizeOf_17 (by decide) ?_
    exact W.iret (v := (-1)) hx hb hr (fun t ht hW => ⟨(-1), rfl, (show -1 ≤ ((-1) : Int32).toInt ∧ ((-1) : Int32).toInt ≤ 60 from by decide), ht⟩) (fun _ h => by cases h) dX7_sizeOf_18
set_option maxHeartbeats 8000000 in
set_option maxRecDepth 100000 in
theorem g_X7_widthOf (l : Launch) (D : va_G) (cA : Nat → ClassId) (h0 : Nat) (s_qsizes : Nat) (s_qwidths : Nat) (s_qnumbers : Nat) (s_cwidths : Nat → Int32) (p0 : Int32) : Met l yX7_widthOf (Cond.code yX7_widthOf cX7_widthOf 2 (some .int) :: TB) (rmd 1 0 0) (PP D cA [(h0, .inr (7, [.ref s_qsizes, .ref s_qwidths, .ref s_qnumbers])), (s_qwidths, .inl (cA 1, 4, .inl s_cwidths))] [.ref h0, .int p0]) (vp_Si (fun r => True)) 0 0 (fun _ => False) := by
  refine Met.ofW (cc := cX7_widthOf) (maxL := 2) (ret := (some .int)) (by decide) rfl ?_
  intro p e s m args below meth c s₁ B hml hv
  obtain ⟨rfl, hP, hKN⟩ := hv
  have hx := B.exec
  have hb := B.bytes
  have hr := B.returns
  have hts : ∀ w ∈ TB, w.before _ s = true := fun w h => atoms_spec B.pre w (List.mem_cons_of_mem _ h)
  have hown : s.vm.findClass RX7 = some m.cls := findClass_of_methodNamed B.named
  have hlocks := B.notSynchronized
  have hl := lv_entry ([.ref h0, .int p0]) (n := 2) (Nat.le_of_ble_eq_true rfl)
  rw [lg_entry_eq]
  generalize (lg_sl ([.ref h0, .int p0]) ++ List.replicate (2 - (lg_sl ([.ref h0, .int p0])).length) Slot.unset).toArray = ls at hl ⊢
  have hl : lv_has ls 2 [(0, .ref h0), (1, .int p0)] := hl
  refine lv_aload_n hx hb dX7_widthOf_0 rfl (lv_at hl 0 rfl) ?_
  refine lv_iload_n hx hb dX7_widthOf_1 rfl (lv_at hl 1 rfl) ?_
  refine cpVi (rest := []) ⟨hx, hb, hml, hown, hts⟩ hKN (hP.sub (ws' := [(h0, .inr (7, [.ref s_qsizes, .ref s_qwidths, .ref s_qnumbers]))]) [0] rfl) (g_X7_has l D cA h0 s_qsizes s_qwidths s_qnumbers p0) (tb_V tw_950 tw_939 tw_940 tw_107 tw_941) hdX7_has ⟨rfl, rfl, Nat.le_of_ble_eq_true rfl, Nat.le_of_ble_eq_true rfl⟩ ⟨Nat.le_of_ble_eq_true rfl, Nat.le_of_ble_eq_true rfl⟩ rfl rfl rfl hl.1 rfl (Nat.le_of_ble_eq_true rfl) dX7_widthOf_2 (fun r_1 hr_1 => ?_)
  rcases hr_1 with ⟨k_1_0_0, k_1_0_1, rfl⟩ | ⟨k_1_1_0, rfl⟩
  · skip
    refine lv_if_eq (tgt := 17) hx hb dX7_widthOf_5 (by decide) (fun c_2 => absurd c_2 (by decide)) (fun c_2 => ?_)
    refine lv_aload_n hx hb dX7_widthOf_8 rfl (lv_at hl 0 rfl) ?_
    refine va_get (D := D) (ci := 7) (v := .ref s_qwidths) (C := RX7) (T := TX7) (N := 3) hx hb hts inX7 hown hKN.1 hP 0 rfl rfl 1 (by decide) (hts _ tw_344) (fun _ h9 => h9) rfl dX7_widthOf_9 ?_
    refine lv_iload_n hx hb dX7_widthOf_12 rfl (lv_at hl 1 rfl) ?_
    refine va_iald hx hb hKN.1 hP 1 1 rfl rfl (vp_in_iff.mpr ⟨by omega, by omega⟩) dX7_widthOf_13 ?_
    refine lv_topi (fun x_3 ex_3 => ?_)
    refine lv_goto (tgt := 18) hx hb dX7_widthOf_14 (by decide) ?_
    exact W.iret (v := x_3) hx hb hr (fun t ht hW => ⟨x_3, rfl, trivial, ht⟩) (fun _ h => by cases h) dX7_widthOf_18
  · skip
    refine lv_if_eq (tgt := 17) hx hb dX7_widthOf_5 (by decide) (fun c_4 => ?_) (fun c_4 => absurd (by decide) c_4)
    refine lv_iconst (v := (-1)) hx hb dX7_widthOf_17 (by decide) ?_
    exact W.iret (v := (-1)) hx hb hr (fun t ht hW => ⟨(-1), rfl, trivial, ht⟩) (fun _ h => by cases h) dX7_widthOf_18
set_option maxHeartbeats 8000000 in
set_option maxRecDepth 100000 in
theorem g_X7_isBare (l : Launch) (D : va_G) (cA : Nat → ClassId) (h0 : Nat) (s_qsizes : Nat) (s_qwidths : Nat) (s_qnumbers : Nat) (s_csizes : Nat → Int32) (p0 : Int32) (a_s_csizes_0 : AR (-1) 60 s_csizes) : Met l yX7_isBare (Cond.code yX7_isBare cX7_isBare 2 (some .boolean) :: TB) (rmd 2 0 0) (PP D cA [(h0, .inr (7, [.ref s_qsizes, .ref s_qwidths, .ref s_qnumbers])), (s_qsizes, .inl (cA 1, 4, .inl s_csizes))] [.ref h0, .int p0]) (vp_Si (fun r => 0 ≤ r.toInt ∧ r.toInt ≤ 1)) 0 0 (fun _ => False) := by
  refine Met.ofW (cc := cX7_isBare) (maxL := 2) (ret := (some .boolean)) (by decide) rfl ?_
  intro p e s m args below meth c s₁ B hml hv
  obtain ⟨rfl, hP, hKN⟩ := hv
  have hx := B.exec
  have hb := B.bytes
  have hr := B.returns
  have hts : ∀ w ∈ TB, w.before _ s = true := fun w h => atoms_spec B.pre w (List.mem_cons_of_mem _ h)
  have hown : s.vm.findClass RX7 = some m.cls := findClass_of_methodNamed B.named
  have hlocks := B.notSynchronized
  have hl := lv_entry ([.ref h0, .int p0]) (n := 2) (Nat.le_of_ble_eq_true rfl)
  rw [lg_entry_eq]
  generalize (lg_sl ([.ref h0, .int p0]) ++ List.replicate (2 - (lg_sl ([.ref h0, .int p0])).length) Slot.unset).toArray = ls at hl ⊢
  have hl : lv_has ls 2 [(0, .ref h0), (1, .int p0)] := hl
  refine lv_aload_n hx hb dX7_isBare_0 rfl (lv_at hl 0 rfl) ?_
  refine lv_iload_n hx hb dX7_isBare_1 rfl (lv_at hl 1 rfl) ?_
  refine cpVi (rest := []) ⟨hx, hb, hml, hown, hts⟩ hKN (hP.sub (ws' := [(h0, .inr (7, [.ref s_qsizes, .ref s_qwidths, .ref s_qnumbers])), (s_qsizes, .inl (cA 1, 4, .inl s_csizes))]) [0, 1] rfl) (g_X7_sizeOf l D cA h0 s_qsizes s_qwidths s_qnumbers s_csizes p0 a_s_csizes_0) (tb_V tw_946 tw_947 tw_948 tw_107 tw_949) hdX7_sizeOf ⟨rfl, rfl, Nat.le_of_ble_eq_true rfl, Nat.le_of_ble_eq_true rfl⟩ ⟨Nat.le_of_ble_eq_true rfl, Nat.le_of_ble_eq_true rfl⟩ rfl rfl rfl hl.1 rfl (Nat.le_of_ble_eq_true rfl) dX7_isBare_2 (fun r_1 hr_1 => ?_)
  refine lv_iconst (v := (-1)) hx hb dX7_isBare_5 (by decide) ?_
  refine lv_icmp_ne (tgt := 13) hx hb dX7_isBare_6 (by decide) (fun c_2 => ?_) (fun c_2 => ?_)
  · skip
    have k_3 := kk_ne rfl zi_m1 c_2
    refine lv_iconst (v := 0) hx hb dX7_isBare_13 (by decide) ?_
    exact W.zret (v := 0) hx hb hr (by decide) (fun t ht hW => ⟨0, rfl, (show 0 ≤ (0 : Int32).toInt ∧ (0 : Int32).toInt ≤ 1 from by decide), ht⟩) (fun _ h => by cases h) dX7_isBare_14
  · skip
    have k_4 := kk_eq rfl zi_m1 c_2
    refine lv_iconst (v := 1) hx hb dX7_isBare_9 (by decide) ?_
    refine lv_goto (tgt := 14) hx hb dX7_isBare_10 (by decide) ?_
    exact W.zret (v := 1) hx hb hr (by decide) (fun t ht hW => ⟨1, rfl, (show 0 ≤ (1 : Int32).toInt ∧ (1 : Int32).toInt ≤ 1 from by decide), ht⟩) (fun _ h => by cases h) dX7_isBare_14
set_option maxHeartbeats 8000000 in
set_option maxRecDepth 100000 in
theorem g_X7_withRow (l : Launch) (D : va_G) (cA : Nat → ClassId) (h0 : Nat) (s_qsizes : Nat) (s_qwidths : Nat) (s_qnumbers : Nat) (s_csizes : Nat → Int32) (a_s_csizes_0 : AR (-1) 60 s_csizes) : Met l yX7_withRow (Cond.code yX7_withRow cX7_withRow 3 (some .int) :: TB) (rmd 3 0 0) (PP D cA [(h0, .inr (7, [.ref s_qsizes, .ref s_qwidths, .ref s_qnumbers])), (s_qsizes, .inl (cA 1, 4, .inl s_csizes))] [.ref h0]) (vp_Si (fun r => True)) 0 0 (fun _ => False) := by
  refine Met.ofW (cc := cX7_withRow) (maxL := 3) (ret := (some .int)) (by decide) rfl ?_
  intro p e s m args below meth c s₁ B hml hv
  obtain ⟨rfl, hP, hKN⟩ := hv
  have hx := B.exec
  have hb := B.bytes
  have hr := B.returns
  have hts : ∀ w ∈ TB, w.before _ s = true := fun w h => atoms_spec B.pre w (List.mem_cons_of_mem _ h)
  have hown : s.vm.findClass RX7 = some m.cls := findClass_of_methodNamed B.named
  have hlocks := B.notSynchronized
  have hl := lv_entry ([.ref h0]) (n := 3) (Nat.le_of_ble_eq_true rfl)
  rw [lg_entry_eq]
  generalize (lg_sl ([.ref h0]) ++ List.replicate (3 - (lg_sl ([.ref h0])).length) Slot.unset).toArray = ls at hl ⊢
  have hl : lv_has ls 3 [(0, .ref h0)] := hl
  refine lv_iconst (v := 0) hx hb dX7_withRow_0 (by decide) ?_
  refine lv_istore_n (lv' := [(1, .int 0), (0, .ref h0)]) hx hb dX7_withRow_1 rfl hl (by decide) rfl (fun ls hl => ?_)
  refine lv_iconst (v := 0) hx hb dX7_withRow_2 (by decide) ?_
  refine lv_istore_n (lv' := [(2, .int 0), (1, .int 0), (0, .ref h0)]) hx hb dX7_withRow_3 rfl hl (by decide) rfl (fun ls hl => ?_)
  refine loopW (σ := Int32 × Int32) (fun _ => []) (fun ⟨L2_82, L1_82⟩ H locs ls => (0 ≤ L2_82.toInt ∧ L2_82.toInt ≤ 4) ∧ H = s.heap ∧ locs = [] ∧ lv_has ls 3 [(2, .int L2_82), (1, .int L1_82), (0, .ref h0)]) (fun ⟨L2_82, L1_82⟩ => (2147483647 - L2_82.toInt).toNat) ?_ ((0, 0) : Int32 × Int32) ⟨(by decide), rfl, rfl, hl⟩
  intro x_82 H locs ls hI_82 ih_82
  obtain ⟨L2_82, L1_82⟩ := x_82
  obtain ⟨k0_82, rfl, rfl, hl⟩ := hI_82
  have hl : lv_has ls 3 [(2, .int L2_82), (1, .int L1_82), (0, .ref h0)] := hl
  refine lv_iload_n hx hb dX7_withRow_4 rfl (lv_at hl 0 rfl) ?_
  refine lv_iconst (v := 4) hx hb dX7_withRow_5 (by decide) ?_
  refine lv_icmp_ge (tgt := 26) hx hb dX7_withRow_6 (by decide) (fun c_83 => ?_) (fun c_83 => ?_)
  · skip
    have k_84 := kk_le zi_4 rfl c_83
    refine lv_iload_n hx hb dX7_withRow_26 rfl (lv_at hl 1 rfl) ?_
    exact W.iret (v := L1_82) hx hb hr (fun t ht hW => ⟨L1_82, rfl, trivial, ht⟩) (fun _ h => by cases h) dX7_withRow_27
  · skip
    have k_85 := kk_nle zi_4 rfl c_83
    refine lv_aload_n hx hb dX7_withRow_9 rfl (lv_at hl 2 rfl) ?_
    refine lv_iload_n hx hb dX7_withRow_10 rfl (lv_at hl 0 rfl) ?_
    refine cpVi (rest := []) ⟨hx, hb, hml, hown, hts⟩ hKN (hP.sub (ws' := [(h0, .inr (7, [.ref s_qsizes, .ref s_qwidths, .ref s_qnumbers])), (s_qsizes, .inl (cA 1, 4, .inl s_csizes))]) [0, 1] rfl) (g_X7_isBare l D cA h0 s_qsizes s_qwidths s_qnumbers s_csizes L2_82 a_s_csizes_0) (tb_V tw_1367 tw_943 tw_944 tw_107 tw_945) hdX7_isBare ⟨rfl, rfl, Nat.le_of_ble_eq_true rfl, Nat.le_of_ble_eq_true rfl⟩ ⟨Nat.le_of_ble_eq_true rfl, Nat.le_of_ble_eq_true rfl⟩ rfl rfl rfl hl.1 rfl (Nat.le_of_ble_eq_true rfl) dX7_withRow_11 (fun r_86 hr_86 => ?_)
    refine lv_if_ne (tgt := 20) hx hb dX7_withRow_14 (by decide) (fun c_87 => ?_) (fun c_87 => ?_)
    · skip
      have k_88 := kk_ne rfl zi_0 c_87
      obtain ⟨x_89, ex_89⟩ : ∃ y : Int32, L2_82 + Int32.ofInt 1 = y := ⟨_, rfl⟩
      have k_90 := ar_add (b := 1) rfl zi_1 ex_89.symm (by omega) (by omega)
      refine lv_iinc (v := x_89) (lv' := [(2, .int x_89), (1, .int L1_82), (0, .ref h0)]) hx hb dX7_withRow_20 hl (k := 0) rfl ex_89 (by decide) rfl (fun ls hl => ?_)
      refine lv_goto (tgt := 4) hx hb dX7_withRow_23 (by decide) ?_
      exact ih_82 (x_89, L1_82) _ _ _ ⟨(show 0 ≤ x_89.toInt ∧ x_89.toInt ≤ 4 from by omega), rfl, rfl, lv_sub hl [0, 1, 2] rfl⟩ (by show (2147483647 - x_89.toInt).toNat < (2147483647 - L2_82.toInt).toNat; omega)
    · skip
      have k_91 := kk_eq rfl zi_0 c_87
      obtain ⟨x_92, ex_92⟩ : ∃ y : Int32, L1_82 + Int32.ofInt 1 = y := ⟨_, rfl⟩
      refine lv_iinc (v := x_92) (lv' := [(1, .int x_92), (2, .int L2_82), (0, .ref h0)]) hx hb dX7_withRow_17 hl (k := 1) rfl ex_92 (by decide) rfl (fun ls hl => ?_)
      obtain ⟨x_93, ex_93⟩ : ∃ y : Int32, L2_82 + Int32.ofInt 1 = y := ⟨_, rfl⟩
      have k_94 := ar_add (b := 1) rfl zi_1 ex_93.symm (by omega) (by omega)
      refine lv_iinc (v := x_93) (lv' := [(2, .int x_93), (1, .int x_92), (0, .ref h0)]) hx hb dX7_withRow_20 hl (k := 1) rfl ex_93 (by decide) rfl (fun ls hl => ?_)
      refine lv_goto (tgt := 4) hx hb dX7_withRow_23 (by decide) ?_
      exact ih_82 (x_93, x_92) _ _ _ ⟨(show 0 ≤ x_93.toInt ∧ x_93.toInt ≤ 4 from by omega), rfl, rfl, lv_sub hl [0, 1, 2] rfl⟩ (by show (2147483647 - x_93.toInt).toNat < (2147483647 - L2_82.toInt).toNat; omega)
set_option maxHeartbeats 8000000 in
set_option maxRecDepth 100000 in
theorem g_X7_make (l : Launch) (D : va_G) (cA : Nat → ClassId) (sz : Nat) (h0 : Nat) (s_qsizes : Nat) (s_qwidths : Nat) (s_qnumbers : Nat) (s_csizes : Nat → Int32) (s_cwidths : Nat → Int32) (s_cnumbers : Nat → Int64) (p0 : Int32) (p1 : Int32) (p2 : Int32) (a_s_csizes_0 : AR (-1) 60 s_csizes) : Met l yX7_make (Cond.code yX7_make cX7_make 5 none :: TB) (rmd 1 0 0) (PM D cA sz [(h0, .inr (7, [.ref s_qsizes, .ref s_qwidths, .ref s_qnumbers])), (s_qsizes, .inl (cA 1, 4, .inl s_csizes)), (s_qwidths, .inl (cA 1, 4, .inl s_cwidths)), (s_qnumbers, .inl (cA 2, 240, .inr (.inl s_cnumbers)))] [.ref h0, .int p0, .int p1, .int p2]) (va_Qv (fun (u : SU) => (AR (-1) 60 (u.2.2.1 0))) (fun u t => va_P D vwCl [(h0, .inr (7, [.ref s_qsizes, .ref s_qwidths, .ref s_qnumbers])), (s_qsizes, .inl (cA 1, 4, .inl (u.2.2.1 0))), (s_qwidths, .inl (cA 1, 4, .inl (u.2.2.1 1))), (s_qnumbers, .inl (cA 2, 240, .inr (.inl (u.2.2.2 0))))] t.heap ∧ va_D (va_A [(h0, .inr (7, [.ref s_qsizes, .ref s_qwidths, .ref s_qnumbers])), (s_qsizes, .inl (cA 1, 4, .inl s_csizes)), (s_qwidths, .inl (cA 1, 4, .inl s_cwidths)), (s_qnumbers, .inl (cA 2, 240, .inr (.inl s_cnumbers)))] sz) [(h0, .inr (7, [.ref s_qsizes, .ref s_qwidths, .ref s_qnumbers])), (s_qsizes, .inl (cA 1, 4, .inl (u.2.2.1 0))), (s_qwidths, .inl (cA 1, 4, .inl (u.2.2.1 1))), (s_qnumbers, .inl (cA 2, 240, .inr (.inl (u.2.2.2 0))))]) (va_A [(h0, .inr (7, [.ref s_qsizes, .ref s_qwidths, .ref s_qnumbers])), (s_qsizes, .inl (cA 1, 4, .inl s_csizes)), (s_qwidths, .inl (cA 1, 4, .inl s_cwidths)), (s_qnumbers, .inl (cA 2, 240, .inr (.inl s_cnumbers)))] sz)) 0 0 (va_A [(h0, .inr (7, [.ref s_qsizes, .ref s_qwidths, .ref s_qnumbers])), (s_qsizes, .inl (cA 1, 4, .inl s_csizes)), (s_qwidths, .inl (cA 1, 4, .inl s_cwidths)), (s_qnumbers, .inl (cA 2, 240, .inr (.inl s_cnumbers)))] sz) := by
  refine Met.ofW (cc := cX7_make) (maxL := 5) (ret := none) (by decide) rfl ?_
  intro p e s m args below meth c s₁ B hml hv
  obtain ⟨rfl, hsz, hP, hKN, hD0⟩ := hv
  have hx := B.exec
  have hb := B.bytes
  have hr := B.returns
  have hts : ∀ w ∈ TB, w.before _ s = true := fun w h => atoms_spec B.pre w (List.mem_cons_of_mem _ h)
  have hown : s.vm.findClass RX7 = some m.cls := findClass_of_methodNamed B.named
  have hlocks := B.notSynchronized
  subst hsz
  have hD := hD0.self (sz := s.heap.size)
  generalize hAe : va_A [(h0, .inr (7, [.ref s_qsizes, .ref s_qwidths, .ref s_qnumbers])), (s_qsizes, .inl (cA 1, 4, .inl s_csizes)), (s_qwidths, .inl (cA 1, 4, .inl s_cwidths)), (s_qnumbers, .inl (cA 2, 240, .inr (.inl s_cnumbers)))] s.heap.size = A at hD ⊢
  have hA : ∀ q : Nat, s.heap.size ≤ q → A q := fun q h => by rw [← hAe]; exact Or.inr h
  have hS : va_S A s.heap s.heap [] := va_S.rf
  have hl := lv_entry ([.ref h0, .int p0, .int p1, .int p2]) (n := 5) (Nat.le_of_ble_eq_true rfl)
  rw [lg_entry_eq]
  generalize (lg_sl ([.ref h0, .int p0, .int p1, .int p2]) ++ List.replicate (5 - (lg_sl ([.ref h0, .int p0, .int p1, .int p2])).length) Slot.unset).toArray = ls at hl ⊢
  have hl : lv_has ls 5 [(0, .ref h0), (1, .int p0), (2, .int p1), (3, .int p2)] := hl
  refine lv_aload_n hx hb dX7_make_0 rfl (lv_at hl 0 rfl) ?_
  refine lv_iload_n hx hb dX7_make_1 rfl (lv_at hl 1 rfl) ?_
  refine cpVi (rest := []) ⟨hx, hb, hml, hown, hts⟩ hKN (hP.sub (ws' := [(h0, .inr (7, [.ref s_qsizes, .ref s_qwidths, .ref s_qnumbers]))]) [0] rfl) (g_X7_has l D cA h0 s_qsizes s_qwidths s_qnumbers p0) (tb_V tw_950 tw_939 tw_940 tw_107 tw_941) hdX7_has ⟨rfl, rfl, Nat.le_of_ble_eq_true rfl, Nat.le_of_ble_eq_true rfl⟩ ⟨Nat.le_of_ble_eq_true rfl, Nat.le_of_ble_eq_true rfl⟩ rfl rfl rfl hl.1 rfl (Nat.le_of_ble_eq_true rfl) dX7_make_2 (fun r_1 hr_1 => ?_)
  rcases hr_1 with ⟨k_1_0_0, k_1_0_1, rfl⟩ | ⟨k_1_1_0, rfl⟩
  · skip
    refine lv_if_eq (tgt := 60) hx hb dX7_make_5 (by decide) (fun c_2 => absurd c_2 (by decide)) (fun c_2 => ?_)
    refine lv_iload_n hx hb dX7_make_8 rfl (lv_at hl 3 rfl) ?_
    refine lv_iconst (v := 0) hx hb dX7_make_9 (by decide) ?_
    refine lv_bipush (v := 60) hx hb dX7_make_10 (by decide) ?_
    have z_3 := zi_0
    have z_4 := zi_60
    refine cpSNi (rest := []) ⟨hx, hb, hml, hown, hts⟩ hKN (hP.sub (ws' := []) [] rfl) (g_X11_isWithin l D cA p2 0 60) ⟨nw_11, tw_516, tw_101, tw_517⟩ hdX11_isWithin ⟨rfl, rfl, Nat.le_of_ble_eq_true rfl, Nat.le_of_ble_eq_true rfl⟩ ⟨Nat.le_of_ble_eq_true rfl, Nat.le_of_ble_eq_true rfl⟩ rfl hl.1 rfl (Nat.le_of_ble_eq_true rfl) dX7_make_12 (fun r_5 hr_5 => ?_)
    rcases hr_5 with ⟨k_5_0_0, k_5_0_1, rfl⟩ | ⟨k_5_1_0, rfl⟩
    · skip
      refine lv_if_eq (tgt := 60) hx hb dX7_make_15 (by decide) (fun c_6 => absurd c_6 (by decide)) (fun c_6 => ?_)
      refine lv_aload_n hx hb dX7_make_18 rfl (lv_at hl 0 rfl) ?_
      refine va_get (D := D) (ci := 7) (v := .ref s_qsizes) (C := RX7) (T := TX7) (N := 3) hx hb hts inX7 hown hKN.1 hP 0 rfl rfl 0 (by decide) (hts _ tw_343) (fun _ h9 => h9) rfl dX7_make_19 ?_
      refine lv_iload_n hx hb dX7_make_22 rfl (lv_at hl 1 rfl) ?_
      refine lv_iload_n hx hb dX7_make_23 rfl (lv_at hl 3 rfl) ?_
      refine va_iast hx hb hKN.1 hP hD hS 1 1 rfl rfl (vp_in_iff.mpr ⟨by omega, by omega⟩) dX7_make_24 (fun H locs hP hD hS => ?_)
      have hP : va_P D vwCl [(h0, .inr (7, [.ref s_qsizes, .ref s_qwidths, .ref s_qnumbers])), (s_qsizes, .inl (cA 1, 4, .inl (upd s_csizes p0.toNatClampNeg p2))), (s_qwidths, .inl (cA 1, 4, .inl s_cwidths)), (s_qnumbers, .inl (cA 2, 240, .inr (.inl s_cnumbers)))] H := hP
      have hD : va_D A [(h0, .inr (7, [.ref s_qsizes, .ref s_qwidths, .ref s_qnumbers])), (s_qsizes, .inl (cA 1, 4, .inl (upd s_csizes p0.toNatClampNeg p2))), (s_qwidths, .inl (cA 1, 4, .inl s_cwidths)), (s_qnumbers, .inl (cA 2, 240, .inr (.inl s_cnumbers)))] := hD
      generalize ef_7 : (upd s_csizes p0.toNatClampNeg p2) = f_7 at hP hD
      have a_8 : AR (-1) 60 f_7 := by rw [← ef_7]; exact AR.upd a_s_csizes_0 (by omega)
      refine lv_aload_n hx hb dX7_make_25 rfl (lv_at hl 0 rfl) ?_
      refine va_get (D := D) (ci := 7) (v := .ref s_qwidths) (C := RX7) (T := TX7) (N := 3) hx hb hts inX7 hown hKN.1 hP 0 rfl rfl 1 (by decide) (hts _ tw_344) (fun _ h9 => h9) rfl dX7_make_26 ?_
      refine lv_iload_n hx hb dX7_make_29 rfl (lv_at hl 1 rfl) ?_
      refine lv_iload_n hx hb dX7_make_30 rfl (lv_at hl 2 rfl) ?_
      refine va_iast hx hb hKN.1 hP hD hS 2 1 rfl rfl (vp_in_iff.mpr ⟨by omega, by omega⟩) dX7_make_31 (fun H locs hP hD hS => ?_)
      have hP : va_P D vwCl [(h0, .inr (7, [.ref s_qsizes, .ref s_qwidths, .ref s_qnumbers])), (s_qsizes, .inl (cA 1, 4, .inl f_7)), (s_qwidths, .inl (cA 1, 4, .inl (upd s_cwidths p0.toNatClampNeg p1))), (s_qnumbers, .inl (cA 2, 240, .inr (.inl s_cnumbers)))] H := hP
      have hD : va_D A [(h0, .inr (7, [.ref s_qsizes, .ref s_qwidths, .ref s_qnumbers])), (s_qsizes, .inl (cA 1, 4, .inl f_7)), (s_qwidths, .inl (cA 1, 4, .inl (upd s_cwidths p0.toNatClampNeg p1))), (s_qnumbers, .inl (cA 2, 240, .inr (.inl s_cnumbers)))] := hD
      generalize ef_9 : (upd s_cwidths p0.toNatClampNeg p1) = f_9 at hP hD
      refine lv_iconst (v := 0) hx hb dX7_make_32 (by decide) ?_
      refine lv_istore (lv' := [(4, .int 0), (0, .ref h0), (1, .int p0), (2, .int p1), (3, .int p2)]) hx hb dX7_make_33 hl (by decide) rfl (fun ls hl => ?_)
      refine loopW (σ := Int32 × (Nat → Int64)) (fun _ => []) (fun ⟨L4_76, F1_76⟩ H locs ls => (0 ≤ L4_76.toInt ∧ L4_76.toInt ≤ 60) ∧ va_P D vwCl [(h0, .inr (7, [.ref s_qsizes, .ref s_qwidths, .ref s_qnumbers])), (s_qsizes, .inl (cA 1, 4, .inl f_7)), (s_qwidths, .inl (cA 1, 4, .inl f_9)), (s_qnumbers, .inl (cA 2, 240, .inr (.inl F1_76)))] H ∧ va_D A [(h0, .inr (7, [.ref s_qsizes, .ref s_qwidths, .ref s_qnumbers])), (s_qsizes, .inl (cA 1, 4, .inl f_7)), (s_qwidths, .inl (cA 1, 4, .inl f_9)), (s_qnumbers, .inl (cA 2, 240, .inr (.inl F1_76)))] ∧ va_S A s.heap H locs ∧ lv_has ls 5 [(4, .int L4_76), (0, .ref h0), (1, .int p0), (2, .int p1), (3, .int p2)]) (fun ⟨L4_76, F1_76⟩ => (2147483647 - L4_76.toInt).toNat) ?_ ((0, s_cnumbers) : Int32 × (Nat → Int64)) ⟨(by decide), hP, hD, hS, hl⟩
      intro x_76 H locs ls hI_76 ih_76
      obtain ⟨L4_76, F1_76⟩ := x_76
      obtain ⟨k0_76, hP, hD, hS, hl⟩ := hI_76
      have hP : va_P D vwCl [(h0, .inr (7, [.ref s_qsizes, .ref s_qwidths, .ref s_qnumbers])), (s_qsizes, .inl (cA 1, 4, .inl f_7)), (s_qwidths, .inl (cA 1, 4, .inl f_9)), (s_qnumbers, .inl (cA 2, 240, .inr (.inl F1_76)))] H := hP
      have hD : va_D A [(h0, .inr (7, [.ref s_qsizes, .ref s_qwidths, .ref s_qnumbers])), (s_qsizes, .inl (cA 1, 4, .inl f_7)), (s_qwidths, .inl (cA 1, 4, .inl f_9)), (s_qnumbers, .inl (cA 2, 240, .inr (.inl F1_76)))] := hD
      have hl : lv_has ls 5 [(4, .int L4_76), (0, .ref h0), (1, .int p0), (2, .int p1), (3, .int p2)] := hl
      refine lv_iload hx hb dX7_make_35 (lv_at hl 0 rfl) ?_
      refine lv_iload_n hx hb dX7_make_37 rfl (lv_at hl 4 rfl) ?_
      refine lv_icmp_ge (tgt := 60) hx hb dX7_make_38 (by decide) (fun c_77 => ?_) (fun c_77 => ?_)
      · skip
        have k_78 := kk_le rfl rfl c_77
        have hP9 := hP.sub (ws' := [(h0, .inr (7, [.ref s_qsizes, .ref s_qwidths, .ref s_qnumbers])), (s_qsizes, .inl (cA 1, 4, .inl f_7)), (s_qwidths, .inl (cA 1, 4, .inl f_9)), (s_qnumbers, .inl (cA 2, 240, .inr (.inl F1_76)))]) [0, 1, 2, 3] rfl
        have hD9 := hD.sub (ws' := [(h0, .inr (7, [.ref s_qsizes, .ref s_qwidths, .ref s_qnumbers])), (s_qsizes, .inl (cA 1, 4, .inl f_7)), (s_qwidths, .inl (cA 1, 4, .inl f_9)), (s_qnumbers, .inl (cA 2, 240, .inr (.inl F1_76)))]) [0, 1, 2, 3] (by decide) rfl
        exact W.vret hx hb hr (fun t ht hW => ⟨⟨((fun _ => 0), (fun _ => 0), (selF [f_7, f_9]), (selJ [F1_76])), rfl, (show AR (-1) 60 f_7 from a_8), by rw [ht]; exact hP9, hD9⟩, hS.F ht⟩) hS.2.2 dX7_make_60
      · skip
        have k_79 := kk_nle rfl rfl c_77
        refine lv_aload_n hx hb dX7_make_41 rfl (lv_at hl 1 rfl) ?_
        refine va_get (D := D) (ci := 7) (v := .ref s_qnumbers) (C := RX7) (T := TX7) (N := 3) hx hb hts inX7 hown hKN.1 hP 0 rfl rfl 2 (by decide) (hts _ tw_345) (fun _ h9 => h9) rfl dX7_make_42 ?_
        refine lv_iload_n hx hb dX7_make_45 rfl (lv_at hl 2 rfl) ?_
        refine lv_bipush (v := 60) hx hb dX7_make_46 (by decide) ?_
        refine lv_imul hx hb dX7_make_48 ?_
        refine lv_topi (fun x_80 ex_80 => ?_)
        have k_81 := ar_mul rfl zi_60 ex_80 (by omega) (by omega)
        refine lv_iload hx hb dX7_make_49 (lv_at hl 0 rfl) ?_
        refine lv_iadd hx hb dX7_make_51 ?_
        refine lv_topi (fun x_82 ex_82 => ?_)
        have k_83 := ar_add rfl rfl ex_82 (by omega) (by omega)
        refine lv_lconst (v := 0) hx hb dX7_make_52 (by decide) ?_
        refine va_last hx hb hKN.1 hP hD hS 3 2 rfl rfl (vp_in_iff.mpr ⟨by omega, by omega⟩) dX7_make_53 (fun H locs hP hD hS => ?_)
        have hP : va_P D vwCl [(h0, .inr (7, [.ref s_qsizes, .ref s_qwidths, .ref s_qnumbers])), (s_qsizes, .inl (cA 1, 4, .inl f_7)), (s_qwidths, .inl (cA 1, 4, .inl f_9)), (s_qnumbers, .inl (cA 2, 240, .inr (.inl (vp_updL F1_76 x_82.toNatClampNeg 0))))] H := hP
        have hD : va_D A [(h0, .inr (7, [.ref s_qsizes, .ref s_qwidths, .ref s_qnumbers])), (s_qsizes, .inl (cA 1, 4, .inl f_7)), (s_qwidths, .inl (cA 1, 4, .inl f_9)), (s_qnumbers, .inl (cA 2, 240, .inr (.inl (vp_updL F1_76 x_82.toNatClampNeg 0))))] := hD
        generalize ef_84 : (vp_updL F1_76 x_82.toNatClampNeg 0) = f_84 at hP hD
        obtain ⟨x_85, ex_85⟩ : ∃ y : Int32, L4_76 + Int32.ofInt 1 = y := ⟨_, rfl⟩
        have k_86 := ar_add (b := 1) rfl zi_1 ex_85.symm (by omega) (by omega)
        refine lv_iinc (v := x_85) (lv' := [(4, .int x_85), (0, .ref h0), (1, .int p0), (2, .int p1), (3, .int p2)]) hx hb dX7_make_54 hl (k := 0) rfl ex_85 (by decide) rfl (fun ls hl => ?_)
        refine lv_goto (tgt := 35) hx hb dX7_make_57 (by decide) ?_
        exact ih_76 (x_85, f_84) _ _ _ ⟨(show 0 ≤ x_85.toInt ∧ x_85.toInt ≤ 60 from by omega), hP.sub [0, 1, 2, 3] rfl, hD.sub [0, 1, 2, 3] (by decide) rfl, hS, lv_sub hl [0, 1, 2, 3, 4] rfl⟩ (by show (2147483647 - x_85.toInt).toNat < (2147483647 - L4_76.toInt).toNat; omega)
    · skip
      refine lv_if_eq (tgt := 60) hx hb dX7_make_15 (by decide) (fun c_87 => ?_) (fun c_87 => absurd (by decide) c_87)
      have hP9 := hP.sub (ws' := [(h0, .inr (7, [.ref s_qsizes, .ref s_qwidths, .ref s_qnumbers])), (s_qsizes, .inl (cA 1, 4, .inl s_csizes)), (s_qwidths, .inl (cA 1, 4, .inl s_cwidths)), (s_qnumbers, .inl (cA 2, 240, .inr (.inl s_cnumbers)))]) [0, 1, 2, 3] rfl
      have hD9 := hD.sub (ws' := [(h0, .inr (7, [.ref s_qsizes, .ref s_qwidths, .ref s_qnumbers])), (s_qsizes, .inl (cA 1, 4, .inl s_csizes)), (s_qwidths, .inl (cA 1, 4, .inl s_cwidths)), (s_qnumbers, .inl (cA 2, 240, .inr (.inl s_cnumbers)))]) [0, 1, 2, 3] (by decide) rfl
      exact W.vret hx hb hr (fun t ht hW => ⟨⟨((fun _ => 0), (fun _ => 0), (selF [s_csizes, s_cwidths]), (selJ [s_cnumbers])), rfl, (show AR (-1) 60 s_csizes from a_s_csizes_0), by rw [ht]; exact hP9, hD9⟩, hS.F ht⟩) hS.2.2 dX7_make_60
  · skip
    refine lv_if_eq (tgt := 60) hx hb dX7_make_5 (by decide) (fun c_88 => ?_) (fun c_88 => absurd (by decide) c_88)
    have hP9 := hP.sub (ws' := [(h0, .inr (7, [.ref s_qsizes, .ref s_qwidths, .ref s_qnumbers])), (s_qsizes, .inl (cA 1, 4, .inl s_csizes)), (s_qwidths, .inl (cA 1, 4, .inl s_cwidths)), (s_qnumbers, .inl (cA 2, 240, .inr (.inl s_cnumbers)))]) [0, 1, 2, 3] rfl
    have hD9 := hD.sub (ws' := [(h0, .inr (7, [.ref s_qsizes, .ref s_qwidths, .ref s_qnumbers])), (s_qsizes, .inl (cA 1, 4, .inl s_csizes)), (s_qwidths, .inl (cA 1, 4, .inl s_cwidths)), (s_qnumbers, .inl (cA 2, 240, .inr (.inl s_cnumbers)))]) [0, 1, 2, 3] (by decide) rfl
    exact W.vret hx hb hr (fun t ht hW => ⟨⟨((fun _ => 0), (fun _ => 0), (selF [s_csizes, s_cwidths]), (selJ [s_cnumbers])), rfl, (show AR (-1) 60 s_csizes from a_s_csizes_0), by rw [ht]; exact hP9, hD9⟩, hS.F ht⟩) hS.2.2 dX7_make_60
set_option maxHeartbeats 8000000 in
set_option maxRecDepth 100000 in
theorem g_X7_hasPart (l : Launch) (D : va_G) (cA : Nat → ClassId) (h0 : Nat) (s_qsizes : Nat) (s_qwidths : Nat) (s_qnumbers : Nat) (s_csizes : Nat → Int32) (p0 : Int32) (p1 : Int32) (p2 : Int32) (a_s_csizes_0 : AR (-1) 60 s_csizes) : Met l yX7_hasPart (Cond.code yX7_hasPart cX7_hasPart 4 (some .boolean) :: TB) (rmd 1 0 0) (PP D cA [(h0, .inr (7, [.ref s_qsizes, .ref s_qwidths, .ref s_qnumbers])), (s_qsizes, .inl (cA 1, 4, .inl s_csizes))] [.ref h0, .int p0, .int p1, .int p2]) (vp_Si (fun r => ((0 ≤ (p0 : Int32).toInt) ∧ ((p0 : Int32).toInt < 4) ∧ (0 ≤ (p2 : Int32).toInt) ∧ ((p2 : Int32).toInt ≤ 60) ∧ (0 ≤ (p1 : Int32).toInt) ∧ ((p1 : Int32).toInt ≤ 60) ∧ ((p1 : Int32).toInt + (p2 : Int32).toInt ≤ 60) ∧ (r = 1)) ∨ ((r = 0)))) 0 0 (fun _ => False) := by
  refine Met.ofW (cc := cX7_hasPart) (maxL := 4) (ret := (some .boolean)) (by decide) rfl ?_
  intro p e s m args below meth c s₁ B hml hv
  obtain ⟨rfl, hP, hKN⟩ := hv
  have hx := B.exec
  have hb := B.bytes
  have hr := B.returns
  have hts : ∀ w ∈ TB, w.before _ s = true := fun w h => atoms_spec B.pre w (List.mem_cons_of_mem _ h)
  have hown : s.vm.findClass RX7 = some m.cls := findClass_of_methodNamed B.named
  have hlocks := B.notSynchronized
  have hl := lv_entry ([.ref h0, .int p0, .int p1, .int p2]) (n := 4) (Nat.le_of_ble_eq_true rfl)
  rw [lg_entry_eq]
  generalize (lg_sl ([.ref h0, .int p0, .int p1, .int p2]) ++ List.replicate (4 - (lg_sl ([.ref h0, .int p0, .int p1, .int p2])).length) Slot.unset).toArray = ls at hl ⊢
  have hl : lv_has ls 4 [(0, .ref h0), (1, .int p0), (2, .int p1), (3, .int p2)] := hl
  refine lv_aload_n hx hb dX7_hasPart_0 rfl (lv_at hl 0 rfl) ?_
  refine lv_iload_n hx hb dX7_hasPart_1 rfl (lv_at hl 1 rfl) ?_
  refine cpVi (rest := []) ⟨hx, hb, hml, hown, hts⟩ hKN (hP.sub (ws' := [(h0, .inr (7, [.ref s_qsizes, .ref s_qwidths, .ref s_qnumbers]))]) [0] rfl) (g_X7_has l D cA h0 s_qsizes s_qwidths s_qnumbers p0) (tb_V tw_950 tw_939 tw_940 tw_107 tw_941) hdX7_has ⟨rfl, rfl, Nat.le_of_ble_eq_true rfl, Nat.le_of_ble_eq_true rfl⟩ ⟨Nat.le_of_ble_eq_true rfl, Nat.le_of_ble_eq_true rfl⟩ rfl rfl rfl hl.1 rfl (Nat.le_of_ble_eq_true rfl) dX7_hasPart_2 (fun r_1 hr_1 => ?_)
  rcases hr_1 with ⟨k_1_0_0, k_1_0_1, rfl⟩ | ⟨k_1_1_0, rfl⟩
  · skip
    refine lv_if_eq (tgt := 42) hx hb dX7_hasPart_5 (by decide) (fun c_2 => absurd c_2 (by decide)) (fun c_2 => ?_)
    refine lv_iload_n hx hb dX7_hasPart_8 rfl (lv_at hl 3 rfl) ?_
    refine lv_iconst (v := 0) hx hb dX7_hasPart_9 (by decide) ?_
    refine lv_aload_n hx hb dX7_hasPart_10 rfl (lv_at hl 0 rfl) ?_
    refine va_get (D := D) (ci := 7) (v := .ref s_qsizes) (C := RX7) (T := TX7) (N := 3) hx hb hts inX7 hown hKN.1 hP 0 rfl rfl 0 (by decide) (hts _ tw_343) (fun _ h9 => h9) rfl dX7_hasPart_11 ?_
    refine lv_iload_n hx hb dX7_hasPart_14 rfl (lv_at hl 1 rfl) ?_
    refine va_iald hx hb hKN.1 hP 1 1 rfl rfl (vp_in_iff.mpr ⟨by omega, by omega⟩) dX7_hasPart_15 ?_
    refine lv_topi (fun x_3 ex_3 => ?_)
    have k_4 := a_s_csizes_0 (p0.toNatClampNeg)
    rw [← ex_3] at k_4
    have z_5 := zi_0
    refine cpSNi (rest := []) ⟨hx, hb, hml, hown, hts⟩ hKN (hP.sub (ws' := []) [] rfl) (g_X11_isWithin l D cA p2 0 x_3) ⟨nw_11, tw_516, tw_101, tw_517⟩ hdX11_isWithin ⟨rfl, rfl, Nat.le_of_ble_eq_true rfl, Nat.le_of_ble_eq_true rfl⟩ ⟨Nat.le_of_ble_eq_true rfl, Nat.le_of_ble_eq_true rfl⟩ rfl hl.1 rfl (Nat.le_of_ble_eq_true rfl) dX7_hasPart_16 (fun r_6 hr_6 => ?_)
    rcases hr_6 with ⟨k_6_0_0, k_6_0_1, rfl⟩ | ⟨k_6_1_0, rfl⟩
    · skip
      refine lv_if_eq (tgt := 42) hx hb dX7_hasPart_19 (by decide) (fun c_7 => absurd c_7 (by decide)) (fun c_7 => ?_)
      refine lv_iload_n hx hb dX7_hasPart_22 rfl (lv_at hl 2 rfl) ?_
      refine lv_iconst (v := 0) hx hb dX7_hasPart_23 (by decide) ?_
      refine lv_aload_n hx hb dX7_hasPart_24 rfl (lv_at hl 0 rfl) ?_
      refine va_get (D := D) (ci := 7) (v := .ref s_qsizes) (C := RX7) (T := TX7) (N := 3) hx hb hts inX7 hown hKN.1 hP 0 rfl rfl 0 (by decide) (hts _ tw_343) (fun _ h9 => h9) rfl dX7_hasPart_25 ?_
      refine lv_iload_n hx hb dX7_hasPart_28 rfl (lv_at hl 1 rfl) ?_
      refine va_iald hx hb hKN.1 hP 1 1 rfl rfl (vp_in_iff.mpr ⟨by omega, by omega⟩) dX7_hasPart_29 ?_
      refine lv_topi (fun x_8 ex_8 => ?_)
      obtain rfl : x_3 = x_8 := ex_3.trans ex_8.symm
      refine lv_iload_n hx hb dX7_hasPart_30 rfl (lv_at hl 3 rfl) ?_
      refine lv_isub hx hb dX7_hasPart_31 ?_
      refine lv_topi (fun x_9 ex_9 => ?_)
      have k_10 := ar_sub rfl rfl ex_9 (by omega) (by omega)
      refine cpSNi (rest := []) ⟨hx, hb, hml, hown, hts⟩ hKN (hP.sub (ws' := []) [] rfl) (g_X11_isWithin l D cA p1 0 x_9) ⟨nw_11, tw_516, tw_101, tw_517⟩ hdX11_isWithin ⟨rfl, rfl, Nat.le_of_ble_eq_true rfl, Nat.le_of_ble_eq_true rfl⟩ ⟨Nat.le_of_ble_eq_true rfl, Nat.le_of_ble_eq_true rfl⟩ rfl hl.1 rfl (Nat.le_of_ble_eq_true rfl) dX7_hasPart_32 (fun r_11 hr_11 => ?_)
      rcases hr_11 with ⟨k_11_0_0, k_11_0_1, rfl⟩ | ⟨k_11_1_0, rfl⟩
      · skip
        refine lv_if_eq (tgt := 42) hx hb dX7_hasPart_35 (by decide) (fun c_12 => absurd c_12 (by decide)) (fun c_12 => ?_)
        refine lv_iconst (v := 1) hx hb dX7_hasPart_38 (by decide) ?_
        refine lv_goto (tgt := 43) hx hb dX7_hasPart_39 (by decide) ?_
        exact W.zret (v := 1) hx hb hr (by decide) (fun t ht hW => ⟨1, rfl, (Or.inl (⟨(by first | omega | assumption), (by first | omega | assumption), (by first | omega | assumption), (by first | omega | assumption), (by first | omega | assumption), (by first | omega | assumption), (by first | omega | assumption), rfl⟩)), ht⟩) (fun _ h => by cases h) dX7_hasPart_43
      · skip
        refine lv_if_eq (tgt := 42) hx hb dX7_hasPart_35 (by decide) (fun c_13 => ?_) (fun c_13 => absurd (by decide) c_13)
        refine lv_iconst (v := 0) hx hb dX7_hasPart_42 (by decide) ?_
        exact W.zret (v := 0) hx hb hr (by decide) (fun t ht hW => ⟨0, rfl, (Or.inr (rfl)), ht⟩) (fun _ h => by cases h) dX7_hasPart_43
    · skip
      refine lv_if_eq (tgt := 42) hx hb dX7_hasPart_19 (by decide) (fun c_14 => ?_) (fun c_14 => absurd (by decide) c_14)
      refine lv_iconst (v := 0) hx hb dX7_hasPart_42 (by decide) ?_
      exact W.zret (v := 0) hx hb hr (by decide) (fun t ht hW => ⟨0, rfl, (Or.inr (rfl)), ht⟩) (fun _ h => by cases h) dX7_hasPart_43
  · skip
    refine lv_if_eq (tgt := 42) hx hb dX7_hasPart_5 (by decide) (fun c_15 => ?_) (fun c_15 => absurd (by decide) c_15)
    refine lv_iconst (v := 0) hx hb dX7_hasPart_42 (by decide) ?_
    exact W.zret (v := 0) hx hb hr (by decide) (fun t ht hW => ⟨0, rfl, (Or.inr (rfl)), ht⟩) (fun _ h => by cases h) dX7_hasPart_43
set_option maxHeartbeats 8000000 in
set_option maxRecDepth 100000 in
theorem g_X7_cutTo (l : Launch) (D : va_G) (cA : Nat → ClassId) (p0 : Int32) (p1 : Int64) : Met l yX7_cutTo (Cond.code yX7_cutTo cX7_cutTo 3 (some .long) :: TB) (rmd 0 0 0) (PP D cA [] [.int p0, .long p1]) (vp_Sl (fun r => True)) 0 0 (fun _ => False) := by
  refine Met.ofW (cc := cX7_cutTo) (maxL := 3) (ret := (some .long)) (by decide) rfl ?_
  intro p e s m args below meth c s₁ B hml hv
  obtain ⟨rfl, hP, hKN⟩ := hv
  have hx := B.exec
  have hb := B.bytes
  have hr := B.returns
  have hts : ∀ w ∈ TB, w.before _ s = true := fun w h => atoms_spec B.pre w (List.mem_cons_of_mem _ h)
  have hown : s.vm.findClass RX7 = some m.cls := findClass_of_methodNamed B.named
  have hlocks := B.notSynchronized
  have hl := lv_entry ([.int p0, .long p1]) (n := 3) (Nat.le_of_ble_eq_true rfl)
  rw [lg_entry_eq]
  generalize (lg_sl ([.int p0, .long p1]) ++ List.replicate (3 - (lg_sl ([.int p0, .long p1])).length) Slot.unset).toArray = ls at hl ⊢
  have hl : lv_has ls 3 [(0, .int p0), (1, .long p1)] := hl
  refine lv_iload_n hx hb dX7_cutTo_0 rfl (lv_at hl 0 rfl) ?_
  rcases (by omega : p0.toInt = 0 ∨ p0.toInt = 1 ∨ p0.toInt = 2 ∨ p0.toInt < 0 ∨ 2 < p0.toInt) with c_1 | c_1 | c_1 | c_1
  · skip
    refine lv_tableIn (tgt := 28) hx hb dX7_cutTo_1 (by omega) (by omega) (by rw [c_1]; rfl) (by decide) ?_
    refine lv_lload_n hx hb dX7_cutTo_28 rfl (lv_at hl 1 rfl) ?_
    obtain ⟨x_2, ex_2⟩ : ∃ y, p1.toInt32 = y := ⟨_, rfl⟩
    refine lv_l2i (v := x_2) hx hb dX7_cutTo_29 ex_2 ?_
    obtain ⟨x_3, ex_3⟩ : ∃ y, x_2.toInt8.toInt32 = y := ⟨_, rfl⟩
    refine lv_i2b (v := x_3) hx hb dX7_cutTo_30 ex_3 ?_
    obtain ⟨x_4, ex_4⟩ : ∃ y, x_3.toInt64 = y := ⟨_, rfl⟩
    refine lv_i2l (v := x_4) hx hb dX7_cutTo_31 ex_4 ?_
    have k_5 := tt_i2l ex_4
    exact W.lret (v := x_4) hx hb hr (fun t ht hW => ⟨x_4, rfl, trivial, ht⟩) (fun _ h => by cases h) dX7_cutTo_32
  · skip
    refine lv_tableIn (tgt := 33) hx hb dX7_cutTo_1 (by omega) (by omega) (by rw [c_1]; rfl) (by decide) ?_
    refine lv_lload_n hx hb dX7_cutTo_33 rfl (lv_at hl 1 rfl) ?_
    obtain ⟨x_6, ex_6⟩ : ∃ y, p1.toInt32 = y := ⟨_, rfl⟩
    refine lv_l2i (v := x_6) hx hb dX7_cutTo_34 ex_6 ?_
    obtain ⟨x_7, ex_7⟩ : ∃ y, x_6.toInt16.toInt32 = y := ⟨_, rfl⟩
    refine lv_i2s (v := x_7) hx hb dX7_cutTo_35 ex_7 ?_
    obtain ⟨x_8, ex_8⟩ : ∃ y, x_7.toInt64 = y := ⟨_, rfl⟩
    refine lv_i2l (v := x_8) hx hb dX7_cutTo_36 ex_8 ?_
    have k_9 := tt_i2l ex_8
    exact W.lret (v := x_8) hx hb hr (fun t ht hW => ⟨x_8, rfl, trivial, ht⟩) (fun _ h => by cases h) dX7_cutTo_37
  · skip
    refine lv_tableIn (tgt := 38) hx hb dX7_cutTo_1 (by omega) (by omega) (by rw [c_1]; rfl) (by decide) ?_
    refine lv_lload_n hx hb dX7_cutTo_38 rfl (lv_at hl 1 rfl) ?_
    obtain ⟨x_10, ex_10⟩ : ∃ y, p1.toInt32 = y := ⟨_, rfl⟩
    refine lv_l2i (v := x_10) hx hb dX7_cutTo_39 ex_10 ?_
    obtain ⟨x_11, ex_11⟩ : ∃ y, x_10.toInt64 = y := ⟨_, rfl⟩
    refine lv_i2l (v := x_11) hx hb dX7_cutTo_40 ex_11 ?_
    have k_12 := tt_i2l ex_11
    exact W.lret (v := x_11) hx hb hr (fun t ht hW => ⟨x_11, rfl, trivial, ht⟩) (fun _ h => by cases h) dX7_cutTo_41
  · skip
    refine lv_tableOut (tgt := 42) hx hb dX7_cutTo_1 c_1 (by decide) ?_
    refine lv_lload_n hx hb dX7_cutTo_42 rfl (lv_at hl 1 rfl) ?_
    exact W.lret (v := p1) hx hb hr (fun t ht hW => ⟨p1, rfl, trivial, ht⟩) (fun _ h => by cases h) dX7_cutTo_43
set_option maxHeartbeats 8000000 in
set_option maxRecDepth 100000 in
theorem g_X7_numberAt (l : Launch) (D : va_G) (cA : Nat → ClassId) (h0 : Nat) (s_qsizes : Nat) (s_qwidths : Nat) (s_qnumbers : Nat) (s_csizes : Nat → Int32) (s_cnumbers : Nat → Int64) (p0 : Int32) (p1 : Int32) (a_s_csizes_0 : AR (-1) 60 s_csizes) : Met l yX7_numberAt (Cond.code yX7_numberAt cX7_numberAt 3 (some .long) :: TB) (rmd 2 0 0) (PP D cA [(h0, .inr (7, [.ref s_qsizes, .ref s_qwidths, .ref s_qnumbers])), (s_qsizes, .inl (cA 1, 4, .inl s_csizes)), (s_qnumbers, .inl (cA 2, 240, .inr (.inl s_cnumbers)))] [.ref h0, .int p0, .int p1]) (vp_Sl (fun r => True)) 0 0 (fun _ => False) := by
  refine Met.ofW (cc := cX7_numberAt) (maxL := 3) (ret := (some .long)) (by decide) rfl ?_
  intro p e s m args below meth c s₁ B hml hv
  obtain ⟨rfl, hP, hKN⟩ := hv
  have hx := B.exec
  have hb := B.bytes
  have hr := B.returns
  have hts : ∀ w ∈ TB, w.before _ s = true := fun w h => atoms_spec B.pre w (List.mem_cons_of_mem _ h)
  have hown : s.vm.findClass RX7 = some m.cls := findClass_of_methodNamed B.named
  have hlocks := B.notSynchronized
  have hl := lv_entry ([.ref h0, .int p0, .int p1]) (n := 3) (Nat.le_of_ble_eq_true rfl)
  rw [lg_entry_eq]
  generalize (lg_sl ([.ref h0, .int p0, .int p1]) ++ List.replicate (3 - (lg_sl ([.ref h0, .int p0, .int p1])).length) Slot.unset).toArray = ls at hl ⊢
  have hl : lv_has ls 3 [(0, .ref h0), (1, .int p0), (2, .int p1)] := hl
  refine lv_aload_n hx hb dX7_numberAt_0 rfl (lv_at hl 0 rfl) ?_
  refine lv_iload_n hx hb dX7_numberAt_1 rfl (lv_at hl 1 rfl) ?_
  refine lv_iload_n hx hb dX7_numberAt_2 rfl (lv_at hl 2 rfl) ?_
  refine lv_iconst (v := 1) hx hb dX7_numberAt_3 (by decide) ?_
  have z_1 := zi_1
  refine cpVi (rest := []) ⟨hx, hb, hml, hown, hts⟩ hKN (hP.sub (ws' := [(h0, .inr (7, [.ref s_qsizes, .ref s_qwidths, .ref s_qnumbers])), (s_qsizes, .inl (cA 1, 4, .inl s_csizes))]) [0, 1] rfl) (g_X7_hasPart l D cA h0 s_qsizes s_qwidths s_qnumbers s_csizes p0 p1 1 a_s_csizes_0) (tb_V tw_960 tw_961 tw_962 tw_107 tw_963) hdX7_hasPart ⟨rfl, rfl, Nat.le_of_ble_eq_true rfl, Nat.le_of_ble_eq_true rfl⟩ ⟨Nat.le_of_ble_eq_true rfl, Nat.le_of_ble_eq_true rfl⟩ rfl rfl rfl hl.1 rfl (Nat.le_of_ble_eq_true rfl) dX7_numberAt_4 (fun r_2 hr_2 => ?_)
  rcases hr_2 with ⟨k_2_0_0, k_2_0_1, k_2_0_2, k_2_0_3, k_2_0_4, k_2_0_5, k_2_0_6, rfl⟩ | rfl
  · skip
    refine lv_if_eq (tgt := 24) hx hb dX7_numberAt_7 (by decide) (fun c_3 => absurd c_3 (by decide)) (fun c_3 => ?_)
    refine lv_aload_n hx hb dX7_numberAt_10 rfl (lv_at hl 0 rfl) ?_
    refine va_get (D := D) (ci := 7) (v := .ref s_qnumbers) (C := RX7) (T := TX7) (N := 3) hx hb hts inX7 hown hKN.1 hP 0 rfl rfl 2 (by decide) (hts _ tw_345) (fun _ h9 => h9) rfl dX7_numberAt_11 ?_
    refine lv_iload_n hx hb dX7_numberAt_14 rfl (lv_at hl 1 rfl) ?_
    refine lv_bipush (v := 60) hx hb dX7_numberAt_15 (by decide) ?_
    refine lv_imul hx hb dX7_numberAt_17 ?_
    refine lv_topi (fun x_4 ex_4 => ?_)
    have k_5 := ar_mul rfl zi_60 ex_4 (by omega) (by omega)
    refine lv_iload_n hx hb dX7_numberAt_18 rfl (lv_at hl 2 rfl) ?_
    refine lv_iadd hx hb dX7_numberAt_19 ?_
    refine lv_topi (fun x_6 ex_6 => ?_)
    have k_7 := ar_add rfl rfl ex_6 (by omega) (by omega)
    refine va_lald hx hb hKN.1 hP 2 2 rfl rfl (vp_in_iff.mpr ⟨by omega, by omega⟩) dX7_numberAt_20 ?_
    refine lv_topl (fun x_8 ex_8 => ?_)
    refine lv_goto (tgt := 27) hx hb dX7_numberAt_21 (by decide) ?_
    exact W.lret (v := x_8) hx hb hr (fun t ht hW => ⟨x_8, rfl, trivial, ht⟩) (fun _ h => by cases h) dX7_numberAt_27
  · skip
    refine lv_if_eq (tgt := 24) hx hb dX7_numberAt_7 (by decide) (fun c_9 => ?_) (fun c_9 => absurd (by decide) c_9)
    refine lv_ldc2 (v := (-1)) hx hb hown (hts _ tw_965) dX7_numberAt_24 ?_
    exact W.lret (v := (-1)) hx hb hr (fun t ht hW => ⟨(-1), rfl, trivial, ht⟩) (fun _ h => by cases h) dX7_numberAt_27
set_option maxHeartbeats 8000000 in
set_option maxRecDepth 100000 in
theorem g_X7_put (l : Launch) (D : va_G) (cA : Nat → ClassId) (sz : Nat) (h0 : Nat) (s_qsizes : Nat) (s_qwidths : Nat) (s_qnumbers : Nat) (s_csizes : Nat → Int32) (s_cwidths : Nat → Int32) (s_cnumbers : Nat → Int64) (p0 : Int32) (p1 : Int32) (p2 : Int64) (a_s_csizes_0 : AR (-1) 60 s_csizes) : Met l yX7_put (Cond.code yX7_put cX7_put 5 none :: TB) (rmd 2 0 0) (PM D cA sz [(h0, .inr (7, [.ref s_qsizes, .ref s_qwidths, .ref s_qnumbers])), (s_qsizes, .inl (cA 1, 4, .inl s_csizes)), (s_qwidths, .inl (cA 1, 4, .inl s_cwidths)), (s_qnumbers, .inl (cA 2, 240, .inr (.inl s_cnumbers)))] [.ref h0, .int p0, .int p1, .long p2]) (va_Qv (fun (u : SU) => True) (fun u t => va_P D vwCl [(h0, .inr (7, [.ref s_qsizes, .ref s_qwidths, .ref s_qnumbers])), (s_qsizes, .inl (cA 1, 4, .inl s_csizes)), (s_qwidths, .inl (cA 1, 4, .inl s_cwidths)), (s_qnumbers, .inl (cA 2, 240, .inr (.inl (u.2.2.2 0))))] t.heap ∧ va_D (va_A [(h0, .inr (7, [.ref s_qsizes, .ref s_qwidths, .ref s_qnumbers])), (s_qsizes, .inl (cA 1, 4, .inl s_csizes)), (s_qwidths, .inl (cA 1, 4, .inl s_cwidths)), (s_qnumbers, .inl (cA 2, 240, .inr (.inl s_cnumbers)))] sz) [(h0, .inr (7, [.ref s_qsizes, .ref s_qwidths, .ref s_qnumbers])), (s_qsizes, .inl (cA 1, 4, .inl s_csizes)), (s_qwidths, .inl (cA 1, 4, .inl s_cwidths)), (s_qnumbers, .inl (cA 2, 240, .inr (.inl (u.2.2.2 0))))]) (va_A [(h0, .inr (7, [.ref s_qsizes, .ref s_qwidths, .ref s_qnumbers])), (s_qsizes, .inl (cA 1, 4, .inl s_csizes)), (s_qwidths, .inl (cA 1, 4, .inl s_cwidths)), (s_qnumbers, .inl (cA 2, 240, .inr (.inl s_cnumbers)))] sz)) 0 0 (va_A [(h0, .inr (7, [.ref s_qsizes, .ref s_qwidths, .ref s_qnumbers])), (s_qsizes, .inl (cA 1, 4, .inl s_csizes)), (s_qwidths, .inl (cA 1, 4, .inl s_cwidths)), (s_qnumbers, .inl (cA 2, 240, .inr (.inl s_cnumbers)))] sz) := by
  refine Met.ofW (cc := cX7_put) (maxL := 5) (ret := none) (by decide) rfl ?_
  intro p e s m args below meth c s₁ B hml hv
  obtain ⟨rfl, hsz, hP, hKN, hD0⟩ := hv
  have hx := B.exec
  have hb := B.bytes
  have hr := B.returns
  have hts : ∀ w ∈ TB, w.before _ s = true := fun w h => atoms_spec B.pre w (List.mem_cons_of_mem _ h)
  have hown : s.vm.findClass RX7 = some m.cls := findClass_of_methodNamed B.named
  have hlocks := B.notSynchronized
  subst hsz
  have hD := hD0.self (sz := s.heap.size)
  generalize hAe : va_A [(h0, .inr (7, [.ref s_qsizes, .ref s_qwidths, .ref s_qnumbers])), (s_qsizes, .inl (cA 1, 4, .inl s_csizes)), (s_qwidths, .inl (cA 1, 4, .inl s_cwidths)), (s_qnumbers, .inl (cA 2, 240, .inr (.inl s_cnumbers)))] s.heap.size = A at hD ⊢
  have hA : ∀ q : Nat, s.heap.size ≤ q → A q := fun q h => by rw [← hAe]; exact Or.inr h
  have hS : va_S A s.heap s.heap [] := va_S.rf
  have hl := lv_entry ([.ref h0, .int p0, .int p1, .long p2]) (n := 5) (Nat.le_of_ble_eq_true rfl)
  rw [lg_entry_eq]
  generalize (lg_sl ([.ref h0, .int p0, .int p1, .long p2]) ++ List.replicate (5 - (lg_sl ([.ref h0, .int p0, .int p1, .long p2])).length) Slot.unset).toArray = ls at hl ⊢
  have hl : lv_has ls 5 [(0, .ref h0), (1, .int p0), (2, .int p1), (3, .long p2)] := hl
  refine lv_aload_n hx hb dX7_put_0 rfl (lv_at hl 0 rfl) ?_
  refine lv_iload_n hx hb dX7_put_1 rfl (lv_at hl 1 rfl) ?_
  refine lv_iload_n hx hb dX7_put_2 rfl (lv_at hl 2 rfl) ?_
  refine lv_iconst (v := 1) hx hb dX7_put_3 (by decide) ?_
  have z_1 := zi_1
  refine cpVi (rest := []) ⟨hx, hb, hml, hown, hts⟩ hKN (hP.sub (ws' := [(h0, .inr (7, [.ref s_qsizes, .ref s_qwidths, .ref s_qnumbers])), (s_qsizes, .inl (cA 1, 4, .inl s_csizes))]) [0, 1] rfl) (g_X7_hasPart l D cA h0 s_qsizes s_qwidths s_qnumbers s_csizes p0 p1 1 a_s_csizes_0) (tb_V tw_960 tw_961 tw_962 tw_107 tw_963) hdX7_hasPart ⟨rfl, rfl, Nat.le_of_ble_eq_true rfl, Nat.le_of_ble_eq_true rfl⟩ ⟨Nat.le_of_ble_eq_true rfl, Nat.le_of_ble_eq_true rfl⟩ rfl rfl rfl hl.1 rfl (Nat.le_of_ble_eq_true rfl) dX7_put_4 (fun r_2 hr_2 => ?_)
  rcases hr_2 with ⟨k_2_0_0, k_2_0_1, k_2_0_2, k_2_0_3, k_2_0_4, k_2_0_5, k_2_0_6, rfl⟩ | rfl
  · skip
    refine lv_if_eq (tgt := 31) hx hb dX7_put_7 (by decide) (fun c_3 => absurd c_3 (by decide)) (fun c_3 => ?_)
    refine lv_aload_n hx hb dX7_put_10 rfl (lv_at hl 0 rfl) ?_
    refine va_get (D := D) (ci := 7) (v := .ref s_qnumbers) (C := RX7) (T := TX7) (N := 3) hx hb hts inX7 hown hKN.1 hP 0 rfl rfl 2 (by decide) (hts _ tw_345) (fun _ h9 => h9) rfl dX7_put_11 ?_
    refine lv_iload_n hx hb dX7_put_14 rfl (lv_at hl 1 rfl) ?_
    refine lv_bipush (v := 60) hx hb dX7_put_15 (by decide) ?_
    refine lv_imul hx hb dX7_put_17 ?_
    refine lv_topi (fun x_4 ex_4 => ?_)
    have k_5 := ar_mul rfl zi_60 ex_4 (by omega) (by omega)
    refine lv_iload_n hx hb dX7_put_18 rfl (lv_at hl 2 rfl) ?_
    refine lv_iadd hx hb dX7_put_19 ?_
    refine lv_topi (fun x_6 ex_6 => ?_)
    have k_7 := ar_add rfl rfl ex_6 (by omega) (by omega)
    refine lv_aload_n hx hb dX7_put_20 rfl (lv_at hl 0 rfl) ?_
    refine va_get (D := D) (ci := 7) (v := .ref s_qwidths) (C := RX7) (T := TX7) (N := 3) hx hb hts inX7 hown hKN.1 hP 0 rfl rfl 1 (by decide) (hts _ tw_344) (fun _ h9 => h9) rfl dX7_put_21 ?_
    refine lv_iload_n hx hb dX7_put_24 rfl (lv_at hl 1 rfl) ?_
    refine va_iald hx hb hKN.1 hP 2 1 rfl rfl (vp_in_iff.mpr ⟨by omega, by omega⟩) dX7_put_25 ?_
    refine lv_topi (fun x_8 ex_8 => ?_)
    refine lv_lload_n hx hb dX7_put_26 rfl (lv_at hl 3 rfl) ?_
    refine cpSl (rest := [.int x_6, .ref s_qnumbers]) ⟨hx, hb, hml, hown, hts⟩ hKN (hP.sub (ws' := []) [] rfl) (g_X7_cutTo l D cA x_8 p2) (tb_S tw_1398 tw_1399 tw_107 tw_1400) hdX7_cutTo ⟨rfl, rfl, Nat.le_of_ble_eq_true rfl, Nat.le_of_ble_eq_true rfl⟩ ⟨Nat.le_of_ble_eq_true rfl, Nat.le_of_ble_eq_true rfl⟩ rfl hl.1 rfl (Nat.le_of_ble_eq_true rfl) dX7_put_27 (fun r_9 hr_9 => ?_)
    refine va_last hx hb hKN.1 hP hD hS 3 2 rfl rfl (vp_in_iff.mpr ⟨by omega, by omega⟩) dX7_put_30 (fun H locs hP hD hS => ?_)
    have hP : va_P D vwCl [(h0, .inr (7, [.ref s_qsizes, .ref s_qwidths, .ref s_qnumbers])), (s_qsizes, .inl (cA 1, 4, .inl s_csizes)), (s_qwidths, .inl (cA 1, 4, .inl s_cwidths)), (s_qnumbers, .inl (cA 2, 240, .inr (.inl (vp_updL s_cnumbers x_6.toNatClampNeg r_9))))] H := hP
    have hD : va_D A [(h0, .inr (7, [.ref s_qsizes, .ref s_qwidths, .ref s_qnumbers])), (s_qsizes, .inl (cA 1, 4, .inl s_csizes)), (s_qwidths, .inl (cA 1, 4, .inl s_cwidths)), (s_qnumbers, .inl (cA 2, 240, .inr (.inl (vp_updL s_cnumbers x_6.toNatClampNeg r_9))))] := hD
    generalize ef_10 : (vp_updL s_cnumbers x_6.toNatClampNeg r_9) = f_10 at hP hD
    have hP9 := hP.sub (ws' := [(h0, .inr (7, [.ref s_qsizes, .ref s_qwidths, .ref s_qnumbers])), (s_qsizes, .inl (cA 1, 4, .inl s_csizes)), (s_qwidths, .inl (cA 1, 4, .inl s_cwidths)), (s_qnumbers, .inl (cA 2, 240, .inr (.inl f_10)))]) [0, 1, 2, 3] rfl
    have hD9 := hD.sub (ws' := [(h0, .inr (7, [.ref s_qsizes, .ref s_qwidths, .ref s_qnumbers])), (s_qsizes, .inl (cA 1, 4, .inl s_csizes)), (s_qwidths, .inl (cA 1, 4, .inl s_cwidths)), (s_qnumbers, .inl (cA 2, 240, .inr (.inl f_10)))]) [0, 1, 2, 3] (by decide) rfl
    exact W.vret hx hb hr (fun t ht hW => ⟨⟨((fun _ => 0), (fun _ => 0), (fun _ _ => 0), (selJ [f_10])), rfl, trivial, by rw [ht]; exact hP9, hD9⟩, hS.F ht⟩) hS.2.2 dX7_put_31
  · skip
    refine lv_if_eq (tgt := 31) hx hb dX7_put_7 (by decide) (fun c_11 => ?_) (fun c_11 => absurd (by decide) c_11)
    have hP9 := hP.sub (ws' := [(h0, .inr (7, [.ref s_qsizes, .ref s_qwidths, .ref s_qnumbers])), (s_qsizes, .inl (cA 1, 4, .inl s_csizes)), (s_qwidths, .inl (cA 1, 4, .inl s_cwidths)), (s_qnumbers, .inl (cA 2, 240, .inr (.inl s_cnumbers)))]) [0, 1, 2, 3] rfl
    have hD9 := hD.sub (ws' := [(h0, .inr (7, [.ref s_qsizes, .ref s_qwidths, .ref s_qnumbers])), (s_qsizes, .inl (cA 1, 4, .inl s_csizes)), (s_qwidths, .inl (cA 1, 4, .inl s_cwidths)), (s_qnumbers, .inl (cA 2, 240, .inr (.inl s_cnumbers)))]) [0, 1, 2, 3] (by decide) rfl
    exact W.vret hx hb hr (fun t ht hW => ⟨⟨((fun _ => 0), (fun _ => 0), (fun _ _ => 0), (selJ [s_cnumbers])), rfl, trivial, by rw [ht]; exact hP9, hD9⟩, hS.F ht⟩) hS.2.2 dX7_put_31
set_option maxHeartbeats 8000000 in
set_option maxRecDepth 100000 in
theorem g_X7_move (l : Launch) (D : va_G) (cA : Nat → ClassId) (sz : Nat) (h0 : Nat) (s_qsizes : Nat) (s_qwidths : Nat) (s_qnumbers : Nat) (s_csizes : Nat → Int32) (s_cnumbers : Nat → Int64) (p0 : Int32) (p1 : Int32) (p2 : Int32) (p3 : Int32) (p4 : Int32) (a_s_csizes_0 : AR (-1) 60 s_csizes) : Met l yX7_move (Cond.code yX7_move cX7_move 6 none :: TB) (rmd 2 0 0) (PM D cA sz [(h0, .inr (7, [.ref s_qsizes, .ref s_qwidths, .ref s_qnumbers])), (s_qsizes, .inl (cA 1, 4, .inl s_csizes)), (s_qnumbers, .inl (cA 2, 240, .inr (.inl s_cnumbers)))] [.ref h0, .int p0, .int p1, .int p2, .int p3, .int p4]) (va_Qv (fun (u : SU) => True) (fun u t => va_P D vwCl [(h0, .inr (7, [.ref s_qsizes, .ref s_qwidths, .ref s_qnumbers])), (s_qsizes, .inl (cA 1, 4, .inl s_csizes)), (s_qnumbers, .inl (cA 2, 240, .inr (.inl (u.2.2.2 0))))] t.heap ∧ va_D (va_A [(h0, .inr (7, [.ref s_qsizes, .ref s_qwidths, .ref s_qnumbers])), (s_qsizes, .inl (cA 1, 4, .inl s_csizes)), (s_qnumbers, .inl (cA 2, 240, .inr (.inl s_cnumbers)))] sz) [(h0, .inr (7, [.ref s_qsizes, .ref s_qwidths, .ref s_qnumbers])), (s_qsizes, .inl (cA 1, 4, .inl s_csizes)), (s_qnumbers, .inl (cA 2, 240, .inr (.inl (u.2.2.2 0))))]) (va_A [(h0, .inr (7, [.ref s_qsizes, .ref s_qwidths, .ref s_qnumbers])), (s_qsizes, .inl (cA 1, 4, .inl s_csizes)), (s_qnumbers, .inl (cA 2, 240, .inr (.inl s_cnumbers)))] sz)) 0 0 (va_A [(h0, .inr (7, [.ref s_qsizes, .ref s_qwidths, .ref s_qnumbers])), (s_qsizes, .inl (cA 1, 4, .inl s_csizes)), (s_qnumbers, .inl (cA 2, 240, .inr (.inl s_cnumbers)))] sz) := by
  refine Met.ofW (cc := cX7_move) (maxL := 6) (ret := none) (by decide) rfl ?_
  intro p e s m args below meth c s₁ B hml hv
  obtain ⟨rfl, hsz, hP, hKN, hD0⟩ := hv
  have hx := B.exec
  have hb := B.bytes
  have hr := B.returns
  have hts : ∀ w ∈ TB, w.before _ s = true := fun w h => atoms_spec B.pre w (List.mem_cons_of_mem _ h)
  have hown : s.vm.findClass RX7 = some m.cls := findClass_of_methodNamed B.named
  have hlocks := B.notSynchronized
  subst hsz
  have hD := hD0.self (sz := s.heap.size)
  generalize hAe : va_A [(h0, .inr (7, [.ref s_qsizes, .ref s_qwidths, .ref s_qnumbers])), (s_qsizes, .inl (cA 1, 4, .inl s_csizes)), (s_qnumbers, .inl (cA 2, 240, .inr (.inl s_cnumbers)))] s.heap.size = A at hD ⊢
  have hA : ∀ q : Nat, s.heap.size ≤ q → A q := fun q h => by rw [← hAe]; exact Or.inr h
  have hS : va_S A s.heap s.heap [] := va_S.rf
  have hl := lv_entry ([.ref h0, .int p0, .int p1, .int p2, .int p3, .int p4]) (n := 6) (Nat.le_of_ble_eq_true rfl)
  rw [lg_entry_eq]
  generalize (lg_sl ([.ref h0, .int p0, .int p1, .int p2, .int p3, .int p4]) ++ List.replicate (6 - (lg_sl ([.ref h0, .int p0, .int p1, .int p2, .int p3, .int p4])).length) Slot.unset).toArray = ls at hl ⊢
  have hl : lv_has ls 6 [(0, .ref h0), (1, .int p0), (2, .int p1), (3, .int p2), (4, .int p3), (5, .int p4)] := hl
  refine lv_aload_n hx hb dX7_move_0 rfl (lv_at hl 0 rfl) ?_
  refine lv_iload_n hx hb dX7_move_1 rfl (lv_at hl 1 rfl) ?_
  refine lv_iload_n hx hb dX7_move_2 rfl (lv_at hl 2 rfl) ?_
  refine lv_iload hx hb dX7_move_3 (lv_at hl 5 rfl) ?_
  refine cpVi (rest := []) ⟨hx, hb, hml, hown, hts⟩ hKN (hP.sub (ws' := [(h0, .inr (7, [.ref s_qsizes, .ref s_qwidths, .ref s_qnumbers])), (s_qsizes, .inl (cA 1, 4, .inl s_csizes))]) [0, 1] rfl) (g_X7_hasPart l D cA h0 s_qsizes s_qwidths s_qnumbers s_csizes p0 p1 p4 a_s_csizes_0) (tb_V tw_960 tw_961 tw_962 tw_107 tw_963) hdX7_hasPart ⟨rfl, rfl, Nat.le_of_ble_eq_true rfl, Nat.le_of_ble_eq_true rfl⟩ ⟨Nat.le_of_ble_eq_true rfl, Nat.le_of_ble_eq_true rfl⟩ rfl rfl rfl hl.1 rfl (Nat.le_of_ble_eq_true rfl) dX7_move_5 (fun r_1 hr_1 => ?_)
  rcases hr_1 with ⟨k_1_0_0, k_1_0_1, k_1_0_2, k_1_0_3, k_1_0_4, k_1_0_5, k_1_0_6, rfl⟩ | rfl
  · skip
    refine lv_if_eq (tgt := 49) hx hb dX7_move_8 (by decide) (fun c_2 => absurd c_2 (by decide)) (fun c_2 => ?_)
    refine lv_aload_n hx hb dX7_move_11 rfl (lv_at hl 0 rfl) ?_
    refine lv_iload_n hx hb dX7_move_12 rfl (lv_at hl 3 rfl) ?_
    refine lv_iload hx hb dX7_move_13 (lv_at hl 4 rfl) ?_
    refine lv_iload hx hb dX7_move_15 (lv_at hl 5 rfl) ?_
    refine cpVi (rest := []) ⟨hx, hb, hml, hown, hts⟩ hKN (hP.sub (ws' := [(h0, .inr (7, [.ref s_qsizes, .ref s_qwidths, .ref s_qnumbers])), (s_qsizes, .inl (cA 1, 4, .inl s_csizes))]) [0, 1] rfl) (g_X7_hasPart l D cA h0 s_qsizes s_qwidths s_qnumbers s_csizes p2 p3 p4 a_s_csizes_0) (tb_V tw_960 tw_961 tw_962 tw_107 tw_963) hdX7_hasPart ⟨rfl, rfl, Nat.le_of_ble_eq_true rfl, Nat.le_of_ble_eq_true rfl⟩ ⟨Nat.le_of_ble_eq_true rfl, Nat.le_of_ble_eq_true rfl⟩ rfl rfl rfl hl.1 rfl (Nat.le_of_ble_eq_true rfl) dX7_move_17 (fun r_3 hr_3 => ?_)
    rcases hr_3 with ⟨k_3_0_0, k_3_0_1, k_3_0_2, k_3_0_3, k_3_0_4, k_3_0_5, k_3_0_6, rfl⟩ | rfl
    · skip
      refine lv_if_eq (tgt := 49) hx hb dX7_move_20 (by decide) (fun c_4 => absurd c_4 (by decide)) (fun c_4 => ?_)
      refine lv_aload_n hx hb dX7_move_23 rfl (lv_at hl 0 rfl) ?_
      refine va_get (D := D) (ci := 7) (v := .ref s_qnumbers) (C := RX7) (T := TX7) (N := 3) hx hb hts inX7 hown hKN.1 hP 0 rfl rfl 2 (by decide) (hts _ tw_345) (fun _ h9 => h9) rfl dX7_move_24 ?_
      refine lv_iload_n hx hb dX7_move_27 rfl (lv_at hl 1 rfl) ?_
      refine lv_bipush (v := 60) hx hb dX7_move_28 (by decide) ?_
      refine lv_imul hx hb dX7_move_30 ?_
      refine lv_topi (fun x_5 ex_5 => ?_)
      have k_6 := ar_mul rfl zi_60 ex_5 (by omega) (by omega)
      refine lv_iload_n hx hb dX7_move_31 rfl (lv_at hl 2 rfl) ?_
      refine lv_iadd hx hb dX7_move_32 ?_
      refine lv_topi (fun x_7 ex_7 => ?_)
      have k_8 := ar_add rfl rfl ex_7 (by omega) (by omega)
      refine lv_aload_n hx hb dX7_move_33 rfl (lv_at hl 0 rfl) ?_
      refine va_get (D := D) (ci := 7) (v := .ref s_qnumbers) (C := RX7) (T := TX7) (N := 3) hx hb hts inX7 hown hKN.1 hP 0 rfl rfl 2 (by decide) (hts _ tw_345) (fun _ h9 => h9) rfl dX7_move_34 ?_
      refine lv_iload_n hx hb dX7_move_37 rfl (lv_at hl 3 rfl) ?_
      refine lv_bipush (v := 60) hx hb dX7_move_38 (by decide) ?_
      refine lv_imul hx hb dX7_move_40 ?_
      refine lv_topi (fun x_9 ex_9 => ?_)
      have k_10 := ar_mul rfl zi_60 ex_9 (by omega) (by omega)
      refine lv_iload hx hb dX7_move_41 (lv_at hl 4 rfl) ?_
      refine lv_iadd hx hb dX7_move_43 ?_
      refine lv_topi (fun x_11 ex_11 => ?_)
      have k_12 := ar_add rfl rfl ex_11 (by omega) (by omega)
      refine lv_iload hx hb dX7_move_44 (lv_at hl 5 rfl) ?_
      refine va_copyl hx hb (by rw [hml]; exact hl.1.symm) hown (hts _ tw_1413) (hts _ tw_685) (hts _ tw_684) (hts _ tw_120) hKN.1 hP hD hS 2 2 2 2 rfl rfl rfl rfl rfl (nn_i (by omega)) (nn_i (by omega)) (nn_i (by omega)) (cl_le rfl rfl (by omega)) (cl_le rfl rfl (by omega)) (fun _ _ => rfl) (Nat.le_of_ble_eq_true rfl) (Nat.le_of_ble_eq_true rfl) dX7_move_46 (fun H locs hP hD hS => ?_)
      have hP : va_P D vwCl [(h0, .inr (7, [.ref s_qsizes, .ref s_qwidths, .ref s_qnumbers])), (s_qsizes, .inl (cA 1, 4, .inl s_csizes)), (s_qnumbers, .inl (cA 2, 240, .inr (.inl (va_cpy s_cnumbers s_cnumbers x_7.toNatClampNeg x_11.toNatClampNeg p4.toNatClampNeg))))] H := hP
      have hD : va_D A [(h0, .inr (7, [.ref s_qsizes, .ref s_qwidths, .ref s_qnumbers])), (s_qsizes, .inl (cA 1, 4, .inl s_csizes)), (s_qnumbers, .inl (cA 2, 240, .inr (.inl (va_cpy s_cnumbers s_cnumbers x_7.toNatClampNeg x_11.toNatClampNeg p4.toNatClampNeg))))] := hD
      generalize ef_13 : (va_cpy s_cnumbers s_cnumbers x_7.toNatClampNeg x_11.toNatClampNeg p4.toNatClampNeg) = f_13 at hP hD
      have hP9 := hP.sub (ws' := [(h0, .inr (7, [.ref s_qsizes, .ref s_qwidths, .ref s_qnumbers])), (s_qsizes, .inl (cA 1, 4, .inl s_csizes)), (s_qnumbers, .inl (cA 2, 240, .inr (.inl f_13)))]) [0, 1, 2] rfl
      have hD9 := hD.sub (ws' := [(h0, .inr (7, [.ref s_qsizes, .ref s_qwidths, .ref s_qnumbers])), (s_qsizes, .inl (cA 1, 4, .inl s_csizes)), (s_qnumbers, .inl (cA 2, 240, .inr (.inl f_13)))]) [0, 1, 2] (by decide) rfl
      exact W.vret hx hb hr (fun t ht hW => ⟨⟨((fun _ => 0), (fun _ => 0), (fun _ _ => 0), (selJ [f_13])), rfl, trivial, by rw [ht]; exact hP9, hD9⟩, hS.F ht⟩) hS.2.2 dX7_move_49
    · skip
      refine lv_if_eq (tgt := 49) hx hb dX7_move_20 (by decide) (fun c_14 => ?_) (fun c_14 => absurd (by decide) c_14)
      have hP9 := hP.sub (ws' := [(h0, .inr (7, [.ref s_qsizes, .ref s_qwidths, .ref s_qnumbers])), (s_qsizes, .inl (cA 1, 4, .inl s_csizes)), (s_qnumbers, .inl (cA 2, 240, .inr (.inl s_cnumbers)))]) [0, 1, 2] rfl
      have hD9 := hD.sub (ws' := [(h0, .inr (7, [.ref s_qsizes, .ref s_qwidths, .ref s_qnumbers])), (s_qsizes, .inl (cA 1, 4, .inl s_csizes)), (s_qnumbers, .inl (cA 2, 240, .inr (.inl s_cnumbers)))]) [0, 1, 2] (by decide) rfl
      exact W.vret hx hb hr (fun t ht hW => ⟨⟨((fun _ => 0), (fun _ => 0), (fun _ _ => 0), (selJ [s_cnumbers])), rfl, trivial, by rw [ht]; exact hP9, hD9⟩, hS.F ht⟩) hS.2.2 dX7_move_49
  · skip
    refine lv_if_eq (tgt := 49) hx hb dX7_move_8 (by decide) (fun c_15 => ?_) (fun c_15 => absurd (by decide) c_15)
    have hP9 := hP.sub (ws' := [(h0, .inr (7, [.ref s_qsizes, .ref s_qwidths, .ref s_qnumbers])), (s_qsizes, .inl (cA 1, 4, .inl s_csizes)), (s_qnumbers, .inl (cA 2, 240, .inr (.inl s_cnumbers)))]) [0, 1, 2] rfl
    have hD9 := hD.sub (ws' := [(h0, .inr (7, [.ref s_qsizes, .ref s_qwidths, .ref s_qnumbers])), (s_qsizes, .inl (cA 1, 4, .inl s_csizes)), (s_qnumbers, .inl (cA 2, 240, .inr (.inl s_cnumbers)))]) [0, 1, 2] (by decide) rfl
    exact W.vret hx hb hr (fun t ht hW => ⟨⟨((fun _ => 0), (fun _ => 0), (fun _ _ => 0), (selJ [s_cnumbers])), rfl, trivial, by rw [ht]; exact hP9, hD9⟩, hS.F ht⟩) hS.2.2 dX7_move_49

theorem zi_0 : (0 : Int32).toInt = 0 := by decide
theorem zi_1 : (1 : Int32).toInt = 1 := by decide
theorem zi_1431655765 : (1431655765 : Int32).toInt = 1431655765 := by decide
theorem zi_2 : (2 : Int32).toInt = 2 := by decide
theorem zi_200 : (200 : Int32).toInt = 200 := by decide
theorem zi_252645135 : (252645135 : Int32).toInt = 252645135 := by decide
theorem zi_4 : (4 : Int32).toInt = 4 := by decide
theorem zi_40 : (40 : Int32).toInt = 40 := by decide
theorem zi_63 : (63 : Int32).toInt = 63 := by decide
theorem zi_7 : (7 : Int32).toInt = 7 := by decide
theorem zi_8 : (8 : Int32).toInt = 8 := by decide
theorem zi_858993459 : (858993459 : Int32).toInt = 858993459 := by decide
theorem zi_999 : (999 : Int32).toInt = 999 := by decide
theorem zi_m1 : ((-1) : Int32).toInt = -1 := by decide
theorem zj_0 : (0 : Int64).toInt = 0 := by decide
theorem zj_1 : (1 : Int64).toInt = 1 := by decide
set_option maxHeartbeats 8000000 in
set_option maxRecDepth 100000 in
theorem g_X11_isWithin (l : Launch) (D : va_G) (cA : Nat → ClassId) (p0 : Int32) (p1 : Int32) (p2 : Int32) : Met l yX11_isWithin (Cond.code yX11_isWithin cX11_isWithin 3 (some .boolean) :: TB) (rmd 0 0 0) (PP D cA [] [.int p0, .int p1, .int p2]) (vp_Si (fun r => (((p1 : Int32).toInt ≤ (p0 : Int32).toInt) ∧ ((p0 : Int32).toInt ≤ (p2 : Int32).toInt) ∧ (r = 1)) ∨ (((p0 : Int32).toInt < (p1 : Int32).toInt ∨ (p2 : Int32).toInt < (p0 : Int32).toInt) ∧ (r = 0)))) 0 0 (fun _ => False) := by
  refine Met.ofW (cc := cX11_isWithin) (maxL := 3) (ret := (some .boolean)) (by decide) rfl ?_
  intro p e s m args below meth c s₁ B hml hv
  obtain ⟨rfl, hP, hKN⟩ := hv
  have hx := B.exec
  have hb := B.bytes
  have hr := B.returns
  have hts : ∀ w ∈ TB, w.before _ s = true := fun w h => atoms_spec B.pre w (List.mem_cons_of_mem _ h)
  have hown : s.vm.findClass RX11 = some m.cls := findClass_of_methodNamed B.named
  have hlocks := B.notSynchronized
  have hl := lv_entry ([.int p0, .int p1, .int p2]) (n := 3) (Nat.le_of_ble_eq_true rfl)
  rw [lg_entry_eq]
  generalize (lg_sl ([.int p0, .int p1, .int p2]) ++ List.replicate (3 - (lg_sl ([.int p0, .int p1, .int p2])).length) Slot.unset).toArray = ls at hl ⊢
  have hl : lv_has ls 3 [(0, .int p0), (1, .int p1), (2, .int p2)] := hl
  refine lv_iload_n hx hb dX11_isWithin_0 rfl (lv_at hl 0 rfl) ?_
  refine lv_iload_n hx hb dX11_isWithin_1 rfl (lv_at hl 1 rfl) ?_
  refine lv_icmp_lt (tgt := 14) hx hb dX11_isWithin_2 (by decide) (fun c_1 => ?_) (fun c_1 => ?_)
  · skip
    have b_3 := i32_bd p0
    have b_4 := i32_bd p1
    have k_2 := kk_lt rfl rfl c_1
    refine lv_iconst (v := 0) hx hb dX11_isWithin_14 (by decide) ?_
    exact W.zret (v := 0) hx hb hr (by decide) (fun t ht hW => ⟨0, rfl, (Or.inr (⟨(by first | omega | assumption), rfl⟩)), ht⟩) (fun _ h => by cases h) dX11_isWithin_15
  · skip
    have b_6 := i32_bd p0
    have b_7 := i32_bd p1
    have k_5 := kk_nlt rfl rfl c_1
    refine lv_iload_n hx hb dX11_isWithin_5 rfl (lv_at hl 0 rfl) ?_
    refine lv_iload_n hx hb dX11_isWithin_6 rfl (lv_at hl 2 rfl) ?_
    refine lv_icmp_gt (tgt := 14) hx hb dX11_isWithin_7 (by decide) (fun c_8 => ?_) (fun c_8 => ?_)
    · skip
      have b_10 := i32_bd p2
      have k_9 := kk_lt rfl rfl c_8
      refine lv_iconst (v := 0) hx hb dX11_isWithin_14 (by decide) ?_
      exact W.zret (v := 0) hx hb hr (by decide) (fun t ht hW => ⟨0, rfl, (Or.inr (⟨(by first | omega | assumption), rfl⟩)), ht⟩) (fun _ h => by cases h) dX11_isWithin_15
    · skip
      have b_12 := i32_bd p2
      have k_11 := kk_nlt rfl rfl c_8
      refine lv_iconst (v := 1) hx hb dX11_isWithin_10 (by decide) ?_
      refine lv_goto (tgt := 15) hx hb dX11_isWithin_11 (by decide) ?_
      exact W.zret (v := 1) hx hb hr (by decide) (fun t ht hW => ⟨1, rfl, (Or.inl (⟨(by first | omega | assumption), (by first | omega | assumption), rfl⟩)), ht⟩) (fun _ h => by cases h) dX11_isWithin_15
set_option maxHeartbeats 8000000 in
set_option maxRecDepth 100000 in
theorem g_J9_max_7cf53 (l : Launch) (D : va_G) (cA : Nat → ClassId) (p0 : Int32) (p1 : Int32) : Met l yJ9_max_7cf53 (Cond.code yJ9_max_7cf53 cJ9_max_7cf53 2 (some .int) :: TB) (rmd 0 0 0) (PP D cA [] [.int p0, .int p1]) (vp_Si (fun r => ((p0 : Int32).toInt ≤ (r : Int32).toInt) ∧ ((p1 : Int32).toInt ≤ (r : Int32).toInt) ∧ ((r : Int32).toInt = (p0 : Int32).toInt ∨ (r : Int32).toInt = (p1 : Int32).toInt))) 0 0 (fun _ => False) := by
  refine Met.ofWF (cc := cJ9_max_7cf53) (maxL := 2) (ret := (some .int)) (by decide +kernel) rfl ?_
  intro p e s m args below meth c s₁ B hml hv
  obtain ⟨rfl, hP, hKN⟩ := hv
  have hx := B.exec
  have hb := B.bytes
  have hr := B.returns
  have hts : ∀ w ∈ TB, w.before _ s = true := fun w h => atoms_spec B.pre w (List.mem_cons_of_mem _ h)
  have hown : s.vm.findClass "java/lang/Math" = some m.cls := findClass_of_methodNamed B.named
  have hlocks := B.notSynchronized
  have hl := lv_entry ([.int p0, .int p1]) (n := 2) (Nat.le_of_ble_eq_true rfl)
  rw [lg_entry_eq]
  generalize (lg_sl ([.int p0, .int p1]) ++ List.replicate (2 - (lg_sl ([.int p0, .int p1])).length) Slot.unset).toArray = ls at hl ⊢
  have hl : lv_has ls 2 [(0, .int p0), (1, .int p1)] := hl
  refine lv_iload_n hx hb dJ9_max_7cf53_0 rfl (lv_at hl 0 rfl) ?_
  refine lv_iload_n hx hb dJ9_max_7cf53_1 rfl (lv_at hl 1 rfl) ?_
  refine lv_icmp_lt (tgt := 9) hx hb dJ9_max_7cf53_2 (by decide) (fun c_1 => ?_) (fun c_1 => ?_)
  · skip
    have b_3 := i32_bd p0
    have b_4 := i32_bd p1
    have k_2 := kk_lt rfl rfl c_1
    refine lv_iload_n hx hb dJ9_max_7cf53_9 rfl (lv_at hl 1 rfl) ?_
    exact W.iret (v := p1) hx hb hr (fun t ht hW => ⟨p1, rfl, (⟨(show (p0 : Int32).toInt ≤ (p1 : Int32).toInt from by first | omega | decide), (show (p1 : Int32).toInt ≤ (p1 : Int32).toInt from by first | omega | decide), (show (p1 : Int32).toInt = (p0 : Int32).toInt ∨ (p1 : Int32).toInt = (p1 : Int32).toInt from by first | omega | decide)⟩), ht⟩) (fun _ h => by cases h) dJ9_max_7cf53_10
  · skip
    have b_6 := i32_bd p0
    have b_7 := i32_bd p1
    have k_5 := kk_nlt rfl rfl c_1
    refine lv_iload_n hx hb dJ9_max_7cf53_5 rfl (lv_at hl 0 rfl) ?_
    refine lv_goto (tgt := 10) hx hb dJ9_max_7cf53_6 (by decide) ?_
    exact W.iret (v := p0) hx hb hr (fun t ht hW => ⟨p0, rfl, (⟨(show (p0 : Int32).toInt ≤ (p0 : Int32).toInt from by first | omega | decide), (show (p1 : Int32).toInt ≤ (p0 : Int32).toInt from by first | omega | decide), (show (p0 : Int32).toInt = (p0 : Int32).toInt ∨ (p0 : Int32).toInt = (p1 : Int32).toInt from by first | omega | decide)⟩), ht⟩) (fun _ h => by cases h) dJ9_max_7cf53_10
set_option maxHeartbeats 8000000 in
set_option maxRecDepth 100000 in
theorem g_J9_min_7cf53 (l : Launch) (D : va_G) (cA : Nat → ClassId) (p0 : Int32) (p1 : Int32) : Met l yJ9_min_7cf53 (Cond.code yJ9_min_7cf53 cJ9_min_7cf53 2 (some .int) :: TB) (rmd 0 0 0) (PP D cA [] [.int p0, .int p1]) (vp_Si (fun r => ((r : Int32).toInt ≤ (p0 : Int32).toInt) ∧ ((r : Int32).toInt ≤ (p1 : Int32).toInt) ∧ ((r : Int32).toInt = (p0 : Int32).toInt ∨ (r : Int32).toInt = (p1 : Int32).toInt))) 0 0 (fun _ => False) := by
  refine Met.ofWF (cc := cJ9_min_7cf53) (maxL := 2) (ret := (some .int)) (by decide +kernel) rfl ?_
  intro p e s m args below meth c s₁ B hml hv
  obtain ⟨rfl, hP, hKN⟩ := hv
  have hx := B.exec
  have hb := B.bytes
  have hr := B.returns
  have hts : ∀ w ∈ TB, w.before _ s = true := fun w h => atoms_spec B.pre w (List.mem_cons_of_mem _ h)
  have hown : s.vm.findClass "java/lang/Math" = some m.cls := findClass_of_methodNamed B.named
  have hlocks := B.notSynchronized
  have hl := lv_entry ([.int p0, .int p1]) (n := 2) (Nat.le_of_ble_eq_true rfl)
  rw [lg_entry_eq]
  generalize (lg_sl ([.int p0, .int p1]) ++ List.replicate (2 - (lg_sl ([.int p0, .int p1])).length) Slot.unset).toArray = ls at hl ⊢
  have hl : lv_has ls 2 [(0, .int p0), (1, .int p1)] := hl
  refine lv_iload_n hx hb dJ9_min_7cf53_0 rfl (lv_at hl 0 rfl) ?_
  refine lv_iload_n hx hb dJ9_min_7cf53_1 rfl (lv_at hl 1 rfl) ?_
  refine lv_icmp_gt (tgt := 9) hx hb dJ9_min_7cf53_2 (by decide) (fun c_1 => ?_) (fun c_1 => ?_)
  · skip
    have b_3 := i32_bd p1
    have b_4 := i32_bd p0
    have k_2 := kk_lt rfl rfl c_1
    refine lv_iload_n hx hb dJ9_min_7cf53_9 rfl (lv_at hl 1 rfl) ?_
    exact W.iret (v := p1) hx hb hr (fun t ht hW => ⟨p1, rfl, (⟨(show (p1 : Int32).toInt ≤ (p0 : Int32).toInt from by first | omega | decide), (show (p1 : Int32).toInt ≤ (p1 : Int32).toInt from by first | omega | decide), (show (p1 : Int32).toInt = (p0 : Int32).toInt ∨ (p1 : Int32).toInt = (p1 : Int32).toInt from by first | omega | decide)⟩), ht⟩) (fun _ h => by cases h) dJ9_min_7cf53_10
  · skip
    have b_6 := i32_bd p1
    have b_7 := i32_bd p0
    have k_5 := kk_nlt rfl rfl c_1
    refine lv_iload_n hx hb dJ9_min_7cf53_5 rfl (lv_at hl 0 rfl) ?_
    refine lv_goto (tgt := 10) hx hb dJ9_min_7cf53_6 (by decide) ?_
    exact W.iret (v := p0) hx hb hr (fun t ht hW => ⟨p0, rfl, (⟨(show (p0 : Int32).toInt ≤ (p0 : Int32).toInt from by first | omega | decide), (show (p0 : Int32).toInt ≤ (p1 : Int32).toInt from by first | omega | decide), (show (p0 : Int32).toInt = (p0 : Int32).toInt ∨ (p0 : Int32).toInt = (p1 : Int32).toInt from by first | omega | decide)⟩), ht⟩) (fun _ h => by cases h) dJ9_min_7cf53_10
set_option maxHeartbeats 8000000 in
set_option maxRecDepth 100000 in
theorem g_J9_floorMod_7cf53 (l : Launch) (D : va_G) (cA : Nat → ClassId) (p0 : Int32) (p1 : Int32) (h_p1 : 1 ≤ (p1 : Int32).toInt) : Met l yJ9_floorMod_7cf53 (Cond.code yJ9_floorMod_7cf53 cJ9_floorMod_7cf53 3 (some .int) :: TB) (rmd 0 0 0) (PP D cA [] [.int p0, .int p1]) (vp_Si (fun r => True)) 0 0 (fun _ => False) := by
  refine Met.ofWF (cc := cJ9_floorMod_7cf53) (maxL := 3) (ret := (some .int)) (by decide +kernel) rfl ?_
  intro p e s m args below meth c s₁ B hml hv
  obtain ⟨rfl, hP, hKN⟩ := hv
  have hx := B.exec
  have hb := B.bytes
  have hr := B.returns
  have hts : ∀ w ∈ TB, w.before _ s = true := fun w h => atoms_spec B.pre w (List.mem_cons_of_mem _ h)
  have hown : s.vm.findClass "java/lang/Math" = some m.cls := findClass_of_methodNamed B.named
  have hlocks := B.notSynchronized
  have hl := lv_entry ([.int p0, .int p1]) (n := 3) (Nat.le_of_ble_eq_true rfl)
  rw [lg_entry_eq]
  generalize (lg_sl ([.int p0, .int p1]) ++ List.replicate (3 - (lg_sl ([.int p0, .int p1])).length) Slot.unset).toArray = ls at hl ⊢
  have hl : lv_has ls 3 [(0, .int p0), (1, .int p1)] := hl
  refine lv_iload_n hx hb dJ9_floorMod_7cf53_0 rfl (lv_at hl 0 rfl) ?_
  refine lv_iload_n hx hb dJ9_floorMod_7cf53_1 rfl (lv_at hl 1 rfl) ?_
  refine lv_irem hx hb dJ9_floorMod_7cf53_2 (nz_i (by omega)) ?_
  refine lv_topi (fun x_1 ex_1 => ?_)
  refine lv_istore_n (lv' := [(2, .int x_1), (0, .int p0), (1, .int p1)]) hx hb dJ9_floorMod_7cf53_3 rfl hl (by decide) rfl (fun ls hl => ?_)
  refine lv_iload_n hx hb dJ9_floorMod_7cf53_4 rfl (lv_at hl 1 rfl) ?_
  refine lv_iload_n hx hb dJ9_floorMod_7cf53_5 rfl (lv_at hl 2 rfl) ?_
  refine lv_ixor hx hb dJ9_floorMod_7cf53_6 ?_
  refine lv_topi (fun x_3 ex_3 => ?_)
  refine lv_if_ge (tgt := 18) hx hb dJ9_floorMod_7cf53_7 (by decide) (fun c_5 => ?_) (fun c_5 => ?_)
  · skip
    have b_7 := i32_bd x_3
    have k_6 := kk_le zi_0 rfl c_5
    refine lv_iload_n hx hb dJ9_floorMod_7cf53_18 rfl (lv_at hl 0 rfl) ?_
    exact W.iret (v := x_1) hx hb hr (fun t ht hW => ⟨x_1, rfl, trivial, ht⟩) (fun _ h => by cases h) dJ9_floorMod_7cf53_19
  · skip
    have b_9 := i32_bd x_3
    have k_8 := kk_nle zi_0 rfl c_5
    refine lv_iload_n hx hb dJ9_floorMod_7cf53_10 rfl (lv_at hl 0 rfl) ?_
    refine lv_if_eq (tgt := 18) hx hb dJ9_floorMod_7cf53_11 (by decide) (fun c_10 => ?_) (fun c_10 => ?_)
    · skip
      have b_12 := i32_bd x_1
      have k_11 := kk_eq rfl zi_0 c_10
      refine lv_iload_n hx hb dJ9_floorMod_7cf53_18 rfl (lv_at hl 0 rfl) ?_
      exact W.iret (v := x_1) hx hb hr (fun t ht hW => ⟨x_1, rfl, trivial, ht⟩) (fun _ h => by cases h) dJ9_floorMod_7cf53_19
    · skip
      have b_14 := i32_bd x_1
      have k_13 := kk_ne rfl zi_0 c_10
      refine lv_iload_n hx hb dJ9_floorMod_7cf53_14 rfl (lv_at hl 0 rfl) ?_
      refine lv_iload_n hx hb dJ9_floorMod_7cf53_15 rfl (lv_at hl 2 rfl) ?_
      refine lv_iadd hx hb dJ9_floorMod_7cf53_16 ?_
      refine lv_topi (fun x_15 ex_15 => ?_)
      exact W.iret (v := x_15) hx hb hr (fun t ht hW => ⟨x_15, rfl, trivial, ht⟩) (fun _ h => by cases h) dJ9_floorMod_7cf53_17
set_option maxHeartbeats 8000000 in
set_option maxRecDepth 100000 in
theorem g_J6_bitCount_0f7a4 (l : Launch) (D : va_G) (cA : Nat → ClassId) (p0 : Int32) : Met l yJ6_bitCount_0f7a4 (Cond.code yJ6_bitCount_0f7a4 cJ6_bitCount_0f7a4 1 (some .int) :: TB) (rmd 0 0 0) (PP D cA [] [.int p0]) (vp_Si (fun r => 0 ≤ r.toInt ∧ r.toInt ≤ 63)) 0 0 (fun _ => False) := by
  refine Met.ofW (cc := cJ6_bitCount_0f7a4) (maxL := 1) (ret := (some .int)) (by decide) rfl ?_
  intro p e s m args below meth c s₁ B hml hv
  obtain ⟨rfl, hP, hKN⟩ := hv
  have hx := B.exec
  have hb := B.bytes
  have hr := B.returns
  have hts : ∀ w ∈ TB, w.before _ s = true := fun w h => atoms_spec B.pre w (List.mem_cons_of_mem _ h)
  have hown : s.vm.findClass "java/lang/Integer" = some m.cls := findClass_of_methodNamed B.named
  have hlocks := B.notSynchronized
  have hl := lv_entry ([.int p0]) (n := 1) (Nat.le_of_ble_eq_true rfl)
  rw [lg_entry_eq]
  generalize (lg_sl ([.int p0]) ++ List.replicate (1 - (lg_sl ([.int p0])).length) Slot.unset).toArray = ls at hl ⊢
  have hl : lv_has ls 1 [(0, .int p0)] := hl
  refine lv_iload_n hx hb dJ6_bitCount_0f7a4_0 rfl (lv_at hl 0 rfl) ?_
  refine lv_iload_n hx hb dJ6_bitCount_0f7a4_1 rfl (lv_at hl 0 rfl) ?_
  refine lv_iconst (v := 1) hx hb dJ6_bitCount_0f7a4_2 (by decide) ?_
  obtain ⟨x_1, ex_1⟩ : ∃ z : Int32, (Int32.toUInt32 p0 >>> (Int32.toUInt32 1 &&& Int32.toUInt32 31)).toInt32 = z := ⟨_, rfl⟩
  refine lv_iushr (v := x_1) hx hb dJ6_bitCount_0f7a4_3 ex_1 ?_
  refine lv_ldcw (v := 1431655765) hx hb hown (hts _ tw_1058) dJ6_bitCount_0f7a4_4 ?_
  refine lv_iand hx hb dJ6_bitCount_0f7a4_7 ?_
  refine lv_topi (fun x_2 ex_2 => ?_)
  have k_3 := ar_andR zi_1431655765 ex_2 (by omega)
  refine lv_isub hx hb dJ6_bitCount_0f7a4_8 ?_
  refine lv_topi (fun x_4 ex_4 => ?_)
  refine lv_istore_n (lv' := [(0, .int x_4)]) hx hb dJ6_bitCount_0f7a4_9 rfl hl (by decide) rfl (fun ls hl => ?_)
  refine lv_iload_n hx hb dJ6_bitCount_0f7a4_10 rfl (lv_at hl 0 rfl) ?_
  refine lv_ldcw (v := 858993459) hx hb hown (hts _ tw_1059) dJ6_bitCount_0f7a4_11 ?_
  refine lv_iand hx hb dJ6_bitCount_0f7a4_14 ?_
  refine lv_topi (fun x_6 ex_6 => ?_)
  have k_7 := ar_andR zi_858993459 ex_6 (by omega)
  refine lv_iload_n hx hb dJ6_bitCount_0f7a4_15 rfl (lv_at hl 0 rfl) ?_
  refine lv_iconst (v := 2) hx hb dJ6_bitCount_0f7a4_16 (by decide) ?_
  obtain ⟨x_8, ex_8⟩ : ∃ z : Int32, (Int32.toUInt32 x_4 >>> (Int32.toUInt32 2 &&& Int32.toUInt32 31)).toInt32 = z := ⟨_, rfl⟩
  refine lv_iushr (v := x_8) hx hb dJ6_bitCount_0f7a4_17 ex_8 ?_
  refine lv_ldcw (v := 858993459) hx hb hown (hts _ tw_1059) dJ6_bitCount_0f7a4_18 ?_
  refine lv_iand hx hb dJ6_bitCount_0f7a4_21 ?_
  refine lv_topi (fun x_9 ex_9 => ?_)
  have k_10 := ar_andR zi_858993459 ex_9 (by omega)
  refine lv_iadd hx hb dJ6_bitCount_0f7a4_22 ?_
  refine lv_topi (fun x_11 ex_11 => ?_)
  have k_12 := ar_add rfl rfl ex_11 (by omega) (by omega)
  refine lv_istore_n (lv' := [(0, .int x_11)]) hx hb dJ6_bitCount_0f7a4_23 rfl hl (by decide) rfl (fun ls hl => ?_)
  refine lv_iload_n hx hb dJ6_bitCount_0f7a4_24 rfl (lv_at hl 0 rfl) ?_
  refine lv_iload_n hx hb dJ6_bitCount_0f7a4_25 rfl (lv_at hl 0 rfl) ?_
  refine lv_iconst (v := 4) hx hb dJ6_bitCount_0f7a4_26 (by decide) ?_
  obtain ⟨x_13, ex_13⟩ : ∃ z : Int32, (Int32.toUInt32 x_11 >>> (Int32.toUInt32 4 &&& Int32.toUInt32 31)).toInt32 = z := ⟨_, rfl⟩
  refine lv_iushr (v := x_13) hx hb dJ6_bitCount_0f7a4_27 ex_13 ?_
  refine lv_iadd hx hb dJ6_bitCount_0f7a4_28 ?_
  refine lv_topi (fun x_14 ex_14 => ?_)
  refine lv_ldcw (v := 252645135) hx hb hown (hts _ tw_1060) dJ6_bitCount_0f7a4_29 ?_
  refine lv_iand hx hb dJ6_bitCount_0f7a4_32 ?_
  refine lv_topi (fun x_16 ex_16 => ?_)
  have k_17 := ar_andR zi_252645135 ex_16 (by omega)
  refine lv_istore_n (lv' := [(0, .int x_16)]) hx hb dJ6_bitCount_0f7a4_33 rfl hl (by decide) rfl (fun ls hl => ?_)
  refine lv_iload_n hx hb dJ6_bitCount_0f7a4_34 rfl (lv_at hl 0 rfl) ?_
  refine lv_iload_n hx hb dJ6_bitCount_0f7a4_35 rfl (lv_at hl 0 rfl) ?_
  refine lv_bipush (v := 8) hx hb dJ6_bitCount_0f7a4_36 (by decide) ?_
  obtain ⟨x_18, ex_18⟩ : ∃ z : Int32, (Int32.toUInt32 x_16 >>> (Int32.toUInt32 8 &&& Int32.toUInt32 31)).toInt32 = z := ⟨_, rfl⟩
  refine lv_iushr (v := x_18) hx hb dJ6_bitCount_0f7a4_38 ex_18 ?_
  refine lv_iadd hx hb dJ6_bitCount_0f7a4_39 ?_
  refine lv_topi (fun x_19 ex_19 => ?_)
  refine lv_istore_n (lv' := [(0, .int x_19)]) hx hb dJ6_bitCount_0f7a4_40 rfl hl (by decide) rfl (fun ls hl => ?_)
  refine lv_iload_n hx hb dJ6_bitCount_0f7a4_41 rfl (lv_at hl 0 rfl) ?_
  refine lv_iload_n hx hb dJ6_bitCount_0f7a4_42 rfl (lv_at hl 0 rfl) ?_
  refine lv_bipush (v := 16) hx hb dJ6_bitCount_0f7a4_43 (by decide) ?_
  obtain ⟨x_21, ex_21⟩ : ∃ z : Int32, (Int32.toUInt32 x_19 >>> (Int32.toUInt32 16 &&& Int32.toUInt32 31)).toInt32 = z := ⟨_, rfl⟩
  refine lv_iushr (v := x_21) hx hb dJ6_bitCount_0f7a4_45 ex_21 ?_
  refine lv_iadd hx hb dJ6_bitCount_0f7a4_46 ?_
  refine lv_topi (fun x_22 ex_22 => ?_)
  refine lv_istore_n (lv' := [(0, .int x_22)]) hx hb dJ6_bitCount_0f7a4_47 rfl hl (by decide) rfl (fun ls hl => ?_)
  refine lv_iload_n hx hb dJ6_bitCount_0f7a4_48 rfl (lv_at hl 0 rfl) ?_
  refine lv_bipush (v := 63) hx hb dJ6_bitCount_0f7a4_49 (by decide) ?_
  refine lv_iand hx hb dJ6_bitCount_0f7a4_51 ?_
  refine lv_topi (fun x_24 ex_24 => ?_)
  have k_25 := ar_andR zi_63 ex_24 (by omega)
  exact W.iret (v := x_24) hx hb hr (fun t ht hW => ⟨x_24, rfl, (show 0 ≤ x_24.toInt ∧ x_24.toInt ≤ 63 from by omega), ht⟩) (fun _ h => by cases h) dJ6_bitCount_0f7a4_52
set_option maxHeartbeats 8000000 in
set_option maxRecDepth 100000 in
theorem g_J7_fill_53178_8 (l : Launch) (D : va_G) (cA : Nat → ClassId) (sz : Nat) (a : Nat) (f : Nat → Int32) (v : Int32) : Met l yJ7_fill_53178 (Cond.code yJ7_fill_53178 cJ7_fill_53178 4 none :: TB) (rmd 0 0 0) (PM D cA sz [(a, .inl (cA 1, 8, .inl f))] [.ref a, .int v]) (va_Qv (fun (u : SU) => True) (fun u t => va_P D vwCl [(a, .inl (cA 1, 8, .inl (u.2.2.1 0)))] t.heap ∧ va_D (va_A [(a, .inl (cA 1, 8, .inl f))] sz) [(a, .inl (cA 1, 8, .inl (u.2.2.1 0)))]) (va_A [(a, .inl (cA 1, 8, .inl f))] sz)) 0 0 (va_A [(a, .inl (cA 1, 8, .inl f))] sz) := by
  refine Met.ofW (cc := cJ7_fill_53178) (maxL := 4) (ret := none) (by decide) rfl ?_
  intro p e s m args below meth c s₁ B hml hv
  obtain ⟨rfl, hsz, hP, hKN, hD0⟩ := hv
  have hx := B.exec
  have hb := B.bytes
  have hr := B.returns
  have hts : ∀ w ∈ TB, w.before _ s = true := fun w h => atoms_spec B.pre w (List.mem_cons_of_mem _ h)
  have hown : s.vm.findClass "java/util/Arrays" = some m.cls := findClass_of_methodNamed B.named
  have hlocks := B.notSynchronized
  subst hsz
  have hD := hD0.self (sz := s.heap.size)
  generalize hAe : va_A [(a, .inl (cA 1, 8, .inl f))] s.heap.size = A at hD ⊢
  have hA : ∀ q : Nat, s.heap.size ≤ q → A q := fun q h => by rw [← hAe]; exact Or.inr h
  have hS : va_S A s.heap s.heap [] := va_S.rf
  have hl := lv_entry ([.ref a, .int v]) (n := 4) (Nat.le_of_ble_eq_true rfl)
  rw [lg_entry_eq]
  generalize (lg_sl ([.ref a, .int v]) ++ List.replicate (4 - (lg_sl ([.ref a, .int v])).length) Slot.unset).toArray = ls at hl ⊢
  have hl : lv_has ls 4 [(0, .ref a), (1, .int v)] := hl
  refine lv_iconst (v := 0) hx hb dJ7_fill_53178_0 (by decide) ?_
  refine lv_istore_n (lv' := [(2, .int 0), (0, .ref a), (1, .int v)]) hx hb dJ7_fill_53178_1 rfl hl (by decide) rfl (fun ls hl => ?_)
  refine lv_aload_n hx hb dJ7_fill_53178_2 rfl (lv_at hl 1 rfl) ?_
  refine va_alen (v := 8) hx hb hKN.1 hP 0 1 rfl rfl rfl dJ7_fill_53178_3 ?_
  refine lv_istore_n (lv' := [(3, .int 8), (2, .int 0), (0, .ref a), (1, .int v)]) hx hb dJ7_fill_53178_4 rfl hl (by decide) rfl (fun ls hl => ?_)
  refine loopW (σ := Int32 × (Nat → Int32)) (fun _ => []) (fun ⟨L2_43, F1_43⟩ H locs ls => (0 ≤ L2_43.toInt ∧ L2_43.toInt ≤ 8) ∧ va_P D vwCl [(a, .inl (cA 1, 8, .inl F1_43))] H ∧ va_D A [(a, .inl (cA 1, 8, .inl F1_43))] ∧ va_S A s.heap H locs ∧ lv_has ls 4 [(3, .int 8), (2, .int L2_43), (0, .ref a), (1, .int v)]) (fun ⟨L2_43, F1_43⟩ => (2147483647 - L2_43.toInt).toNat) ?_ ((0, f) : Int32 × (Nat → Int32)) ⟨(by decide), hP, hD, hS, hl⟩
  intro x_43 H locs ls hI_43 ih_43
  obtain ⟨L2_43, F1_43⟩ := x_43
  obtain ⟨k0_43, hP, hD, hS, hl⟩ := hI_43
  have hP : va_P D vwCl [(a, .inl (cA 1, 8, .inl F1_43))] H := hP
  have hD : va_D A [(a, .inl (cA 1, 8, .inl F1_43))] := hD
  have hl : lv_has ls 4 [(3, .int 8), (2, .int L2_43), (0, .ref a), (1, .int v)] := hl
  refine lv_iload_n hx hb dJ7_fill_53178_5 rfl (lv_at hl 1 rfl) ?_
  refine lv_iload_n hx hb dJ7_fill_53178_6 rfl (lv_at hl 0 rfl) ?_
  refine lv_icmp_ge (tgt := 20) hx hb dJ7_fill_53178_7 (by decide) (fun c_44 => ?_) (fun c_44 => ?_)
  · skip
    have k_45 := kk_le zi_8 rfl c_44
    have hP9 := hP.sub (ws' := [(a, .inl (cA 1, 8, .inl F1_43))]) [0] rfl
    have hD9 := hD.sub (ws' := [(a, .inl (cA 1, 8, .inl F1_43))]) [0] (by decide) rfl
    exact W.vret hx hb hr (fun t ht hW => ⟨⟨((fun _ => 0), (fun _ => 0), (selF [F1_43]), (fun _ _ => 0)), rfl, trivial, by rw [ht]; exact hP9, hD9⟩, hS.F ht⟩) hS.2.2 dJ7_fill_53178_20
  · skip
    have k_46 := kk_nle zi_8 rfl c_44
    refine lv_aload_n hx hb dJ7_fill_53178_10 rfl (lv_at hl 2 rfl) ?_
    refine lv_iload_n hx hb dJ7_fill_53178_11 rfl (lv_at hl 1 rfl) ?_
    refine lv_iload_n hx hb dJ7_fill_53178_12 rfl (lv_at hl 3 rfl) ?_
    refine va_iast hx hb hKN.1 hP hD hS 0 1 rfl rfl (vp_in_iff.mpr ⟨by omega, by omega⟩) dJ7_fill_53178_13 (fun H locs hP hD hS => ?_)
    have hP : va_P D vwCl [(a, .inl (cA 1, 8, .inl (upd F1_43 L2_43.toNatClampNeg v)))] H := hP
    have hD : va_D A [(a, .inl (cA 1, 8, .inl (upd F1_43 L2_43.toNatClampNeg v)))] := hD
    generalize ef_47 : (upd F1_43 L2_43.toNatClampNeg v) = f_47 at hP hD
    obtain ⟨x_48, ex_48⟩ : ∃ y : Int32, L2_43 + Int32.ofInt 1 = y := ⟨_, rfl⟩
    have k_49 := ar_add (b := 1) rfl zi_1 ex_48.symm (by omega) (by omega)
    refine lv_iinc (v := x_48) (lv' := [(2, .int x_48), (3, .int 8), (0, .ref a), (1, .int v)]) hx hb dJ7_fill_53178_14 hl (k := 1) rfl ex_48 (by decide) rfl (fun ls hl => ?_)
    refine lv_goto (tgt := 5) hx hb dJ7_fill_53178_17 (by decide) ?_
    exact ih_43 (x_48, f_47) _ _ _ ⟨(show 0 ≤ x_48.toInt ∧ x_48.toInt ≤ 8 from by omega), hP.sub [0] rfl, hD.sub [0] (by decide) rfl, hS, lv_sub hl [1, 0, 2, 3] rfl⟩ (by show (2147483647 - x_48.toInt).toNat < (2147483647 - L2_43.toInt).toNat; omega)
set_option maxHeartbeats 8000000 in
set_option maxRecDepth 100000 in
theorem g_J7_fill_53178_40 (l : Launch) (D : va_G) (cA : Nat → ClassId) (sz : Nat) (a : Nat) (f : Nat → Int32) (v : Int32) : Met l yJ7_fill_53178 (Cond.code yJ7_fill_53178 cJ7_fill_53178 4 none :: TB) (rmd 0 0 0) (PM D cA sz [(a, .inl (cA 1, 40, .inl f))] [.ref a, .int v]) (va_Qv (fun (u : SU) => True) (fun u t => va_P D vwCl [(a, .inl (cA 1, 40, .inl (u.2.2.1 0)))] t.heap ∧ va_D (va_A [(a, .inl (cA 1, 40, .inl f))] sz) [(a, .inl (cA 1, 40, .inl (u.2.2.1 0)))]) (va_A [(a, .inl (cA 1, 40, .inl f))] sz)) 0 0 (va_A [(a, .inl (cA 1, 40, .inl f))] sz) := by
  refine Met.ofW (cc := cJ7_fill_53178) (maxL := 4) (ret := none) (by decide) rfl ?_
  intro p e s m args below meth c s₁ B hml hv
  obtain ⟨rfl, hsz, hP, hKN, hD0⟩ := hv
  have hx := B.exec
  have hb := B.bytes
  have hr := B.returns
  have hts : ∀ w ∈ TB, w.before _ s = true := fun w h => atoms_spec B.pre w (List.mem_cons_of_mem _ h)
  have hown : s.vm.findClass "java/util/Arrays" = some m.cls := findClass_of_methodNamed B.named
  have hlocks := B.notSynchronized
  subst hsz
  have hD := hD0.self (sz := s.heap.size)
  generalize hAe : va_A [(a, .inl (cA 1, 40, .inl f))] s.heap.size = A at hD ⊢
  have hA : ∀ q : Nat, s.heap.size ≤ q → A q := fun q h => by rw [← hAe]; exact Or.inr h
  have hS : va_S A s.heap s.heap [] := va_S.rf
  have hl := lv_entry ([.ref a, .int v]) (n := 4) (Nat.le_of_ble_eq_true rfl)
  rw [lg_entry_eq]
  generalize (lg_sl ([.ref a, .int v]) ++ List.replicate (4 - (lg_sl ([.ref a, .int v])).length) Slot.unset).toArray = ls at hl ⊢
  have hl : lv_has ls 4 [(0, .ref a), (1, .int v)] := hl
  refine lv_iconst (v := 0) hx hb dJ7_fill_53178_0 (by decide) ?_
  refine lv_istore_n (lv' := [(2, .int 0), (0, .ref a), (1, .int v)]) hx hb dJ7_fill_53178_1 rfl hl (by decide) rfl (fun ls hl => ?_)
  refine lv_aload_n hx hb dJ7_fill_53178_2 rfl (lv_at hl 1 rfl) ?_
  refine va_alen (v := 40) hx hb hKN.1 hP 0 1 rfl rfl rfl dJ7_fill_53178_3 ?_
  refine lv_istore_n (lv' := [(3, .int 40), (2, .int 0), (0, .ref a), (1, .int v)]) hx hb dJ7_fill_53178_4 rfl hl (by decide) rfl (fun ls hl => ?_)
  refine loopW (σ := Int32 × (Nat → Int32)) (fun _ => []) (fun ⟨L2_43, F1_43⟩ H locs ls => (0 ≤ L2_43.toInt ∧ L2_43.toInt ≤ 40) ∧ va_P D vwCl [(a, .inl (cA 1, 40, .inl F1_43))] H ∧ va_D A [(a, .inl (cA 1, 40, .inl F1_43))] ∧ va_S A s.heap H locs ∧ lv_has ls 4 [(3, .int 40), (2, .int L2_43), (0, .ref a), (1, .int v)]) (fun ⟨L2_43, F1_43⟩ => (2147483647 - L2_43.toInt).toNat) ?_ ((0, f) : Int32 × (Nat → Int32)) ⟨(by decide), hP, hD, hS, hl⟩
  intro x_43 H locs ls hI_43 ih_43
  obtain ⟨L2_43, F1_43⟩ := x_43
  obtain ⟨k0_43, hP, hD, hS, hl⟩ := hI_43
  have hP : va_P D vwCl [(a, .inl (cA 1, 40, .inl F1_43))] H := hP
  have hD : va_D A [(a, .inl (cA 1, 40, .inl F1_43))] := hD
  have hl : lv_has ls 4 [(3, .int 40), (2, .int L2_43), (0, .ref a), (1, .int v)] := hl
  refine lv_iload_n hx hb dJ7_fill_53178_5 rfl (lv_at hl 1 rfl) ?_
  refine lv_iload_n hx hb dJ7_fill_53178_6 rfl (lv_at hl 0 rfl) ?_
  refine lv_icmp_ge (tgt := 20) hx hb dJ7_fill_53178_7 (by decide) (fun c_44 => ?_) (fun c_44 => ?_)
  · skip
    have k_45 := kk_le zi_40 rfl c_44
    have hP9 := hP.sub (ws' := [(a, .inl (cA 1, 40, .inl F1_43))]) [0] rfl
    have hD9 := hD.sub (ws' := [(a, .inl (cA 1, 40, .inl F1_43))]) [0] (by decide) rfl
    exact W.vret hx hb hr (fun t ht hW => ⟨⟨((fun _ => 0), (fun _ => 0), (selF [F1_43]), (fun _ _ => 0)), rfl, trivial, by rw [ht]; exact hP9, hD9⟩, hS.F ht⟩) hS.2.2 dJ7_fill_53178_20
  · skip
    have k_46 := kk_nle zi_40 rfl c_44
    refine lv_aload_n hx hb dJ7_fill_53178_10 rfl (lv_at hl 2 rfl) ?_
    refine lv_iload_n hx hb dJ7_fill_53178_11 rfl (lv_at hl 1 rfl) ?_
    refine lv_iload_n hx hb dJ7_fill_53178_12 rfl (lv_at hl 3 rfl) ?_
    refine va_iast hx hb hKN.1 hP hD hS 0 1 rfl rfl (vp_in_iff.mpr ⟨by omega, by omega⟩) dJ7_fill_53178_13 (fun H locs hP hD hS => ?_)
    have hP : va_P D vwCl [(a, .inl (cA 1, 40, .inl (upd F1_43 L2_43.toNatClampNeg v)))] H := hP
    have hD : va_D A [(a, .inl (cA 1, 40, .inl (upd F1_43 L2_43.toNatClampNeg v)))] := hD
    generalize ef_47 : (upd F1_43 L2_43.toNatClampNeg v) = f_47 at hP hD
    obtain ⟨x_48, ex_48⟩ : ∃ y : Int32, L2_43 + Int32.ofInt 1 = y := ⟨_, rfl⟩
    have k_49 := ar_add (b := 1) rfl zi_1 ex_48.symm (by omega) (by omega)
    refine lv_iinc (v := x_48) (lv' := [(2, .int x_48), (3, .int 40), (0, .ref a), (1, .int v)]) hx hb dJ7_fill_53178_14 hl (k := 1) rfl ex_48 (by decide) rfl (fun ls hl => ?_)
    refine lv_goto (tgt := 5) hx hb dJ7_fill_53178_17 (by decide) ?_
    exact ih_43 (x_48, f_47) _ _ _ ⟨(show 0 ≤ x_48.toInt ∧ x_48.toInt ≤ 40 from by omega), hP.sub [0] rfl, hD.sub [0] (by decide) rfl, hS, lv_sub hl [1, 0, 2, 3] rfl⟩ (by show (2147483647 - x_48.toInt).toNat < (2147483647 - L2_43.toInt).toNat; omega)
set_option maxHeartbeats 8000000 in
set_option maxRecDepth 100000 in
theorem g_X11_restOf (l : Launch) (D : va_G) (cA : Nat → ClassId) (p0 : Int32) (p1 : Int32) : Met l yX11_restOf (Cond.code yX11_restOf cX11_restOf 2 (some .int) :: TB) (rmd 1 0 0) (PP D cA [] [.int p0, .int p1]) (vp_Si (fun r => True)) 0 0 (fun _ => False) := by
  refine Met.ofW (cc := cX11_restOf) (maxL := 2) (ret := (some .int)) (by decide) rfl ?_
  intro p e s m args below meth c s₁ B hml hv
  obtain ⟨rfl, hP, hKN⟩ := hv
  have hx := B.exec
  have hb := B.bytes
  have hr := B.returns
  have hts : ∀ w ∈ TB, w.before _ s = true := fun w h => atoms_spec B.pre w (List.mem_cons_of_mem _ h)
  have hown : s.vm.findClass RX11 = some m.cls := findClass_of_methodNamed B.named
  have hlocks := B.notSynchronized
  have hl := lv_entry ([.int p0, .int p1]) (n := 2) (Nat.le_of_ble_eq_true rfl)
  rw [lg_entry_eq]
  generalize (lg_sl ([.int p0, .int p1]) ++ List.replicate (2 - (lg_sl ([.int p0, .int p1])).length) Slot.unset).toArray = ls at hl ⊢
  have hl : lv_has ls 2 [(0, .int p0), (1, .int p1)] := hl
  refine lv_iload_n hx hb dX11_restOf_0 rfl (lv_at hl 1 rfl) ?_
  refine lv_if_le (tgt := 12) hx hb dX11_restOf_1 (by decide) (fun c_1 => ?_) (fun c_1 => ?_)
  · skip
    have b_3 := i32_bd p1
    have k_2 := kk_le rfl zi_0 c_1
    refine lv_iconst (v := 0) hx hb dX11_restOf_12 (by decide) ?_
    exact W.iret (v := 0) hx hb hr (fun t ht hW => ⟨0, rfl, trivial, ht⟩) (fun _ h => by cases h) dX11_restOf_13
  · skip
    have b_5 := i32_bd p1
    have k_4 := kk_nle rfl zi_0 c_1
    refine lv_iload_n hx hb dX11_restOf_4 rfl (lv_at hl 0 rfl) ?_
    refine lv_iload_n hx hb dX11_restOf_5 rfl (lv_at hl 1 rfl) ?_
    refine cpSi (rest := []) ⟨hx, hb, hml, hown, hts⟩ hKN (hP.sub (ws' := []) [] rfl) (g_J9_floorMod_7cf53 l D cA p0 p1 (by omega)) (tb_S tw_761 tw_762 tw_115 tw_763) hdJ9_floorMod_7cf53 ⟨rfl, rfl, Nat.le_of_ble_eq_true rfl, Nat.le_of_ble_eq_true rfl⟩ ⟨Nat.le_of_ble_eq_true rfl, Nat.le_of_ble_eq_true rfl⟩ rfl hl.1 rfl (Nat.le_of_ble_eq_true rfl) dX11_restOf_6 (fun r_6 hr_6 => ?_)
    refine lv_goto (tgt := 13) hx hb dX11_restOf_9 (by decide) ?_
    exact W.iret (v := r_6) hx hb hr (fun t ht hW => ⟨r_6, rfl, trivial, ht⟩) (fun _ h => by cases h) dX11_restOf_13
set_option maxHeartbeats 8000000 in
set_option maxRecDepth 100000 in
theorem g_X11_powerOf (l : Launch) (D : va_G) (cA : Nat → ClassId) (p0 : Int64) (p1 : Int32) : Met l yX11_powerOf (Cond.code yX11_powerOf cX11_powerOf 6 (some .long) :: TB) (rmd 0 0 0) (PP D cA [] [.long p0, .int p1]) (vp_Sl (fun r => True)) 0 0 (fun _ => False) := by
  refine Met.ofW (cc := cX11_powerOf) (maxL := 6) (ret := (some .long)) (by decide) rfl ?_
  intro p e s m args below meth c s₁ B hml hv
  obtain ⟨rfl, hP, hKN⟩ := hv
  have hx := B.exec
  have hb := B.bytes
  have hr := B.returns
  have hts : ∀ w ∈ TB, w.before _ s = true := fun w h => atoms_spec B.pre w (List.mem_cons_of_mem _ h)
  have hown : s.vm.findClass RX11 = some m.cls := findClass_of_methodNamed B.named
  have hlocks := B.notSynchronized
  have hl := lv_entry ([.long p0, .int p1]) (n := 6) (Nat.le_of_ble_eq_true rfl)
  rw [lg_entry_eq]
  generalize (lg_sl ([.long p0, .int p1]) ++ List.replicate (6 - (lg_sl ([.long p0, .int p1])).length) Slot.unset).toArray = ls at hl ⊢
  have hl : lv_has ls 6 [(0, .long p0), (2, .int p1)] := hl
  refine lv_lconst (v := 1) hx hb dX11_powerOf_0 (by decide) ?_
  refine lv_lstore_n (lv' := [(3, .long 1), (0, .long p0), (2, .int p1)]) hx hb dX11_powerOf_1 rfl hl (by decide) rfl (fun ls hl => ?_)
  refine lv_iconst (v := 0) hx hb dX11_powerOf_2 (by decide) ?_
  refine lv_istore (lv' := [(5, .int 0), (3, .long 1), (0, .long p0), (2, .int p1)]) hx hb dX11_powerOf_3 hl (by decide) rfl (fun ls hl => ?_)
  refine loopW (σ := Int32 × Int64) (fun _ => []) (fun ⟨L5_37, L3_37⟩ H locs ls => (0 ≤ L5_37.toInt) ∧ H = s.heap ∧ locs = [] ∧ lv_has ls 6 [(5, .int L5_37), (3, .long L3_37), (0, .long p0), (2, .int p1)]) (fun ⟨L5_37, L3_37⟩ => (2147483647 - L5_37.toInt).toNat) ?_ ((0, 1) : Int32 × Int64) ⟨(by decide), rfl, rfl, hl⟩
  intro x_37 H locs ls hI_37 ih_37
  obtain ⟨L5_37, L3_37⟩ := x_37
  obtain ⟨k0_37, rfl, rfl, hl⟩ := hI_37
  have hl : lv_has ls 6 [(5, .int L5_37), (3, .long L3_37), (0, .long p0), (2, .int p1)] := hl
  refine lv_iload hx hb dX11_powerOf_5 (lv_at hl 0 rfl) ?_
  refine lv_iload_n hx hb dX11_powerOf_7 rfl (lv_at hl 3 rfl) ?_
  refine lv_icmp_ge (tgt := 21) hx hb dX11_powerOf_8 (by decide) (fun c_38 => ?_) (fun c_38 => ?_)
  · skip
    have b_40 := i32_bd p1
    have k_39 := kk_le rfl rfl c_38
    refine lv_lload_n hx hb dX11_powerOf_21 rfl (lv_at hl 1 rfl) ?_
    exact W.lret (v := L3_37) hx hb hr (fun t ht hW => ⟨L3_37, rfl, trivial, ht⟩) (fun _ h => by cases h) dX11_powerOf_22
  · skip
    have b_42 := i32_bd p1
    have k_41 := kk_nle rfl rfl c_38
    refine lv_lload_n hx hb dX11_powerOf_11 rfl (lv_at hl 1 rfl) ?_
    refine lv_lload_n hx hb dX11_powerOf_12 rfl (lv_at hl 2 rfl) ?_
    refine lv_lmul hx hb dX11_powerOf_13 ?_
    refine lv_topl (fun x_43 ex_43 => ?_)
    refine lv_lstore_n (lv' := [(3, .long x_43), (5, .int L5_37), (0, .long p0), (2, .int p1)]) hx hb dX11_powerOf_14 rfl hl (by decide) rfl (fun ls hl => ?_)
    obtain ⟨x_44, ex_44⟩ : ∃ y : Int32, L5_37 + Int32.ofInt 1 = y := ⟨_, rfl⟩
    have k_45 := ar_add (b := 1) rfl zi_1 ex_44.symm (by omega) (by omega)
    refine lv_iinc (v := x_44) (lv' := [(5, .int x_44), (3, .long x_43), (0, .long p0), (2, .int p1)]) hx hb dX11_powerOf_15 hl (k := 1) rfl ex_44 (by decide) rfl (fun ls hl => ?_)
    refine lv_goto (tgt := 5) hx hb dX11_powerOf_18 (by decide) ?_
    exact ih_37 (x_44, x_43) _ _ _ ⟨(show 0 ≤ x_44.toInt from by omega), rfl, rfl, lv_sub hl [0, 1, 2, 3] rfl⟩ (by show (2147483647 - x_44.toInt).toNat < (2147483647 - L5_37.toInt).toNat; omega)
set_option maxHeartbeats 8000000 in
set_option maxRecDepth 100000 in
theorem g_X11_sharedDivisor (l : Launch) (D : va_G) (cA : Nat → ClassId) (p0 : Int64) (p1 : Int64) : Met l yX11_sharedDivisor (Cond.code yX11_sharedDivisor cX11_sharedDivisor 7 (some .long) :: TB) (rmd 0 0 0) (PP D cA [] [.long p0, .long p1]) (vp_Sl (fun r => True)) 0 0 (fun _ => False) := by
  refine Met.ofW (cc := cX11_sharedDivisor) (maxL := 7) (ret := (some .long)) (by decide) rfl ?_
  intro p e s m args below meth c s₁ B hml hv
  obtain ⟨rfl, hP, hKN⟩ := hv
  have hx := B.exec
  have hb := B.bytes
  have hr := B.returns
  have hts : ∀ w ∈ TB, w.before _ s = true := fun w h => atoms_spec B.pre w (List.mem_cons_of_mem _ h)
  have hown : s.vm.findClass RX11 = some m.cls := findClass_of_methodNamed B.named
  have hlocks := B.notSynchronized
  have hl := lv_entry ([.long p0, .long p1]) (n := 7) (Nat.le_of_ble_eq_true rfl)
  rw [lg_entry_eq]
  generalize (lg_sl ([.long p0, .long p1]) ++ List.replicate (7 - (lg_sl ([.long p0, .long p1])).length) Slot.unset).toArray = ls at hl ⊢
  have hl : lv_has ls 7 [(0, .long p0), (2, .long p1)] := hl
  refine lv_iconst (v := 0) hx hb dX11_sharedDivisor_0 (by decide) ?_
  refine lv_istore (lv' := [(4, .int 0), (0, .long p0), (2, .long p1)]) hx hb dX11_sharedDivisor_1 hl (by decide) rfl (fun ls hl => ?_)
  have b_62 := i64_bd p0
  have b_63 := i64_bd p1
  refine loopW (σ := Int32 × Int64 × Int64) (fun _ => []) (fun ⟨L4_61, L0_61, L2_61⟩ H locs ls => (0 ≤ L4_61.toInt ∧ L4_61.toInt ≤ 200) ∧ H = s.heap ∧ locs = [] ∧ lv_has ls 7 [(4, .int L4_61), (0, .long L0_61), (2, .long L2_61)]) (fun ⟨L4_61, L0_61, L2_61⟩ => (2147483647 - L4_61.toInt).toNat) ?_ ((0, p0, p1) : Int32 × Int64 × Int64) ⟨(by decide), rfl, rfl, hl⟩
  intro x_61 H locs ls hI_61 ih_61
  obtain ⟨L4_61, L0_61, L2_61⟩ := x_61
  obtain ⟨k0_61, rfl, rfl, hl⟩ := hI_61
  have hl : lv_has ls 7 [(4, .int L4_61), (0, .long L0_61), (2, .long L2_61)] := hl
  refine lv_iload hx hb dX11_sharedDivisor_3 (lv_at hl 0 rfl) ?_
  refine lv_sipush (v := 200) hx hb dX11_sharedDivisor_5 (by decide) ?_
  refine lv_icmp_ge (tgt := 33) hx hb dX11_sharedDivisor_8 (by decide) (fun c_64 => ?_) (fun c_64 => ?_)
  · skip
    have k_65 := kk_le zi_200 rfl c_64
    refine lv_lload_n hx hb dX11_sharedDivisor_33 rfl (lv_at hl 1 rfl) ?_
    exact W.lret (v := L0_61) hx hb hr (fun t ht hW => ⟨L0_61, rfl, trivial, ht⟩) (fun _ h => by cases h) dX11_sharedDivisor_34
  · skip
    have k_66 := kk_nle zi_200 rfl c_64
    refine lv_lload_n hx hb dX11_sharedDivisor_11 rfl (lv_at hl 2 rfl) ?_
    refine lv_lconst (v := 0) hx hb dX11_sharedDivisor_12 (by decide) ?_
    refine W.lcmp hx hb dX11_sharedDivisor_13 ?_
    refine lv_if_eq (tgt := 33) hx hb dX11_sharedDivisor_14 (by decide) (fun c_67 => ?_) (fun c_67 => ?_)
    · skip
      have b_69 := i64_bd L2_61
      have k_68 := jj_eq rfl zj_0 c_67
      refine lv_lload_n hx hb dX11_sharedDivisor_33 rfl (lv_at hl 1 rfl) ?_
      exact W.lret (v := L0_61) hx hb hr (fun t ht hW => ⟨L0_61, rfl, trivial, ht⟩) (fun _ h => by cases h) dX11_sharedDivisor_34
    · skip
      have b_71 := i64_bd L2_61
      have k_70 := jj_ne rfl zj_0 c_67
      refine lv_lload_n hx hb dX11_sharedDivisor_17 rfl (lv_at hl 1 rfl) ?_
      refine lv_lload_n hx hb dX11_sharedDivisor_18 rfl (lv_at hl 2 rfl) ?_
      refine lv_lrem hx hb dX11_sharedDivisor_19 (nz_j (by omega)) ?_
      refine lv_topl (fun x_72 ex_72 => ?_)
      refine lv_lstore (lv' := [(5, .long x_72), (4, .int L4_61), (0, .long L0_61), (2, .long L2_61)]) hx hb dX11_sharedDivisor_20 hl (by decide) rfl (fun ls hl => ?_)
      refine lv_lload_n hx hb dX11_sharedDivisor_22 rfl (lv_at hl 3 rfl) ?_
      refine lv_lstore_n (lv' := [(0, .long L2_61), (5, .long x_72), (4, .int L4_61), (2, .long L2_61)]) hx hb dX11_sharedDivisor_23 rfl hl (by decide) rfl (fun ls hl => ?_)
      refine lv_lload hx hb dX11_sharedDivisor_24 (lv_at hl 1 rfl) ?_
      refine lv_lstore_n (lv' := [(2, .long x_72), (0, .long L2_61), (5, .long x_72), (4, .int L4_61)]) hx hb dX11_sharedDivisor_26 rfl hl (by decide) rfl (fun ls hl => ?_)
      obtain ⟨x_73, ex_73⟩ : ∃ y : Int32, L4_61 + Int32.ofInt 1 = y := ⟨_, rfl⟩
      have k_74 := ar_add (b := 1) rfl zi_1 ex_73.symm (by omega) (by omega)
      refine lv_iinc (v := x_73) (lv' := [(4, .int x_73), (2, .long x_72), (0, .long L2_61), (5, .long x_72)]) hx hb dX11_sharedDivisor_27 hl (k := 3) rfl ex_73 (by decide) rfl (fun ls hl => ?_)
      refine lv_goto (tgt := 3) hx hb dX11_sharedDivisor_30 (by decide) ?_
      exact ih_61 (x_73, L2_61, x_72) _ _ _ ⟨(show 0 ≤ x_73.toInt ∧ x_73.toInt ≤ 200 from by omega), rfl, rfl, lv_sub hl [0, 2, 1] rfl⟩ (by show (2147483647 - x_73.toInt).toNat < (2147483647 - L4_61.toInt).toNat; omega)
set_option maxHeartbeats 8000000 in
set_option maxRecDepth 100000 in
theorem g_X11_lowestTerm (l : Launch) (D : va_G) (cA : Nat → ClassId) (p0 : Int64) (p1 : Int64) (p2 : Int32) : Met l yX11_lowestTerm (Cond.code yX11_lowestTerm cX11_lowestTerm 7 (some .long) :: TB) (rmd 1 0 0) (PP D cA [] [.long p0, .long p1, .int p2]) (vp_Sl (fun r => True)) 0 0 (fun _ => False) := by
  refine Met.ofW (cc := cX11_lowestTerm) (maxL := 7) (ret := (some .long)) (by decide) rfl ?_
  intro p e s m args below meth c s₁ B hml hv
  obtain ⟨rfl, hP, hKN⟩ := hv
  have hx := B.exec
  have hb := B.bytes
  have hr := B.returns
  have hts : ∀ w ∈ TB, w.before _ s = true := fun w h => atoms_spec B.pre w (List.mem_cons_of_mem _ h)
  have hown : s.vm.findClass RX11 = some m.cls := findClass_of_methodNamed B.named
  have hlocks := B.notSynchronized
  have hl := lv_entry ([.long p0, .long p1, .int p2]) (n := 7) (Nat.le_of_ble_eq_true rfl)
  rw [lg_entry_eq]
  generalize (lg_sl ([.long p0, .long p1, .int p2]) ++ List.replicate (7 - (lg_sl ([.long p0, .long p1, .int p2])).length) Slot.unset).toArray = ls at hl ⊢
  have hl : lv_has ls 7 [(0, .long p0), (2, .long p1), (4, .int p2)] := hl
  refine lv_lload_n hx hb dX11_lowestTerm_0 rfl (lv_at hl 0 rfl) ?_
  refine lv_lload_n hx hb dX11_lowestTerm_1 rfl (lv_at hl 1 rfl) ?_
  refine cpSl (rest := []) ⟨hx, hb, hml, hown, hts⟩ hKN (hP.sub (ws' := []) [] rfl) (g_X11_sharedDivisor l D cA p0 p1) (tb_S tw_1250 tw_1251 tw_101 tw_1252) hdX11_sharedDivisor ⟨rfl, rfl, Nat.le_of_ble_eq_true rfl, Nat.le_of_ble_eq_true rfl⟩ ⟨Nat.le_of_ble_eq_true rfl, Nat.le_of_ble_eq_true rfl⟩ rfl hl.1 rfl (Nat.le_of_ble_eq_true rfl) dX11_lowestTerm_2 (fun r_1 hr_1 => ?_)
  refine lv_lstore (lv' := [(5, .long r_1), (0, .long p0), (2, .long p1), (4, .int p2)]) hx hb dX11_lowestTerm_5 hl (by decide) rfl (fun ls hl => ?_)
  refine lv_lload hx hb dX11_lowestTerm_7 (lv_at hl 0 rfl) ?_
  refine lv_lconst (v := 1) hx hb dX11_lowestTerm_9 (by decide) ?_
  refine W.lcmp hx hb dX11_lowestTerm_10 ?_
  refine lv_if_ge (tgt := 16) hx hb dX11_lowestTerm_11 (by decide) (fun c_2 => ?_) (fun c_2 => ?_)
  · skip
    have b_4 := i64_bd r_1
    have k_3 := jj_ge rfl zj_1 c_2
    refine lv_iload hx hb dX11_lowestTerm_16 (lv_at hl 3 rfl) ?_
    refine lv_if_ne (tgt := 28) hx hb dX11_lowestTerm_18 (by decide) (fun c_5 => ?_) (fun c_5 => ?_)
    · skip
      have b_7 := i32_bd p2
      have k_6 := kk_ne rfl zi_0 c_5
      refine lv_lload_n hx hb dX11_lowestTerm_28 rfl (lv_at hl 2 rfl) ?_
      refine lv_lload hx hb dX11_lowestTerm_29 (lv_at hl 0 rfl) ?_
      refine lv_ldiv hx hb dX11_lowestTerm_31 (nz_j (by omega)) ?_
      refine lv_topl (fun x_8 ex_8 => ?_)
      exact W.lret (v := x_8) hx hb hr (fun t ht hW => ⟨x_8, rfl, trivial, ht⟩) (fun _ h => by cases h) dX11_lowestTerm_32
    · skip
      have b_10 := i32_bd p2
      have k_9 := kk_eq rfl zi_0 c_5
      refine lv_lload_n hx hb dX11_lowestTerm_21 rfl (lv_at hl 1 rfl) ?_
      refine lv_lload hx hb dX11_lowestTerm_22 (lv_at hl 0 rfl) ?_
      refine lv_ldiv hx hb dX11_lowestTerm_24 (nz_j (by omega)) ?_
      refine lv_topl (fun x_11 ex_11 => ?_)
      refine lv_goto (tgt := 32) hx hb dX11_lowestTerm_25 (by decide) ?_
      exact W.lret (v := x_11) hx hb hr (fun t ht hW => ⟨x_11, rfl, trivial, ht⟩) (fun _ h => by cases h) dX11_lowestTerm_32
  · skip
    have b_13 := i64_bd r_1
    have k_12 := jj_nge rfl zj_1 c_2
    refine lv_lconst (v := 0) hx hb dX11_lowestTerm_14 (by decide) ?_
    exact W.lret (v := 0) hx hb hr (fun t ht hW => ⟨0, rfl, trivial, ht⟩) (fun _ h => by cases h) dX11_lowestTerm_15
set_option maxHeartbeats 8000000 in
set_option maxRecDepth 100000 in
theorem g_X3_exists (l : Launch) (D : va_G) (cA : Nat → ClassId) (h0 : Nat) (g_odds : Int32) (g_pot : Int32) (g_lines : Int32) (g_men : Int32) (g_clauses : Int32) (g_winds : Int32) (g_far0 : Int32) (g_far1 : Int32) (g_qsides : Nat) (g_qgrips : Nat) (g_qwits : Nat) (g_qsays : Nat) (g_qgives0 : Nat) (g_qgives1 : Nat) (g_qfroms : Nat) (g_qtos : Nat) (h_g_odds : -999 ≤ (g_odds : Int32).toInt ∧ (g_odds : Int32).toInt ≤ 999) (h_g_pot : -999 ≤ (g_pot : Int32).toInt ∧ (g_pot : Int32).toInt ≤ 999) (h_g_men : 0 ≤ (g_men : Int32).toInt ∧ (g_men : Int32).toInt ≤ 8) (h_g_clauses : 0 ≤ (g_clauses : Int32).toInt ∧ (g_clauses : Int32).toInt ≤ 7) (h_g_winds : 0 ≤ (g_winds : Int32).toInt ∧ (g_winds : Int32).toInt ≤ 4) (h_g_far0 : -999 ≤ (g_far0 : Int32).toInt ∧ (g_far0 : Int32).toInt ≤ 999) (h_g_far1 : -999 ≤ (g_far1 : Int32).toInt ∧ (g_far1 : Int32).toInt ≤ 999) : Met l yX3_exists (Cond.code yX3_exists cX3_exists 1 (some .boolean) :: TB) (rmd 0 0 0) (PP D cA [(h0, .inr (3, [.int g_odds, .int g_pot, .int g_lines, .int g_men, .int g_clauses, .int g_winds, .int g_far0, .int g_far1, .ref g_qsides, .ref g_qgrips, .ref g_qwits, .ref g_qsays, .ref g_qgives0, .ref g_qgives1, .ref g_qfroms, .ref g_qtos]))] [.ref h0]) (vp_Si (fun r => 0 ≤ r.toInt ∧ r.toInt ≤ 1)) 0 0 (fun _ => False) := by
  refine Met.ofW (cc := cX3_exists) (maxL := 1) (ret := (some .boolean)) (by decide) rfl ?_
  intro p e s m args below meth c s₁ B hml hv
  obtain ⟨rfl, hP, hKN⟩ := hv
  have hx := B.exec
  have hb := B.bytes
  have hr := B.returns
  have hts : ∀ w ∈ TB, w.before _ s = true := fun w h => atoms_spec B.pre w (List.mem_cons_of_mem _ h)
  have hown : s.vm.findClass RX3 = some m.cls := findClass_of_methodNamed B.named
  have hlocks := B.notSynchronized
  have hl := lv_entry ([.ref h0]) (n := 1) (Nat.le_of_ble_eq_true rfl)
  rw [lg_entry_eq]
  generalize (lg_sl ([.ref h0]) ++ List.replicate (1 - (lg_sl ([.ref h0])).length) Slot.unset).toArray = ls at hl ⊢
  have hl : lv_has ls 1 [(0, .ref h0)] := hl
  refine lv_aload_n hx hb dX3_exists_0 rfl (lv_at hl 0 rfl) ?_
  refine va_get (D := D) (ci := 3) (v := .int g_lines) (C := RX3) (T := TX3) (N := 16) hx hb hts inX3 hown hKN.1 hP 0 rfl rfl 2 (by decide) (hts _ tw_164) (fun _ h9 => h9) rfl dX3_exists_1 ?_
  refine lv_if_le (tgt := 11) hx hb dX3_exists_4 (by decide) (fun c_1 => ?_) (fun c_1 => ?_)
  · skip
    have b_3 := i32_bd g_lines
    have k_2 := kk_le rfl zi_0 c_1
    refine lv_iconst (v := 0) hx hb dX3_exists_11 (by decide) ?_
    exact W.zret (v := 0) hx hb hr (by decide) (fun t ht hW => ⟨0, rfl, (show 0 ≤ (0 : Int32).toInt ∧ (0 : Int32).toInt ≤ 1 from by decide), ht⟩) (fun _ h => by cases h) dX3_exists_12
  · skip
    have b_5 := i32_bd g_lines
    have k_4 := kk_nle rfl zi_0 c_1
    refine lv_iconst (v := 1) hx hb dX3_exists_7 (by decide) ?_
    refine lv_goto (tgt := 12) hx hb dX3_exists_8 (by decide) ?_
    exact W.zret (v := 1) hx hb hr (by decide) (fun t ht hW => ⟨1, rfl, (show 0 ≤ (1 : Int32).toInt ∧ (1 : Int32).toInt ≤ 1 from by decide), ht⟩) (fun _ h => by cases h) dX3_exists_12
set_option maxHeartbeats 8000000 in
set_option maxRecDepth 100000 in
theorem g_X3_hasMan (l : Launch) (D : va_G) (cA : Nat → ClassId) (h0 : Nat) (g_odds : Int32) (g_pot : Int32) (g_lines : Int32) (g_men : Int32) (g_clauses : Int32) (g_winds : Int32) (g_far0 : Int32) (g_far1 : Int32) (g_qsides : Nat) (g_qgrips : Nat) (g_qwits : Nat) (g_qsays : Nat) (g_qgives0 : Nat) (g_qgives1 : Nat) (g_qfroms : Nat) (g_qtos : Nat) (p0 : Int32) (h_g_odds : -999 ≤ (g_odds : Int32).toInt ∧ (g_odds : Int32).toInt ≤ 999) (h_g_pot : -999 ≤ (g_pot : Int32).toInt ∧ (g_pot : Int32).toInt ≤ 999) (h_g_men : 0 ≤ (g_men : Int32).toInt ∧ (g_men : Int32).toInt ≤ 8) (h_g_clauses : 0 ≤ (g_clauses : Int32).toInt ∧ (g_clauses : Int32).toInt ≤ 7) (h_g_winds : 0 ≤ (g_winds : Int32).toInt ∧ (g_winds : Int32).toInt ≤ 4) (h_g_far0 : -999 ≤ (g_far0 : Int32).toInt ∧ (g_far0 : Int32).toInt ≤ 999) (h_g_far1 : -999 ≤ (g_far1 : Int32).toInt ∧ (g_far1 : Int32).toInt ≤ 999) : Met l yX3_hasMan (Cond.code yX3_hasMan cX3_hasMan 2 (some .boolean) :: TB) (rmd 0 0 0) (PP D cA [(h0, .inr (3, [.int g_odds, .int g_pot, .int g_lines, .int g_men, .int g_clauses, .int g_winds, .int g_far0, .int g_far1, .ref g_qsides, .ref g_qgrips, .ref g_qwits, .ref g_qsays, .ref g_qgives0, .ref g_qgives1, .ref g_qfroms, .ref g_qtos]))] [.ref h0, .int p0]) (vp_Si (fun r => ((0 ≤ (p0 : Int32).toInt) ∧ ((p0 : Int32).toInt < (g_men : Int32).toInt) ∧ ((p0 : Int32).toInt < 8) ∧ (r = 1)) ∨ ((r = 0)))) 0 0 (fun _ => False) := by
  refine Met.ofW (cc := cX3_hasMan) (maxL := 2) (ret := (some .boolean)) (by decide) rfl ?_
  intro p e s m args below meth c s₁ B hml hv
  obtain ⟨rfl, hP, hKN⟩ := hv
  have hx := B.exec
  have hb := B.bytes
  have hr := B.returns
  have hts : ∀ w ∈ TB, w.before _ s = true := fun w h => atoms_spec B.pre w (List.mem_cons_of_mem _ h)
  have hown : s.vm.findClass RX3 = some m.cls := findClass_of_methodNamed B.named
  have hlocks := B.notSynchronized
  have hl := lv_entry ([.ref h0, .int p0]) (n := 2) (Nat.le_of_ble_eq_true rfl)
  rw [lg_entry_eq]
  generalize (lg_sl ([.ref h0, .int p0]) ++ List.replicate (2 - (lg_sl ([.ref h0, .int p0])).length) Slot.unset).toArray = ls at hl ⊢
  have hl : lv_has ls 2 [(0, .ref h0), (1, .int p0)] := hl
  refine lv_iload_n hx hb dX3_hasMan_0 rfl (lv_at hl 1 rfl) ?_
  refine lv_if_lt (tgt := 22) hx hb dX3_hasMan_1 (by decide) (fun c_1 => ?_) (fun c_1 => ?_)
  · skip
    have b_3 := i32_bd p0
    have k_2 := kk_lt rfl zi_0 c_1
    refine lv_iconst (v := 0) hx hb dX3_hasMan_22 (by decide) ?_
    exact W.zret (v := 0) hx hb hr (by decide) (fun t ht hW => ⟨0, rfl, (Or.inr (rfl)), ht⟩) (fun _ h => by cases h) dX3_hasMan_23
  · skip
    have b_5 := i32_bd p0
    have k_4 := kk_nlt rfl zi_0 c_1
    refine lv_iload_n hx hb dX3_hasMan_4 rfl (lv_at hl 1 rfl) ?_
    refine lv_aload_n hx hb dX3_hasMan_5 rfl (lv_at hl 0 rfl) ?_
    refine va_get (D := D) (ci := 3) (v := .int g_men) (C := RX3) (T := TX3) (N := 16) hx hb hts inX3 hown hKN.1 hP 0 rfl rfl 3 (by decide) (hts _ tw_167) (fun _ h9 => h9) rfl dX3_hasMan_6 ?_
    refine lv_icmp_ge (tgt := 22) hx hb dX3_hasMan_9 (by decide) (fun c_6 => ?_) (fun c_6 => ?_)
    · skip
      have k_7 := kk_le rfl rfl c_6
      refine lv_iconst (v := 0) hx hb dX3_hasMan_22 (by decide) ?_
      exact W.zret (v := 0) hx hb hr (by decide) (fun t ht hW => ⟨0, rfl, (Or.inr (rfl)), ht⟩) (fun _ h => by cases h) dX3_hasMan_23
    · skip
      have k_8 := kk_nle rfl rfl c_6
      refine lv_iload_n hx hb dX3_hasMan_12 rfl (lv_at hl 1 rfl) ?_
      refine lv_bipush (v := 8) hx hb dX3_hasMan_13 (by decide) ?_
      refine lv_icmp_ge (tgt := 22) hx hb dX3_hasMan_15 (by decide) (fun c_9 => ?_) (fun c_9 => ?_)
      · skip
        have k_10 := kk_le zi_8 rfl c_9
        exfalso; omega
      · skip
        have k_11 := kk_nle zi_8 rfl c_9
        refine lv_iconst (v := 1) hx hb dX3_hasMan_18 (by decide) ?_
        refine lv_goto (tgt := 23) hx hb dX3_hasMan_19 (by decide) ?_
        exact W.zret (v := 1) hx hb hr (by decide) (fun t ht hW => ⟨1, rfl, (Or.inl (⟨(by first | omega | assumption), (by first | omega | assumption), (by first | omega | assumption), rfl⟩)), ht⟩) (fun _ h => by cases h) dX3_hasMan_23
set_option maxHeartbeats 8000000 in
set_option maxRecDepth 100000 in
theorem g_X3_hasClause (l : Launch) (D : va_G) (cA : Nat → ClassId) (h0 : Nat) (g_odds : Int32) (g_pot : Int32) (g_lines : Int32) (g_men : Int32) (g_clauses : Int32) (g_winds : Int32) (g_far0 : Int32) (g_far1 : Int32) (g_qsides : Nat) (g_qgrips : Nat) (g_qwits : Nat) (g_qsays : Nat) (g_qgives0 : Nat) (g_qgives1 : Nat) (g_qfroms : Nat) (g_qtos : Nat) (p0 : Int32) (h_g_odds : -999 ≤ (g_odds : Int32).toInt ∧ (g_odds : Int32).toInt ≤ 999) (h_g_pot : -999 ≤ (g_pot : Int32).toInt ∧ (g_pot : Int32).toInt ≤ 999) (h_g_men : 0 ≤ (g_men : Int32).toInt ∧ (g_men : Int32).toInt ≤ 8) (h_g_clauses : 0 ≤ (g_clauses : Int32).toInt ∧ (g_clauses : Int32).toInt ≤ 7) (h_g_winds : 0 ≤ (g_winds : Int32).toInt ∧ (g_winds : Int32).toInt ≤ 4) (h_g_far0 : -999 ≤ (g_far0 : Int32).toInt ∧ (g_far0 : Int32).toInt ≤ 999) (h_g_far1 : -999 ≤ (g_far1 : Int32).toInt ∧ (g_far1 : Int32).toInt ≤ 999) : Met l yX3_hasClause (Cond.code yX3_hasClause cX3_hasClause 2 (some .boolean) :: TB) (rmd 0 0 0) (PP D cA [(h0, .inr (3, [.int g_odds, .int g_pot, .int g_lines, .int g_men, .int g_clauses, .int g_winds, .int g_far0, .int g_far1, .ref g_qsides, .ref g_qgrips, .ref g_qwits, .ref g_qsays, .ref g_qgives0, .ref g_qgives1, .ref g_qfroms, .ref g_qtos]))] [.ref h0, .int p0]) (vp_Si (fun r => ((0 ≤ (p0 : Int32).toInt) ∧ ((p0 : Int32).toInt < (g_clauses : Int32).toInt) ∧ ((p0 : Int32).toInt < 7) ∧ (r = 1)) ∨ ((r = 0)))) 0 0 (fun _ => False) := by
  refine Met.ofW (cc := cX3_hasClause) (maxL := 2) (ret := (some .boolean)) (by decide) rfl ?_
  intro p e s m args below meth c s₁ B hml hv
  obtain ⟨rfl, hP, hKN⟩ := hv
  have hx := B.exec
  have hb := B.bytes
  have hr := B.returns
  have hts : ∀ w ∈ TB, w.before _ s = true := fun w h => atoms_spec B.pre w (List.mem_cons_of_mem _ h)
  have hown : s.vm.findClass RX3 = some m.cls := findClass_of_methodNamed B.named
  have hlocks := B.notSynchronized
  have hl := lv_entry ([.ref h0, .int p0]) (n := 2) (Nat.le_of_ble_eq_true rfl)
  rw [lg_entry_eq]
  generalize (lg_sl ([.ref h0, .int p0]) ++ List.replicate (2 - (lg_sl ([.ref h0, .int p0])).length) Slot.unset).toArray = ls at hl ⊢
  have hl : lv_has ls 2 [(0, .ref h0), (1, .int p0)] := hl
  refine lv_iload_n hx hb dX3_hasClause_0 rfl (lv_at hl 1 rfl) ?_
  refine lv_if_lt (tgt := 22) hx hb dX3_hasClause_1 (by decide) (fun c_1 => ?_) (fun c_1 => ?_)
  · skip
    have b_3 := i32_bd p0
    have k_2 := kk_lt rfl zi_0 c_1
    refine lv_iconst (v := 0) hx hb dX3_hasClause_22 (by decide) ?_
    exact W.zret (v := 0) hx hb hr (by decide) (fun t ht hW => ⟨0, rfl, (Or.inr (rfl)), ht⟩) (fun _ h => by cases h) dX3_hasClause_23
  · skip
    have b_5 := i32_bd p0
    have k_4 := kk_nlt rfl zi_0 c_1
    refine lv_iload_n hx hb dX3_hasClause_4 rfl (lv_at hl 1 rfl) ?_
    refine lv_aload_n hx hb dX3_hasClause_5 rfl (lv_at hl 0 rfl) ?_
    refine va_get (D := D) (ci := 3) (v := .int g_clauses) (C := RX3) (T := TX3) (N := 16) hx hb hts inX3 hown hKN.1 hP 0 rfl rfl 4 (by decide) (hts _ tw_172) (fun _ h9 => h9) rfl dX3_hasClause_6 ?_
    refine lv_icmp_ge (tgt := 22) hx hb dX3_hasClause_9 (by decide) (fun c_6 => ?_) (fun c_6 => ?_)
    · skip
      have k_7 := kk_le rfl rfl c_6
      refine lv_iconst (v := 0) hx hb dX3_hasClause_22 (by decide) ?_
      exact W.zret (v := 0) hx hb hr (by decide) (fun t ht hW => ⟨0, rfl, (Or.inr (rfl)), ht⟩) (fun _ h => by cases h) dX3_hasClause_23
    · skip
      have k_8 := kk_nle rfl rfl c_6
      refine lv_iload_n hx hb dX3_hasClause_12 rfl (lv_at hl 1 rfl) ?_
      refine lv_bipush (v := 7) hx hb dX3_hasClause_13 (by decide) ?_
      refine lv_icmp_ge (tgt := 22) hx hb dX3_hasClause_15 (by decide) (fun c_9 => ?_) (fun c_9 => ?_)
      · skip
        have k_10 := kk_le zi_7 rfl c_9
        exfalso; omega
      · skip
        have k_11 := kk_nle zi_7 rfl c_9
        refine lv_iconst (v := 1) hx hb dX3_hasClause_18 (by decide) ?_
        refine lv_goto (tgt := 23) hx hb dX3_hasClause_19 (by decide) ?_
        exact W.zret (v := 1) hx hb hr (by decide) (fun t ht hW => ⟨1, rfl, (Or.inl (⟨(by first | omega | assumption), (by first | omega | assumption), (by first | omega | assumption), rfl⟩)), ht⟩) (fun _ h => by cases h) dX3_hasClause_23
set_option maxHeartbeats 8000000 in
set_option maxRecDepth 100000 in
theorem g_X3_hasSide (l : Launch) (D : va_G) (cA : Nat → ClassId) (h0 : Nat) (g_odds : Int32) (g_pot : Int32) (g_lines : Int32) (g_men : Int32) (g_clauses : Int32) (g_winds : Int32) (g_far0 : Int32) (g_far1 : Int32) (g_qsides : Nat) (g_qgrips : Nat) (g_qwits : Nat) (g_qsays : Nat) (g_qgives0 : Nat) (g_qgives1 : Nat) (g_qfroms : Nat) (g_qtos : Nat) (p0 : Int32) (h_g_odds : -999 ≤ (g_odds : Int32).toInt ∧ (g_odds : Int32).toInt ≤ 999) (h_g_pot : -999 ≤ (g_pot : Int32).toInt ∧ (g_pot : Int32).toInt ≤ 999) (h_g_men : 0 ≤ (g_men : Int32).toInt ∧ (g_men : Int32).toInt ≤ 8) (h_g_clauses : 0 ≤ (g_clauses : Int32).toInt ∧ (g_clauses : Int32).toInt ≤ 7) (h_g_winds : 0 ≤ (g_winds : Int32).toInt ∧ (g_winds : Int32).toInt ≤ 4) (h_g_far0 : -999 ≤ (g_far0 : Int32).toInt ∧ (g_far0 : Int32).toInt ≤ 999) (h_g_far1 : -999 ≤ (g_far1 : Int32).toInt ∧ (g_far1 : Int32).toInt ≤ 999) : Met l yX3_hasSide (Cond.code yX3_hasSide cX3_hasSide 2 (some .boolean) :: TB) (rmd 1 0 0) (PP D cA [(h0, .inr (3, [.int g_odds, .int g_pot, .int g_lines, .int g_men, .int g_clauses, .int g_winds, .int g_far0, .int g_far1, .ref g_qsides, .ref g_qgrips, .ref g_qwits, .ref g_qsays, .ref g_qgives0, .ref g_qgives1, .ref g_qfroms, .ref g_qtos]))] [.ref h0, .int p0]) (vp_Si (fun r => ((0 ≤ (p0 : Int32).toInt) ∧ ((p0 : Int32).toInt ≤ 1) ∧ (r = 1)) ∨ ((r = 0)))) 0 0 (fun _ => False) := by
  refine Met.ofW (cc := cX3_hasSide) (maxL := 2) (ret := (some .boolean)) (by decide) rfl ?_
  intro p e s m args below meth c s₁ B hml hv
  obtain ⟨rfl, hP, hKN⟩ := hv
  have hx := B.exec
  have hb := B.bytes
  have hr := B.returns
  have hts : ∀ w ∈ TB, w.before _ s = true := fun w h => atoms_spec B.pre w (List.mem_cons_of_mem _ h)
  have hown : s.vm.findClass RX3 = some m.cls := findClass_of_methodNamed B.named
  have hlocks := B.notSynchronized
  have hl := lv_entry ([.ref h0, .int p0]) (n := 2) (Nat.le_of_ble_eq_true rfl)
  rw [lg_entry_eq]
  generalize (lg_sl ([.ref h0, .int p0]) ++ List.replicate (2 - (lg_sl ([.ref h0, .int p0])).length) Slot.unset).toArray = ls at hl ⊢
  have hl : lv_has ls 2 [(0, .ref h0), (1, .int p0)] := hl
  refine lv_aload_n hx hb dX3_hasSide_0 rfl (lv_at hl 0 rfl) ?_
  refine cpVi (rest := []) ⟨hx, hb, hml, hown, hts⟩ hKN (hP.sub (ws' := [(h0, .inr (3, [.int g_odds, .int g_pot, .int g_lines, .int g_men, .int g_clauses, .int g_winds, .int g_far0, .int g_far1, .ref g_qsides, .ref g_qgrips, .ref g_qwits, .ref g_qsays, .ref g_qgives0, .ref g_qgives1, .ref g_qfroms, .ref g_qtos]))]) [0] rfl) (g_X3_exists l D cA h0 g_odds g_pot g_lines g_men g_clauses g_winds g_far0 g_far1 g_qsides g_qgrips g_qwits g_qsays g_qgives0 g_qgives1 g_qfroms g_qtos (by omega) (by omega) (by omega) (by omega) (by omega) (by omega) (by omega)) (tb_V tw_740 tw_741 tw_742 tw_104 tw_743) hdX3_exists ⟨rfl, rfl, Nat.le_of_ble_eq_true rfl, Nat.le_of_ble_eq_true rfl⟩ ⟨Nat.le_of_ble_eq_true rfl, Nat.le_of_ble_eq_true rfl⟩ rfl rfl rfl hl.1 rfl (Nat.le_of_ble_eq_true rfl) dX3_hasSide_1 (fun r_1 hr_1 => ?_)
  refine lv_if_eq (tgt := 20) hx hb dX3_hasSide_4 (by decide) (fun c_2 => ?_) (fun c_2 => ?_)
  · skip
    have k_3 := kk_eq rfl zi_0 c_2
    refine lv_iconst (v := 0) hx hb dX3_hasSide_20 (by decide) ?_
    exact W.zret (v := 0) hx hb hr (by decide) (fun t ht hW => ⟨0, rfl, (Or.inr (rfl)), ht⟩) (fun _ h => by cases h) dX3_hasSide_21
  · skip
    have k_4 := kk_ne rfl zi_0 c_2
    refine lv_iload_n hx hb dX3_hasSide_7 rfl (lv_at hl 1 rfl) ?_
    refine lv_iconst (v := 0) hx hb dX3_hasSide_8 (by decide) ?_
    refine lv_iconst (v := 1) hx hb dX3_hasSide_9 (by decide) ?_
    have z_5 := zi_0
    have z_6 := zi_1
    refine cpSNi (rest := []) ⟨hx, hb, hml, hown, hts⟩ hKN (hP.sub (ws' := []) [] rfl) (g_X11_isWithin l D cA p0 0 1) ⟨nw_8, tw_516, tw_101, tw_517⟩ hdX11_isWithin ⟨rfl, rfl, Nat.le_of_ble_eq_true rfl, Nat.le_of_ble_eq_true rfl⟩ ⟨Nat.le_of_ble_eq_true rfl, Nat.le_of_ble_eq_true rfl⟩ rfl hl.1 rfl (Nat.le_of_ble_eq_true rfl) dX3_hasSide_10 (fun r_7 hr_7 => ?_)
    rcases hr_7 with ⟨k_7_0_0, k_7_0_1, rfl⟩ | ⟨k_7_1_0, rfl⟩
    · skip
      refine lv_if_eq (tgt := 20) hx hb dX3_hasSide_13 (by decide) (fun c_8 => absurd c_8 (by decide)) (fun c_8 => ?_)
      refine lv_iconst (v := 1) hx hb dX3_hasSide_16 (by decide) ?_
      refine lv_goto (tgt := 21) hx hb dX3_hasSide_17 (by decide) ?_
      exact W.zret (v := 1) hx hb hr (by decide) (fun t ht hW => ⟨1, rfl, (Or.inl (⟨(by first | omega | assumption), (by first | omega | assumption), rfl⟩)), ht⟩) (fun _ h => by cases h) dX3_hasSide_21
    · skip
      refine lv_if_eq (tgt := 20) hx hb dX3_hasSide_13 (by decide) (fun c_9 => ?_) (fun c_9 => absurd (by decide) c_9)
      refine lv_iconst (v := 0) hx hb dX3_hasSide_20 (by decide) ?_
      exact W.zret (v := 0) hx hb hr (by decide) (fun t ht hW => ⟨0, rfl, (Or.inr (rfl)), ht⟩) (fun _ h => by cases h) dX3_hasSide_21
set_option maxHeartbeats 8000000 in
set_option maxRecDepth 100000 in
theorem g_X3_allClauses (l : Launch) (D : va_G) (cA : Nat → ClassId) (h0 : Nat) (g_odds : Int32) (g_pot : Int32) (g_lines : Int32) (g_men : Int32) (g_clauses : Int32) (g_winds : Int32) (g_far0 : Int32) (g_far1 : Int32) (g_qsides : Nat) (g_qgrips : Nat) (g_qwits : Nat) (g_qsays : Nat) (g_qgives0 : Nat) (g_qgives1 : Nat) (g_qfroms : Nat) (g_qtos : Nat) (h_g_odds : -999 ≤ (g_odds : Int32).toInt ∧ (g_odds : Int32).toInt ≤ 999) (h_g_pot : -999 ≤ (g_pot : Int32).toInt ∧ (g_pot : Int32).toInt ≤ 999) (h_g_men : 0 ≤ (g_men : Int32).toInt ∧ (g_men : Int32).toInt ≤ 8) (h_g_clauses : 0 ≤ (g_clauses : Int32).toInt ∧ (g_clauses : Int32).toInt ≤ 7) (h_g_winds : 0 ≤ (g_winds : Int32).toInt ∧ (g_winds : Int32).toInt ≤ 4) (h_g_far0 : -999 ≤ (g_far0 : Int32).toInt ∧ (g_far0 : Int32).toInt ≤ 999) (h_g_far1 : -999 ≤ (g_far1 : Int32).toInt ∧ (g_far1 : Int32).toInt ≤ 999) : Met l yX3_allClauses (Cond.code yX3_allClauses cX3_allClauses 1 (some .int) :: TB) (rmd 0 0 0) (PP D cA [(h0, .inr (3, [.int g_odds, .int g_pot, .int g_lines, .int g_men, .int g_clauses, .int g_winds, .int g_far0, .int g_far1, .ref g_qsides, .ref g_qgrips, .ref g_qwits, .ref g_qsays, .ref g_qgives0, .ref g_qgives1, .ref g_qfroms, .ref g_qtos]))] [.ref h0]) (vp_Si (fun r => 0 ≤ r.toInt ∧ r.toInt ≤ 127)) 0 0 (fun _ => False) := by
  refine Met.ofW (cc := cX3_allClauses) (maxL := 1) (ret := (some .int)) (by decide) rfl ?_
  intro p e s m args below meth c s₁ B hml hv
  obtain ⟨rfl, hP, hKN⟩ := hv
  have hx := B.exec
  have hb := B.bytes
  have hr := B.returns
  have hts : ∀ w ∈ TB, w.before _ s = true := fun w h => atoms_spec B.pre w (List.mem_cons_of_mem _ h)
  have hown : s.vm.findClass RX3 = some m.cls := findClass_of_methodNamed B.named
  have hlocks := B.notSynchronized
  have hl := lv_entry ([.ref h0]) (n := 1) (Nat.le_of_ble_eq_true rfl)
  rw [lg_entry_eq]
  generalize (lg_sl ([.ref h0]) ++ List.replicate (1 - (lg_sl ([.ref h0])).length) Slot.unset).toArray = ls at hl ⊢
  have hl : lv_has ls 1 [(0, .ref h0)] := hl
  refine lv_iconst (v := 1) hx hb dX3_allClauses_0 (by decide) ?_
  refine lv_aload_n hx hb dX3_allClauses_1 rfl (lv_at hl 0 rfl) ?_
  refine va_get (D := D) (ci := 3) (v := .int g_clauses) (C := RX3) (T := TX3) (N := 16) hx hb hts inX3 hown hKN.1 hP 0 rfl rfl 4 (by decide) (hts _ tw_172) (fun _ h9 => h9) rfl dX3_allClauses_2 ?_
  refine lv_ishl hx hb dX3_allClauses_5 ?_
  refine lv_topi (fun x_1 ex_1 => ?_)
  have k_2 := ar_shl1 ex_1 (by omega) (by omega)
  refine lv_iconst (v := 1) hx hb dX3_allClauses_6 (by decide) ?_
  refine lv_isub hx hb dX3_allClauses_7 ?_
  refine lv_topi (fun x_3 ex_3 => ?_)
  have k_4 := ar_sub rfl zi_1 ex_3 (by omega) (by omega)
  exact W.iret (v := x_3) hx hb hr (fun t ht hW => ⟨x_3, rfl, (show 0 ≤ x_3.toInt ∧ x_3.toInt ≤ 127 from by omega), ht⟩) (fun _ h => by cases h) dX3_allClauses_8
set_option maxHeartbeats 8000000 in
set_option maxRecDepth 100000 in
theorem g_X3_farOf (l : Launch) (D : va_G) (cA : Nat → ClassId) (h0 : Nat) (g_odds : Int32) (g_pot : Int32) (g_lines : Int32) (g_men : Int32) (g_clauses : Int32) (g_winds : Int32) (g_far0 : Int32) (g_far1 : Int32) (g_qsides : Nat) (g_qgrips : Nat) (g_qwits : Nat) (g_qsays : Nat) (g_qgives0 : Nat) (g_qgives1 : Nat) (g_qfroms : Nat) (g_qtos : Nat) (p0 : Int32) (h_g_odds : -999 ≤ (g_odds : Int32).toInt ∧ (g_odds : Int32).toInt ≤ 999) (h_g_pot : -999 ≤ (g_pot : Int32).toInt ∧ (g_pot : Int32).toInt ≤ 999) (h_g_men : 0 ≤ (g_men : Int32).toInt ∧ (g_men : Int32).toInt ≤ 8) (h_g_clauses : 0 ≤ (g_clauses : Int32).toInt ∧ (g_clauses : Int32).toInt ≤ 7) (h_g_winds : 0 ≤ (g_winds : Int32).toInt ∧ (g_winds : Int32).toInt ≤ 4) (h_g_far0 : -999 ≤ (g_far0 : Int32).toInt ∧ (g_far0 : Int32).toInt ≤ 999) (h_g_far1 : -999 ≤ (g_far1 : Int32).toInt ∧ (g_far1 : Int32).toInt ≤ 999) : Met l yX3_farOf (Cond.code yX3_farOf cX3_farOf 2 (some .int) :: TB) (rmd 0 0 0) (PP D cA [(h0, .inr (3, [.int g_odds, .int g_pot, .int g_lines, .int g_men, .int g_clauses, .int g_winds, .int g_far0, .int g_far1, .ref g_qsides, .ref g_qgrips, .ref g_qwits, .ref g_qsays, .ref g_qgives0, .ref g_qgives1, .ref g_qfroms, .ref g_qtos]))] [.ref h0, .int p0]) (vp_Si (fun r => -999 ≤ r.toInt ∧ r.toInt ≤ 999)) 0 0 (fun _ => False) := by
  refine Met.ofW (cc := cX3_farOf) (maxL := 2) (ret := (some .int)) (by decide) rfl ?_
  intro p e s m args below meth c s₁ B hml hv
  obtain ⟨rfl, hP, hKN⟩ := hv
  have hx := B.exec
  have hb := B.bytes
  have hr := B.returns
  have hts : ∀ w ∈ TB, w.before _ s = true := fun w h => atoms_spec B.pre w (List.mem_cons_of_mem _ h)
  have hown : s.vm.findClass RX3 = some m.cls := findClass_of_methodNamed B.named
  have hlocks := B.notSynchronized
  have hl := lv_entry ([.ref h0, .int p0]) (n := 2) (Nat.le_of_ble_eq_true rfl)
  rw [lg_entry_eq]
  generalize (lg_sl ([.ref h0, .int p0]) ++ List.replicate (2 - (lg_sl ([.ref h0, .int p0])).length) Slot.unset).toArray = ls at hl ⊢
  have hl : lv_has ls 2 [(0, .ref h0), (1, .int p0)] := hl
  refine lv_iload_n hx hb dX3_farOf_0 rfl (lv_at hl 1 rfl) ?_
  refine lv_if_ne (tgt := 11) hx hb dX3_farOf_1 (by decide) (fun c_1 => ?_) (fun c_1 => ?_)
  · skip
    have b_3 := i32_bd p0
    have k_2 := kk_ne rfl zi_0 c_1
    refine lv_aload_n hx hb dX3_farOf_11 rfl (lv_at hl 0 rfl) ?_
    refine va_get (D := D) (ci := 3) (v := .int g_far1) (C := RX3) (T := TX3) (N := 16) hx hb hts inX3 hown hKN.1 hP 0 rfl rfl 7 (by decide) (hts _ tw_181) (fun _ h9 => h9) rfl dX3_farOf_12 ?_
    exact W.iret (v := g_far1) hx hb hr (fun t ht hW => ⟨g_far1, rfl, (show -999 ≤ g_far1.toInt ∧ g_far1.toInt ≤ 999 from by omega), ht⟩) (fun _ h => by cases h) dX3_farOf_15
  · skip
    have b_5 := i32_bd p0
    have k_4 := kk_eq rfl zi_0 c_1
    refine lv_aload_n hx hb dX3_farOf_4 rfl (lv_at hl 0 rfl) ?_
    refine va_get (D := D) (ci := 3) (v := .int g_far0) (C := RX3) (T := TX3) (N := 16) hx hb hts inX3 hown hKN.1 hP 0 rfl rfl 6 (by decide) (hts _ tw_180) (fun _ h9 => h9) rfl dX3_farOf_5 ?_
    refine lv_goto (tgt := 15) hx hb dX3_farOf_8 (by decide) ?_
    exact W.iret (v := g_far0) hx hb hr (fun t ht hW => ⟨g_far0, rfl, (show -999 ≤ g_far0.toInt ∧ g_far0.toInt ≤ 999 from by omega), ht⟩) (fun _ h => by cases h) dX3_farOf_15
set_option maxHeartbeats 8000000 in
set_option maxRecDepth 100000 in
theorem g_X3_sideOf (l : Launch) (D : va_G) (cA : Nat → ClassId) (h0 : Nat) (g_odds : Int32) (g_pot : Int32) (g_lines : Int32) (g_men : Int32) (g_clauses : Int32) (g_winds : Int32) (g_far0 : Int32) (g_far1 : Int32) (g_qsides : Nat) (g_qgrips : Nat) (g_qwits : Nat) (g_qsays : Nat) (g_qgives0 : Nat) (g_qgives1 : Nat) (g_qfroms : Nat) (g_qtos : Nat) (g_csides : Nat → Int32) (p0 : Int32) (h_g_odds : -999 ≤ (g_odds : Int32).toInt ∧ (g_odds : Int32).toInt ≤ 999) (h_g_pot : -999 ≤ (g_pot : Int32).toInt ∧ (g_pot : Int32).toInt ≤ 999) (h_g_men : 0 ≤ (g_men : Int32).toInt ∧ (g_men : Int32).toInt ≤ 8) (h_g_clauses : 0 ≤ (g_clauses : Int32).toInt ∧ (g_clauses : Int32).toInt ≤ 7) (h_g_winds : 0 ≤ (g_winds : Int32).toInt ∧ (g_winds : Int32).toInt ≤ 4) (h_g_far0 : -999 ≤ (g_far0 : Int32).toInt ∧ (g_far0 : Int32).toInt ≤ 999) (h_g_far1 : -999 ≤ (g_far1 : Int32).toInt ∧ (g_far1 : Int32).toInt ≤ 999) : Met l yX3_sideOf (Cond.code yX3_sideOf cX3_sideOf 2 (some .int) :: TB) (rmd 1 0 0) (PP D cA [(h0, .inr (3, [.int g_odds, .int g_pot, .int g_lines, .int g_men, .int g_clauses, .int g_winds, .int g_far0, .int g_far1, .ref g_qsides, .ref g_qgrips, .ref g_qwits, .ref g_qsays, .ref g_qgives0, .ref g_qgives1, .ref g_qfroms, .ref g_qtos])), (g_qsides, .inl (cA 1, 8, .inl g_csides))] [.ref h0, .int p0]) (vp_Si (fun r => ((0 ≤ (p0 : Int32).toInt) ∧ ((p0 : Int32).toInt < 8)) ∨ ((r = (-1))))) 0 0 (fun _ => False) := by
  refine Met.ofW (cc := cX3_sideOf) (maxL := 2) (ret := (some .int)) (by decide) rfl ?_
  intro p e s m args below meth c s₁ B hml hv
  obtain ⟨rfl, hP, hKN⟩ := hv
  have hx := B.exec
  have hb := B.bytes
  have hr := B.returns
  have hts : ∀ w ∈ TB, w.before _ s = true := fun w h => atoms_spec B.pre w (List.mem_cons_of_mem _ h)
  have hown : s.vm.findClass RX3 = some m.cls := findClass_of_methodNamed B.named
  have hlocks := B.notSynchronized
  have hl := lv_entry ([.ref h0, .int p0]) (n := 2) (Nat.le_of_ble_eq_true rfl)
  rw [lg_entry_eq]
  generalize (lg_sl ([.ref h0, .int p0]) ++ List.replicate (2 - (lg_sl ([.ref h0, .int p0])).length) Slot.unset).toArray = ls at hl ⊢
  have hl : lv_has ls 2 [(0, .ref h0), (1, .int p0)] := hl
  refine lv_aload_n hx hb dX3_sideOf_0 rfl (lv_at hl 0 rfl) ?_
  refine lv_iload_n hx hb dX3_sideOf_1 rfl (lv_at hl 1 rfl) ?_
  refine cpVi (rest := []) ⟨hx, hb, hml, hown, hts⟩ hKN (hP.sub (ws' := [(h0, .inr (3, [.int g_odds, .int g_pot, .int g_lines, .int g_men, .int g_clauses, .int g_winds, .int g_far0, .int g_far1, .ref g_qsides, .ref g_qgrips, .ref g_qwits, .ref g_qsays, .ref g_qgives0, .ref g_qgives1, .ref g_qfroms, .ref g_qtos]))]) [0] rfl) (g_X3_hasMan l D cA h0 g_odds g_pot g_lines g_men g_clauses g_winds g_far0 g_far1 g_qsides g_qgrips g_qwits g_qsays g_qgives0 g_qgives1 g_qfroms g_qtos p0 (by omega) (by omega) (by omega) (by omega) (by omega) (by omega) (by omega)) (tb_V tw_706 tw_699 tw_700 tw_104 tw_701) hdX3_hasMan ⟨rfl, rfl, Nat.le_of_ble_eq_true rfl, Nat.le_of_ble_eq_true rfl⟩ ⟨Nat.le_of_ble_eq_true rfl, Nat.le_of_ble_eq_true rfl⟩ rfl rfl rfl hl.1 rfl (Nat.le_of_ble_eq_true rfl) dX3_sideOf_2 (fun r_1 hr_1 => ?_)
  rcases hr_1 with ⟨k_1_0_0, k_1_0_1, k_1_0_2, rfl⟩ | rfl
  · skip
    refine lv_if_eq (tgt := 17) hx hb dX3_sideOf_5 (by decide) (fun c_2 => absurd c_2 (by decide)) (fun c_2 => ?_)
    refine lv_aload_n hx hb dX3_sideOf_8 rfl (lv_at hl 0 rfl) ?_
    refine va_get (D := D) (ci := 3) (v := .ref g_qsides) (C := RX3) (T := TX3) (N := 16) hx hb hts inX3 hown hKN.1 hP 0 rfl rfl 8 (by decide) (hts _ tw_182) (fun _ h9 => h9) rfl dX3_sideOf_9 ?_
    refine lv_iload_n hx hb dX3_sideOf_12 rfl (lv_at hl 1 rfl) ?_
    refine va_iald hx hb hKN.1 hP 1 1 rfl rfl (vp_in_iff.mpr ⟨by omega, by omega⟩) dX3_sideOf_13 ?_
    refine lv_topi (fun x_3 ex_3 => ?_)
    refine lv_goto (tgt := 18) hx hb dX3_sideOf_14 (by decide) ?_
    exact W.iret (v := x_3) hx hb hr (fun t ht hW => ⟨x_3, rfl, (by first | exact Or.inl (⟨(by first | omega | assumption), (by first | omega | assumption)⟩) | exact Or.inr ((i32_ext (show x_3.toInt = ((-1) : Int32).toInt from by rw [zi_m1]; omega)))), ht⟩) (fun _ h => by cases h) dX3_sideOf_18
  · skip
    refine lv_if_eq (tgt := 17) hx hb dX3_sideOf_5 (by decide) (fun c_4 => ?_) (fun c_4 => absurd (by decide) c_4)
    refine lv_iconst (v := (-1)) hx hb dX3_sideOf_17 (by decide) ?_
    exact W.iret (v := (-1)) hx hb hr (fun t ht hW => ⟨(-1), rfl, (by first | exact Or.inl (⟨(by first | omega | assumption), (by first | omega | assumption)⟩) | exact Or.inr (rfl)), ht⟩) (fun _ h => by cases h) dX3_sideOf_18
set_option maxHeartbeats 8000000 in
set_option maxRecDepth 100000 in
theorem g_X3_gripOf (l : Launch) (D : va_G) (cA : Nat → ClassId) (h0 : Nat) (g_odds : Int32) (g_pot : Int32) (g_lines : Int32) (g_men : Int32) (g_clauses : Int32) (g_winds : Int32) (g_far0 : Int32) (g_far1 : Int32) (g_qsides : Nat) (g_qgrips : Nat) (g_qwits : Nat) (g_qsays : Nat) (g_qgives0 : Nat) (g_qgives1 : Nat) (g_qfroms : Nat) (g_qtos : Nat) (g_cgrips : Nat → Int32) (p0 : Int32) (h_g_odds : -999 ≤ (g_odds : Int32).toInt ∧ (g_odds : Int32).toInt ≤ 999) (h_g_pot : -999 ≤ (g_pot : Int32).toInt ∧ (g_pot : Int32).toInt ≤ 999) (h_g_men : 0 ≤ (g_men : Int32).toInt ∧ (g_men : Int32).toInt ≤ 8) (h_g_clauses : 0 ≤ (g_clauses : Int32).toInt ∧ (g_clauses : Int32).toInt ≤ 7) (h_g_winds : 0 ≤ (g_winds : Int32).toInt ∧ (g_winds : Int32).toInt ≤ 4) (h_g_far0 : -999 ≤ (g_far0 : Int32).toInt ∧ (g_far0 : Int32).toInt ≤ 999) (h_g_far1 : -999 ≤ (g_far1 : Int32).toInt ∧ (g_far1 : Int32).toInt ≤ 999) : Met l yX3_gripOf (Cond.code yX3_gripOf cX3_gripOf 2 (some .int) :: TB) (rmd 1 0 0) (PP D cA [(h0, .inr (3, [.int g_odds, .int g_pot, .int g_lines, .int g_men, .int g_clauses, .int g_winds, .int g_far0, .int g_far1, .ref g_qsides, .ref g_qgrips, .ref g_qwits, .ref g_qsays, .ref g_qgives0, .ref g_qgives1, .ref g_qfroms, .ref g_qtos])), (g_qgrips, .inl (cA 1, 8, .inl g_cgrips))] [.ref h0, .int p0]) (vp_Si (fun r => True)) 0 0 (fun _ => False) := by
  refine Met.ofW (cc := cX3_gripOf) (maxL := 2) (ret := (some .int)) (by decide) rfl ?_
  intro p e s m args below meth c s₁ B hml hv
  obtain ⟨rfl, hP, hKN⟩ := hv
  have hx := B.exec
  have hb := B.bytes
  have hr := B.returns
  have hts : ∀ w ∈ TB, w.before _ s = true := fun w h => atoms_spec B.pre w (List.mem_cons_of_mem _ h)
  have hown : s.vm.findClass RX3 = some m.cls := findClass_of_methodNamed B.named
  have hlocks := B.notSynchronized
  have hl := lv_entry ([.ref h0, .int p0]) (n := 2) (Nat.le_of_ble_eq_true rfl)
  rw [lg_entry_eq]
  generalize (lg_sl ([.ref h0, .int p0]) ++ List.replicate (2 - (lg_sl ([.ref h0, .int p0])).length) Slot.unset).toArray = ls at hl ⊢
  have hl : lv_has ls 2 [(0, .ref h0), (1, .int p0)] := hl
  refine lv_aload_n hx hb dX3_gripOf_0 rfl (lv_at hl 0 rfl) ?_
  refine lv_iload_n hx hb dX3_gripOf_1 rfl (lv_at hl 1 rfl) ?_
  refine cpVi (rest := []) ⟨hx, hb, hml, hown, hts⟩ hKN (hP.sub (ws' := [(h0, .inr (3, [.int g_odds, .int g_pot, .int g_lines, .int g_men, .int g_clauses, .int g_winds, .int g_far0, .int g_far1, .ref g_qsides, .ref g_qgrips, .ref g_qwits, .ref g_qsays, .ref g_qgives0, .ref g_qgives1, .ref g_qfroms, .ref g_qtos]))]) [0] rfl) (g_X3_hasMan l D cA h0 g_odds g_pot g_lines g_men g_clauses g_winds g_far0 g_far1 g_qsides g_qgrips g_qwits g_qsays g_qgives0 g_qgives1 g_qfroms g_qtos p0 (by omega) (by omega) (by omega) (by omega) (by omega) (by omega) (by omega)) (tb_V tw_706 tw_699 tw_700 tw_104 tw_701) hdX3_hasMan ⟨rfl, rfl, Nat.le_of_ble_eq_true rfl, Nat.le_of_ble_eq_true rfl⟩ ⟨Nat.le_of_ble_eq_true rfl, Nat.le_of_ble_eq_true rfl⟩ rfl rfl rfl hl.1 rfl (Nat.le_of_ble_eq_true rfl) dX3_gripOf_2 (fun r_1 hr_1 => ?_)
  rcases hr_1 with ⟨k_1_0_0, k_1_0_1, k_1_0_2, rfl⟩ | rfl
  · skip
    refine lv_if_eq (tgt := 17) hx hb dX3_gripOf_5 (by decide) (fun c_2 => absurd c_2 (by decide)) (fun c_2 => ?_)
    refine lv_aload_n hx hb dX3_gripOf_8 rfl (lv_at hl 0 rfl) ?_
    refine va_get (D := D) (ci := 3) (v := .ref g_qgrips) (C := RX3) (T := TX3) (N := 16) hx hb hts inX3 hown hKN.1 hP 0 rfl rfl 9 (by decide) (hts _ tw_183) (fun _ h9 => h9) rfl dX3_gripOf_9 ?_
    refine lv_iload_n hx hb dX3_gripOf_12 rfl (lv_at hl 1 rfl) ?_
    refine va_iald hx hb hKN.1 hP 1 1 rfl rfl (vp_in_iff.mpr ⟨by omega, by omega⟩) dX3_gripOf_13 ?_
    refine lv_topi (fun x_3 ex_3 => ?_)
    refine lv_goto (tgt := 18) hx hb dX3_gripOf_14 (by decide) ?_
    exact W.iret (v := x_3) hx hb hr (fun t ht hW => ⟨x_3, rfl, trivial, ht⟩) (fun _ h => by cases h) dX3_gripOf_18
  · skip
    refine lv_if_eq (tgt := 17) hx hb dX3_gripOf_5 (by decide) (fun c_4 => ?_) (fun c_4 => absurd (by decide) c_4)
    refine lv_iconst (v := (-1)) hx hb dX3_gripOf_17 (by decide) ?_
    exact W.iret (v := (-1)) hx hb hr (fun t ht hW => ⟨(-1), rfl, trivial, ht⟩) (fun _ h => by cases h) dX3_gripOf_18
set_option maxHeartbeats 8000000 in
set_option maxRecDepth 100000 in
theorem g_X3_witsOf (l : Launch) (D : va_G) (cA : Nat → ClassId) (h0 : Nat) (g_odds : Int32) (g_pot : Int32) (g_lines : Int32) (g_men : Int32) (g_clauses : Int32) (g_winds : Int32) (g_far0 : Int32) (g_far1 : Int32) (g_qsides : Nat) (g_qgrips : Nat) (g_qwits : Nat) (g_qsays : Nat) (g_qgives0 : Nat) (g_qgives1 : Nat) (g_qfroms : Nat) (g_qtos : Nat) (g_cwits : Nat → Int32) (p0 : Int32) (h_g_odds : -999 ≤ (g_odds : Int32).toInt ∧ (g_odds : Int32).toInt ≤ 999) (h_g_pot : -999 ≤ (g_pot : Int32).toInt ∧ (g_pot : Int32).toInt ≤ 999) (h_g_men : 0 ≤ (g_men : Int32).toInt ∧ (g_men : Int32).toInt ≤ 8) (h_g_clauses : 0 ≤ (g_clauses : Int32).toInt ∧ (g_clauses : Int32).toInt ≤ 7) (h_g_winds : 0 ≤ (g_winds : Int32).toInt ∧ (g_winds : Int32).toInt ≤ 4) (h_g_far0 : -999 ≤ (g_far0 : Int32).toInt ∧ (g_far0 : Int32).toInt ≤ 999) (h_g_far1 : -999 ≤ (g_far1 : Int32).toInt ∧ (g_far1 : Int32).toInt ≤ 999) : Met l yX3_witsOf (Cond.code yX3_witsOf cX3_witsOf 2 (some .int) :: TB) (rmd 1 0 0) (PP D cA [(h0, .inr (3, [.int g_odds, .int g_pot, .int g_lines, .int g_men, .int g_clauses, .int g_winds, .int g_far0, .int g_far1, .ref g_qsides, .ref g_qgrips, .ref g_qwits, .ref g_qsays, .ref g_qgives0, .ref g_qgives1, .ref g_qfroms, .ref g_qtos])), (g_qwits, .inl (cA 1, 8, .inl g_cwits))] [.ref h0, .int p0]) (vp_Si (fun r => True)) 0 0 (fun _ => False) := by
  refine Met.ofW (cc := cX3_witsOf) (maxL := 2) (ret := (some .int)) (by decide) rfl ?_
  intro p e s m args below meth c s₁ B hml hv
  obtain ⟨rfl, hP, hKN⟩ := hv
  have hx := B.exec
  have hb := B.bytes
  have hr := B.returns
  have hts : ∀ w ∈ TB, w.before _ s = true := fun w h => atoms_spec B.pre w (List.mem_cons_of_mem _ h)
  have hown : s.vm.findClass RX3 = some m.cls := findClass_of_methodNamed B.named
  have hlocks := B.notSynchronized
  have hl := lv_entry ([.ref h0, .int p0]) (n := 2) (Nat.le_of_ble_eq_true rfl)
  rw [lg_entry_eq]
  generalize (lg_sl ([.ref h0, .int p0]) ++ List.replicate (2 - (lg_sl ([.ref h0, .int p0])).length) Slot.unset).toArray = ls at hl ⊢
  have hl : lv_has ls 2 [(0, .ref h0), (1, .int p0)] := hl
  refine lv_aload_n hx hb dX3_witsOf_0 rfl (lv_at hl 0 rfl) ?_
  refine lv_iload_n hx hb dX3_witsOf_1 rfl (lv_at hl 1 rfl) ?_
  refine cpVi (rest := []) ⟨hx, hb, hml, hown, hts⟩ hKN (hP.sub (ws' := [(h0, .inr (3, [.int g_odds, .int g_pot, .int g_lines, .int g_men, .int g_clauses, .int g_winds, .int g_far0, .int g_far1, .ref g_qsides, .ref g_qgrips, .ref g_qwits, .ref g_qsays, .ref g_qgives0, .ref g_qgives1, .ref g_qfroms, .ref g_qtos]))]) [0] rfl) (g_X3_hasMan l D cA h0 g_odds g_pot g_lines g_men g_clauses g_winds g_far0 g_far1 g_qsides g_qgrips g_qwits g_qsays g_qgives0 g_qgives1 g_qfroms g_qtos p0 (by omega) (by omega) (by omega) (by omega) (by omega) (by omega) (by omega)) (tb_V tw_706 tw_699 tw_700 tw_104 tw_701) hdX3_hasMan ⟨rfl, rfl, Nat.le_of_ble_eq_true rfl, Nat.le_of_ble_eq_true rfl⟩ ⟨Nat.le_of_ble_eq_true rfl, Nat.le_of_ble_eq_true rfl⟩ rfl rfl rfl hl.1 rfl (Nat.le_of_ble_eq_true rfl) dX3_witsOf_2 (fun r_1 hr_1 => ?_)
  rcases hr_1 with ⟨k_1_0_0, k_1_0_1, k_1_0_2, rfl⟩ | rfl
  · skip
    refine lv_if_eq (tgt := 17) hx hb dX3_witsOf_5 (by decide) (fun c_2 => absurd c_2 (by decide)) (fun c_2 => ?_)
    refine lv_aload_n hx hb dX3_witsOf_8 rfl (lv_at hl 0 rfl) ?_
    refine va_get (D := D) (ci := 3) (v := .ref g_qwits) (C := RX3) (T := TX3) (N := 16) hx hb hts inX3 hown hKN.1 hP 0 rfl rfl 10 (by decide) (hts _ tw_184) (fun _ h9 => h9) rfl dX3_witsOf_9 ?_
    refine lv_iload_n hx hb dX3_witsOf_12 rfl (lv_at hl 1 rfl) ?_
    refine va_iald hx hb hKN.1 hP 1 1 rfl rfl (vp_in_iff.mpr ⟨by omega, by omega⟩) dX3_witsOf_13 ?_
    refine lv_topi (fun x_3 ex_3 => ?_)
    refine lv_goto (tgt := 18) hx hb dX3_witsOf_14 (by decide) ?_
    exact W.iret (v := x_3) hx hb hr (fun t ht hW => ⟨x_3, rfl, trivial, ht⟩) (fun _ h => by cases h) dX3_witsOf_18
  · skip
    refine lv_if_eq (tgt := 17) hx hb dX3_witsOf_5 (by decide) (fun c_4 => ?_) (fun c_4 => absurd (by decide) c_4)
    refine lv_iconst (v := (-1)) hx hb dX3_witsOf_17 (by decide) ?_
    exact W.iret (v := (-1)) hx hb hr (fun t ht hW => ⟨(-1), rfl, trivial, ht⟩) (fun _ h => by cases h) dX3_witsOf_18
set_option maxHeartbeats 8000000 in
set_option maxRecDepth 100000 in
theorem g_X3_lengthOf (l : Launch) (D : va_G) (cA : Nat → ClassId) (h0 : Nat) (g_odds : Int32) (g_pot : Int32) (g_lines : Int32) (g_men : Int32) (g_clauses : Int32) (g_winds : Int32) (g_far0 : Int32) (g_far1 : Int32) (g_qsides : Nat) (g_qgrips : Nat) (g_qwits : Nat) (g_qsays : Nat) (g_qgives0 : Nat) (g_qgives1 : Nat) (g_qfroms : Nat) (g_qtos : Nat) (g_csays : Nat → Int32) (p0 : Int32) (h_g_odds : -999 ≤ (g_odds : Int32).toInt ∧ (g_odds : Int32).toInt ≤ 999) (h_g_pot : -999 ≤ (g_pot : Int32).toInt ∧ (g_pot : Int32).toInt ≤ 999) (h_g_men : 0 ≤ (g_men : Int32).toInt ∧ (g_men : Int32).toInt ≤ 8) (h_g_clauses : 0 ≤ (g_clauses : Int32).toInt ∧ (g_clauses : Int32).toInt ≤ 7) (h_g_winds : 0 ≤ (g_winds : Int32).toInt ∧ (g_winds : Int32).toInt ≤ 4) (h_g_far0 : -999 ≤ (g_far0 : Int32).toInt ∧ (g_far0 : Int32).toInt ≤ 999) (h_g_far1 : -999 ≤ (g_far1 : Int32).toInt ∧ (g_far1 : Int32).toInt ≤ 999) : Met l yX3_lengthOf (Cond.code yX3_lengthOf cX3_lengthOf 2 (some .int) :: TB) (rmd 1 0 0) (PP D cA [(h0, .inr (3, [.int g_odds, .int g_pot, .int g_lines, .int g_men, .int g_clauses, .int g_winds, .int g_far0, .int g_far1, .ref g_qsides, .ref g_qgrips, .ref g_qwits, .ref g_qsays, .ref g_qgives0, .ref g_qgives1, .ref g_qfroms, .ref g_qtos])), (g_qsays, .inl (cA 1, 7, .inl g_csays))] [.ref h0, .int p0]) (vp_Si (fun r => True)) 0 0 (fun _ => False) := by
  refine Met.ofW (cc := cX3_lengthOf) (maxL := 2) (ret := (some .int)) (by decide) rfl ?_
  intro p e s m args below meth c s₁ B hml hv
  obtain ⟨rfl, hP, hKN⟩ := hv
  have hx := B.exec
  have hb := B.bytes
  have hr := B.returns
  have hts : ∀ w ∈ TB, w.before _ s = true := fun w h => atoms_spec B.pre w (List.mem_cons_of_mem _ h)
  have hown : s.vm.findClass RX3 = some m.cls := findClass_of_methodNamed B.named
  have hlocks := B.notSynchronized
  have hl := lv_entry ([.ref h0, .int p0]) (n := 2) (Nat.le_of_ble_eq_true rfl)
  rw [lg_entry_eq]
  generalize (lg_sl ([.ref h0, .int p0]) ++ List.replicate (2 - (lg_sl ([.ref h0, .int p0])).length) Slot.unset).toArray = ls at hl ⊢
  have hl : lv_has ls 2 [(0, .ref h0), (1, .int p0)] := hl
  refine lv_aload_n hx hb dX3_lengthOf_0 rfl (lv_at hl 0 rfl) ?_
  refine lv_iload_n hx hb dX3_lengthOf_1 rfl (lv_at hl 1 rfl) ?_
  refine cpVi (rest := []) ⟨hx, hb, hml, hown, hts⟩ hKN (hP.sub (ws' := [(h0, .inr (3, [.int g_odds, .int g_pot, .int g_lines, .int g_men, .int g_clauses, .int g_winds, .int g_far0, .int g_far1, .ref g_qsides, .ref g_qgrips, .ref g_qwits, .ref g_qsays, .ref g_qgives0, .ref g_qgives1, .ref g_qfroms, .ref g_qtos]))]) [0] rfl) (g_X3_hasClause l D cA h0 g_odds g_pot g_lines g_men g_clauses g_winds g_far0 g_far1 g_qsides g_qgrips g_qwits g_qsays g_qgives0 g_qgives1 g_qfroms g_qtos p0 (by omega) (by omega) (by omega) (by omega) (by omega) (by omega) (by omega)) (tb_V tw_727 tw_720 tw_721 tw_104 tw_722) hdX3_hasClause ⟨rfl, rfl, Nat.le_of_ble_eq_true rfl, Nat.le_of_ble_eq_true rfl⟩ ⟨Nat.le_of_ble_eq_true rfl, Nat.le_of_ble_eq_true rfl⟩ rfl rfl rfl hl.1 rfl (Nat.le_of_ble_eq_true rfl) dX3_lengthOf_2 (fun r_1 hr_1 => ?_)
  rcases hr_1 with ⟨k_1_0_0, k_1_0_1, k_1_0_2, rfl⟩ | rfl
  · skip
    refine lv_if_eq (tgt := 17) hx hb dX3_lengthOf_5 (by decide) (fun c_2 => absurd c_2 (by decide)) (fun c_2 => ?_)
    refine lv_aload_n hx hb dX3_lengthOf_8 rfl (lv_at hl 0 rfl) ?_
    refine va_get (D := D) (ci := 3) (v := .ref g_qsays) (C := RX3) (T := TX3) (N := 16) hx hb hts inX3 hown hKN.1 hP 0 rfl rfl 11 (by decide) (hts _ tw_185) (fun _ h9 => h9) rfl dX3_lengthOf_9 ?_
    refine lv_iload_n hx hb dX3_lengthOf_12 rfl (lv_at hl 1 rfl) ?_
    refine va_iald hx hb hKN.1 hP 1 1 rfl rfl (vp_in_iff.mpr ⟨by omega, by omega⟩) dX3_lengthOf_13 ?_
    refine lv_topi (fun x_3 ex_3 => ?_)
    refine lv_goto (tgt := 18) hx hb dX3_lengthOf_14 (by decide) ?_
    exact W.iret (v := x_3) hx hb hr (fun t ht hW => ⟨x_3, rfl, trivial, ht⟩) (fun _ h => by cases h) dX3_lengthOf_18
  · skip
    refine lv_if_eq (tgt := 17) hx hb dX3_lengthOf_5 (by decide) (fun c_4 => ?_) (fun c_4 => absurd (by decide) c_4)
    refine lv_iconst (v := 0) hx hb dX3_lengthOf_17 (by decide) ?_
    exact W.iret (v := 0) hx hb hr (fun t ht hW => ⟨0, rfl, trivial, ht⟩) (fun _ h => by cases h) dX3_lengthOf_18
set_option maxHeartbeats 8000000 in
set_option maxRecDepth 100000 in
theorem g_X3_setFars (l : Launch) (D : va_G) (cA : Nat → ClassId) (sz : Nat) (h0 : Nat) (g_odds : Int32) (g_pot : Int32) (g_lines : Int32) (g_men : Int32) (g_clauses : Int32) (g_winds : Int32) (g_far0 : Int32) (g_far1 : Int32) (g_qsides : Nat) (g_qgrips : Nat) (g_qwits : Nat) (g_qsays : Nat) (g_qgives0 : Nat) (g_qgives1 : Nat) (g_qfroms : Nat) (g_qtos : Nat) (p0 : Int32) (p1 : Int32) (h_g_odds : -999 ≤ (g_odds : Int32).toInt ∧ (g_odds : Int32).toInt ≤ 999) (h_g_pot : -999 ≤ (g_pot : Int32).toInt ∧ (g_pot : Int32).toInt ≤ 999) (h_g_men : 0 ≤ (g_men : Int32).toInt ∧ (g_men : Int32).toInt ≤ 8) (h_g_clauses : 0 ≤ (g_clauses : Int32).toInt ∧ (g_clauses : Int32).toInt ≤ 7) (h_g_winds : 0 ≤ (g_winds : Int32).toInt ∧ (g_winds : Int32).toInt ≤ 4) (h_g_far0 : -999 ≤ (g_far0 : Int32).toInt ∧ (g_far0 : Int32).toInt ≤ 999) (h_g_far1 : -999 ≤ (g_far1 : Int32).toInt ∧ (g_far1 : Int32).toInt ≤ 999) : Met l yX3_setFars (Cond.code yX3_setFars cX3_setFars 3 none :: TB) (rmd 0 0 0) (PM D cA sz [(h0, .inr (3, [.int g_odds, .int g_pot, .int g_lines, .int g_men, .int g_clauses, .int g_winds, .int g_far0, .int g_far1, .ref g_qsides, .ref g_qgrips, .ref g_qwits, .ref g_qsays, .ref g_qgives0, .ref g_qgives1, .ref g_qfroms, .ref g_qtos]))] [.ref h0, .int p0, .int p1]) (va_Qv (fun (u : SU) => True) (fun u t => va_P D vwCl [(h0, .inr (3, [.int g_odds, .int g_pot, .int g_lines, .int g_men, .int g_clauses, .int g_winds, .int p0, .int p1, .ref g_qsides, .ref g_qgrips, .ref g_qwits, .ref g_qsays, .ref g_qgives0, .ref g_qgives1, .ref g_qfroms, .ref g_qtos]))] t.heap ∧ va_D (va_A [(h0, .inr (3, [.int g_odds, .int g_pot, .int g_lines, .int g_men, .int g_clauses, .int g_winds, .int g_far0, .int g_far1, .ref g_qsides, .ref g_qgrips, .ref g_qwits, .ref g_qsays, .ref g_qgives0, .ref g_qgives1, .ref g_qfroms, .ref g_qtos]))] sz) [(h0, .inr (3, [.int g_odds, .int g_pot, .int g_lines, .int g_men, .int g_clauses, .int g_winds, .int p0, .int p1, .ref g_qsides, .ref g_qgrips, .ref g_qwits, .ref g_qsays, .ref g_qgives0, .ref g_qgives1, .ref g_qfroms, .ref g_qtos]))]) (va_A [(h0, .inr (3, [.int g_odds, .int g_pot, .int g_lines, .int g_men, .int g_clauses, .int g_winds, .int g_far0, .int g_far1, .ref g_qsides, .ref g_qgrips, .ref g_qwits, .ref g_qsays, .ref g_qgives0, .ref g_qgives1, .ref g_qfroms, .ref g_qtos]))] sz)) 0 0 (va_A [(h0, .inr (3, [.int g_odds, .int g_pot, .int g_lines, .int g_men, .int g_clauses, .int g_winds, .int g_far0, .int g_far1, .ref g_qsides, .ref g_qgrips, .ref g_qwits, .ref g_qsays, .ref g_qgives0, .ref g_qgives1, .ref g_qfroms, .ref g_qtos]))] sz) := by
  refine Met.ofW (cc := cX3_setFars) (maxL := 3) (ret := none) (by decide) rfl ?_
  intro p e s m args below meth c s₁ B hml hv
  obtain ⟨rfl, hsz, hP, hKN, hD0⟩ := hv
  have hx := B.exec
  have hb := B.bytes
  have hr := B.returns
  have hts : ∀ w ∈ TB, w.before _ s = true := fun w h => atoms_spec B.pre w (List.mem_cons_of_mem _ h)
  have hown : s.vm.findClass RX3 = some m.cls := findClass_of_methodNamed B.named
  have hlocks := B.notSynchronized
  subst hsz
  have hD := hD0.self (sz := s.heap.size)
  generalize hAe : va_A [(h0, .inr (3, [.int g_odds, .int g_pot, .int g_lines, .int g_men, .int g_clauses, .int g_winds, .int g_far0, .int g_far1, .ref g_qsides, .ref g_qgrips, .ref g_qwits, .ref g_qsays, .ref g_qgives0, .ref g_qgives1, .ref g_qfroms, .ref g_qtos]))] s.heap.size = A at hD ⊢
  have hA : ∀ q : Nat, s.heap.size ≤ q → A q := fun q h => by rw [← hAe]; exact Or.inr h
  have hS : va_S A s.heap s.heap [] := va_S.rf
  have hl := lv_entry ([.ref h0, .int p0, .int p1]) (n := 3) (Nat.le_of_ble_eq_true rfl)
  rw [lg_entry_eq]
  generalize (lg_sl ([.ref h0, .int p0, .int p1]) ++ List.replicate (3 - (lg_sl ([.ref h0, .int p0, .int p1])).length) Slot.unset).toArray = ls at hl ⊢
  have hl : lv_has ls 3 [(0, .ref h0), (1, .int p0), (2, .int p1)] := hl
  refine lv_aload_n hx hb dX3_setFars_0 rfl (lv_at hl 0 rfl) ?_
  refine lv_iload_n hx hb dX3_setFars_1 rfl (lv_at hl 1 rfl) ?_
  refine va_put (D := D) (ci := 3) (v := .int p0) (ty := .int) (C := RX3) (T := TX3) (N := 16) hx hb hts inX3 tyX3 tyX3_ok nmX3 hown hKN.1 hP hD hS 0 rfl rfl 6 (by decide) (hts _ tw_180) (fun _ h9 => h9) rfl (by decide +kernel) rfl rfl (Nat.le_of_ble_eq_true rfl) dX3_setFars_2 (fun H locs hP hD hS => ?_)
  have hP : va_P D vwCl [(h0, .inr (3, [.int g_odds, .int g_pot, .int g_lines, .int g_men, .int g_clauses, .int g_winds, .int p0, .int g_far1, .ref g_qsides, .ref g_qgrips, .ref g_qwits, .ref g_qsays, .ref g_qgives0, .ref g_qgives1, .ref g_qfroms, .ref g_qtos]))] H := hP
  have hD : va_D A [(h0, .inr (3, [.int g_odds, .int g_pot, .int g_lines, .int g_men, .int g_clauses, .int g_winds, .int p0, .int g_far1, .ref g_qsides, .ref g_qgrips, .ref g_qwits, .ref g_qsays, .ref g_qgives0, .ref g_qgives1, .ref g_qfroms, .ref g_qtos]))] := hD
  refine lv_aload_n hx hb dX3_setFars_5 rfl (lv_at hl 0 rfl) ?_
  refine lv_iload_n hx hb dX3_setFars_6 rfl (lv_at hl 2 rfl) ?_
  refine va_put (D := D) (ci := 3) (v := .int p1) (ty := .int) (C := RX3) (T := TX3) (N := 16) hx hb hts inX3 tyX3 tyX3_ok nmX3 hown hKN.1 hP hD hS 0 rfl rfl 7 (by decide) (hts _ tw_181) (fun _ h9 => h9) rfl (by decide +kernel) rfl rfl (Nat.le_of_ble_eq_true rfl) dX3_setFars_7 (fun H locs hP hD hS => ?_)
  have hP : va_P D vwCl [(h0, .inr (3, [.int g_odds, .int g_pot, .int g_lines, .int g_men, .int g_clauses, .int g_winds, .int p0, .int p1, .ref g_qsides, .ref g_qgrips, .ref g_qwits, .ref g_qsays, .ref g_qgives0, .ref g_qgives1, .ref g_qfroms, .ref g_qtos]))] H := hP
  have hD : va_D A [(h0, .inr (3, [.int g_odds, .int g_pot, .int g_lines, .int g_men, .int g_clauses, .int g_winds, .int p0, .int p1, .ref g_qsides, .ref g_qgrips, .ref g_qwits, .ref g_qsays, .ref g_qgives0, .ref g_qgives1, .ref g_qfroms, .ref g_qtos]))] := hD
  have hP9 := hP.sub (ws' := [(h0, .inr (3, [.int g_odds, .int g_pot, .int g_lines, .int g_men, .int g_clauses, .int g_winds, .int p0, .int p1, .ref g_qsides, .ref g_qgrips, .ref g_qwits, .ref g_qsays, .ref g_qgives0, .ref g_qgives1, .ref g_qfroms, .ref g_qtos]))]) [0] rfl
  have hD9 := hD.sub (ws' := [(h0, .inr (3, [.int g_odds, .int g_pot, .int g_lines, .int g_men, .int g_clauses, .int g_winds, .int p0, .int p1, .ref g_qsides, .ref g_qgrips, .ref g_qwits, .ref g_qsays, .ref g_qgives0, .ref g_qgives1, .ref g_qfroms, .ref g_qtos]))]) [0] (by decide) rfl
  exact W.vret hx hb hr (fun t ht hW => ⟨⟨((fun _ => 0), (fun _ => 0), (fun _ _ => 0), (fun _ _ => 0)), rfl, trivial, by rw [ht]; exact hP9, hD9⟩, hS.F ht⟩) hS.2.2 dX3_setFars_10
set_option maxHeartbeats 8000000 in
set_option maxRecDepth 100000 in
theorem g_X3_clear (l : Launch) (D : va_G) (cA : Nat → ClassId) (sz : Nat) (h0 : Nat) (g_odds : Int32) (g_pot : Int32) (g_lines : Int32) (g_men : Int32) (g_clauses : Int32) (g_winds : Int32) (g_far0 : Int32) (g_far1 : Int32) (g_qsides : Nat) (g_qgrips : Nat) (g_qwits : Nat) (g_qsays : Nat) (g_qgives0 : Nat) (g_qgives1 : Nat) (g_qfroms : Nat) (g_qtos : Nat) (h_g_odds : -999 ≤ (g_odds : Int32).toInt ∧ (g_odds : Int32).toInt ≤ 999) (h_g_pot : -999 ≤ (g_pot : Int32).toInt ∧ (g_pot : Int32).toInt ≤ 999) (h_g_men : 0 ≤ (g_men : Int32).toInt ∧ (g_men : Int32).toInt ≤ 8) (h_g_clauses : 0 ≤ (g_clauses : Int32).toInt ∧ (g_clauses : Int32).toInt ≤ 7) (h_g_winds : 0 ≤ (g_winds : Int32).toInt ∧ (g_winds : Int32).toInt ≤ 4) (h_g_far0 : -999 ≤ (g_far0 : Int32).toInt ∧ (g_far0 : Int32).toInt ≤ 999) (h_g_far1 : -999 ≤ (g_far1 : Int32).toInt ∧ (g_far1 : Int32).toInt ≤ 999) : Met l yX3_clear (Cond.code yX3_clear cX3_clear 1 none :: TB) (rmd 1 0 0) (PM D cA sz [(h0, .inr (3, [.int g_odds, .int g_pot, .int g_lines, .int g_men, .int g_clauses, .int g_winds, .int g_far0, .int g_far1, .ref g_qsides, .ref g_qgrips, .ref g_qwits, .ref g_qsays, .ref g_qgives0, .ref g_qgives1, .ref g_qfroms, .ref g_qtos]))] [.ref h0]) (va_Qv (fun (u : SU) => True) (fun u t => va_P D vwCl [(h0, .inr (3, [.int 0, .int 0, .int 0, .int 0, .int 0, .int 0, .int 0, .int 0, .ref g_qsides, .ref g_qgrips, .ref g_qwits, .ref g_qsays, .ref g_qgives0, .ref g_qgives1, .ref g_qfroms, .ref g_qtos]))] t.heap ∧ va_D (va_A [(h0, .inr (3, [.int g_odds, .int g_pot, .int g_lines, .int g_men, .int g_clauses, .int g_winds, .int g_far0, .int g_far1, .ref g_qsides, .ref g_qgrips, .ref g_qwits, .ref g_qsays, .ref g_qgives0, .ref g_qgives1, .ref g_qfroms, .ref g_qtos]))] sz) [(h0, .inr (3, [.int 0, .int 0, .int 0, .int 0, .int 0, .int 0, .int 0, .int 0, .ref g_qsides, .ref g_qgrips, .ref g_qwits, .ref g_qsays, .ref g_qgives0, .ref g_qgives1, .ref g_qfroms, .ref g_qtos]))]) (va_A [(h0, .inr (3, [.int g_odds, .int g_pot, .int g_lines, .int g_men, .int g_clauses, .int g_winds, .int g_far0, .int g_far1, .ref g_qsides, .ref g_qgrips, .ref g_qwits, .ref g_qsays, .ref g_qgives0, .ref g_qgives1, .ref g_qfroms, .ref g_qtos]))] sz)) 0 0 (va_A [(h0, .inr (3, [.int g_odds, .int g_pot, .int g_lines, .int g_men, .int g_clauses, .int g_winds, .int g_far0, .int g_far1, .ref g_qsides, .ref g_qgrips, .ref g_qwits, .ref g_qsays, .ref g_qgives0, .ref g_qgives1, .ref g_qfroms, .ref g_qtos]))] sz) := by
  refine Met.ofW (cc := cX3_clear) (maxL := 1) (ret := none) (by decide) rfl ?_
  intro p e s m args below meth c s₁ B hml hv
  obtain ⟨rfl, hsz, hP, hKN, hD0⟩ := hv
  have hx := B.exec
  have hb := B.bytes
  have hr := B.returns
  have hts : ∀ w ∈ TB, w.before _ s = true := fun w h => atoms_spec B.pre w (List.mem_cons_of_mem _ h)
  have hown : s.vm.findClass RX3 = some m.cls := findClass_of_methodNamed B.named
  have hlocks := B.notSynchronized
  subst hsz
  have hD := hD0.self (sz := s.heap.size)
  generalize hAe : va_A [(h0, .inr (3, [.int g_odds, .int g_pot, .int g_lines, .int g_men, .int g_clauses, .int g_winds, .int g_far0, .int g_far1, .ref g_qsides, .ref g_qgrips, .ref g_qwits, .ref g_qsays, .ref g_qgives0, .ref g_qgives1, .ref g_qfroms, .ref g_qtos]))] s.heap.size = A at hD ⊢
  have hA : ∀ q : Nat, s.heap.size ≤ q → A q := fun q h => by rw [← hAe]; exact Or.inr h
  have hS : va_S A s.heap s.heap [] := va_S.rf
  have hl := lv_entry ([.ref h0]) (n := 1) (Nat.le_of_ble_eq_true rfl)
  rw [lg_entry_eq]
  generalize (lg_sl ([.ref h0]) ++ List.replicate (1 - (lg_sl ([.ref h0])).length) Slot.unset).toArray = ls at hl ⊢
  have hl : lv_has ls 1 [(0, .ref h0)] := hl
  refine lv_aload_n hx hb dX3_clear_0 rfl (lv_at hl 0 rfl) ?_
  refine lv_iconst (v := 0) hx hb dX3_clear_1 (by decide) ?_
  refine lv_iconst (v := 0) hx hb dX3_clear_2 (by decide) ?_
  have z_1 := zi_0
  refine cmVv (rest := []) (wsC := [(h0, .inr (3, [.int g_odds, .int g_pot, .int g_lines, .int g_men, .int g_clauses, .int g_winds, .int g_far0, .int g_far1, .ref g_qsides, .ref g_qgrips, .ref g_qwits, .ref g_qsays, .ref g_qgives0, .ref g_qgives1, .ref g_qfroms, .ref g_qtos]))]) (wr := []) ⟨hx, hb, hml, hown, hts⟩ hKN hP hD hS hA [0] [] rfl rfl (by decide) (by decide) (by decide) (g_X3_setFars l D cA _ h0 g_odds g_pot g_lines g_men g_clauses g_winds g_far0 g_far1 g_qsides g_qgrips g_qwits g_qsays g_qgives0 g_qgives1 g_qfroms g_qtos 0 0 (by omega) (by omega) (by omega) (by omega) (by omega) (by omega) (by omega)) (tb_V tw_530 tw_531 tw_532 tw_104 tw_533) hdX3_setFars ⟨rfl, rfl, Nat.le_of_ble_eq_true rfl, Nat.le_of_ble_eq_true rfl⟩ ⟨Nat.le_of_ble_eq_true rfl, Nat.le_of_ble_eq_true rfl⟩ rfl rfl rfl hl.1 rfl (Nat.le_of_ble_eq_true rfl) dX3_clear_3 (fun u_2 H locs hr_2 hP hD hS => ?_)
  have hP : va_P D vwCl [(h0, .inr (3, [.int g_odds, .int g_pot, .int g_lines, .int g_men, .int g_clauses, .int g_winds, .int 0, .int 0, .ref g_qsides, .ref g_qgrips, .ref g_qwits, .ref g_qsays, .ref g_qgives0, .ref g_qgives1, .ref g_qfroms, .ref g_qtos]))] H := hP
  have hD : va_D A [(h0, .inr (3, [.int g_odds, .int g_pot, .int g_lines, .int g_men, .int g_clauses, .int g_winds, .int 0, .int 0, .ref g_qsides, .ref g_qgrips, .ref g_qwits, .ref g_qsays, .ref g_qgives0, .ref g_qgives1, .ref g_qfroms, .ref g_qtos]))] := hD
  refine lv_aload_n hx hb dX3_clear_6 rfl (lv_at hl 0 rfl) ?_
  refine lv_iconst (v := 0) hx hb dX3_clear_7 (by decide) ?_
  refine va_put (D := D) (ci := 3) (v := .int 0) (ty := .int) (C := RX3) (T := TX3) (N := 16) hx hb hts inX3 tyX3 tyX3_ok nmX3 hown hKN.1 hP hD hS 0 rfl rfl 0 (by decide) (hts _ tw_158) (fun _ h9 => h9) rfl (by decide +kernel) rfl rfl (Nat.le_of_ble_eq_true rfl) dX3_clear_8 (fun H locs hP hD hS => ?_)
  have hP : va_P D vwCl [(h0, .inr (3, [.int 0, .int g_pot, .int g_lines, .int g_men, .int g_clauses, .int g_winds, .int 0, .int 0, .ref g_qsides, .ref g_qgrips, .ref g_qwits, .ref g_qsays, .ref g_qgives0, .ref g_qgives1, .ref g_qfroms, .ref g_qtos]))] H := hP
  have hD : va_D A [(h0, .inr (3, [.int 0, .int g_pot, .int g_lines, .int g_men, .int g_clauses, .int g_winds, .int 0, .int 0, .ref g_qsides, .ref g_qgrips, .ref g_qwits, .ref g_qsays, .ref g_qgives0, .ref g_qgives1, .ref g_qfroms, .ref g_qtos]))] := hD
  refine lv_aload_n hx hb dX3_clear_11 rfl (lv_at hl 0 rfl) ?_
  refine lv_iconst (v := 0) hx hb dX3_clear_12 (by decide) ?_
  refine va_put (D := D) (ci := 3) (v := .int 0) (ty := .int) (C := RX3) (T := TX3) (N := 16) hx hb hts inX3 tyX3 tyX3_ok nmX3 hown hKN.1 hP hD hS 0 rfl rfl 1 (by decide) (hts _ tw_161) (fun _ h9 => h9) rfl (by decide +kernel) rfl rfl (Nat.le_of_ble_eq_true rfl) dX3_clear_13 (fun H locs hP hD hS => ?_)
  have hP : va_P D vwCl [(h0, .inr (3, [.int 0, .int 0, .int g_lines, .int g_men, .int g_clauses, .int g_winds, .int 0, .int 0, .ref g_qsides, .ref g_qgrips, .ref g_qwits, .ref g_qsays, .ref g_qgives0, .ref g_qgives1, .ref g_qfroms, .ref g_qtos]))] H := hP
  have hD : va_D A [(h0, .inr (3, [.int 0, .int 0, .int g_lines, .int g_men, .int g_clauses, .int g_winds, .int 0, .int 0, .ref g_qsides, .ref g_qgrips, .ref g_qwits, .ref g_qsays, .ref g_qgives0, .ref g_qgives1, .ref g_qfroms, .ref g_qtos]))] := hD
  refine lv_aload_n hx hb dX3_clear_16 rfl (lv_at hl 0 rfl) ?_
  refine lv_iconst (v := 0) hx hb dX3_clear_17 (by decide) ?_
  refine va_put (D := D) (ci := 3) (v := .int 0) (ty := .int) (C := RX3) (T := TX3) (N := 16) hx hb hts inX3 tyX3 tyX3_ok nmX3 hown hKN.1 hP hD hS 0 rfl rfl 2 (by decide) (hts _ tw_164) (fun _ h9 => h9) rfl (by decide +kernel) rfl rfl (Nat.le_of_ble_eq_true rfl) dX3_clear_18 (fun H locs hP hD hS => ?_)
  have hP : va_P D vwCl [(h0, .inr (3, [.int 0, .int 0, .int 0, .int g_men, .int g_clauses, .int g_winds, .int 0, .int 0, .ref g_qsides, .ref g_qgrips, .ref g_qwits, .ref g_qsays, .ref g_qgives0, .ref g_qgives1, .ref g_qfroms, .ref g_qtos]))] H := hP
  have hD : va_D A [(h0, .inr (3, [.int 0, .int 0, .int 0, .int g_men, .int g_clauses, .int g_winds, .int 0, .int 0, .ref g_qsides, .ref g_qgrips, .ref g_qwits, .ref g_qsays, .ref g_qgives0, .ref g_qgives1, .ref g_qfroms, .ref g_qtos]))] := hD
  refine lv_aload_n hx hb dX3_clear_21 rfl (lv_at hl 0 rfl) ?_
  refine lv_iconst (v := 0) hx hb dX3_clear_22 (by decide) ?_
  refine va_put (D := D) (ci := 3) (v := .int 0) (ty := .int) (C := RX3) (T := TX3) (N := 16) hx hb hts inX3 tyX3 tyX3_ok nmX3 hown hKN.1 hP hD hS 0 rfl rfl 3 (by decide) (hts _ tw_167) (fun _ h9 => h9) rfl (by decide +kernel) rfl rfl (Nat.le_of_ble_eq_true rfl) dX3_clear_23 (fun H locs hP hD hS => ?_)
  have hP : va_P D vwCl [(h0, .inr (3, [.int 0, .int 0, .int 0, .int 0, .int g_clauses, .int g_winds, .int 0, .int 0, .ref g_qsides, .ref g_qgrips, .ref g_qwits, .ref g_qsays, .ref g_qgives0, .ref g_qgives1, .ref g_qfroms, .ref g_qtos]))] H := hP
  have hD : va_D A [(h0, .inr (3, [.int 0, .int 0, .int 0, .int 0, .int g_clauses, .int g_winds, .int 0, .int 0, .ref g_qsides, .ref g_qgrips, .ref g_qwits, .ref g_qsays, .ref g_qgives0, .ref g_qgives1, .ref g_qfroms, .ref g_qtos]))] := hD
  refine lv_aload_n hx hb dX3_clear_26 rfl (lv_at hl 0 rfl) ?_
  refine lv_iconst (v := 0) hx hb dX3_clear_27 (by decide) ?_
  refine va_put (D := D) (ci := 3) (v := .int 0) (ty := .int) (C := RX3) (T := TX3) (N := 16) hx hb hts inX3 tyX3 tyX3_ok nmX3 hown hKN.1 hP hD hS 0 rfl rfl 4 (by decide) (hts _ tw_172) (fun _ h9 => h9) rfl (by decide +kernel) rfl rfl (Nat.le_of_ble_eq_true rfl) dX3_clear_28 (fun H locs hP hD hS => ?_)
  have hP : va_P D vwCl [(h0, .inr (3, [.int 0, .int 0, .int 0, .int 0, .int 0, .int g_winds, .int 0, .int 0, .ref g_qsides, .ref g_qgrips, .ref g_qwits, .ref g_qsays, .ref g_qgives0, .ref g_qgives1, .ref g_qfroms, .ref g_qtos]))] H := hP
  have hD : va_D A [(h0, .inr (3, [.int 0, .int 0, .int 0, .int 0, .int 0, .int g_winds, .int 0, .int 0, .ref g_qsides, .ref g_qgrips, .ref g_qwits, .ref g_qsays, .ref g_qgives0, .ref g_qgives1, .ref g_qfroms, .ref g_qtos]))] := hD
  refine lv_aload_n hx hb dX3_clear_31 rfl (lv_at hl 0 rfl) ?_
  refine lv_iconst (v := 0) hx hb dX3_clear_32 (by decide) ?_
  refine va_put (D := D) (ci := 3) (v := .int 0) (ty := .int) (C := RX3) (T := TX3) (N := 16) hx hb hts inX3 tyX3 tyX3_ok nmX3 hown hKN.1 hP hD hS 0 rfl rfl 5 (by decide) (hts _ tw_177) (fun _ h9 => h9) rfl (by decide +kernel) rfl rfl (Nat.le_of_ble_eq_true rfl) dX3_clear_33 (fun H locs hP hD hS => ?_)
  have hP : va_P D vwCl [(h0, .inr (3, [.int 0, .int 0, .int 0, .int 0, .int 0, .int 0, .int 0, .int 0, .ref g_qsides, .ref g_qgrips, .ref g_qwits, .ref g_qsays, .ref g_qgives0, .ref g_qgives1, .ref g_qfroms, .ref g_qtos]))] H := hP
  have hD : va_D A [(h0, .inr (3, [.int 0, .int 0, .int 0, .int 0, .int 0, .int 0, .int 0, .int 0, .ref g_qsides, .ref g_qgrips, .ref g_qwits, .ref g_qsays, .ref g_qgives0, .ref g_qgives1, .ref g_qfroms, .ref g_qtos]))] := hD
  have hP9 := hP.sub (ws' := [(h0, .inr (3, [.int 0, .int 0, .int 0, .int 0, .int 0, .int 0, .int 0, .int 0, .ref g_qsides, .ref g_qgrips, .ref g_qwits, .ref g_qsays, .ref g_qgives0, .ref g_qgives1, .ref g_qfroms, .ref g_qtos]))]) [0] rfl
  have hD9 := hD.sub (ws' := [(h0, .inr (3, [.int 0, .int 0, .int 0, .int 0, .int 0, .int 0, .int 0, .int 0, .ref g_qsides, .ref g_qgrips, .ref g_qwits, .ref g_qsays, .ref g_qgives0, .ref g_qgives1, .ref g_qfroms, .ref g_qtos]))]) [0] (by decide) rfl
  exact W.vret hx hb hr (fun t ht hW => ⟨⟨((fun _ => 0), (fun _ => 0), (fun _ _ => 0), (fun _ _ => 0)), rfl, trivial, by rw [ht]; exact hP9, hD9⟩, hS.F ht⟩) hS.2.2 dX3_clear_36
set_option maxHeartbeats 8000000 in
set_option maxRecDepth 100000 in
theorem g_X3_copyFrom (l : Launch) (D : va_G) (cA : Nat → ClassId) (sz : Nat) (h0 : Nat) (g_odds : Int32) (g_pot : Int32) (g_lines : Int32) (g_men : Int32) (g_clauses : Int32) (g_winds : Int32) (g_far0 : Int32) (g_far1 : Int32) (g_qsides : Nat) (g_qgrips : Nat) (g_qwits : Nat) (g_qsays : Nat) (g_qgives0 : Nat) (g_qgives1 : Nat) (g_qfroms : Nat) (g_qtos : Nat) (g_csides : Nat → Int32) (g_cgrips : Nat → Int32) (g_cwits : Nat → Int32) (g_csays : Nat → Int32) (g_cgives0 : Nat → Int32) (g_cgives1 : Nat → Int32) (g_cfroms : Nat → Int32) (g_ctos : Nat → Int32) (h1 : Nat) (o_odds : Int32) (o_pot : Int32) (o_lines : Int32) (o_men : Int32) (o_clauses : Int32) (o_winds : Int32) (o_far0 : Int32) (o_far1 : Int32) (o_qsides : Nat) (o_qgrips : Nat) (o_qwits : Nat) (o_qsays : Nat) (o_qgives0 : Nat) (o_qgives1 : Nat) (o_qfroms : Nat) (o_qtos : Nat) (o_csides : Nat → Int32) (o_cgrips : Nat → Int32) (o_cwits : Nat → Int32) (o_csays : Nat → Int32) (o_cgives0 : Nat → Int32) (o_cgives1 : Nat → Int32) (o_cfroms : Nat → Int32) (o_ctos : Nat → Int32) (h_g_odds : -999 ≤ (g_odds : Int32).toInt ∧ (g_odds : Int32).toInt ≤ 999) (h_g_pot : -999 ≤ (g_pot : Int32).toInt ∧ (g_pot : Int32).toInt ≤ 999) (h_g_men : 0 ≤ (g_men : Int32).toInt ∧ (g_men : Int32).toInt ≤ 8) (h_g_clauses : 0 ≤ (g_clauses : Int32).toInt ∧ (g_clauses : Int32).toInt ≤ 7) (h_g_winds : 0 ≤ (g_winds : Int32).toInt ∧ (g_winds : Int32).toInt ≤ 4) (h_g_far0 : -999 ≤ (g_far0 : Int32).toInt ∧ (g_far0 : Int32).toInt ≤ 999) (h_g_far1 : -999 ≤ (g_far1 : Int32).toInt ∧ (g_far1 : Int32).toInt ≤ 999) (h_o_odds : -999 ≤ (o_odds : Int32).toInt ∧ (o_odds : Int32).toInt ≤ 999) (h_o_pot : -999 ≤ (o_pot : Int32).toInt ∧ (o_pot : Int32).toInt ≤ 999) (h_o_men : 0 ≤ (o_men : Int32).toInt ∧ (o_men : Int32).toInt ≤ 8) (h_o_clauses : 0 ≤ (o_clauses : Int32).toInt ∧ (o_clauses : Int32).toInt ≤ 7) (h_o_winds : 0 ≤ (o_winds : Int32).toInt ∧ (o_winds : Int32).toInt ≤ 4) (h_o_far0 : -999 ≤ (o_far0 : Int32).toInt ∧ (o_far0 : Int32).toInt ≤ 999) (h_o_far1 : -999 ≤ (o_far1 : Int32).toInt ∧ (o_far1 : Int32).toInt ≤ 999) : Met l yX3_copyFrom (Cond.code yX3_copyFrom cX3_copyFrom 2 none :: TB) (rmd 1 0 0) (PM D cA sz [(h0, .inr (3, [.int g_odds, .int g_pot, .int g_lines, .int g_men, .int g_clauses, .int g_winds, .int g_far0, .int g_far1, .ref g_qsides, .ref g_qgrips, .ref g_qwits, .ref g_qsays, .ref g_qgives0, .ref g_qgives1, .ref g_qfroms, .ref g_qtos])), (g_qsides, .inl (cA 1, 8, .inl g_csides)), (g_qgrips, .inl (cA 1, 8, .inl g_cgrips)), (g_qwits, .inl (cA 1, 8, .inl g_cwits)), (g_qsays, .inl (cA 1, 7, .inl g_csays)), (g_qgives0, .inl (cA 1, 7, .inl g_cgives0)), (g_qgives1, .inl (cA 1, 7, .inl g_cgives1)), (g_qfroms, .inl (cA 1, 4, .inl g_cfroms)), (g_qtos, .inl (cA 1, 4, .inl g_ctos)), (h1, .inr (3, [.int o_odds, .int o_pot, .int o_lines, .int o_men, .int o_clauses, .int o_winds, .int o_far0, .int o_far1, .ref o_qsides, .ref o_qgrips, .ref o_qwits, .ref o_qsays, .ref o_qgives0, .ref o_qgives1, .ref o_qfroms, .ref o_qtos])), (o_qsides, .inl (cA 1, 8, .inl o_csides)), (o_qgrips, .inl (cA 1, 8, .inl o_cgrips)), (o_qwits, .inl (cA 1, 8, .inl o_cwits)), (o_qsays, .inl (cA 1, 7, .inl o_csays)), (o_qgives0, .inl (cA 1, 7, .inl o_cgives0)), (o_qgives1, .inl (cA 1, 7, .inl o_cgives1)), (o_qfroms, .inl (cA 1, 4, .inl o_cfroms)), (o_qtos, .inl (cA 1, 4, .inl o_ctos))] [.ref h0, .ref h1]) (va_Qv (fun (u : SU) => True) (fun u t => va_P D vwCl [(h0, .inr (3, [.int o_odds, .int o_pot, .int o_lines, .int o_men, .int o_clauses, .int o_winds, .int o_far0, .int o_far1, .ref g_qsides, .ref g_qgrips, .ref g_qwits, .ref g_qsays, .ref g_qgives0, .ref g_qgives1, .ref g_qfroms, .ref g_qtos])), (g_qsides, .inl (cA 1, 8, .inl (u.2.2.1 0))), (g_qgrips, .inl (cA 1, 8, .inl (u.2.2.1 1))), (g_qwits, .inl (cA 1, 8, .inl (u.2.2.1 2))), (g_qsays, .inl (cA 1, 7, .inl (u.2.2.1 3))), (g_qgives0, .inl (cA 1, 7, .inl (u.2.2.1 4))), (g_qgives1, .inl (cA 1, 7, .inl (u.2.2.1 5))), (g_qfroms, .inl (cA 1, 4, .inl (u.2.2.1 6))), (g_qtos, .inl (cA 1, 4, .inl (u.2.2.1 7))), (h1, .inr (3, [.int o_odds, .int o_pot, .int o_lines, .int o_men, .int o_clauses, .int o_winds, .int o_far0, .int o_far1, .ref o_qsides, .ref o_qgrips, .ref o_qwits, .ref o_qsays, .ref o_qgives0, .ref o_qgives1, .ref o_qfroms, .ref o_qtos])), (o_qsides, .inl (cA 1, 8, .inl o_csides)), (o_qgrips, .inl (cA 1, 8, .inl o_cgrips)), (o_qwits, .inl (cA 1, 8, .inl o_cwits)), (o_qsays, .inl (cA 1, 7, .inl o_csays)), (o_qgives0, .inl (cA 1, 7, .inl o_cgives0)), (o_qgives1, .inl (cA 1, 7, .inl o_cgives1)), (o_qfroms, .inl (cA 1, 4, .inl o_cfroms)), (o_qtos, .inl (cA 1, 4, .inl o_ctos))] t.heap ∧ va_D (va_A [(h0, .inr (3, [.int g_odds, .int g_pot, .int g_lines, .int g_men, .int g_clauses, .int g_winds, .int g_far0, .int g_far1, .ref g_qsides, .ref g_qgrips, .ref g_qwits, .ref g_qsays, .ref g_qgives0, .ref g_qgives1, .ref g_qfroms, .ref g_qtos])), (g_qsides, .inl (cA 1, 8, .inl g_csides)), (g_qgrips, .inl (cA 1, 8, .inl g_cgrips)), (g_qwits, .inl (cA 1, 8, .inl g_cwits)), (g_qsays, .inl (cA 1, 7, .inl g_csays)), (g_qgives0, .inl (cA 1, 7, .inl g_cgives0)), (g_qgives1, .inl (cA 1, 7, .inl g_cgives1)), (g_qfroms, .inl (cA 1, 4, .inl g_cfroms)), (g_qtos, .inl (cA 1, 4, .inl g_ctos)), (h1, .inr (3, [.int o_odds, .int o_pot, .int o_lines, .int o_men, .int o_clauses, .int o_winds, .int o_far0, .int o_far1, .ref o_qsides, .ref o_qgrips, .ref o_qwits, .ref o_qsays, .ref o_qgives0, .ref o_qgives1, .ref o_qfroms, .ref o_qtos])), (o_qsides, .inl (cA 1, 8, .inl o_csides)), (o_qgrips, .inl (cA 1, 8, .inl o_cgrips)), (o_qwits, .inl (cA 1, 8, .inl o_cwits)), (o_qsays, .inl (cA 1, 7, .inl o_csays)), (o_qgives0, .inl (cA 1, 7, .inl o_cgives0)), (o_qgives1, .inl (cA 1, 7, .inl o_cgives1)), (o_qfroms, .inl (cA 1, 4, .inl o_cfroms)), (o_qtos, .inl (cA 1, 4, .inl o_ctos))] sz) [(h0, .inr (3, [.int o_odds, .int o_pot, .int o_lines, .int o_men, .int o_clauses, .int o_winds, .int o_far0, .int o_far1, .ref g_qsides, .ref g_qgrips, .ref g_qwits, .ref g_qsays, .ref g_qgives0, .ref g_qgives1, .ref g_qfroms, .ref g_qtos])), (g_qsides, .inl (cA 1, 8, .inl (u.2.2.1 0))), (g_qgrips, .inl (cA 1, 8, .inl (u.2.2.1 1))), (g_qwits, .inl (cA 1, 8, .inl (u.2.2.1 2))), (g_qsays, .inl (cA 1, 7, .inl (u.2.2.1 3))), (g_qgives0, .inl (cA 1, 7, .inl (u.2.2.1 4))), (g_qgives1, .inl (cA 1, 7, .inl (u.2.2.1 5))), (g_qfroms, .inl (cA 1, 4, .inl (u.2.2.1 6))), (g_qtos, .inl (cA 1, 4, .inl (u.2.2.1 7))), (h1, .inr (3, [.int o_odds, .int o_pot, .int o_lines, .int o_men, .int o_clauses, .int o_winds, .int o_far0, .int o_far1, .ref o_qsides, .ref o_qgrips, .ref o_qwits, .ref o_qsays, .ref o_qgives0, .ref o_qgives1, .ref o_qfroms, .ref o_qtos])), (o_qsides, .inl (cA 1, 8, .inl o_csides)), (o_qgrips, .inl (cA 1, 8, .inl o_cgrips)), (o_qwits, .inl (cA 1, 8, .inl o_cwits)), (o_qsays, .inl (cA 1, 7, .inl o_csays)), (o_qgives0, .inl (cA 1, 7, .inl o_cgives0)), (o_qgives1, .inl (cA 1, 7, .inl o_cgives1)), (o_qfroms, .inl (cA 1, 4, .inl o_cfroms)), (o_qtos, .inl (cA 1, 4, .inl o_ctos))]) (va_A [(h0, .inr (3, [.int g_odds, .int g_pot, .int g_lines, .int g_men, .int g_clauses, .int g_winds, .int g_far0, .int g_far1, .ref g_qsides, .ref g_qgrips, .ref g_qwits, .ref g_qsays, .ref g_qgives0, .ref g_qgives1, .ref g_qfroms, .ref g_qtos])), (g_qsides, .inl (cA 1, 8, .inl g_csides)), (g_qgrips, .inl (cA 1, 8, .inl g_cgrips)), (g_qwits, .inl (cA 1, 8, .inl g_cwits)), (g_qsays, .inl (cA 1, 7, .inl g_csays)), (g_qgives0, .inl (cA 1, 7, .inl g_cgives0)), (g_qgives1, .inl (cA 1, 7, .inl g_cgives1)), (g_qfroms, .inl (cA 1, 4, .inl g_cfroms)), (g_qtos, .inl (cA 1, 4, .inl g_ctos)), (h1, .inr (3, [.int o_odds, .int o_pot, .int o_lines, .int o_men, .int o_clauses, .int o_winds, .int o_far0, .int o_far1, .ref o_qsides, .ref o_qgrips, .ref o_qwits, .ref o_qsays, .ref o_qgives0, .ref o_qgives1, .ref o_qfroms, .ref o_qtos])), (o_qsides, .inl (cA 1, 8, .inl o_csides)), (o_qgrips, .inl (cA 1, 8, .inl o_cgrips)), (o_qwits, .inl (cA 1, 8, .inl o_cwits)), (o_qsays, .inl (cA 1, 7, .inl o_csays)), (o_qgives0, .inl (cA 1, 7, .inl o_cgives0)), (o_qgives1, .inl (cA 1, 7, .inl o_cgives1)), (o_qfroms, .inl (cA 1, 4, .inl o_cfroms)), (o_qtos, .inl (cA 1, 4, .inl o_ctos))] sz)) 0 0 (va_A [(h0, .inr (3, [.int g_odds, .int g_pot, .int g_lines, .int g_men, .int g_clauses, .int g_winds, .int g_far0, .int g_far1, .ref g_qsides, .ref g_qgrips, .ref g_qwits, .ref g_qsays, .ref g_qgives0, .ref g_qgives1, .ref g_qfroms, .ref g_qtos])), (g_qsides, .inl (cA 1, 8, .inl g_csides)), (g_qgrips, .inl (cA 1, 8, .inl g_cgrips)), (g_qwits, .inl (cA 1, 8, .inl g_cwits)), (g_qsays, .inl (cA 1, 7, .inl g_csays)), (g_qgives0, .inl (cA 1, 7, .inl g_cgives0)), (g_qgives1, .inl (cA 1, 7, .inl g_cgives1)), (g_qfroms, .inl (cA 1, 4, .inl g_cfroms)), (g_qtos, .inl (cA 1, 4, .inl g_ctos)), (h1, .inr (3, [.int o_odds, .int o_pot, .int o_lines, .int o_men, .int o_clauses, .int o_winds, .int o_far0, .int o_far1, .ref o_qsides, .ref o_qgrips, .ref o_qwits, .ref o_qsays, .ref o_qgives0, .ref o_qgives1, .ref o_qfroms, .ref o_qtos])), (o_qsides, .inl (cA 1, 8, .inl o_csides)), (o_qgrips, .inl (cA 1, 8, .inl o_cgrips)), (o_qwits, .inl (cA 1, 8, .inl o_cwits)), (o_qsays, .inl (cA 1, 7, .inl o_csays)), (o_qgives0, .inl (cA 1, 7, .inl o_cgives0)), (o_qgives1, .inl (cA 1, 7, .inl o_cgives1)), (o_qfroms, .inl (cA 1, 4, .inl o_cfroms)), (o_qtos, .inl (cA 1, 4, .inl o_ctos))] sz) := by
  refine Met.ofW (cc := cX3_copyFrom) (maxL := 2) (ret := none) (by decide) rfl ?_
  intro p e s m args below meth c s₁ B hml hv
  obtain ⟨rfl, hsz, hP, hKN, hD0⟩ := hv
  have hx := B.exec
  have hb := B.bytes
  have hr := B.returns
  have hts : ∀ w ∈ TB, w.before _ s = true := fun w h => atoms_spec B.pre w (List.mem_cons_of_mem _ h)
  have hown : s.vm.findClass RX3 = some m.cls := findClass_of_methodNamed B.named
  have hlocks := B.notSynchronized
  subst hsz
  have hD := hD0.self (sz := s.heap.size)
  generalize hAe : va_A [(h0, .inr (3, [.int g_odds, .int g_pot, .int g_lines, .int g_men, .int g_clauses, .int g_winds, .int g_far0, .int g_far1, .ref g_qsides, .ref g_qgrips, .ref g_qwits, .ref g_qsays, .ref g_qgives0, .ref g_qgives1, .ref g_qfroms, .ref g_qtos])), (g_qsides, .inl (cA 1, 8, .inl g_csides)), (g_qgrips, .inl (cA 1, 8, .inl g_cgrips)), (g_qwits, .inl (cA 1, 8, .inl g_cwits)), (g_qsays, .inl (cA 1, 7, .inl g_csays)), (g_qgives0, .inl (cA 1, 7, .inl g_cgives0)), (g_qgives1, .inl (cA 1, 7, .inl g_cgives1)), (g_qfroms, .inl (cA 1, 4, .inl g_cfroms)), (g_qtos, .inl (cA 1, 4, .inl g_ctos)), (h1, .inr (3, [.int o_odds, .int o_pot, .int o_lines, .int o_men, .int o_clauses, .int o_winds, .int o_far0, .int o_far1, .ref o_qsides, .ref o_qgrips, .ref o_qwits, .ref o_qsays, .ref o_qgives0, .ref o_qgives1, .ref o_qfroms, .ref o_qtos])), (o_qsides, .inl (cA 1, 8, .inl o_csides)), (o_qgrips, .inl (cA 1, 8, .inl o_cgrips)), (o_qwits, .inl (cA 1, 8, .inl o_cwits)), (o_qsays, .inl (cA 1, 7, .inl o_csays)), (o_qgives0, .inl (cA 1, 7, .inl o_cgives0)), (o_qgives1, .inl (cA 1, 7, .inl o_cgives1)), (o_qfroms, .inl (cA 1, 4, .inl o_cfroms)), (o_qtos, .inl (cA 1, 4, .inl o_ctos))] s.heap.size = A at hD ⊢
  have hA : ∀ q : Nat, s.heap.size ≤ q → A q := fun q h => by rw [← hAe]; exact Or.inr h
  have hS : va_S A s.heap s.heap [] := va_S.rf
  have hl := lv_entry ([.ref h0, .ref h1]) (n := 2) (Nat.le_of_ble_eq_true rfl)
  rw [lg_entry_eq]
  generalize (lg_sl ([.ref h0, .ref h1]) ++ List.replicate (2 - (lg_sl ([.ref h0, .ref h1])).length) Slot.unset).toArray = ls at hl ⊢
  have hl : lv_has ls 2 [(0, .ref h0), (1, .ref h1)] := hl
  refine lv_aload_n hx hb dX3_copyFrom_0 rfl (lv_at hl 0 rfl) ?_
  refine lv_aload_n hx hb dX3_copyFrom_1 rfl (lv_at hl 1 rfl) ?_
  refine va_get (D := D) (ci := 3) (v := .int o_far0) (C := RX3) (T := TX3) (N := 16) hx hb hts inX3 hown hKN.1 hP 9 rfl rfl 6 (by decide) (hts _ tw_180) (fun _ h9 => h9) rfl dX3_copyFrom_2 ?_
  refine lv_aload_n hx hb dX3_copyFrom_5 rfl (lv_at hl 1 rfl) ?_
  refine va_get (D := D) (ci := 3) (v := .int o_far1) (C := RX3) (T := TX3) (N := 16) hx hb hts inX3 hown hKN.1 hP 9 rfl rfl 7 (by decide) (hts _ tw_181) (fun _ h9 => h9) rfl dX3_copyFrom_6 ?_
  refine cmVv (rest := []) (wsC := [(h0, .inr (3, [.int g_odds, .int g_pot, .int g_lines, .int g_men, .int g_clauses, .int g_winds, .int g_far0, .int g_far1, .ref g_qsides, .ref g_qgrips, .ref g_qwits, .ref g_qsays, .ref g_qgives0, .ref g_qgives1, .ref g_qfroms, .ref g_qtos]))]) (wr := [(g_qsides, .inl (cA 1, 8, .inl g_csides)), (g_qgrips, .inl (cA 1, 8, .inl g_cgrips)), (g_qwits, .inl (cA 1, 8, .inl g_cwits)), (g_qsays, .inl (cA 1, 7, .inl g_csays)), (g_qgives0, .inl (cA 1, 7, .inl g_cgives0)), (g_qgives1, .inl (cA 1, 7, .inl g_cgives1)), (g_qfroms, .inl (cA 1, 4, .inl g_cfroms)), (g_qtos, .inl (cA 1, 4, .inl g_ctos)), (h1, .inr (3, [.int o_odds, .int o_pot, .int o_lines, .int o_men, .int o_clauses, .int o_winds, .int o_far0, .int o_far1, .ref o_qsides, .ref o_qgrips, .ref o_qwits, .ref o_qsays, .ref o_qgives0, .ref o_qgives1, .ref o_qfroms, .ref o_qtos])), (o_qsides, .inl (cA 1, 8, .inl o_csides)), (o_qgrips, .inl (cA 1, 8, .inl o_cgrips)), (o_qwits, .inl (cA 1, 8, .inl o_cwits)), (o_qsays, .inl (cA 1, 7, .inl o_csays)), (o_qgives0, .inl (cA 1, 7, .inl o_cgives0)), (o_qgives1, .inl (cA 1, 7, .inl o_cgives1)), (o_qfroms, .inl (cA 1, 4, .inl o_cfroms)), (o_qtos, .inl (cA 1, 4, .inl o_ctos))]) ⟨hx, hb, hml, hown, hts⟩ hKN hP hD hS hA [0] [1, 2, 3, 4, 5, 6, 7, 8, 9, 10, 11, 12, 13, 14, 15, 16, 17] rfl rfl (by decide) (by decide) (by decide) (g_X3_setFars l D cA _ h0 g_odds g_pot g_lines g_men g_clauses g_winds g_far0 g_far1 g_qsides g_qgrips g_qwits g_qsays g_qgives0 g_qgives1 g_qfroms g_qtos o_far0 o_far1 (by omega) (by omega) (by omega) (by omega) (by omega) (by omega) (by omega)) (tb_V tw_530 tw_531 tw_532 tw_104 tw_533) hdX3_setFars ⟨rfl, rfl, Nat.le_of_ble_eq_true rfl, Nat.le_of_ble_eq_true rfl⟩ ⟨Nat.le_of_ble_eq_true rfl, Nat.le_of_ble_eq_true rfl⟩ rfl rfl rfl hl.1 rfl (Nat.le_of_ble_eq_true rfl) dX3_copyFrom_9 (fun u_1 H locs hr_1 hP hD hS => ?_)
  have hP : va_P D vwCl [(g_qsides, .inl (cA 1, 8, .inl g_csides)), (g_qgrips, .inl (cA 1, 8, .inl g_cgrips)), (g_qwits, .inl (cA 1, 8, .inl g_cwits)), (g_qsays, .inl (cA 1, 7, .inl g_csays)), (g_qgives0, .inl (cA 1, 7, .inl g_cgives0)), (g_qgives1, .inl (cA 1, 7, .inl g_cgives1)), (g_qfroms, .inl (cA 1, 4, .inl g_cfroms)), (g_qtos, .inl (cA 1, 4, .inl g_ctos)), (h1, .inr (3, [.int o_odds, .int o_pot, .int o_lines, .int o_men, .int o_clauses, .int o_winds, .int o_far0, .int o_far1, .ref o_qsides, .ref o_qgrips, .ref o_qwits, .ref o_qsays, .ref o_qgives0, .ref o_qgives1, .ref o_qfroms, .ref o_qtos])), (o_qsides, .inl (cA 1, 8, .inl o_csides)), (o_qgrips, .inl (cA 1, 8, .inl o_cgrips)), (o_qwits, .inl (cA 1, 8, .inl o_cwits)), (o_qsays, .inl (cA 1, 7, .inl o_csays)), (o_qgives0, .inl (cA 1, 7, .inl o_cgives0)), (o_qgives1, .inl (cA 1, 7, .inl o_cgives1)), (o_qfroms, .inl (cA 1, 4, .inl o_cfroms)), (o_qtos, .inl (cA 1, 4, .inl o_ctos)), (h0, .inr (3, [.int g_odds, .int g_pot, .int g_lines, .int g_men, .int g_clauses, .int g_winds, .int o_far0, .int o_far1, .ref g_qsides, .ref g_qgrips, .ref g_qwits, .ref g_qsays, .ref g_qgives0, .ref g_qgives1, .ref g_qfroms, .ref g_qtos]))] H := hP
  have hD : va_D A [(g_qsides, .inl (cA 1, 8, .inl g_csides)), (g_qgrips, .inl (cA 1, 8, .inl g_cgrips)), (g_qwits, .inl (cA 1, 8, .inl g_cwits)), (g_qsays, .inl (cA 1, 7, .inl g_csays)), (g_qgives0, .inl (cA 1, 7, .inl g_cgives0)), (g_qgives1, .inl (cA 1, 7, .inl g_cgives1)), (g_qfroms, .inl (cA 1, 4, .inl g_cfroms)), (g_qtos, .inl (cA 1, 4, .inl g_ctos)), (h1, .inr (3, [.int o_odds, .int o_pot, .int o_lines, .int o_men, .int o_clauses, .int o_winds, .int o_far0, .int o_far1, .ref o_qsides, .ref o_qgrips, .ref o_qwits, .ref o_qsays, .ref o_qgives0, .ref o_qgives1, .ref o_qfroms, .ref o_qtos])), (o_qsides, .inl (cA 1, 8, .inl o_csides)), (o_qgrips, .inl (cA 1, 8, .inl o_cgrips)), (o_qwits, .inl (cA 1, 8, .inl o_cwits)), (o_qsays, .inl (cA 1, 7, .inl o_csays)), (o_qgives0, .inl (cA 1, 7, .inl o_cgives0)), (o_qgives1, .inl (cA 1, 7, .inl o_cgives1)), (o_qfroms, .inl (cA 1, 4, .inl o_cfroms)), (o_qtos, .inl (cA 1, 4, .inl o_ctos)), (h0, .inr (3, [.int g_odds, .int g_pot, .int g_lines, .int g_men, .int g_clauses, .int g_winds, .int o_far0, .int o_far1, .ref g_qsides, .ref g_qgrips, .ref g_qwits, .ref g_qsays, .ref g_qgives0, .ref g_qgives1, .ref g_qfroms, .ref g_qtos]))] := hD
  refine lv_aload_n hx hb dX3_copyFrom_12 rfl (lv_at hl 0 rfl) ?_
  refine lv_aload_n hx hb dX3_copyFrom_13 rfl (lv_at hl 1 rfl) ?_
  refine va_get (D := D) (ci := 3) (v := .int o_odds) (C := RX3) (T := TX3) (N := 16) hx hb hts inX3 hown hKN.1 hP 8 rfl rfl 0 (by decide) (hts _ tw_158) (fun _ h9 => h9) rfl dX3_copyFrom_14 ?_
  refine va_put (D := D) (ci := 3) (v := .int o_odds) (ty := .int) (C := RX3) (T := TX3) (N := 16) hx hb hts inX3 tyX3 tyX3_ok nmX3 hown hKN.1 hP hD hS 17 rfl rfl 0 (by decide) (hts _ tw_158) (fun _ h9 => h9) rfl (by decide +kernel) rfl rfl (Nat.le_of_ble_eq_true rfl) dX3_copyFrom_17 (fun H locs hP hD hS => ?_)
  have hP : va_P D vwCl [(g_qsides, .inl (cA 1, 8, .inl g_csides)), (g_qgrips, .inl (cA 1, 8, .inl g_cgrips)), (g_qwits, .inl (cA 1, 8, .inl g_cwits)), (g_qsays, .inl (cA 1, 7, .inl g_csays)), (g_qgives0, .inl (cA 1, 7, .inl g_cgives0)), (g_qgives1, .inl (cA 1, 7, .inl g_cgives1)), (g_qfroms, .inl (cA 1, 4, .inl g_cfroms)), (g_qtos, .inl (cA 1, 4, .inl g_ctos)), (h1, .inr (3, [.int o_odds, .int o_pot, .int o_lines, .int o_men, .int o_clauses, .int o_winds, .int o_far0, .int o_far1, .ref o_qsides, .ref o_qgrips, .ref o_qwits, .ref o_qsays, .ref o_qgives0, .ref o_qgives1, .ref o_qfroms, .ref o_qtos])), (o_qsides, .inl (cA 1, 8, .inl o_csides)), (o_qgrips, .inl (cA 1, 8, .inl o_cgrips)), (o_qwits, .inl (cA 1, 8, .inl o_cwits)), (o_qsays, .inl (cA 1, 7, .inl o_csays)), (o_qgives0, .inl (cA 1, 7, .inl o_cgives0)), (o_qgives1, .inl (cA 1, 7, .inl o_cgives1)), (o_qfroms, .inl (cA 1, 4, .inl o_cfroms)), (o_qtos, .inl (cA 1, 4, .inl o_ctos)), (h0, .inr (3, [.int o_odds, .int g_pot, .int g_lines, .int g_men, .int g_clauses, .int g_winds, .int o_far0, .int o_far1, .ref g_qsides, .ref g_qgrips, .ref g_qwits, .ref g_qsays, .ref g_qgives0, .ref g_qgives1, .ref g_qfroms, .ref g_qtos]))] H := hP
  have hD : va_D A [(g_qsides, .inl (cA 1, 8, .inl g_csides)), (g_qgrips, .inl (cA 1, 8, .inl g_cgrips)), (g_qwits, .inl (cA 1, 8, .inl g_cwits)), (g_qsays, .inl (cA 1, 7, .inl g_csays)), (g_qgives0, .inl (cA 1, 7, .inl g_cgives0)), (g_qgives1, .inl (cA 1, 7, .inl g_cgives1)), (g_qfroms, .inl (cA 1, 4, .inl g_cfroms)), (g_qtos, .inl (cA 1, 4, .inl g_ctos)), (h1, .inr (3, [.int o_odds, .int o_pot, .int o_lines, .int o_men, .int o_clauses, .int o_winds, .int o_far0, .int o_far1, .ref o_qsides, .ref o_qgrips, .ref o_qwits, .ref o_qsays, .ref o_qgives0, .ref o_qgives1, .ref o_qfroms, .ref o_qtos])), (o_qsides, .inl (cA 1, 8, .inl o_csides)), (o_qgrips, .inl (cA 1, 8, .inl o_cgrips)), (o_qwits, .inl (cA 1, 8, .inl o_cwits)), (o_qsays, .inl (cA 1, 7, .inl o_csays)), (o_qgives0, .inl (cA 1, 7, .inl o_cgives0)), (o_qgives1, .inl (cA 1, 7, .inl o_cgives1)), (o_qfroms, .inl (cA 1, 4, .inl o_cfroms)), (o_qtos, .inl (cA 1, 4, .inl o_ctos)), (h0, .inr (3, [.int o_odds, .int g_pot, .int g_lines, .int g_men, .int g_clauses, .int g_winds, .int o_far0, .int o_far1, .ref g_qsides, .ref g_qgrips, .ref g_qwits, .ref g_qsays, .ref g_qgives0, .ref g_qgives1, .ref g_qfroms, .ref g_qtos]))] := hD
  refine lv_aload_n hx hb dX3_copyFrom_20 rfl (lv_at hl 0 rfl) ?_
  refine lv_aload_n hx hb dX3_copyFrom_21 rfl (lv_at hl 1 rfl) ?_
  refine va_get (D := D) (ci := 3) (v := .int o_pot) (C := RX3) (T := TX3) (N := 16) hx hb hts inX3 hown hKN.1 hP 8 rfl rfl 1 (by decide) (hts _ tw_161) (fun _ h9 => h9) rfl dX3_copyFrom_22 ?_
  refine va_put (D := D) (ci := 3) (v := .int o_pot) (ty := .int) (C := RX3) (T := TX3) (N := 16) hx hb hts inX3 tyX3 tyX3_ok nmX3 hown hKN.1 hP hD hS 17 rfl rfl 1 (by decide) (hts _ tw_161) (fun _ h9 => h9) rfl (by decide +kernel) rfl rfl (Nat.le_of_ble_eq_true rfl) dX3_copyFrom_25 (fun H locs hP hD hS => ?_)
  have hP : va_P D vwCl [(g_qsides, .inl (cA 1, 8, .inl g_csides)), (g_qgrips, .inl (cA 1, 8, .inl g_cgrips)), (g_qwits, .inl (cA 1, 8, .inl g_cwits)), (g_qsays, .inl (cA 1, 7, .inl g_csays)), (g_qgives0, .inl (cA 1, 7, .inl g_cgives0)), (g_qgives1, .inl (cA 1, 7, .inl g_cgives1)), (g_qfroms, .inl (cA 1, 4, .inl g_cfroms)), (g_qtos, .inl (cA 1, 4, .inl g_ctos)), (h1, .inr (3, [.int o_odds, .int o_pot, .int o_lines, .int o_men, .int o_clauses, .int o_winds, .int o_far0, .int o_far1, .ref o_qsides, .ref o_qgrips, .ref o_qwits, .ref o_qsays, .ref o_qgives0, .ref o_qgives1, .ref o_qfroms, .ref o_qtos])), (o_qsides, .inl (cA 1, 8, .inl o_csides)), (o_qgrips, .inl (cA 1, 8, .inl o_cgrips)), (o_qwits, .inl (cA 1, 8, .inl o_cwits)), (o_qsays, .inl (cA 1, 7, .inl o_csays)), (o_qgives0, .inl (cA 1, 7, .inl o_cgives0)), (o_qgives1, .inl (cA 1, 7, .inl o_cgives1)), (o_qfroms, .inl (cA 1, 4, .inl o_cfroms)), (o_qtos, .inl (cA 1, 4, .inl o_ctos)), (h0, .inr (3, [.int o_odds, .int o_pot, .int g_lines, .int g_men, .int g_clauses, .int g_winds, .int o_far0, .int o_far1, .ref g_qsides, .ref g_qgrips, .ref g_qwits, .ref g_qsays, .ref g_qgives0, .ref g_qgives1, .ref g_qfroms, .ref g_qtos]))] H := hP
  have hD : va_D A [(g_qsides, .inl (cA 1, 8, .inl g_csides)), (g_qgrips, .inl (cA 1, 8, .inl g_cgrips)), (g_qwits, .inl (cA 1, 8, .inl g_cwits)), (g_qsays, .inl (cA 1, 7, .inl g_csays)), (g_qgives0, .inl (cA 1, 7, .inl g_cgives0)), (g_qgives1, .inl (cA 1, 7, .inl g_cgives1)), (g_qfroms, .inl (cA 1, 4, .inl g_cfroms)), (g_qtos, .inl (cA 1, 4, .inl g_ctos)), (h1, .inr (3, [.int o_odds, .int o_pot, .int o_lines, .int o_men, .int o_clauses, .int o_winds, .int o_far0, .int o_far1, .ref o_qsides, .ref o_qgrips, .ref o_qwits, .ref o_qsays, .ref o_qgives0, .ref o_qgives1, .ref o_qfroms, .ref o_qtos])), (o_qsides, .inl (cA 1, 8, .inl o_csides)), (o_qgrips, .inl (cA 1, 8, .inl o_cgrips)), (o_qwits, .inl (cA 1, 8, .inl o_cwits)), (o_qsays, .inl (cA 1, 7, .inl o_csays)), (o_qgives0, .inl (cA 1, 7, .inl o_cgives0)), (o_qgives1, .inl (cA 1, 7, .inl o_cgives1)), (o_qfroms, .inl (cA 1, 4, .inl o_cfroms)), (o_qtos, .inl (cA 1, 4, .inl o_ctos)), (h0, .inr (3, [.int o_odds, .int o_pot, .int g_lines, .int g_men, .int g_clauses, .int g_winds, .int o_far0, .int o_far1, .ref g_qsides, .ref g_qgrips, .ref g_qwits, .ref g_qsays, .ref g_qgives0, .ref g_qgives1, .ref g_qfroms, .ref g_qtos]))] := hD
  refine lv_aload_n hx hb dX3_copyFrom_28 rfl (lv_at hl 0 rfl) ?_
  refine lv_aload_n hx hb dX3_copyFrom_29 rfl (lv_at hl 1 rfl) ?_
  refine va_get (D := D) (ci := 3) (v := .int o_lines) (C := RX3) (T := TX3) (N := 16) hx hb hts inX3 hown hKN.1 hP 8 rfl rfl 2 (by decide) (hts _ tw_164) (fun _ h9 => h9) rfl dX3_copyFrom_30 ?_
  refine va_put (D := D) (ci := 3) (v := .int o_lines) (ty := .int) (C := RX3) (T := TX3) (N := 16) hx hb hts inX3 tyX3 tyX3_ok nmX3 hown hKN.1 hP hD hS 17 rfl rfl 2 (by decide) (hts _ tw_164) (fun _ h9 => h9) rfl (by decide +kernel) rfl rfl (Nat.le_of_ble_eq_true rfl) dX3_copyFrom_33 (fun H locs hP hD hS => ?_)
  have hP : va_P D vwCl [(g_qsides, .inl (cA 1, 8, .inl g_csides)), (g_qgrips, .inl (cA 1, 8, .inl g_cgrips)), (g_qwits, .inl (cA 1, 8, .inl g_cwits)), (g_qsays, .inl (cA 1, 7, .inl g_csays)), (g_qgives0, .inl (cA 1, 7, .inl g_cgives0)), (g_qgives1, .inl (cA 1, 7, .inl g_cgives1)), (g_qfroms, .inl (cA 1, 4, .inl g_cfroms)), (g_qtos, .inl (cA 1, 4, .inl g_ctos)), (h1, .inr (3, [.int o_odds, .int o_pot, .int o_lines, .int o_men, .int o_clauses, .int o_winds, .int o_far0, .int o_far1, .ref o_qsides, .ref o_qgrips, .ref o_qwits, .ref o_qsays, .ref o_qgives0, .ref o_qgives1, .ref o_qfroms, .ref o_qtos])), (o_qsides, .inl (cA 1, 8, .inl o_csides)), (o_qgrips, .inl (cA 1, 8, .inl o_cgrips)), (o_qwits, .inl (cA 1, 8, .inl o_cwits)), (o_qsays, .inl (cA 1, 7, .inl o_csays)), (o_qgives0, .inl (cA 1, 7, .inl o_cgives0)), (o_qgives1, .inl (cA 1, 7, .inl o_cgives1)), (o_qfroms, .inl (cA 1, 4, .inl o_cfroms)), (o_qtos, .inl (cA 1, 4, .inl o_ctos)), (h0, .inr (3, [.int o_odds, .int o_pot, .int o_lines, .int g_men, .int g_clauses, .int g_winds, .int o_far0, .int o_far1, .ref g_qsides, .ref g_qgrips, .ref g_qwits, .ref g_qsays, .ref g_qgives0, .ref g_qgives1, .ref g_qfroms, .ref g_qtos]))] H := hP
  have hD : va_D A [(g_qsides, .inl (cA 1, 8, .inl g_csides)), (g_qgrips, .inl (cA 1, 8, .inl g_cgrips)), (g_qwits, .inl (cA 1, 8, .inl g_cwits)), (g_qsays, .inl (cA 1, 7, .inl g_csays)), (g_qgives0, .inl (cA 1, 7, .inl g_cgives0)), (g_qgives1, .inl (cA 1, 7, .inl g_cgives1)), (g_qfroms, .inl (cA 1, 4, .inl g_cfroms)), (g_qtos, .inl (cA 1, 4, .inl g_ctos)), (h1, .inr (3, [.int o_odds, .int o_pot, .int o_lines, .int o_men, .int o_clauses, .int o_winds, .int o_far0, .int o_far1, .ref o_qsides, .ref o_qgrips, .ref o_qwits, .ref o_qsays, .ref o_qgives0, .ref o_qgives1, .ref o_qfroms, .ref o_qtos])), (o_qsides, .inl (cA 1, 8, .inl o_csides)), (o_qgrips, .inl (cA 1, 8, .inl o_cgrips)), (o_qwits, .inl (cA 1, 8, .inl o_cwits)), (o_qsays, .inl (cA 1, 7, .inl o_csays)), (o_qgives0, .inl (cA 1, 7, .inl o_cgives0)), (o_qgives1, .inl (cA 1, 7, .inl o_cgives1)), (o_qfroms, .inl (cA 1, 4, .inl o_cfroms)), (o_qtos, .inl (cA 1, 4, .inl o_ctos)), (h0, .inr (3, [.int o_odds, .int o_pot, .int o_lines, .int g_men, .int g_clauses, .int g_winds, .int o_far0, .int o_far1, .ref g_qsides, .ref g_qgrips, .ref g_qwits, .ref g_qsays, .ref g_qgives0, .ref g_qgives1, .ref g_qfroms, .ref g_qtos]))] := hD
  refine lv_aload_n hx hb dX3_copyFrom_36 rfl (lv_at hl 0 rfl) ?_
  refine lv_aload_n hx hb dX3_copyFrom_37 rfl (lv_at hl 1 rfl) ?_
  refine va_get (D := D) (ci := 3) (v := .int o_men) (C := RX3) (T := TX3) (N := 16) hx hb hts inX3 hown hKN.1 hP 8 rfl rfl 3 (by decide) (hts _ tw_167) (fun _ h9 => h9) rfl dX3_copyFrom_38 ?_
  refine va_put (D := D) (ci := 3) (v := .int o_men) (ty := .int) (C := RX3) (T := TX3) (N := 16) hx hb hts inX3 tyX3 tyX3_ok nmX3 hown hKN.1 hP hD hS 17 rfl rfl 3 (by decide) (hts _ tw_167) (fun _ h9 => h9) rfl (by decide +kernel) rfl rfl (Nat.le_of_ble_eq_true rfl) dX3_copyFrom_41 (fun H locs hP hD hS => ?_)
  have hP : va_P D vwCl [(g_qsides, .inl (cA 1, 8, .inl g_csides)), (g_qgrips, .inl (cA 1, 8, .inl g_cgrips)), (g_qwits, .inl (cA 1, 8, .inl g_cwits)), (g_qsays, .inl (cA 1, 7, .inl g_csays)), (g_qgives0, .inl (cA 1, 7, .inl g_cgives0)), (g_qgives1, .inl (cA 1, 7, .inl g_cgives1)), (g_qfroms, .inl (cA 1, 4, .inl g_cfroms)), (g_qtos, .inl (cA 1, 4, .inl g_ctos)), (h1, .inr (3, [.int o_odds, .int o_pot, .int o_lines, .int o_men, .int o_clauses, .int o_winds, .int o_far0, .int o_far1, .ref o_qsides, .ref o_qgrips, .ref o_qwits, .ref o_qsays, .ref o_qgives0, .ref o_qgives1, .ref o_qfroms, .ref o_qtos])), (o_qsides, .inl (cA 1, 8, .inl o_csides)), (o_qgrips, .inl (cA 1, 8, .inl o_cgrips)), (o_qwits, .inl (cA 1, 8, .inl o_cwits)), (o_qsays, .inl (cA 1, 7, .inl o_csays)), (o_qgives0, .inl (cA 1, 7, .inl o_cgives0)), (o_qgives1, .inl (cA 1, 7, .inl o_cgives1)), (o_qfroms, .inl (cA 1, 4, .inl o_cfroms)), (o_qtos, .inl (cA 1, 4, .inl o_ctos)), (h0, .inr (3, [.int o_odds, .int o_pot, .int o_lines, .int o_men, .int g_clauses, .int g_winds, .int o_far0, .int o_far1, .ref g_qsides, .ref g_qgrips, .ref g_qwits, .ref g_qsays, .ref g_qgives0, .ref g_qgives1, .ref g_qfroms, .ref g_qtos]))] H := hP
  have hD : va_D A [(g_qsides, .inl (cA 1, 8, .inl g_csides)), (g_qgrips, .inl (cA 1, 8, .inl g_cgrips)), (g_qwits, .inl (cA 1, 8, .inl g_cwits)), (g_qsays, .inl (cA 1, 7, .inl g_csays)), (g_qgives0, .inl (cA 1, 7, .inl g_cgives0)), (g_qgives1, .inl (cA 1, 7, .inl g_cgives1)), (g_qfroms, .inl (cA 1, 4, .inl g_cfroms)), (g_qtos, .inl (cA 1, 4, .inl g_ctos)), (h1, .inr (3, [.int o_odds, .int o_pot, .int o_lines, .int o_men, .int o_clauses, .int o_winds, .int o_far0, .int o_far1, .ref o_qsides, .ref o_qgrips, .ref o_qwits, .ref o_qsays, .ref o_qgives0, .ref o_qgives1, .ref o_qfroms, .ref o_qtos])), (o_qsides, .inl (cA 1, 8, .inl o_csides)), (o_qgrips, .inl (cA 1, 8, .inl o_cgrips)), (o_qwits, .inl (cA 1, 8, .inl o_cwits)), (o_qsays, .inl (cA 1, 7, .inl o_csays)), (o_qgives0, .inl (cA 1, 7, .inl o_cgives0)), (o_qgives1, .inl (cA 1, 7, .inl o_cgives1)), (o_qfroms, .inl (cA 1, 4, .inl o_cfroms)), (o_qtos, .inl (cA 1, 4, .inl o_ctos)), (h0, .inr (3, [.int o_odds, .int o_pot, .int o_lines, .int o_men, .int g_clauses, .int g_winds, .int o_far0, .int o_far1, .ref g_qsides, .ref g_qgrips, .ref g_qwits, .ref g_qsays, .ref g_qgives0, .ref g_qgives1, .ref g_qfroms, .ref g_qtos]))] := hD
  refine lv_aload_n hx hb dX3_copyFrom_44 rfl (lv_at hl 0 rfl) ?_
  refine lv_aload_n hx hb dX3_copyFrom_45 rfl (lv_at hl 1 rfl) ?_
  refine va_get (D := D) (ci := 3) (v := .int o_clauses) (C := RX3) (T := TX3) (N := 16) hx hb hts inX3 hown hKN.1 hP 8 rfl rfl 4 (by decide) (hts _ tw_172) (fun _ h9 => h9) rfl dX3_copyFrom_46 ?_
  refine va_put (D := D) (ci := 3) (v := .int o_clauses) (ty := .int) (C := RX3) (T := TX3) (N := 16) hx hb hts inX3 tyX3 tyX3_ok nmX3 hown hKN.1 hP hD hS 17 rfl rfl 4 (by decide) (hts _ tw_172) (fun _ h9 => h9) rfl (by decide +kernel) rfl rfl (Nat.le_of_ble_eq_true rfl) dX3_copyFrom_49 (fun H locs hP hD hS => ?_)
  have hP : va_P D vwCl [(g_qsides, .inl (cA 1, 8, .inl g_csides)), (g_qgrips, .inl (cA 1, 8, .inl g_cgrips)), (g_qwits, .inl (cA 1, 8, .inl g_cwits)), (g_qsays, .inl (cA 1, 7, .inl g_csays)), (g_qgives0, .inl (cA 1, 7, .inl g_cgives0)), (g_qgives1, .inl (cA 1, 7, .inl g_cgives1)), (g_qfroms, .inl (cA 1, 4, .inl g_cfroms)), (g_qtos, .inl (cA 1, 4, .inl g_ctos)), (h1, .inr (3, [.int o_odds, .int o_pot, .int o_lines, .int o_men, .int o_clauses, .int o_winds, .int o_far0, .int o_far1, .ref o_qsides, .ref o_qgrips, .ref o_qwits, .ref o_qsays, .ref o_qgives0, .ref o_qgives1, .ref o_qfroms, .ref o_qtos])), (o_qsides, .inl (cA 1, 8, .inl o_csides)), (o_qgrips, .inl (cA 1, 8, .inl o_cgrips)), (o_qwits, .inl (cA 1, 8, .inl o_cwits)), (o_qsays, .inl (cA 1, 7, .inl o_csays)), (o_qgives0, .inl (cA 1, 7, .inl o_cgives0)), (o_qgives1, .inl (cA 1, 7, .inl o_cgives1)), (o_qfroms, .inl (cA 1, 4, .inl o_cfroms)), (o_qtos, .inl (cA 1, 4, .inl o_ctos)), (h0, .inr (3, [.int o_odds, .int o_pot, .int o_lines, .int o_men, .int o_clauses, .int g_winds, .int o_far0, .int o_far1, .ref g_qsides, .ref g_qgrips, .ref g_qwits, .ref g_qsays, .ref g_qgives0, .ref g_qgives1, .ref g_qfroms, .ref g_qtos]))] H := hP
  have hD : va_D A [(g_qsides, .inl (cA 1, 8, .inl g_csides)), (g_qgrips, .inl (cA 1, 8, .inl g_cgrips)), (g_qwits, .inl (cA 1, 8, .inl g_cwits)), (g_qsays, .inl (cA 1, 7, .inl g_csays)), (g_qgives0, .inl (cA 1, 7, .inl g_cgives0)), (g_qgives1, .inl (cA 1, 7, .inl g_cgives1)), (g_qfroms, .inl (cA 1, 4, .inl g_cfroms)), (g_qtos, .inl (cA 1, 4, .inl g_ctos)), (h1, .inr (3, [.int o_odds, .int o_pot, .int o_lines, .int o_men, .int o_clauses, .int o_winds, .int o_far0, .int o_far1, .ref o_qsides, .ref o_qgrips, .ref o_qwits, .ref o_qsays, .ref o_qgives0, .ref o_qgives1, .ref o_qfroms, .ref o_qtos])), (o_qsides, .inl (cA 1, 8, .inl o_csides)), (o_qgrips, .inl (cA 1, 8, .inl o_cgrips)), (o_qwits, .inl (cA 1, 8, .inl o_cwits)), (o_qsays, .inl (cA 1, 7, .inl o_csays)), (o_qgives0, .inl (cA 1, 7, .inl o_cgives0)), (o_qgives1, .inl (cA 1, 7, .inl o_cgives1)), (o_qfroms, .inl (cA 1, 4, .inl o_cfroms)), (o_qtos, .inl (cA 1, 4, .inl o_ctos)), (h0, .inr (3, [.int o_odds, .int o_pot, .int o_lines, .int o_men, .int o_clauses, .int g_winds, .int o_far0, .int o_far1, .ref g_qsides, .ref g_qgrips, .ref g_qwits, .ref g_qsays, .ref g_qgives0, .ref g_qgives1, .ref g_qfroms, .ref g_qtos]))] := hD
  refine lv_aload_n hx hb dX3_copyFrom_52 rfl (lv_at hl 0 rfl) ?_
  refine lv_aload_n hx hb dX3_copyFrom_53 rfl (lv_at hl 1 rfl) ?_
  refine va_get (D := D) (ci := 3) (v := .int o_winds) (C := RX3) (T := TX3) (N := 16) hx hb hts inX3 hown hKN.1 hP 8 rfl rfl 5 (by decide) (hts _ tw_177) (fun _ h9 => h9) rfl dX3_copyFrom_54 ?_
  refine va_put (D := D) (ci := 3) (v := .int o_winds) (ty := .int) (C := RX3) (T := TX3) (N := 16) hx hb hts inX3 tyX3 tyX3_ok nmX3 hown hKN.1 hP hD hS 17 rfl rfl 5 (by decide) (hts _ tw_177) (fun _ h9 => h9) rfl (by decide +kernel) rfl rfl (Nat.le_of_ble_eq_true rfl) dX3_copyFrom_57 (fun H locs hP hD hS => ?_)
  have hP : va_P D vwCl [(g_qsides, .inl (cA 1, 8, .inl g_csides)), (g_qgrips, .inl (cA 1, 8, .inl g_cgrips)), (g_qwits, .inl (cA 1, 8, .inl g_cwits)), (g_qsays, .inl (cA 1, 7, .inl g_csays)), (g_qgives0, .inl (cA 1, 7, .inl g_cgives0)), (g_qgives1, .inl (cA 1, 7, .inl g_cgives1)), (g_qfroms, .inl (cA 1, 4, .inl g_cfroms)), (g_qtos, .inl (cA 1, 4, .inl g_ctos)), (h1, .inr (3, [.int o_odds, .int o_pot, .int o_lines, .int o_men, .int o_clauses, .int o_winds, .int o_far0, .int o_far1, .ref o_qsides, .ref o_qgrips, .ref o_qwits, .ref o_qsays, .ref o_qgives0, .ref o_qgives1, .ref o_qfroms, .ref o_qtos])), (o_qsides, .inl (cA 1, 8, .inl o_csides)), (o_qgrips, .inl (cA 1, 8, .inl o_cgrips)), (o_qwits, .inl (cA 1, 8, .inl o_cwits)), (o_qsays, .inl (cA 1, 7, .inl o_csays)), (o_qgives0, .inl (cA 1, 7, .inl o_cgives0)), (o_qgives1, .inl (cA 1, 7, .inl o_cgives1)), (o_qfroms, .inl (cA 1, 4, .inl o_cfroms)), (o_qtos, .inl (cA 1, 4, .inl o_ctos)), (h0, .inr (3, [.int o_odds, .int o_pot, .int o_lines, .int o_men, .int o_clauses, .int o_winds, .int o_far0, .int o_far1, .ref g_qsides, .ref g_qgrips, .ref g_qwits, .ref g_qsays, .ref g_qgives0, .ref g_qgives1, .ref g_qfroms, .ref g_qtos]))] H := hP
  have hD : va_D A [(g_qsides, .inl (cA 1, 8, .inl g_csides)), (g_qgrips, .inl (cA 1, 8, .inl g_cgrips)), (g_qwits, .inl (cA 1, 8, .inl g_cwits)), (g_qsays, .inl (cA 1, 7, .inl g_csays)), (g_qgives0, .inl (cA 1, 7, .inl g_cgives0)), (g_qgives1, .inl (cA 1, 7, .inl g_cgives1)), (g_qfroms, .inl (cA 1, 4, .inl g_cfroms)), (g_qtos, .inl (cA 1, 4, .inl g_ctos)), (h1, .inr (3, [.int o_odds, .int o_pot, .int o_lines, .int o_men, .int o_clauses, .int o_winds, .int o_far0, .int o_far1, .ref o_qsides, .ref o_qgrips, .ref o_qwits, .ref o_qsays, .ref o_qgives0, .ref o_qgives1, .ref o_qfroms, .ref o_qtos])), (o_qsides, .inl (cA 1, 8, .inl o_csides)), (o_qgrips, .inl (cA 1, 8, .inl o_cgrips)), (o_qwits, .inl (cA 1, 8, .inl o_cwits)), (o_qsays, .inl (cA 1, 7, .inl o_csays)), (o_qgives0, .inl (cA 1, 7, .inl o_cgives0)), (o_qgives1, .inl (cA 1, 7, .inl o_cgives1)), (o_qfroms, .inl (cA 1, 4, .inl o_cfroms)), (o_qtos, .inl (cA 1, 4, .inl o_ctos)), (h0, .inr (3, [.int o_odds, .int o_pot, .int o_lines, .int o_men, .int o_clauses, .int o_winds, .int o_far0, .int o_far1, .ref g_qsides, .ref g_qgrips, .ref g_qwits, .ref g_qsays, .ref g_qgives0, .ref g_qgives1, .ref g_qfroms, .ref g_qtos]))] := hD
  refine lv_aload_n hx hb dX3_copyFrom_60 rfl (lv_at hl 1 rfl) ?_
  refine va_get (D := D) (ci := 3) (v := .ref o_qsides) (C := RX3) (T := TX3) (N := 16) hx hb hts inX3 hown hKN.1 hP 8 rfl rfl 8 (by decide) (hts _ tw_182) (fun _ h9 => h9) rfl dX3_copyFrom_61 ?_
  refine lv_iconst (v := 0) hx hb dX3_copyFrom_64 (by decide) ?_
  refine lv_aload_n hx hb dX3_copyFrom_65 rfl (lv_at hl 0 rfl) ?_
  refine va_get (D := D) (ci := 3) (v := .ref g_qsides) (C := RX3) (T := TX3) (N := 16) hx hb hts inX3 hown hKN.1 hP 17 rfl rfl 8 (by decide) (hts _ tw_182) (fun _ h9 => h9) rfl dX3_copyFrom_66 ?_
  refine lv_iconst (v := 0) hx hb dX3_copyFrom_69 (by decide) ?_
  refine lv_bipush (v := 8) hx hb dX3_copyFrom_70 (by decide) ?_
  refine va_copyi hx hb (by rw [hml]; exact hl.1.symm) hown (hts _ tw_683) (hts _ tw_685) (hts _ tw_684) (hts _ tw_120) hKN.1 hP hD hS 9 0 1 1 rfl rfl rfl rfl rfl (by decide) (by decide) (by decide) (by decide) (by decide) (fun _ _ => rfl) (Nat.le_of_ble_eq_true rfl) (Nat.le_of_ble_eq_true rfl) dX3_copyFrom_72 (fun H locs hP hD hS => ?_)
  have hP : va_P D vwCl [(g_qsides, .inl (cA 1, 8, .inl (va_cpy o_csides g_csides 0 0 8))), (g_qgrips, .inl (cA 1, 8, .inl g_cgrips)), (g_qwits, .inl (cA 1, 8, .inl g_cwits)), (g_qsays, .inl (cA 1, 7, .inl g_csays)), (g_qgives0, .inl (cA 1, 7, .inl g_cgives0)), (g_qgives1, .inl (cA 1, 7, .inl g_cgives1)), (g_qfroms, .inl (cA 1, 4, .inl g_cfroms)), (g_qtos, .inl (cA 1, 4, .inl g_ctos)), (h1, .inr (3, [.int o_odds, .int o_pot, .int o_lines, .int o_men, .int o_clauses, .int o_winds, .int o_far0, .int o_far1, .ref o_qsides, .ref o_qgrips, .ref o_qwits, .ref o_qsays, .ref o_qgives0, .ref o_qgives1, .ref o_qfroms, .ref o_qtos])), (o_qsides, .inl (cA 1, 8, .inl o_csides)), (o_qgrips, .inl (cA 1, 8, .inl o_cgrips)), (o_qwits, .inl (cA 1, 8, .inl o_cwits)), (o_qsays, .inl (cA 1, 7, .inl o_csays)), (o_qgives0, .inl (cA 1, 7, .inl o_cgives0)), (o_qgives1, .inl (cA 1, 7, .inl o_cgives1)), (o_qfroms, .inl (cA 1, 4, .inl o_cfroms)), (o_qtos, .inl (cA 1, 4, .inl o_ctos)), (h0, .inr (3, [.int o_odds, .int o_pot, .int o_lines, .int o_men, .int o_clauses, .int o_winds, .int o_far0, .int o_far1, .ref g_qsides, .ref g_qgrips, .ref g_qwits, .ref g_qsays, .ref g_qgives0, .ref g_qgives1, .ref g_qfroms, .ref g_qtos]))] H := hP
  have hD : va_D A [(g_qsides, .inl (cA 1, 8, .inl (va_cpy o_csides g_csides 0 0 8))), (g_qgrips, .inl (cA 1, 8, .inl g_cgrips)), (g_qwits, .inl (cA 1, 8, .inl g_cwits)), (g_qsays, .inl (cA 1, 7, .inl g_csays)), (g_qgives0, .inl (cA 1, 7, .inl g_cgives0)), (g_qgives1, .inl (cA 1, 7, .inl g_cgives1)), (g_qfroms, .inl (cA 1, 4, .inl g_cfroms)), (g_qtos, .inl (cA 1, 4, .inl g_ctos)), (h1, .inr (3, [.int o_odds, .int o_pot, .int o_lines, .int o_men, .int o_clauses, .int o_winds, .int o_far0, .int o_far1, .ref o_qsides, .ref o_qgrips, .ref o_qwits, .ref o_qsays, .ref o_qgives0, .ref o_qgives1, .ref o_qfroms, .ref o_qtos])), (o_qsides, .inl (cA 1, 8, .inl o_csides)), (o_qgrips, .inl (cA 1, 8, .inl o_cgrips)), (o_qwits, .inl (cA 1, 8, .inl o_cwits)), (o_qsays, .inl (cA 1, 7, .inl o_csays)), (o_qgives0, .inl (cA 1, 7, .inl o_cgives0)), (o_qgives1, .inl (cA 1, 7, .inl o_cgives1)), (o_qfroms, .inl (cA 1, 4, .inl o_cfroms)), (o_qtos, .inl (cA 1, 4, .inl o_ctos)), (h0, .inr (3, [.int o_odds, .int o_pot, .int o_lines, .int o_men, .int o_clauses, .int o_winds, .int o_far0, .int o_far1, .ref g_qsides, .ref g_qgrips, .ref g_qwits, .ref g_qsays, .ref g_qgives0, .ref g_qgives1, .ref g_qfroms, .ref g_qtos]))] := hD
  generalize ef_2 : (va_cpy o_csides g_csides 0 0 8) = f_2 at hP hD
  refine lv_aload_n hx hb dX3_copyFrom_75 rfl (lv_at hl 1 rfl) ?_
  refine va_get (D := D) (ci := 3) (v := .ref o_qgrips) (C := RX3) (T := TX3) (N := 16) hx hb hts inX3 hown hKN.1 hP 8 rfl rfl 9 (by decide) (hts _ tw_183) (fun _ h9 => h9) rfl dX3_copyFrom_76 ?_
  refine lv_iconst (v := 0) hx hb dX3_copyFrom_79 (by decide) ?_
  refine lv_aload_n hx hb dX3_copyFrom_80 rfl (lv_at hl 0 rfl) ?_
  refine va_get (D := D) (ci := 3) (v := .ref g_qgrips) (C := RX3) (T := TX3) (N := 16) hx hb hts inX3 hown hKN.1 hP 17 rfl rfl 9 (by decide) (hts _ tw_183) (fun _ h9 => h9) rfl dX3_copyFrom_81 ?_
  refine lv_iconst (v := 0) hx hb dX3_copyFrom_84 (by decide) ?_
  refine lv_bipush (v := 8) hx hb dX3_copyFrom_85 (by decide) ?_
  refine va_copyi hx hb (by rw [hml]; exact hl.1.symm) hown (hts _ tw_683) (hts _ tw_685) (hts _ tw_684) (hts _ tw_120) hKN.1 hP hD hS 10 1 1 1 rfl rfl rfl rfl rfl (by decide) (by decide) (by decide) (by decide) (by decide) (fun _ _ => rfl) (Nat.le_of_ble_eq_true rfl) (Nat.le_of_ble_eq_true rfl) dX3_copyFrom_87 (fun H locs hP hD hS => ?_)
  have hP : va_P D vwCl [(g_qsides, .inl (cA 1, 8, .inl f_2)), (g_qgrips, .inl (cA 1, 8, .inl (va_cpy o_cgrips g_cgrips 0 0 8))), (g_qwits, .inl (cA 1, 8, .inl g_cwits)), (g_qsays, .inl (cA 1, 7, .inl g_csays)), (g_qgives0, .inl (cA 1, 7, .inl g_cgives0)), (g_qgives1, .inl (cA 1, 7, .inl g_cgives1)), (g_qfroms, .inl (cA 1, 4, .inl g_cfroms)), (g_qtos, .inl (cA 1, 4, .inl g_ctos)), (h1, .inr (3, [.int o_odds, .int o_pot, .int o_lines, .int o_men, .int o_clauses, .int o_winds, .int o_far0, .int o_far1, .ref o_qsides, .ref o_qgrips, .ref o_qwits, .ref o_qsays, .ref o_qgives0, .ref o_qgives1, .ref o_qfroms, .ref o_qtos])), (o_qsides, .inl (cA 1, 8, .inl o_csides)), (o_qgrips, .inl (cA 1, 8, .inl o_cgrips)), (o_qwits, .inl (cA 1, 8, .inl o_cwits)), (o_qsays, .inl (cA 1, 7, .inl o_csays)), (o_qgives0, .inl (cA 1, 7, .inl o_cgives0)), (o_qgives1, .inl (cA 1, 7, .inl o_cgives1)), (o_qfroms, .inl (cA 1, 4, .inl o_cfroms)), (o_qtos, .inl (cA 1, 4, .inl o_ctos)), (h0, .inr (3, [.int o_odds, .int o_pot, .int o_lines, .int o_men, .int o_clauses, .int o_winds, .int o_far0, .int o_far1, .ref g_qsides, .ref g_qgrips, .ref g_qwits, .ref g_qsays, .ref g_qgives0, .ref g_qgives1, .ref g_qfroms, .ref g_qtos]))] H := hP
  have hD : va_D A [(g_qsides, .inl (cA 1, 8, .inl f_2)), (g_qgrips, .inl (cA 1, 8, .inl (va_cpy o_cgrips g_cgrips 0 0 8))), (g_qwits, .inl (cA 1, 8, .inl g_cwits)), (g_qsays, .inl (cA 1, 7, .inl g_csays)), (g_qgives0, .inl (cA 1, 7, .inl g_cgives0)), (g_qgives1, .inl (cA 1, 7, .inl g_cgives1)), (g_qfroms, .inl (cA 1, 4, .inl g_cfroms)), (g_qtos, .inl (cA 1, 4, .inl g_ctos)), (h1, .inr (3, [.int o_odds, .int o_pot, .int o_lines, .int o_men, .int o_clauses, .int o_winds, .int o_far0, .int o_far1, .ref o_qsides, .ref o_qgrips, .ref o_qwits, .ref o_qsays, .ref o_qgives0, .ref o_qgives1, .ref o_qfroms, .ref o_qtos])), (o_qsides, .inl (cA 1, 8, .inl o_csides)), (o_qgrips, .inl (cA 1, 8, .inl o_cgrips)), (o_qwits, .inl (cA 1, 8, .inl o_cwits)), (o_qsays, .inl (cA 1, 7, .inl o_csays)), (o_qgives0, .inl (cA 1, 7, .inl o_cgives0)), (o_qgives1, .inl (cA 1, 7, .inl o_cgives1)), (o_qfroms, .inl (cA 1, 4, .inl o_cfroms)), (o_qtos, .inl (cA 1, 4, .inl o_ctos)), (h0, .inr (3, [.int o_odds, .int o_pot, .int o_lines, .int o_men, .int o_clauses, .int o_winds, .int o_far0, .int o_far1, .ref g_qsides, .ref g_qgrips, .ref g_qwits, .ref g_qsays, .ref g_qgives0, .ref g_qgives1, .ref g_qfroms, .ref g_qtos]))] := hD
  generalize ef_3 : (va_cpy o_cgrips g_cgrips 0 0 8) = f_3 at hP hD
  refine lv_aload_n hx hb dX3_copyFrom_90 rfl (lv_at hl 1 rfl) ?_
  refine va_get (D := D) (ci := 3) (v := .ref o_qwits) (C := RX3) (T := TX3) (N := 16) hx hb hts inX3 hown hKN.1 hP 8 rfl rfl 10 (by decide) (hts _ tw_184) (fun _ h9 => h9) rfl dX3_copyFrom_91 ?_
  refine lv_iconst (v := 0) hx hb dX3_copyFrom_94 (by decide) ?_
  refine lv_aload_n hx hb dX3_copyFrom_95 rfl (lv_at hl 0 rfl) ?_
  refine va_get (D := D) (ci := 3) (v := .ref g_qwits) (C := RX3) (T := TX3) (N := 16) hx hb hts inX3 hown hKN.1 hP 17 rfl rfl 10 (by decide) (hts _ tw_184) (fun _ h9 => h9) rfl dX3_copyFrom_96 ?_
  refine lv_iconst (v := 0) hx hb dX3_copyFrom_99 (by decide) ?_
  refine lv_bipush (v := 8) hx hb dX3_copyFrom_100 (by decide) ?_
  refine va_copyi hx hb (by rw [hml]; exact hl.1.symm) hown (hts _ tw_683) (hts _ tw_685) (hts _ tw_684) (hts _ tw_120) hKN.1 hP hD hS 11 2 1 1 rfl rfl rfl rfl rfl (by decide) (by decide) (by decide) (by decide) (by decide) (fun _ _ => rfl) (Nat.le_of_ble_eq_true rfl) (Nat.le_of_ble_eq_true rfl) dX3_copyFrom_102 (fun H locs hP hD hS => ?_)
  have hP : va_P D vwCl [(g_qsides, .inl (cA 1, 8, .inl f_2)), (g_qgrips, .inl (cA 1, 8, .inl f_3)), (g_qwits, .inl (cA 1, 8, .inl (va_cpy o_cwits g_cwits 0 0 8))), (g_qsays, .inl (cA 1, 7, .inl g_csays)), (g_qgives0, .inl (cA 1, 7, .inl g_cgives0)), (g_qgives1, .inl (cA 1, 7, .inl g_cgives1)), (g_qfroms, .inl (cA 1, 4, .inl g_cfroms)), (g_qtos, .inl (cA 1, 4, .inl g_ctos)), (h1, .inr (3, [.int o_odds, .int o_pot, .int o_lines, .int o_men, .int o_clauses, .int o_winds, .int o_far0, .int o_far1, .ref o_qsides, .ref o_qgrips, .ref o_qwits, .ref o_qsays, .ref o_qgives0, .ref o_qgives1, .ref o_qfroms, .ref o_qtos])), (o_qsides, .inl (cA 1, 8, .inl o_csides)), (o_qgrips, .inl (cA 1, 8, .inl o_cgrips)), (o_qwits, .inl (cA 1, 8, .inl o_cwits)), (o_qsays, .inl (cA 1, 7, .inl o_csays)), (o_qgives0, .inl (cA 1, 7, .inl o_cgives0)), (o_qgives1, .inl (cA 1, 7, .inl o_cgives1)), (o_qfroms, .inl (cA 1, 4, .inl o_cfroms)), (o_qtos, .inl (cA 1, 4, .inl o_ctos)), (h0, .inr (3, [.int o_odds, .int o_pot, .int o_lines, .int o_men, .int o_clauses, .int o_winds, .int o_far0, .int o_far1, .ref g_qsides, .ref g_qgrips, .ref g_qwits, .ref g_qsays, .ref g_qgives0, .ref g_qgives1, .ref g_qfroms, .ref g_qtos]))] H := hP
  have hD : va_D A [(g_qsides, .inl (cA 1, 8, .inl f_2)), (g_qgrips, .inl (cA 1, 8, .inl f_3)), (g_qwits, .inl (cA 1, 8, .inl (va_cpy o_cwits g_cwits 0 0 8))), (g_qsays, .inl (cA 1, 7, .inl g_csays)), (g_qgives0, .inl (cA 1, 7, .inl g_cgives0)), (g_qgives1, .inl (cA 1, 7, .inl g_cgives1)), (g_qfroms, .inl (cA 1, 4, .inl g_cfroms)), (g_qtos, .inl (cA 1, 4, .inl g_ctos)), (h1, .inr (3, [.int o_odds, .int o_pot, .int o_lines, .int o_men, .int o_clauses, .int o_winds, .int o_far0, .int o_far1, .ref o_qsides, .ref o_qgrips, .ref o_qwits, .ref o_qsays, .ref o_qgives0, .ref o_qgives1, .ref o_qfroms, .ref o_qtos])), (o_qsides, .inl (cA 1, 8, .inl o_csides)), (o_qgrips, .inl (cA 1, 8, .inl o_cgrips)), (o_qwits, .inl (cA 1, 8, .inl o_cwits)), (o_qsays, .inl (cA 1, 7, .inl o_csays)), (o_qgives0, .inl (cA 1, 7, .inl o_cgives0)), (o_qgives1, .inl (cA 1, 7, .inl o_cgives1)), (o_qfroms, .inl (cA 1, 4, .inl o_cfroms)), (o_qtos, .inl (cA 1, 4, .inl o_ctos)), (h0, .inr (3, [.int o_odds, .int o_pot, .int o_lines, .int o_men, .int o_clauses, .int o_winds, .int o_far0, .int o_far1, .ref g_qsides, .ref g_qgrips, .ref g_qwits, .ref g_qsays, .ref g_qgives0, .ref g_qgives1, .ref g_qfroms, .ref g_qtos]))] := hD
  generalize ef_4 : (va_cpy o_cwits g_cwits 0 0 8) = f_4 at hP hD
  refine lv_aload_n hx hb dX3_copyFrom_105 rfl (lv_at hl 1 rfl) ?_
  refine va_get (D := D) (ci := 3) (v := .ref o_qsays) (C := RX3) (T := TX3) (N := 16) hx hb hts inX3 hown hKN.1 hP 8 rfl rfl 11 (by decide) (hts _ tw_185) (fun _ h9 => h9) rfl dX3_copyFrom_106 ?_
  refine lv_iconst (v := 0) hx hb dX3_copyFrom_109 (by decide) ?_
  refine lv_aload_n hx hb dX3_copyFrom_110 rfl (lv_at hl 0 rfl) ?_
  refine va_get (D := D) (ci := 3) (v := .ref g_qsays) (C := RX3) (T := TX3) (N := 16) hx hb hts inX3 hown hKN.1 hP 17 rfl rfl 11 (by decide) (hts _ tw_185) (fun _ h9 => h9) rfl dX3_copyFrom_111 ?_
  refine lv_iconst (v := 0) hx hb dX3_copyFrom_114 (by decide) ?_
  refine lv_bipush (v := 7) hx hb dX3_copyFrom_115 (by decide) ?_
  refine va_copyi hx hb (by rw [hml]; exact hl.1.symm) hown (hts _ tw_683) (hts _ tw_685) (hts _ tw_684) (hts _ tw_120) hKN.1 hP hD hS 12 3 1 1 rfl rfl rfl rfl rfl (by decide) (by decide) (by decide) (by decide) (by decide) (fun _ _ => rfl) (Nat.le_of_ble_eq_true rfl) (Nat.le_of_ble_eq_true rfl) dX3_copyFrom_117 (fun H locs hP hD hS => ?_)
  have hP : va_P D vwCl [(g_qsides, .inl (cA 1, 8, .inl f_2)), (g_qgrips, .inl (cA 1, 8, .inl f_3)), (g_qwits, .inl (cA 1, 8, .inl f_4)), (g_qsays, .inl (cA 1, 7, .inl (va_cpy o_csays g_csays 0 0 7))), (g_qgives0, .inl (cA 1, 7, .inl g_cgives0)), (g_qgives1, .inl (cA 1, 7, .inl g_cgives1)), (g_qfroms, .inl (cA 1, 4, .inl g_cfroms)), (g_qtos, .inl (cA 1, 4, .inl g_ctos)), (h1, .inr (3, [.int o_odds, .int o_pot, .int o_lines, .int o_men, .int o_clauses, .int o_winds, .int o_far0, .int o_far1, .ref o_qsides, .ref o_qgrips, .ref o_qwits, .ref o_qsays, .ref o_qgives0, .ref o_qgives1, .ref o_qfroms, .ref o_qtos])), (o_qsides, .inl (cA 1, 8, .inl o_csides)), (o_qgrips, .inl (cA 1, 8, .inl o_cgrips)), (o_qwits, .inl (cA 1, 8, .inl o_cwits)), (o_qsays, .inl (cA 1, 7, .inl o_csays)), (o_qgives0, .inl (cA 1, 7, .inl o_cgives0)), (o_qgives1, .inl (cA 1, 7, .inl o_cgives1)), (o_qfroms, .inl (cA 1, 4, .inl o_cfroms)), (o_qtos, .inl (cA 1, 4, .inl o_ctos)), (h0, .inr (3, [.int o_odds, .int o_pot, .int o_lines, .int o_men, .int o_clauses, .int o_winds, .int o_far0, .int o_far1, .ref g_qsides, .ref g_qgrips, .ref g_qwits, .ref g_qsays, .ref g_qgives0, .ref g_qgives1, .ref g_qfroms, .ref g_qtos]))] H := hP
  have hD : va_D A [(g_qsides, .inl (cA 1, 8, .inl f_2)), (g_qgrips, .inl (cA 1, 8, .inl f_3)), (g_qwits, .inl (cA 1, 8, .inl f_4)), (g_qsays, .inl (cA 1, 7, .inl (va_cpy o_csays g_csays 0 0 7))), (g_qgives0, .inl (cA 1, 7, .inl g_cgives0)), (g_qgives1, .inl (cA 1, 7, .inl g_cgives1)), (g_qfroms, .inl (cA 1, 4, .inl g_cfroms)), (g_qtos, .inl (cA 1, 4, .inl g_ctos)), (h1, .inr (3, [.int o_odds, .int o_pot, .int o_lines, .int o_men, .int o_clauses, .int o_winds, .int o_far0, .int o_far1, .ref o_qsides, .ref o_qgrips, .ref o_qwits, .ref o_qsays, .ref o_qgives0, .ref o_qgives1, .ref o_qfroms, .ref o_qtos])), (o_qsides, .inl (cA 1, 8, .inl o_csides)), (o_qgrips, .inl (cA 1, 8, .inl o_cgrips)), (o_qwits, .inl (cA 1, 8, .inl o_cwits)), (o_qsays, .inl (cA 1, 7, .inl o_csays)), (o_qgives0, .inl (cA 1, 7, .inl o_cgives0)), (o_qgives1, .inl (cA 1, 7, .inl o_cgives1)), (o_qfroms, .inl (cA 1, 4, .inl o_cfroms)), (o_qtos, .inl (cA 1, 4, .inl o_ctos)), (h0, .inr (3, [.int o_odds, .int o_pot, .int o_lines, .int o_men, .int o_clauses, .int o_winds, .int o_far0, .int o_far1, .ref g_qsides, .ref g_qgrips, .ref g_qwits, .ref g_qsays, .ref g_qgives0, .ref g_qgives1, .ref g_qfroms, .ref g_qtos]))] := hD
  generalize ef_5 : (va_cpy o_csays g_csays 0 0 7) = f_5 at hP hD
  refine lv_aload_n hx hb dX3_copyFrom_120 rfl (lv_at hl 1 rfl) ?_
  refine va_get (D := D) (ci := 3) (v := .ref o_qgives0) (C := RX3) (T := TX3) (N := 16) hx hb hts inX3 hown hKN.1 hP 8 rfl rfl 12 (by decide) (hts _ tw_186) (fun _ h9 => h9) rfl dX3_copyFrom_121 ?_
  refine lv_iconst (v := 0) hx hb dX3_copyFrom_124 (by decide) ?_
  refine lv_aload_n hx hb dX3_copyFrom_125 rfl (lv_at hl 0 rfl) ?_
  refine va_get (D := D) (ci := 3) (v := .ref g_qgives0) (C := RX3) (T := TX3) (N := 16) hx hb hts inX3 hown hKN.1 hP 17 rfl rfl 12 (by decide) (hts _ tw_186) (fun _ h9 => h9) rfl dX3_copyFrom_126 ?_
  refine lv_iconst (v := 0) hx hb dX3_copyFrom_129 (by decide) ?_
  refine lv_bipush (v := 7) hx hb dX3_copyFrom_130 (by decide) ?_
  refine va_copyi hx hb (by rw [hml]; exact hl.1.symm) hown (hts _ tw_683) (hts _ tw_685) (hts _ tw_684) (hts _ tw_120) hKN.1 hP hD hS 13 4 1 1 rfl rfl rfl rfl rfl (by decide) (by decide) (by decide) (by decide) (by decide) (fun _ _ => rfl) (Nat.le_of_ble_eq_true rfl) (Nat.le_of_ble_eq_true rfl) dX3_copyFrom_132 (fun H locs hP hD hS => ?_)
  have hP : va_P D vwCl [(g_qsides, .inl (cA 1, 8, .inl f_2)), (g_qgrips, .inl (cA 1, 8, .inl f_3)), (g_qwits, .inl (cA 1, 8, .inl f_4)), (g_qsays, .inl (cA 1, 7, .inl f_5)), (g_qgives0, .inl (cA 1, 7, .inl (va_cpy o_cgives0 g_cgives0 0 0 7))), (g_qgives1, .inl (cA 1, 7, .inl g_cgives1)), (g_qfroms, .inl (cA 1, 4, .inl g_cfroms)), (g_qtos, .inl (cA 1, 4, .inl g_ctos)), (h1, .inr (3, [.int o_odds, .int o_pot, .int o_lines, .int o_men, .int o_clauses, .int o_winds, .int o_far0, .int o_far1, .ref o_qsides, .ref o_qgrips, .ref o_qwits, .ref o_qsays, .ref o_qgives0, .ref o_qgives1, .ref o_qfroms, .ref o_qtos])), (o_qsides, .inl (cA 1, 8, .inl o_csides)), (o_qgrips, .inl (cA 1, 8, .inl o_cgrips)), (o_qwits, .inl (cA 1, 8, .inl o_cwits)), (o_qsays, .inl (cA 1, 7, .inl o_csays)), (o_qgives0, .inl (cA 1, 7, .inl o_cgives0)), (o_qgives1, .inl (cA 1, 7, .inl o_cgives1)), (o_qfroms, .inl (cA 1, 4, .inl o_cfroms)), (o_qtos, .inl (cA 1, 4, .inl o_ctos)), (h0, .inr (3, [.int o_odds, .int o_pot, .int o_lines, .int o_men, .int o_clauses, .int o_winds, .int o_far0, .int o_far1, .ref g_qsides, .ref g_qgrips, .ref g_qwits, .ref g_qsays, .ref g_qgives0, .ref g_qgives1, .ref g_qfroms, .ref g_qtos]))] H := hP
  have hD : va_D A [(g_qsides, .inl (cA 1, 8, .inl f_2)), (g_qgrips, .inl (cA 1, 8, .inl f_3)), (g_qwits, .inl (cA 1, 8, .inl f_4)), (g_qsays, .inl (cA 1, 7, .inl f_5)), (g_qgives0, .inl (cA 1, 7, .inl (va_cpy o_cgives0 g_cgives0 0 0 7))), (g_qgives1, .inl (cA 1, 7, .inl g_cgives1)), (g_qfroms, .inl (cA 1, 4, .inl g_cfroms)), (g_qtos, .inl (cA 1, 4, .inl g_ctos)), (h1, .inr (3, [.int o_odds, .int o_pot, .int o_lines, .int o_men, .int o_clauses, .int o_winds, .int o_far0, .int o_far1, .ref o_qsides, .ref o_qgrips, .ref o_qwits, .ref o_qsays, .ref o_qgives0, .ref o_qgives1, .ref o_qfroms, .ref o_qtos])), (o_qsides, .inl (cA 1, 8, .inl o_csides)), (o_qgrips, .inl (cA 1, 8, .inl o_cgrips)), (o_qwits, .inl (cA 1, 8, .inl o_cwits)), (o_qsays, .inl (cA 1, 7, .inl o_csays)), (o_qgives0, .inl (cA 1, 7, .inl o_cgives0)), (o_qgives1, .inl (cA 1, 7, .inl o_cgives1)), (o_qfroms, .inl (cA 1, 4, .inl o_cfroms)), (o_qtos, .inl (cA 1, 4, .inl o_ctos)), (h0, .inr (3, [.int o_odds, .int o_pot, .int o_lines, .int o_men, .int o_clauses, .int o_winds, .int o_far0, .int o_far1, .ref g_qsides, .ref g_qgrips, .ref g_qwits, .ref g_qsays, .ref g_qgives0, .ref g_qgives1, .ref g_qfroms, .ref g_qtos]))] := hD
  generalize ef_6 : (va_cpy o_cgives0 g_cgives0 0 0 7) = f_6 at hP hD
  refine lv_aload_n hx hb dX3_copyFrom_135 rfl (lv_at hl 1 rfl) ?_
  refine va_get (D := D) (ci := 3) (v := .ref o_qgives1) (C := RX3) (T := TX3) (N := 16) hx hb hts inX3 hown hKN.1 hP 8 rfl rfl 13 (by decide) (hts _ tw_187) (fun _ h9 => h9) rfl dX3_copyFrom_136 ?_
  refine lv_iconst (v := 0) hx hb dX3_copyFrom_139 (by decide) ?_
  refine lv_aload_n hx hb dX3_copyFrom_140 rfl (lv_at hl 0 rfl) ?_
  refine va_get (D := D) (ci := 3) (v := .ref g_qgives1) (C := RX3) (T := TX3) (N := 16) hx hb hts inX3 hown hKN.1 hP 17 rfl rfl 13 (by decide) (hts _ tw_187) (fun _ h9 => h9) rfl dX3_copyFrom_141 ?_
  refine lv_iconst (v := 0) hx hb dX3_copyFrom_144 (by decide) ?_
  refine lv_bipush (v := 7) hx hb dX3_copyFrom_145 (by decide) ?_
  refine va_copyi hx hb (by rw [hml]; exact hl.1.symm) hown (hts _ tw_683) (hts _ tw_685) (hts _ tw_684) (hts _ tw_120) hKN.1 hP hD hS 14 5 1 1 rfl rfl rfl rfl rfl (by decide) (by decide) (by decide) (by decide) (by decide) (fun _ _ => rfl) (Nat.le_of_ble_eq_true rfl) (Nat.le_of_ble_eq_true rfl) dX3_copyFrom_147 (fun H locs hP hD hS => ?_)
  have hP : va_P D vwCl [(g_qsides, .inl (cA 1, 8, .inl f_2)), (g_qgrips, .inl (cA 1, 8, .inl f_3)), (g_qwits, .inl (cA 1, 8, .inl f_4)), (g_qsays, .inl (cA 1, 7, .inl f_5)), (g_qgives0, .inl (cA 1, 7, .inl f_6)), (g_qgives1, .inl (cA 1, 7, .inl (va_cpy o_cgives1 g_cgives1 0 0 7))), (g_qfroms, .inl (cA 1, 4, .inl g_cfroms)), (g_qtos, .inl (cA 1, 4, .inl g_ctos)), (h1, .inr (3, [.int o_odds, .int o_pot, .int o_lines, .int o_men, .int o_clauses, .int o_winds, .int o_far0, .int o_far1, .ref o_qsides, .ref o_qgrips, .ref o_qwits, .ref o_qsays, .ref o_qgives0, .ref o_qgives1, .ref o_qfroms, .ref o_qtos])), (o_qsides, .inl (cA 1, 8, .inl o_csides)), (o_qgrips, .inl (cA 1, 8, .inl o_cgrips)), (o_qwits, .inl (cA 1, 8, .inl o_cwits)), (o_qsays, .inl (cA 1, 7, .inl o_csays)), (o_qgives0, .inl (cA 1, 7, .inl o_cgives0)), (o_qgives1, .inl (cA 1, 7, .inl o_cgives1)), (o_qfroms, .inl (cA 1, 4, .inl o_cfroms)), (o_qtos, .inl (cA 1, 4, .inl o_ctos)), (h0, .inr (3, [.int o_odds, .int o_pot, .int o_lines, .int o_men, .int o_clauses, .int o_winds, .int o_far0, .int o_far1, .ref g_qsides, .ref g_qgrips, .ref g_qwits, .ref g_qsays, .ref g_qgives0, .ref g_qgives1, .ref g_qfroms, .ref g_qtos]))] H := hP
  have hD : va_D A [(g_qsides, .inl (cA 1, 8, .inl f_2)), (g_qgrips, .inl (cA 1, 8, .inl f_3)), (g_qwits, .inl (cA 1, 8, .inl f_4)), (g_qsays, .inl (cA 1, 7, .inl f_5)), (g_qgives0, .inl (cA 1, 7, .inl f_6)), (g_qgives1, .inl (cA 1, 7, .inl (va_cpy o_cgives1 g_cgives1 0 0 7))), (g_qfroms, .inl (cA 1, 4, .inl g_cfroms)), (g_qtos, .inl (cA 1, 4, .inl g_ctos)), (h1, .inr (3, [.int o_odds, .int o_pot, .int o_lines, .int o_men, .int o_clauses, .int o_winds, .int o_far0, .int o_far1, .ref o_qsides, .ref o_qgrips, .ref o_qwits, .ref o_qsays, .ref o_qgives0, .ref o_qgives1, .ref o_qfroms, .ref o_qtos])), (o_qsides, .inl (cA 1, 8, .inl o_csides)), (o_qgrips, .inl (cA 1, 8, .inl o_cgrips)), (o_qwits, .inl (cA 1, 8, .inl o_cwits)), (o_qsays, .inl (cA 1, 7, .inl o_csays)), (o_qgives0, .inl (cA 1, 7, .inl o_cgives0)), (o_qgives1, .inl (cA 1, 7, .inl o_cgives1)), (o_qfroms, .inl (cA 1, 4, .inl o_cfroms)), (o_qtos, .inl (cA 1, 4, .inl o_ctos)), (h0, .inr (3, [.int o_odds, .int o_pot, .int o_lines, .int o_men, .int o_clauses, .int o_winds, .int o_far0, .int o_far1, .ref g_qsides, .ref g_qgrips, .ref g_qwits, .ref g_qsays, .ref g_qgives0, .ref g_qgives1, .ref g_qfroms, .ref g_qtos]))] := hD
  generalize ef_7 : (va_cpy o_cgives1 g_cgives1 0 0 7) = f_7 at hP hD
  refine lv_aload_n hx hb dX3_copyFrom_150 rfl (lv_at hl 1 rfl) ?_
  refine va_get (D := D) (ci := 3) (v := .ref o_qfroms) (C := RX3) (T := TX3) (N := 16) hx hb hts inX3 hown hKN.1 hP 8 rfl rfl 14 (by decide) (hts _ tw_188) (fun _ h9 => h9) rfl dX3_copyFrom_151 ?_
  refine lv_iconst (v := 0) hx hb dX3_copyFrom_154 (by decide) ?_
  refine lv_aload_n hx hb dX3_copyFrom_155 rfl (lv_at hl 0 rfl) ?_
  refine va_get (D := D) (ci := 3) (v := .ref g_qfroms) (C := RX3) (T := TX3) (N := 16) hx hb hts inX3 hown hKN.1 hP 17 rfl rfl 14 (by decide) (hts _ tw_188) (fun _ h9 => h9) rfl dX3_copyFrom_156 ?_
  refine lv_iconst (v := 0) hx hb dX3_copyFrom_159 (by decide) ?_
  refine lv_iconst (v := 4) hx hb dX3_copyFrom_160 (by decide) ?_
  refine va_copyi hx hb (by rw [hml]; exact hl.1.symm) hown (hts _ tw_683) (hts _ tw_685) (hts _ tw_684) (hts _ tw_120) hKN.1 hP hD hS 15 6 1 1 rfl rfl rfl rfl rfl (by decide) (by decide) (by decide) (by decide) (by decide) (fun _ _ => rfl) (Nat.le_of_ble_eq_true rfl) (Nat.le_of_ble_eq_true rfl) dX3_copyFrom_161 (fun H locs hP hD hS => ?_)
  have hP : va_P D vwCl [(g_qsides, .inl (cA 1, 8, .inl f_2)), (g_qgrips, .inl (cA 1, 8, .inl f_3)), (g_qwits, .inl (cA 1, 8, .inl f_4)), (g_qsays, .inl (cA 1, 7, .inl f_5)), (g_qgives0, .inl (cA 1, 7, .inl f_6)), (g_qgives1, .inl (cA 1, 7, .inl f_7)), (g_qfroms, .inl (cA 1, 4, .inl (va_cpy o_cfroms g_cfroms 0 0 4))), (g_qtos, .inl (cA 1, 4, .inl g_ctos)), (h1, .inr (3, [.int o_odds, .int o_pot, .int o_lines, .int o_men, .int o_clauses, .int o_winds, .int o_far0, .int o_far1, .ref o_qsides, .ref o_qgrips, .ref o_qwits, .ref o_qsays, .ref o_qgives0, .ref o_qgives1, .ref o_qfroms, .ref o_qtos])), (o_qsides, .inl (cA 1, 8, .inl o_csides)), (o_qgrips, .inl (cA 1, 8, .inl o_cgrips)), (o_qwits, .inl (cA 1, 8, .inl o_cwits)), (o_qsays, .inl (cA 1, 7, .inl o_csays)), (o_qgives0, .inl (cA 1, 7, .inl o_cgives0)), (o_qgives1, .inl (cA 1, 7, .inl o_cgives1)), (o_qfroms, .inl (cA 1, 4, .inl o_cfroms)), (o_qtos, .inl (cA 1, 4, .inl o_ctos)), (h0, .inr (3, [.int o_odds, .int o_pot, .int o_lines, .int o_men, .int o_clauses, .int o_winds, .int o_far0, .int o_far1, .ref g_qsides, .ref g_qgrips, .ref g_qwits, .ref g_qsays, .ref g_qgives0, .ref g_qgives1, .ref g_qfroms, .ref g_qtos]))] H := hP
  have hD : va_D A [(g_qsides, .inl (cA 1, 8, .inl f_2)), (g_qgrips, .inl (cA 1, 8, .inl f_3)), (g_qwits, .inl (cA 1, 8, .inl f_4)), (g_qsays, .inl (cA 1, 7, .inl f_5)), (g_qgives0, .inl (cA 1, 7, .inl f_6)), (g_qgives1, .inl (cA 1, 7, .inl f_7)), (g_qfroms, .inl (cA 1, 4, .inl (va_cpy o_cfroms g_cfroms 0 0 4))), (g_qtos, .inl (cA 1, 4, .inl g_ctos)), (h1, .inr (3, [.int o_odds, .int o_pot, .int o_lines, .int o_men, .int o_clauses, .int o_winds, .int o_far0, .int o_far1, .ref o_qsides, .ref o_qgrips, .ref o_qwits, .ref o_qsays, .ref o_qgives0, .ref o_qgives1, .ref o_qfroms, .ref o_qtos])), (o_qsides, .inl (cA 1, 8, .inl o_csides)), (o_qgrips, .inl (cA 1, 8, .inl o_cgrips)), (o_qwits, .inl (cA 1, 8, .inl o_cwits)), (o_qsays, .inl (cA 1, 7, .inl o_csays)), (o_qgives0, .inl (cA 1, 7, .inl o_cgives0)), (o_qgives1, .inl (cA 1, 7, .inl o_cgives1)), (o_qfroms, .inl (cA 1, 4, .inl o_cfroms)), (o_qtos, .inl (cA 1, 4, .inl o_ctos)), (h0, .inr (3, [.int o_odds, .int o_pot, .int o_lines, .int o_men, .int o_clauses, .int o_winds, .int o_far0, .int o_far1, .ref g_qsides, .ref g_qgrips, .ref g_qwits, .ref g_qsays, .ref g_qgives0, .ref g_qgives1, .ref g_qfroms, .ref g_qtos]))] := hD
  generalize ef_8 : (va_cpy o_cfroms g_cfroms 0 0 4) = f_8 at hP hD
  refine lv_aload_n hx hb dX3_copyFrom_164 rfl (lv_at hl 1 rfl) ?_
  refine va_get (D := D) (ci := 3) (v := .ref o_qtos) (C := RX3) (T := TX3) (N := 16) hx hb hts inX3 hown hKN.1 hP 8 rfl rfl 15 (by decide) (hts _ tw_189) (fun _ h9 => h9) rfl dX3_copyFrom_165 ?_
  refine lv_iconst (v := 0) hx hb dX3_copyFrom_168 (by decide) ?_
  refine lv_aload_n hx hb dX3_copyFrom_169 rfl (lv_at hl 0 rfl) ?_
  refine va_get (D := D) (ci := 3) (v := .ref g_qtos) (C := RX3) (T := TX3) (N := 16) hx hb hts inX3 hown hKN.1 hP 17 rfl rfl 15 (by decide) (hts _ tw_189) (fun _ h9 => h9) rfl dX3_copyFrom_170 ?_
  refine lv_iconst (v := 0) hx hb dX3_copyFrom_173 (by decide) ?_
  refine lv_iconst (v := 4) hx hb dX3_copyFrom_174 (by decide) ?_
  refine va_copyi hx hb (by rw [hml]; exact hl.1.symm) hown (hts _ tw_683) (hts _ tw_685) (hts _ tw_684) (hts _ tw_120) hKN.1 hP hD hS 16 7 1 1 rfl rfl rfl rfl rfl (by decide) (by decide) (by decide) (by decide) (by decide) (fun _ _ => rfl) (Nat.le_of_ble_eq_true rfl) (Nat.le_of_ble_eq_true rfl) dX3_copyFrom_175 (fun H locs hP hD hS => ?_)
  have hP : va_P D vwCl [(g_qsides, .inl (cA 1, 8, .inl f_2)), (g_qgrips, .inl (cA 1, 8, .inl f_3)), (g_qwits, .inl (cA 1, 8, .inl f_4)), (g_qsays, .inl (cA 1, 7, .inl f_5)), (g_qgives0, .inl (cA 1, 7, .inl f_6)), (g_qgives1, .inl (cA 1, 7, .inl f_7)), (g_qfroms, .inl (cA 1, 4, .inl f_8)), (g_qtos, .inl (cA 1, 4, .inl (va_cpy o_ctos g_ctos 0 0 4))), (h1, .inr (3, [.int o_odds, .int o_pot, .int o_lines, .int o_men, .int o_clauses, .int o_winds, .int o_far0, .int o_far1, .ref o_qsides, .ref o_qgrips, .ref o_qwits, .ref o_qsays, .ref o_qgives0, .ref o_qgives1, .ref o_qfroms, .ref o_qtos])), (o_qsides, .inl (cA 1, 8, .inl o_csides)), (o_qgrips, .inl (cA 1, 8, .inl o_cgrips)), (o_qwits, .inl (cA 1, 8, .inl o_cwits)), (o_qsays, .inl (cA 1, 7, .inl o_csays)), (o_qgives0, .inl (cA 1, 7, .inl o_cgives0)), (o_qgives1, .inl (cA 1, 7, .inl o_cgives1)), (o_qfroms, .inl (cA 1, 4, .inl o_cfroms)), (o_qtos, .inl (cA 1, 4, .inl o_ctos)), (h0, .inr (3, [.int o_odds, .int o_pot, .int o_lines, .int o_men, .int o_clauses, .int o_winds, .int o_far0, .int o_far1, .ref g_qsides, .ref g_qgrips, .ref g_qwits, .ref g_qsays, .ref g_qgives0, .ref g_qgives1, .ref g_qfroms, .ref g_qtos]))] H := hP
  have hD : va_D A [(g_qsides, .inl (cA 1, 8, .inl f_2)), (g_qgrips, .inl (cA 1, 8, .inl f_3)), (g_qwits, .inl (cA 1, 8, .inl f_4)), (g_qsays, .inl (cA 1, 7, .inl f_5)), (g_qgives0, .inl (cA 1, 7, .inl f_6)), (g_qgives1, .inl (cA 1, 7, .inl f_7)), (g_qfroms, .inl (cA 1, 4, .inl f_8)), (g_qtos, .inl (cA 1, 4, .inl (va_cpy o_ctos g_ctos 0 0 4))), (h1, .inr (3, [.int o_odds, .int o_pot, .int o_lines, .int o_men, .int o_clauses, .int o_winds, .int o_far0, .int o_far1, .ref o_qsides, .ref o_qgrips, .ref o_qwits, .ref o_qsays, .ref o_qgives0, .ref o_qgives1, .ref o_qfroms, .ref o_qtos])), (o_qsides, .inl (cA 1, 8, .inl o_csides)), (o_qgrips, .inl (cA 1, 8, .inl o_cgrips)), (o_qwits, .inl (cA 1, 8, .inl o_cwits)), (o_qsays, .inl (cA 1, 7, .inl o_csays)), (o_qgives0, .inl (cA 1, 7, .inl o_cgives0)), (o_qgives1, .inl (cA 1, 7, .inl o_cgives1)), (o_qfroms, .inl (cA 1, 4, .inl o_cfroms)), (o_qtos, .inl (cA 1, 4, .inl o_ctos)), (h0, .inr (3, [.int o_odds, .int o_pot, .int o_lines, .int o_men, .int o_clauses, .int o_winds, .int o_far0, .int o_far1, .ref g_qsides, .ref g_qgrips, .ref g_qwits, .ref g_qsays, .ref g_qgives0, .ref g_qgives1, .ref g_qfroms, .ref g_qtos]))] := hD
  generalize ef_9 : (va_cpy o_ctos g_ctos 0 0 4) = f_9 at hP hD
  have hP9 := hP.sub (ws' := [(h0, .inr (3, [.int o_odds, .int o_pot, .int o_lines, .int o_men, .int o_clauses, .int o_winds, .int o_far0, .int o_far1, .ref g_qsides, .ref g_qgrips, .ref g_qwits, .ref g_qsays, .ref g_qgives0, .ref g_qgives1, .ref g_qfroms, .ref g_qtos])), (g_qsides, .inl (cA 1, 8, .inl f_2)), (g_qgrips, .inl (cA 1, 8, .inl f_3)), (g_qwits, .inl (cA 1, 8, .inl f_4)), (g_qsays, .inl (cA 1, 7, .inl f_5)), (g_qgives0, .inl (cA 1, 7, .inl f_6)), (g_qgives1, .inl (cA 1, 7, .inl f_7)), (g_qfroms, .inl (cA 1, 4, .inl f_8)), (g_qtos, .inl (cA 1, 4, .inl f_9)), (h1, .inr (3, [.int o_odds, .int o_pot, .int o_lines, .int o_men, .int o_clauses, .int o_winds, .int o_far0, .int o_far1, .ref o_qsides, .ref o_qgrips, .ref o_qwits, .ref o_qsays, .ref o_qgives0, .ref o_qgives1, .ref o_qfroms, .ref o_qtos])), (o_qsides, .inl (cA 1, 8, .inl o_csides)), (o_qgrips, .inl (cA 1, 8, .inl o_cgrips)), (o_qwits, .inl (cA 1, 8, .inl o_cwits)), (o_qsays, .inl (cA 1, 7, .inl o_csays)), (o_qgives0, .inl (cA 1, 7, .inl o_cgives0)), (o_qgives1, .inl (cA 1, 7, .inl o_cgives1)), (o_qfroms, .inl (cA 1, 4, .inl o_cfroms)), (o_qtos, .inl (cA 1, 4, .inl o_ctos))]) [17, 0, 1, 2, 3, 4, 5, 6, 7, 8, 9, 10, 11, 12, 13, 14, 15, 16] rfl
  have hD9 := hD.sub (ws' := [(h0, .inr (3, [.int o_odds, .int o_pot, .int o_lines, .int o_men, .int o_clauses, .int o_winds, .int o_far0, .int o_far1, .ref g_qsides, .ref g_qgrips, .ref g_qwits, .ref g_qsays, .ref g_qgives0, .ref g_qgives1, .ref g_qfroms, .ref g_qtos])), (g_qsides, .inl (cA 1, 8, .inl f_2)), (g_qgrips, .inl (cA 1, 8, .inl f_3)), (g_qwits, .inl (cA 1, 8, .inl f_4)), (g_qsays, .inl (cA 1, 7, .inl f_5)), (g_qgives0, .inl (cA 1, 7, .inl f_6)), (g_qgives1, .inl (cA 1, 7, .inl f_7)), (g_qfroms, .inl (cA 1, 4, .inl f_8)), (g_qtos, .inl (cA 1, 4, .inl f_9)), (h1, .inr (3, [.int o_odds, .int o_pot, .int o_lines, .int o_men, .int o_clauses, .int o_winds, .int o_far0, .int o_far1, .ref o_qsides, .ref o_qgrips, .ref o_qwits, .ref o_qsays, .ref o_qgives0, .ref o_qgives1, .ref o_qfroms, .ref o_qtos])), (o_qsides, .inl (cA 1, 8, .inl o_csides)), (o_qgrips, .inl (cA 1, 8, .inl o_cgrips)), (o_qwits, .inl (cA 1, 8, .inl o_cwits)), (o_qsays, .inl (cA 1, 7, .inl o_csays)), (o_qgives0, .inl (cA 1, 7, .inl o_cgives0)), (o_qgives1, .inl (cA 1, 7, .inl o_cgives1)), (o_qfroms, .inl (cA 1, 4, .inl o_cfroms)), (o_qtos, .inl (cA 1, 4, .inl o_ctos))]) [17, 0, 1, 2, 3, 4, 5, 6, 7, 8, 9, 10, 11, 12, 13, 14, 15, 16] (by decide) rfl
  exact W.vret hx hb hr (fun t ht hW => ⟨⟨((fun _ => 0), (fun _ => 0), (selF [f_2, f_3, f_4, f_5, f_6, f_7, f_8, f_9]), (fun _ _ => 0)), rfl, trivial, by rw [ht]; exact hP9, hD9⟩, hS.F ht⟩) hS.2.2 dX3_copyFrom_178
set_option maxHeartbeats 8000000 in
set_option maxRecDepth 100000 in
theorem g_X3_setGrip (l : Launch) (D : va_G) (cA : Nat → ClassId) (sz : Nat) (h0 : Nat) (g_odds : Int32) (g_pot : Int32) (g_lines : Int32) (g_men : Int32) (g_clauses : Int32) (g_winds : Int32) (g_far0 : Int32) (g_far1 : Int32) (g_qsides : Nat) (g_qgrips : Nat) (g_qwits : Nat) (g_qsays : Nat) (g_qgives0 : Nat) (g_qgives1 : Nat) (g_qfroms : Nat) (g_qtos : Nat) (g_cgrips : Nat → Int32) (p0 : Int32) (p1 : Int32) (h_g_odds : -999 ≤ (g_odds : Int32).toInt ∧ (g_odds : Int32).toInt ≤ 999) (h_g_pot : -999 ≤ (g_pot : Int32).toInt ∧ (g_pot : Int32).toInt ≤ 999) (h_g_men : 0 ≤ (g_men : Int32).toInt ∧ (g_men : Int32).toInt ≤ 8) (h_g_clauses : 0 ≤ (g_clauses : Int32).toInt ∧ (g_clauses : Int32).toInt ≤ 7) (h_g_winds : 0 ≤ (g_winds : Int32).toInt ∧ (g_winds : Int32).toInt ≤ 4) (h_g_far0 : -999 ≤ (g_far0 : Int32).toInt ∧ (g_far0 : Int32).toInt ≤ 999) (h_g_far1 : -999 ≤ (g_far1 : Int32).toInt ∧ (g_far1 : Int32).toInt ≤ 999) : Met l yX3_setGrip (Cond.code yX3_setGrip cX3_setGrip 3 none :: TB) (rmd 1 0 0) (PM D cA sz [(h0, .inr (3, [.int g_odds, .int g_pot, .int g_lines, .int g_men, .int g_clauses, .int g_winds, .int g_far0, .int g_far1, .ref g_qsides, .ref g_qgrips, .ref g_qwits, .ref g_qsays, .ref g_qgives0, .ref g_qgives1, .ref g_qfroms, .ref g_qtos])), (g_qgrips, .inl (cA 1, 8, .inl g_cgrips))] [.ref h0, .int p0, .int p1]) (va_Qv (fun (u : SU) => True) (fun u t => va_P D vwCl [(h0, .inr (3, [.int g_odds, .int g_pot, .int g_lines, .int g_men, .int g_clauses, .int g_winds, .int g_far0, .int g_far1, .ref g_qsides, .ref g_qgrips, .ref g_qwits, .ref g_qsays, .ref g_qgives0, .ref g_qgives1, .ref g_qfroms, .ref g_qtos])), (g_qgrips, .inl (cA 1, 8, .inl (u.2.2.1 0)))] t.heap ∧ va_D (va_A [(h0, .inr (3, [.int g_odds, .int g_pot, .int g_lines, .int g_men, .int g_clauses, .int g_winds, .int g_far0, .int g_far1, .ref g_qsides, .ref g_qgrips, .ref g_qwits, .ref g_qsays, .ref g_qgives0, .ref g_qgives1, .ref g_qfroms, .ref g_qtos])), (g_qgrips, .inl (cA 1, 8, .inl g_cgrips))] sz) [(h0, .inr (3, [.int g_odds, .int g_pot, .int g_lines, .int g_men, .int g_clauses, .int g_winds, .int g_far0, .int g_far1, .ref g_qsides, .ref g_qgrips, .ref g_qwits, .ref g_qsays, .ref g_qgives0, .ref g_qgives1, .ref g_qfroms, .ref g_qtos])), (g_qgrips, .inl (cA 1, 8, .inl (u.2.2.1 0)))]) (va_A [(h0, .inr (3, [.int g_odds, .int g_pot, .int g_lines, .int g_men, .int g_clauses, .int g_winds, .int g_far0, .int g_far1, .ref g_qsides, .ref g_qgrips, .ref g_qwits, .ref g_qsays, .ref g_qgives0, .ref g_qgives1, .ref g_qfroms, .ref g_qtos])), (g_qgrips, .inl (cA 1, 8, .inl g_cgrips))] sz)) 0 0 (va_A [(h0, .inr (3, [.int g_odds, .int g_pot, .int g_lines, .int g_men, .int g_clauses, .int g_winds, .int g_far0, .int g_far1, .ref g_qsides, .ref g_qgrips, .ref g_qwits, .ref g_qsays, .ref g_qgives0, .ref g_qgives1, .ref g_qfroms, .ref g_qtos])), (g_qgrips, .inl (cA 1, 8, .inl g_cgrips))] sz) := by
  refine Met.ofW (cc := cX3_setGrip) (maxL := 3) (ret := none) (by decide) rfl ?_
  intro p e s m args below meth c s₁ B hml hv
  obtain ⟨rfl, hsz, hP, hKN, hD0⟩ := hv
  have hx := B.exec
  have hb := B.bytes
  have hr := B.returns
  have hts : ∀ w ∈ TB, w.before _ s = true := fun w h => atoms_spec B.pre w (List.mem_cons_of_mem _ h)
  have hown : s.vm.findClass RX3 = some m.cls := findClass_of_methodNamed B.named
  have hlocks := B.notSynchronized
  subst hsz
  have hD := hD0.self (sz := s.heap.size)
  generalize hAe : va_A [(h0, .inr (3, [.int g_odds, .int g_pot, .int g_lines, .int g_men, .int g_clauses, .int g_winds, .int g_far0, .int g_far1, .ref g_qsides, .ref g_qgrips, .ref g_qwits, .ref g_qsays, .ref g_qgives0, .ref g_qgives1, .ref g_qfroms, .ref g_qtos])), (g_qgrips, .inl (cA 1, 8, .inl g_cgrips))] s.heap.size = A at hD ⊢
  have hA : ∀ q : Nat, s.heap.size ≤ q → A q := fun q h => by rw [← hAe]; exact Or.inr h
  have hS : va_S A s.heap s.heap [] := va_S.rf
  have hl := lv_entry ([.ref h0, .int p0, .int p1]) (n := 3) (Nat.le_of_ble_eq_true rfl)
  rw [lg_entry_eq]
  generalize (lg_sl ([.ref h0, .int p0, .int p1]) ++ List.replicate (3 - (lg_sl ([.ref h0, .int p0, .int p1])).length) Slot.unset).toArray = ls at hl ⊢
  have hl : lv_has ls 3 [(0, .ref h0), (1, .int p0), (2, .int p1)] := hl
  refine lv_aload_n hx hb dX3_setGrip_0 rfl (lv_at hl 0 rfl) ?_
  refine lv_iload_n hx hb dX3_setGrip_1 rfl (lv_at hl 1 rfl) ?_
  refine cpVi (rest := []) ⟨hx, hb, hml, hown, hts⟩ hKN (hP.sub (ws' := [(h0, .inr (3, [.int g_odds, .int g_pot, .int g_lines, .int g_men, .int g_clauses, .int g_winds, .int g_far0, .int g_far1, .ref g_qsides, .ref g_qgrips, .ref g_qwits, .ref g_qsays, .ref g_qgives0, .ref g_qgives1, .ref g_qfroms, .ref g_qtos]))]) [0] rfl) (g_X3_hasMan l D cA h0 g_odds g_pot g_lines g_men g_clauses g_winds g_far0 g_far1 g_qsides g_qgrips g_qwits g_qsays g_qgives0 g_qgives1 g_qfroms g_qtos p0 (by omega) (by omega) (by omega) (by omega) (by omega) (by omega) (by omega)) (tb_V tw_706 tw_699 tw_700 tw_104 tw_701) hdX3_hasMan ⟨rfl, rfl, Nat.le_of_ble_eq_true rfl, Nat.le_of_ble_eq_true rfl⟩ ⟨Nat.le_of_ble_eq_true rfl, Nat.le_of_ble_eq_true rfl⟩ rfl rfl rfl hl.1 rfl (Nat.le_of_ble_eq_true rfl) dX3_setGrip_2 (fun r_1 hr_1 => ?_)
  rcases hr_1 with ⟨k_1_0_0, k_1_0_1, k_1_0_2, rfl⟩ | rfl
  · skip
    refine lv_if_eq (tgt := 15) hx hb dX3_setGrip_5 (by decide) (fun c_2 => absurd c_2 (by decide)) (fun c_2 => ?_)
    refine lv_aload_n hx hb dX3_setGrip_8 rfl (lv_at hl 0 rfl) ?_
    refine va_get (D := D) (ci := 3) (v := .ref g_qgrips) (C := RX3) (T := TX3) (N := 16) hx hb hts inX3 hown hKN.1 hP 0 rfl rfl 9 (by decide) (hts _ tw_183) (fun _ h9 => h9) rfl dX3_setGrip_9 ?_
    refine lv_iload_n hx hb dX3_setGrip_12 rfl (lv_at hl 1 rfl) ?_
    refine lv_iload_n hx hb dX3_setGrip_13 rfl (lv_at hl 2 rfl) ?_
    refine va_iast hx hb hKN.1 hP hD hS 1 1 rfl rfl (vp_in_iff.mpr ⟨by omega, by omega⟩) dX3_setGrip_14 (fun H locs hP hD hS => ?_)
    have hP : va_P D vwCl [(h0, .inr (3, [.int g_odds, .int g_pot, .int g_lines, .int g_men, .int g_clauses, .int g_winds, .int g_far0, .int g_far1, .ref g_qsides, .ref g_qgrips, .ref g_qwits, .ref g_qsays, .ref g_qgives0, .ref g_qgives1, .ref g_qfroms, .ref g_qtos])), (g_qgrips, .inl (cA 1, 8, .inl (upd g_cgrips p0.toNatClampNeg p1)))] H := hP
    have hD : va_D A [(h0, .inr (3, [.int g_odds, .int g_pot, .int g_lines, .int g_men, .int g_clauses, .int g_winds, .int g_far0, .int g_far1, .ref g_qsides, .ref g_qgrips, .ref g_qwits, .ref g_qsays, .ref g_qgives0, .ref g_qgives1, .ref g_qfroms, .ref g_qtos])), (g_qgrips, .inl (cA 1, 8, .inl (upd g_cgrips p0.toNatClampNeg p1)))] := hD
    generalize ef_3 : (upd g_cgrips p0.toNatClampNeg p1) = f_3 at hP hD
    have hP9 := hP.sub (ws' := [(h0, .inr (3, [.int g_odds, .int g_pot, .int g_lines, .int g_men, .int g_clauses, .int g_winds, .int g_far0, .int g_far1, .ref g_qsides, .ref g_qgrips, .ref g_qwits, .ref g_qsays, .ref g_qgives0, .ref g_qgives1, .ref g_qfroms, .ref g_qtos])), (g_qgrips, .inl (cA 1, 8, .inl f_3))]) [0, 1] rfl
    have hD9 := hD.sub (ws' := [(h0, .inr (3, [.int g_odds, .int g_pot, .int g_lines, .int g_men, .int g_clauses, .int g_winds, .int g_far0, .int g_far1, .ref g_qsides, .ref g_qgrips, .ref g_qwits, .ref g_qsays, .ref g_qgives0, .ref g_qgives1, .ref g_qfroms, .ref g_qtos])), (g_qgrips, .inl (cA 1, 8, .inl f_3))]) [0, 1] (by decide) rfl
    exact W.vret hx hb hr (fun t ht hW => ⟨⟨((fun _ => 0), (fun _ => 0), (selF [f_3]), (fun _ _ => 0)), rfl, trivial, by rw [ht]; exact hP9, hD9⟩, hS.F ht⟩) hS.2.2 dX3_setGrip_15
  · skip
    refine lv_if_eq (tgt := 15) hx hb dX3_setGrip_5 (by decide) (fun c_4 => ?_) (fun c_4 => absurd (by decide) c_4)
    have hP9 := hP.sub (ws' := [(h0, .inr (3, [.int g_odds, .int g_pot, .int g_lines, .int g_men, .int g_clauses, .int g_winds, .int g_far0, .int g_far1, .ref g_qsides, .ref g_qgrips, .ref g_qwits, .ref g_qsays, .ref g_qgives0, .ref g_qgives1, .ref g_qfroms, .ref g_qtos])), (g_qgrips, .inl (cA 1, 8, .inl g_cgrips))]) [0, 1] rfl
    have hD9 := hD.sub (ws' := [(h0, .inr (3, [.int g_odds, .int g_pot, .int g_lines, .int g_men, .int g_clauses, .int g_winds, .int g_far0, .int g_far1, .ref g_qsides, .ref g_qgrips, .ref g_qwits, .ref g_qsays, .ref g_qgives0, .ref g_qgives1, .ref g_qfroms, .ref g_qtos])), (g_qgrips, .inl (cA 1, 8, .inl g_cgrips))]) [0, 1] (by decide) rfl
    exact W.vret hx hb hr (fun t ht hW => ⟨⟨((fun _ => 0), (fun _ => 0), (selF [g_cgrips]), (fun _ _ => 0)), rfl, trivial, by rw [ht]; exact hP9, hD9⟩, hS.F ht⟩) hS.2.2 dX3_setGrip_15
set_option maxHeartbeats 8000000 in
set_option maxRecDepth 100000 in
theorem g_X3_addMan (l : Launch) (D : va_G) (cA : Nat → ClassId) (sz : Nat) (h0 : Nat) (g_odds : Int32) (g_pot : Int32) (g_lines : Int32) (g_men : Int32) (g_clauses : Int32) (g_winds : Int32) (g_far0 : Int32) (g_far1 : Int32) (g_qsides : Nat) (g_qgrips : Nat) (g_qwits : Nat) (g_qsays : Nat) (g_qgives0 : Nat) (g_qgives1 : Nat) (g_qfroms : Nat) (g_qtos : Nat) (g_csides : Nat → Int32) (g_cgrips : Nat → Int32) (g_cwits : Nat → Int32) (p0 : Int32) (p1 : Int32) (p2 : Int32) (h_g_odds : -999 ≤ (g_odds : Int32).toInt ∧ (g_odds : Int32).toInt ≤ 999) (h_g_pot : -999 ≤ (g_pot : Int32).toInt ∧ (g_pot : Int32).toInt ≤ 999) (h_g_men : 0 ≤ (g_men : Int32).toInt ∧ (g_men : Int32).toInt ≤ 8) (h_g_clauses : 0 ≤ (g_clauses : Int32).toInt ∧ (g_clauses : Int32).toInt ≤ 7) (h_g_winds : 0 ≤ (g_winds : Int32).toInt ∧ (g_winds : Int32).toInt ≤ 4) (h_g_far0 : -999 ≤ (g_far0 : Int32).toInt ∧ (g_far0 : Int32).toInt ≤ 999) (h_g_far1 : -999 ≤ (g_far1 : Int32).toInt ∧ (g_far1 : Int32).toInt ≤ 999) : Met l yX3_addMan (Cond.code yX3_addMan cX3_addMan 4 none :: TB) (rmd 0 0 0) (PM D cA sz [(h0, .inr (3, [.int g_odds, .int g_pot, .int g_lines, .int g_men, .int g_clauses, .int g_winds, .int g_far0, .int g_far1, .ref g_qsides, .ref g_qgrips, .ref g_qwits, .ref g_qsays, .ref g_qgives0, .ref g_qgives1, .ref g_qfroms, .ref g_qtos])), (g_qsides, .inl (cA 1, 8, .inl g_csides)), (g_qgrips, .inl (cA 1, 8, .inl g_cgrips)), (g_qwits, .inl (cA 1, 8, .inl g_cwits))] [.ref h0, .int p0, .int p1, .int p2]) (va_Qv (fun (u : SU) => (1 ≤ (u.2.1 0).toInt ∧ (u.2.1 0).toInt ≤ 8)) (fun u t => va_P D vwCl [(h0, .inr (3, [.int g_odds, .int g_pot, .int g_lines, .int (u.2.1 0), .int g_clauses, .int g_winds, .int g_far0, .int g_far1, .ref g_qsides, .ref g_qgrips, .ref g_qwits, .ref g_qsays, .ref g_qgives0, .ref g_qgives1, .ref g_qfroms, .ref g_qtos])), (g_qsides, .inl (cA 1, 8, .inl (u.2.2.1 0))), (g_qgrips, .inl (cA 1, 8, .inl (u.2.2.1 1))), (g_qwits, .inl (cA 1, 8, .inl (u.2.2.1 2)))] t.heap ∧ va_D (va_A [(h0, .inr (3, [.int g_odds, .int g_pot, .int g_lines, .int g_men, .int g_clauses, .int g_winds, .int g_far0, .int g_far1, .ref g_qsides, .ref g_qgrips, .ref g_qwits, .ref g_qsays, .ref g_qgives0, .ref g_qgives1, .ref g_qfroms, .ref g_qtos])), (g_qsides, .inl (cA 1, 8, .inl g_csides)), (g_qgrips, .inl (cA 1, 8, .inl g_cgrips)), (g_qwits, .inl (cA 1, 8, .inl g_cwits))] sz) [(h0, .inr (3, [.int g_odds, .int g_pot, .int g_lines, .int (u.2.1 0), .int g_clauses, .int g_winds, .int g_far0, .int g_far1, .ref g_qsides, .ref g_qgrips, .ref g_qwits, .ref g_qsays, .ref g_qgives0, .ref g_qgives1, .ref g_qfroms, .ref g_qtos])), (g_qsides, .inl (cA 1, 8, .inl (u.2.2.1 0))), (g_qgrips, .inl (cA 1, 8, .inl (u.2.2.1 1))), (g_qwits, .inl (cA 1, 8, .inl (u.2.2.1 2)))]) (va_A [(h0, .inr (3, [.int g_odds, .int g_pot, .int g_lines, .int g_men, .int g_clauses, .int g_winds, .int g_far0, .int g_far1, .ref g_qsides, .ref g_qgrips, .ref g_qwits, .ref g_qsays, .ref g_qgives0, .ref g_qgives1, .ref g_qfroms, .ref g_qtos])), (g_qsides, .inl (cA 1, 8, .inl g_csides)), (g_qgrips, .inl (cA 1, 8, .inl g_cgrips)), (g_qwits, .inl (cA 1, 8, .inl g_cwits))] sz)) 0 0 (va_A [(h0, .inr (3, [.int g_odds, .int g_pot, .int g_lines, .int g_men, .int g_clauses, .int g_winds, .int g_far0, .int g_far1, .ref g_qsides, .ref g_qgrips, .ref g_qwits, .ref g_qsays, .ref g_qgives0, .ref g_qgives1, .ref g_qfroms, .ref g_qtos])), (g_qsides, .inl (cA 1, 8, .inl g_csides)), (g_qgrips, .inl (cA 1, 8, .inl g_cgrips)), (g_qwits, .inl (cA 1, 8, .inl g_cwits))] sz) := by
  refine Met.ofW (cc := cX3_addMan) (maxL := 4) (ret := none) (by decide) rfl ?_
  intro p e s m args below meth c s₁ B hml hv
  obtain ⟨rfl, hsz, hP, hKN, hD0⟩ := hv
  have hx := B.exec
  have hb := B.bytes
  have hr := B.returns
  have hts : ∀ w ∈ TB, w.before _ s = true := fun w h => atoms_spec B.pre w (List.mem_cons_of_mem _ h)
  have hown : s.vm.findClass RX3 = some m.cls := findClass_of_methodNamed B.named
  have hlocks := B.notSynchronized
  subst hsz
  have hD := hD0.self (sz := s.heap.size)
  generalize hAe : va_A [(h0, .inr (3, [.int g_odds, .int g_pot, .int g_lines, .int g_men, .int g_clauses, .int g_winds, .int g_far0, .int g_far1, .ref g_qsides, .ref g_qgrips, .ref g_qwits, .ref g_qsays, .ref g_qgives0, .ref g_qgives1, .ref g_qfroms, .ref g_qtos])), (g_qsides, .inl (cA 1, 8, .inl g_csides)), (g_qgrips, .inl (cA 1, 8, .inl g_cgrips)), (g_qwits, .inl (cA 1, 8, .inl g_cwits))] s.heap.size = A at hD ⊢
  have hA : ∀ q : Nat, s.heap.size ≤ q → A q := fun q h => by rw [← hAe]; exact Or.inr h
  have hS : va_S A s.heap s.heap [] := va_S.rf
  have hl := lv_entry ([.ref h0, .int p0, .int p1, .int p2]) (n := 4) (Nat.le_of_ble_eq_true rfl)
  rw [lg_entry_eq]
  generalize (lg_sl ([.ref h0, .int p0, .int p1, .int p2]) ++ List.replicate (4 - (lg_sl ([.ref h0, .int p0, .int p1, .int p2])).length) Slot.unset).toArray = ls at hl ⊢
  have hl : lv_has ls 4 [(0, .ref h0), (1, .int p0), (2, .int p1), (3, .int p2)] := hl
  refine lv_aload_n hx hb dX3_addMan_0 rfl (lv_at hl 0 rfl) ?_
  refine va_get (D := D) (ci := 3) (v := .int g_men) (C := RX3) (T := TX3) (N := 16) hx hb hts inX3 hown hKN.1 hP 0 rfl rfl 3 (by decide) (hts _ tw_167) (fun _ h9 => h9) rfl dX3_addMan_1 ?_
  refine lv_bipush (v := 8) hx hb dX3_addMan_4 (by decide) ?_
  refine lv_icmp_ge (tgt := 49) hx hb dX3_addMan_6 (by decide) (fun c_1 => ?_) (fun c_1 => ?_)
  · skip
    have k_2 := kk_le zi_8 rfl c_1
    have hP9 := hP.sub (ws' := [(h0, .inr (3, [.int g_odds, .int g_pot, .int g_lines, .int g_men, .int g_clauses, .int g_winds, .int g_far0, .int g_far1, .ref g_qsides, .ref g_qgrips, .ref g_qwits, .ref g_qsays, .ref g_qgives0, .ref g_qgives1, .ref g_qfroms, .ref g_qtos])), (g_qsides, .inl (cA 1, 8, .inl g_csides)), (g_qgrips, .inl (cA 1, 8, .inl g_cgrips)), (g_qwits, .inl (cA 1, 8, .inl g_cwits))]) [0, 1, 2, 3] rfl
    have hD9 := hD.sub (ws' := [(h0, .inr (3, [.int g_odds, .int g_pot, .int g_lines, .int g_men, .int g_clauses, .int g_winds, .int g_far0, .int g_far1, .ref g_qsides, .ref g_qgrips, .ref g_qwits, .ref g_qsays, .ref g_qgives0, .ref g_qgives1, .ref g_qfroms, .ref g_qtos])), (g_qsides, .inl (cA 1, 8, .inl g_csides)), (g_qgrips, .inl (cA 1, 8, .inl g_cgrips)), (g_qwits, .inl (cA 1, 8, .inl g_cwits))]) [0, 1, 2, 3] (by decide) rfl
    exact W.vret hx hb hr (fun t ht hW => ⟨⟨((fun _ => 0), (selI [g_men]), (selF [g_csides, g_cgrips, g_cwits]), (fun _ _ => 0)), rfl, (show 1 ≤ g_men.toInt ∧ g_men.toInt ≤ 8 from by omega), by rw [ht]; exact hP9, hD9⟩, hS.F ht⟩) hS.2.2 dX3_addMan_49
  · skip
    have k_3 := kk_nle zi_8 rfl c_1
    refine lv_aload_n hx hb dX3_addMan_9 rfl (lv_at hl 0 rfl) ?_
    refine va_get (D := D) (ci := 3) (v := .ref g_qsides) (C := RX3) (T := TX3) (N := 16) hx hb hts inX3 hown hKN.1 hP 0 rfl rfl 8 (by decide) (hts _ tw_182) (fun _ h9 => h9) rfl dX3_addMan_10 ?_
    refine lv_aload_n hx hb dX3_addMan_13 rfl (lv_at hl 0 rfl) ?_
    refine va_get (D := D) (ci := 3) (v := .int g_men) (C := RX3) (T := TX3) (N := 16) hx hb hts inX3 hown hKN.1 hP 0 rfl rfl 3 (by decide) (hts _ tw_167) (fun _ h9 => h9) rfl dX3_addMan_14 ?_
    refine lv_iload_n hx hb dX3_addMan_17 rfl (lv_at hl 1 rfl) ?_
    refine va_iast hx hb hKN.1 hP hD hS 1 1 rfl rfl (vp_in_iff.mpr ⟨by omega, by omega⟩) dX3_addMan_18 (fun H locs hP hD hS => ?_)
    have hP : va_P D vwCl [(h0, .inr (3, [.int g_odds, .int g_pot, .int g_lines, .int g_men, .int g_clauses, .int g_winds, .int g_far0, .int g_far1, .ref g_qsides, .ref g_qgrips, .ref g_qwits, .ref g_qsays, .ref g_qgives0, .ref g_qgives1, .ref g_qfroms, .ref g_qtos])), (g_qsides, .inl (cA 1, 8, .inl (upd g_csides g_men.toNatClampNeg p0))), (g_qgrips, .inl (cA 1, 8, .inl g_cgrips)), (g_qwits, .inl (cA 1, 8, .inl g_cwits))] H := hP
    have hD : va_D A [(h0, .inr (3, [.int g_odds, .int g_pot, .int g_lines, .int g_men, .int g_clauses, .int g_winds, .int g_far0, .int g_far1, .ref g_qsides, .ref g_qgrips, .ref g_qwits, .ref g_qsays, .ref g_qgives0, .ref g_qgives1, .ref g_qfroms, .ref g_qtos])), (g_qsides, .inl (cA 1, 8, .inl (upd g_csides g_men.toNatClampNeg p0))), (g_qgrips, .inl (cA 1, 8, .inl g_cgrips)), (g_qwits, .inl (cA 1, 8, .inl g_cwits))] := hD
    generalize ef_4 : (upd g_csides g_men.toNatClampNeg p0) = f_4 at hP hD
    refine lv_aload_n hx hb dX3_addMan_19 rfl (lv_at hl 0 rfl) ?_
    refine va_get (D := D) (ci := 3) (v := .ref g_qgrips) (C := RX3) (T := TX3) (N := 16) hx hb hts inX3 hown hKN.1 hP 0 rfl rfl 9 (by decide) (hts _ tw_183) (fun _ h9 => h9) rfl dX3_addMan_20 ?_
    refine lv_aload_n hx hb dX3_addMan_23 rfl (lv_at hl 0 rfl) ?_
    refine va_get (D := D) (ci := 3) (v := .int g_men) (C := RX3) (T := TX3) (N := 16) hx hb hts inX3 hown hKN.1 hP 0 rfl rfl 3 (by decide) (hts _ tw_167) (fun _ h9 => h9) rfl dX3_addMan_24 ?_
    refine lv_iload_n hx hb dX3_addMan_27 rfl (lv_at hl 2 rfl) ?_
    refine va_iast hx hb hKN.1 hP hD hS 2 1 rfl rfl (vp_in_iff.mpr ⟨by omega, by omega⟩) dX3_addMan_28 (fun H locs hP hD hS => ?_)
    have hP : va_P D vwCl [(h0, .inr (3, [.int g_odds, .int g_pot, .int g_lines, .int g_men, .int g_clauses, .int g_winds, .int g_far0, .int g_far1, .ref g_qsides, .ref g_qgrips, .ref g_qwits, .ref g_qsays, .ref g_qgives0, .ref g_qgives1, .ref g_qfroms, .ref g_qtos])), (g_qsides, .inl (cA 1, 8, .inl f_4)), (g_qgrips, .inl (cA 1, 8, .inl (upd g_cgrips g_men.toNatClampNeg p1))), (g_qwits, .inl (cA 1, 8, .inl g_cwits))] H := hP
    have hD : va_D A [(h0, .inr (3, [.int g_odds, .int g_pot, .int g_lines, .int g_men, .int g_clauses, .int g_winds, .int g_far0, .int g_far1, .ref g_qsides, .ref g_qgrips, .ref g_qwits, .ref g_qsays, .ref g_qgives0, .ref g_qgives1, .ref g_qfroms, .ref g_qtos])), (g_qsides, .inl (cA 1, 8, .inl f_4)), (g_qgrips, .inl (cA 1, 8, .inl (upd g_cgrips g_men.toNatClampNeg p1))), (g_qwits, .inl (cA 1, 8, .inl g_cwits))] := hD
    generalize ef_5 : (upd g_cgrips g_men.toNatClampNeg p1) = f_5 at hP hD
    refine lv_aload_n hx hb dX3_addMan_29 rfl (lv_at hl 0 rfl) ?_
    refine va_get (D := D) (ci := 3) (v := .ref g_qwits) (C := RX3) (T := TX3) (N := 16) hx hb hts inX3 hown hKN.1 hP 0 rfl rfl 10 (by decide) (hts _ tw_184) (fun _ h9 => h9) rfl dX3_addMan_30 ?_
    refine lv_aload_n hx hb dX3_addMan_33 rfl (lv_at hl 0 rfl) ?_
    refine va_get (D := D) (ci := 3) (v := .int g_men) (C := RX3) (T := TX3) (N := 16) hx hb hts inX3 hown hKN.1 hP 0 rfl rfl 3 (by decide) (hts _ tw_167) (fun _ h9 => h9) rfl dX3_addMan_34 ?_
    refine lv_iload_n hx hb dX3_addMan_37 rfl (lv_at hl 3 rfl) ?_
    refine va_iast hx hb hKN.1 hP hD hS 3 1 rfl rfl (vp_in_iff.mpr ⟨by omega, by omega⟩) dX3_addMan_38 (fun H locs hP hD hS => ?_)
    have hP : va_P D vwCl [(h0, .inr (3, [.int g_odds, .int g_pot, .int g_lines, .int g_men, .int g_clauses, .int g_winds, .int g_far0, .int g_far1, .ref g_qsides, .ref g_qgrips, .ref g_qwits, .ref g_qsays, .ref g_qgives0, .ref g_qgives1, .ref g_qfroms, .ref g_qtos])), (g_qsides, .inl (cA 1, 8, .inl f_4)), (g_qgrips, .inl (cA 1, 8, .inl f_5)), (g_qwits, .inl (cA 1, 8, .inl (upd g_cwits g_men.toNatClampNeg p2)))] H := hP
    have hD : va_D A [(h0, .inr (3, [.int g_odds, .int g_pot, .int g_lines, .int g_men, .int g_clauses, .int g_winds, .int g_far0, .int g_far1, .ref g_qsides, .ref g_qgrips, .ref g_qwits, .ref g_qsays, .ref g_qgives0, .ref g_qgives1, .ref g_qfroms, .ref g_qtos])), (g_qsides, .inl (cA 1, 8, .inl f_4)), (g_qgrips, .inl (cA 1, 8, .inl f_5)), (g_qwits, .inl (cA 1, 8, .inl (upd g_cwits g_men.toNatClampNeg p2)))] := hD
    generalize ef_6 : (upd g_cwits g_men.toNatClampNeg p2) = f_6 at hP hD
    refine lv_aload_n hx hb dX3_addMan_39 rfl (lv_at hl 0 rfl) ?_
    refine lv_dup hx hb dX3_addMan_40 rfl ?_
    refine va_get (D := D) (ci := 3) (v := .int g_men) (C := RX3) (T := TX3) (N := 16) hx hb hts inX3 hown hKN.1 hP 0 rfl rfl 3 (by decide) (hts _ tw_167) (fun _ h9 => h9) rfl dX3_addMan_41 ?_
    refine lv_iconst (v := 1) hx hb dX3_addMan_44 (by decide) ?_
    refine lv_iadd hx hb dX3_addMan_45 ?_
    refine lv_topi (fun x_7 ex_7 => ?_)
    have k_8 := ar_add rfl zi_1 ex_7 (by omega) (by omega)
    refine va_put (D := D) (ci := 3) (v := .int x_7) (ty := .int) (C := RX3) (T := TX3) (N := 16) hx hb hts inX3 tyX3 tyX3_ok nmX3 hown hKN.1 hP hD hS 0 rfl rfl 3 (by decide) (hts _ tw_167) (fun _ h9 => h9) rfl (by decide +kernel) rfl rfl (Nat.le_of_ble_eq_true rfl) dX3_addMan_46 (fun H locs hP hD hS => ?_)
    have hP : va_P D vwCl [(h0, .inr (3, [.int g_odds, .int g_pot, .int g_lines, .int x_7, .int g_clauses, .int g_winds, .int g_far0, .int g_far1, .ref g_qsides, .ref g_qgrips, .ref g_qwits, .ref g_qsays, .ref g_qgives0, .ref g_qgives1, .ref g_qfroms, .ref g_qtos])), (g_qsides, .inl (cA 1, 8, .inl f_4)), (g_qgrips, .inl (cA 1, 8, .inl f_5)), (g_qwits, .inl (cA 1, 8, .inl f_6))] H := hP
    have hD : va_D A [(h0, .inr (3, [.int g_odds, .int g_pot, .int g_lines, .int x_7, .int g_clauses, .int g_winds, .int g_far0, .int g_far1, .ref g_qsides, .ref g_qgrips, .ref g_qwits, .ref g_qsays, .ref g_qgives0, .ref g_qgives1, .ref g_qfroms, .ref g_qtos])), (g_qsides, .inl (cA 1, 8, .inl f_4)), (g_qgrips, .inl (cA 1, 8, .inl f_5)), (g_qwits, .inl (cA 1, 8, .inl f_6))] := hD
    have hP9 := hP.sub (ws' := [(h0, .inr (3, [.int g_odds, .int g_pot, .int g_lines, .int x_7, .int g_clauses, .int g_winds, .int g_far0, .int g_far1, .ref g_qsides, .ref g_qgrips, .ref g_qwits, .ref g_qsays, .ref g_qgives0, .ref g_qgives1, .ref g_qfroms, .ref g_qtos])), (g_qsides, .inl (cA 1, 8, .inl f_4)), (g_qgrips, .inl (cA 1, 8, .inl f_5)), (g_qwits, .inl (cA 1, 8, .inl f_6))]) [0, 1, 2, 3] rfl
    have hD9 := hD.sub (ws' := [(h0, .inr (3, [.int g_odds, .int g_pot, .int g_lines, .int x_7, .int g_clauses, .int g_winds, .int g_far0, .int g_far1, .ref g_qsides, .ref g_qgrips, .ref g_qwits, .ref g_qsays, .ref g_qgives0, .ref g_qgives1, .ref g_qfroms, .ref g_qtos])), (g_qsides, .inl (cA 1, 8, .inl f_4)), (g_qgrips, .inl (cA 1, 8, .inl f_5)), (g_qwits, .inl (cA 1, 8, .inl f_6))]) [0, 1, 2, 3] (by decide) rfl
    exact W.vret hx hb hr (fun t ht hW => ⟨⟨((fun _ => 0), (selI [x_7]), (selF [f_4, f_5, f_6]), (fun _ _ => 0)), rfl, (show 1 ≤ x_7.toInt ∧ x_7.toInt ≤ 8 from by omega), by rw [ht]; exact hP9, hD9⟩, hS.F ht⟩) hS.2.2 dX3_addMan_49
set_option maxHeartbeats 8000000 in
set_option maxRecDepth 100000 in
theorem g_X3_addClause (l : Launch) (D : va_G) (cA : Nat → ClassId) (sz : Nat) (h0 : Nat) (g_odds : Int32) (g_pot : Int32) (g_lines : Int32) (g_men : Int32) (g_clauses : Int32) (g_winds : Int32) (g_far0 : Int32) (g_far1 : Int32) (g_qsides : Nat) (g_qgrips : Nat) (g_qwits : Nat) (g_qsays : Nat) (g_qgives0 : Nat) (g_qgives1 : Nat) (g_qfroms : Nat) (g_qtos : Nat) (g_csays : Nat → Int32) (g_cgives0 : Nat → Int32) (g_cgives1 : Nat → Int32) (p0 : Int32) (p1 : Int32) (p2 : Int32) (h_g_odds : -999 ≤ (g_odds : Int32).toInt ∧ (g_odds : Int32).toInt ≤ 999) (h_g_pot : -999 ≤ (g_pot : Int32).toInt ∧ (g_pot : Int32).toInt ≤ 999) (h_g_men : 0 ≤ (g_men : Int32).toInt ∧ (g_men : Int32).toInt ≤ 8) (h_g_clauses : 0 ≤ (g_clauses : Int32).toInt ∧ (g_clauses : Int32).toInt ≤ 7) (h_g_winds : 0 ≤ (g_winds : Int32).toInt ∧ (g_winds : Int32).toInt ≤ 4) (h_g_far0 : -999 ≤ (g_far0 : Int32).toInt ∧ (g_far0 : Int32).toInt ≤ 999) (h_g_far1 : -999 ≤ (g_far1 : Int32).toInt ∧ (g_far1 : Int32).toInt ≤ 999) : Met l yX3_addClause (Cond.code yX3_addClause cX3_addClause 4 none :: TB) (rmd 0 0 0) (PM D cA sz [(h0, .inr (3, [.int g_odds, .int g_pot, .int g_lines, .int g_men, .int g_clauses, .int g_winds, .int g_far0, .int g_far1, .ref g_qsides, .ref g_qgrips, .ref g_qwits, .ref g_qsays, .ref g_qgives0, .ref g_qgives1, .ref g_qfroms, .ref g_qtos])), (g_qsays, .inl (cA 1, 7, .inl g_csays)), (g_qgives0, .inl (cA 1, 7, .inl g_cgives0)), (g_qgives1, .inl (cA 1, 7, .inl g_cgives1))] [.ref h0, .int p0, .int p1, .int p2]) (va_Qv (fun (u : SU) => (1 ≤ (u.2.1 0).toInt ∧ (u.2.1 0).toInt ≤ 7)) (fun u t => va_P D vwCl [(h0, .inr (3, [.int g_odds, .int g_pot, .int g_lines, .int g_men, .int (u.2.1 0), .int g_winds, .int g_far0, .int g_far1, .ref g_qsides, .ref g_qgrips, .ref g_qwits, .ref g_qsays, .ref g_qgives0, .ref g_qgives1, .ref g_qfroms, .ref g_qtos])), (g_qsays, .inl (cA 1, 7, .inl (u.2.2.1 0))), (g_qgives0, .inl (cA 1, 7, .inl (u.2.2.1 1))), (g_qgives1, .inl (cA 1, 7, .inl (u.2.2.1 2)))] t.heap ∧ va_D (va_A [(h0, .inr (3, [.int g_odds, .int g_pot, .int g_lines, .int g_men, .int g_clauses, .int g_winds, .int g_far0, .int g_far1, .ref g_qsides, .ref g_qgrips, .ref g_qwits, .ref g_qsays, .ref g_qgives0, .ref g_qgives1, .ref g_qfroms, .ref g_qtos])), (g_qsays, .inl (cA 1, 7, .inl g_csays)), (g_qgives0, .inl (cA 1, 7, .inl g_cgives0)), (g_qgives1, .inl (cA 1, 7, .inl g_cgives1))] sz) [(h0, .inr (3, [.int g_odds, .int g_pot, .int g_lines, .int g_men, .int (u.2.1 0), .int g_winds, .int g_far0, .int g_far1, .ref g_qsides, .ref g_qgrips, .ref g_qwits, .ref g_qsays, .ref g_qgives0, .ref g_qgives1, .ref g_qfroms, .ref g_qtos])), (g_qsays, .inl (cA 1, 7, .inl (u.2.2.1 0))), (g_qgives0, .inl (cA 1, 7, .inl (u.2.2.1 1))), (g_qgives1, .inl (cA 1, 7, .inl (u.2.2.1 2)))]) (va_A [(h0, .inr (3, [.int g_odds, .int g_pot, .int g_lines, .int g_men, .int g_clauses, .int g_winds, .int g_far0, .int g_far1, .ref g_qsides, .ref g_qgrips, .ref g_qwits, .ref g_qsays, .ref g_qgives0, .ref g_qgives1, .ref g_qfroms, .ref g_qtos])), (g_qsays, .inl (cA 1, 7, .inl g_csays)), (g_qgives0, .inl (cA 1, 7, .inl g_cgives0)), (g_qgives1, .inl (cA 1, 7, .inl g_cgives1))] sz)) 0 0 (va_A [(h0, .inr (3, [.int g_odds, .int g_pot, .int g_lines, .int g_men, .int g_clauses, .int g_winds, .int g_far0, .int g_far1, .ref g_qsides, .ref g_qgrips, .ref g_qwits, .ref g_qsays, .ref g_qgives0, .ref g_qgives1, .ref g_qfroms, .ref g_qtos])), (g_qsays, .inl (cA 1, 7, .inl g_csays)), (g_qgives0, .inl (cA 1, 7, .inl g_cgives0)), (g_qgives1, .inl (cA 1, 7, .inl g_cgives1))] sz) := by
  refine Met.ofW (cc := cX3_addClause) (maxL := 4) (ret := none) (by decide) rfl ?_
  intro p e s m args below meth c s₁ B hml hv
  obtain ⟨rfl, hsz, hP, hKN, hD0⟩ := hv
  have hx := B.exec
  have hb := B.bytes
  have hr := B.returns
  have hts : ∀ w ∈ TB, w.before _ s = true := fun w h => atoms_spec B.pre w (List.mem_cons_of_mem _ h)
  have hown : s.vm.findClass RX3 = some m.cls := findClass_of_methodNamed B.named
  have hlocks := B.notSynchronized
  subst hsz
  have hD := hD0.self (sz := s.heap.size)
  generalize hAe : va_A [(h0, .inr (3, [.int g_odds, .int g_pot, .int g_lines, .int g_men, .int g_clauses, .int g_winds, .int g_far0, .int g_far1, .ref g_qsides, .ref g_qgrips, .ref g_qwits, .ref g_qsays, .ref g_qgives0, .ref g_qgives1, .ref g_qfroms, .ref g_qtos])), (g_qsays, .inl (cA 1, 7, .inl g_csays)), (g_qgives0, .inl (cA 1, 7, .inl g_cgives0)), (g_qgives1, .inl (cA 1, 7, .inl g_cgives1))] s.heap.size = A at hD ⊢
  have hA : ∀ q : Nat, s.heap.size ≤ q → A q := fun q h => by rw [← hAe]; exact Or.inr h
  have hS : va_S A s.heap s.heap [] := va_S.rf
  have hl := lv_entry ([.ref h0, .int p0, .int p1, .int p2]) (n := 4) (Nat.le_of_ble_eq_true rfl)
  rw [lg_entry_eq]
  generalize (lg_sl ([.ref h0, .int p0, .int p1, .int p2]) ++ List.replicate (4 - (lg_sl ([.ref h0, .int p0, .int p1, .int p2])).length) Slot.unset).toArray = ls at hl ⊢
  have hl : lv_has ls 4 [(0, .ref h0), (1, .int p0), (2, .int p1), (3, .int p2)] := hl
  refine lv_aload_n hx hb dX3_addClause_0 rfl (lv_at hl 0 rfl) ?_
  refine va_get (D := D) (ci := 3) (v := .int g_clauses) (C := RX3) (T := TX3) (N := 16) hx hb hts inX3 hown hKN.1 hP 0 rfl rfl 4 (by decide) (hts _ tw_172) (fun _ h9 => h9) rfl dX3_addClause_1 ?_
  refine lv_bipush (v := 7) hx hb dX3_addClause_4 (by decide) ?_
  refine lv_icmp_ge (tgt := 49) hx hb dX3_addClause_6 (by decide) (fun c_1 => ?_) (fun c_1 => ?_)
  · skip
    have k_2 := kk_le zi_7 rfl c_1
    have hP9 := hP.sub (ws' := [(h0, .inr (3, [.int g_odds, .int g_pot, .int g_lines, .int g_men, .int g_clauses, .int g_winds, .int g_far0, .int g_far1, .ref g_qsides, .ref g_qgrips, .ref g_qwits, .ref g_qsays, .ref g_qgives0, .ref g_qgives1, .ref g_qfroms, .ref g_qtos])), (g_qsays, .inl (cA 1, 7, .inl g_csays)), (g_qgives0, .inl (cA 1, 7, .inl g_cgives0)), (g_qgives1, .inl (cA 1, 7, .inl g_cgives1))]) [0, 1, 2, 3] rfl
    have hD9 := hD.sub (ws' := [(h0, .inr (3, [.int g_odds, .int g_pot, .int g_lines, .int g_men, .int g_clauses, .int g_winds, .int g_far0, .int g_far1, .ref g_qsides, .ref g_qgrips, .ref g_qwits, .ref g_qsays, .ref g_qgives0, .ref g_qgives1, .ref g_qfroms, .ref g_qtos])), (g_qsays, .inl (cA 1, 7, .inl g_csays)), (g_qgives0, .inl (cA 1, 7, .inl g_cgives0)), (g_qgives1, .inl (cA 1, 7, .inl g_cgives1))]) [0, 1, 2, 3] (by decide) rfl
    exact W.vret hx hb hr (fun t ht hW => ⟨⟨((fun _ => 0), (selI [g_clauses]), (selF [g_csays, g_cgives0, g_cgives1]), (fun _ _ => 0)), rfl, (show 1 ≤ g_clauses.toInt ∧ g_clauses.toInt ≤ 7 from by omega), by rw [ht]; exact hP9, hD9⟩, hS.F ht⟩) hS.2.2 dX3_addClause_49
  · skip
    have k_3 := kk_nle zi_7 rfl c_1
    refine lv_aload_n hx hb dX3_addClause_9 rfl (lv_at hl 0 rfl) ?_
    refine va_get (D := D) (ci := 3) (v := .ref g_qsays) (C := RX3) (T := TX3) (N := 16) hx hb hts inX3 hown hKN.1 hP 0 rfl rfl 11 (by decide) (hts _ tw_185) (fun _ h9 => h9) rfl dX3_addClause_10 ?_
    refine lv_aload_n hx hb dX3_addClause_13 rfl (lv_at hl 0 rfl) ?_
    refine va_get (D := D) (ci := 3) (v := .int g_clauses) (C := RX3) (T := TX3) (N := 16) hx hb hts inX3 hown hKN.1 hP 0 rfl rfl 4 (by decide) (hts _ tw_172) (fun _ h9 => h9) rfl dX3_addClause_14 ?_
    refine lv_iload_n hx hb dX3_addClause_17 rfl (lv_at hl 1 rfl) ?_
    refine va_iast hx hb hKN.1 hP hD hS 1 1 rfl rfl (vp_in_iff.mpr ⟨by omega, by omega⟩) dX3_addClause_18 (fun H locs hP hD hS => ?_)
    have hP : va_P D vwCl [(h0, .inr (3, [.int g_odds, .int g_pot, .int g_lines, .int g_men, .int g_clauses, .int g_winds, .int g_far0, .int g_far1, .ref g_qsides, .ref g_qgrips, .ref g_qwits, .ref g_qsays, .ref g_qgives0, .ref g_qgives1, .ref g_qfroms, .ref g_qtos])), (g_qsays, .inl (cA 1, 7, .inl (upd g_csays g_clauses.toNatClampNeg p0))), (g_qgives0, .inl (cA 1, 7, .inl g_cgives0)), (g_qgives1, .inl (cA 1, 7, .inl g_cgives1))] H := hP
    have hD : va_D A [(h0, .inr (3, [.int g_odds, .int g_pot, .int g_lines, .int g_men, .int g_clauses, .int g_winds, .int g_far0, .int g_far1, .ref g_qsides, .ref g_qgrips, .ref g_qwits, .ref g_qsays, .ref g_qgives0, .ref g_qgives1, .ref g_qfroms, .ref g_qtos])), (g_qsays, .inl (cA 1, 7, .inl (upd g_csays g_clauses.toNatClampNeg p0))), (g_qgives0, .inl (cA 1, 7, .inl g_cgives0)), (g_qgives1, .inl (cA 1, 7, .inl g_cgives1))] := hD
    generalize ef_4 : (upd g_csays g_clauses.toNatClampNeg p0) = f_4 at hP hD
    refine lv_aload_n hx hb dX3_addClause_19 rfl (lv_at hl 0 rfl) ?_
    refine va_get (D := D) (ci := 3) (v := .ref g_qgives0) (C := RX3) (T := TX3) (N := 16) hx hb hts inX3 hown hKN.1 hP 0 rfl rfl 12 (by decide) (hts _ tw_186) (fun _ h9 => h9) rfl dX3_addClause_20 ?_
    refine lv_aload_n hx hb dX3_addClause_23 rfl (lv_at hl 0 rfl) ?_
    refine va_get (D := D) (ci := 3) (v := .int g_clauses) (C := RX3) (T := TX3) (N := 16) hx hb hts inX3 hown hKN.1 hP 0 rfl rfl 4 (by decide) (hts _ tw_172) (fun _ h9 => h9) rfl dX3_addClause_24 ?_
    refine lv_iload_n hx hb dX3_addClause_27 rfl (lv_at hl 2 rfl) ?_
    refine va_iast hx hb hKN.1 hP hD hS 2 1 rfl rfl (vp_in_iff.mpr ⟨by omega, by omega⟩) dX3_addClause_28 (fun H locs hP hD hS => ?_)
    have hP : va_P D vwCl [(h0, .inr (3, [.int g_odds, .int g_pot, .int g_lines, .int g_men, .int g_clauses, .int g_winds, .int g_far0, .int g_far1, .ref g_qsides, .ref g_qgrips, .ref g_qwits, .ref g_qsays, .ref g_qgives0, .ref g_qgives1, .ref g_qfroms, .ref g_qtos])), (g_qsays, .inl (cA 1, 7, .inl f_4)), (g_qgives0, .inl (cA 1, 7, .inl (upd g_cgives0 g_clauses.toNatClampNeg p1))), (g_qgives1, .inl (cA 1, 7, .inl g_cgives1))] H := hP
    have hD : va_D A [(h0, .inr (3, [.int g_odds, .int g_pot, .int g_lines, .int g_men, .int g_clauses, .int g_winds, .int g_far0, .int g_far1, .ref g_qsides, .ref g_qgrips, .ref g_qwits, .ref g_qsays, .ref g_qgives0, .ref g_qgives1, .ref g_qfroms, .ref g_qtos])), (g_qsays, .inl (cA 1, 7, .inl f_4)), (g_qgives0, .inl (cA 1, 7, .inl (upd g_cgives0 g_clauses.toNatClampNeg p1))), (g_qgives1, .inl (cA 1, 7, .inl g_cgives1))] := hD
    generalize ef_5 : (upd g_cgives0 g_clauses.toNatClampNeg p1) = f_5 at hP hD
    refine lv_aload_n hx hb dX3_addClause_29 rfl (lv_at hl 0 rfl) ?_
    refine va_get (D := D) (ci := 3) (v := .ref g_qgives1) (C := RX3) (T := TX3) (N := 16) hx hb hts inX3 hown hKN.1 hP 0 rfl rfl 13 (by decide) (hts _ tw_187) (fun _ h9 => h9) rfl dX3_addClause_30 ?_
    refine lv_aload_n hx hb dX3_addClause_33 rfl (lv_at hl 0 rfl) ?_
    refine va_get (D := D) (ci := 3) (v := .int g_clauses) (C := RX3) (T := TX3) (N := 16) hx hb hts inX3 hown hKN.1 hP 0 rfl rfl 4 (by decide) (hts _ tw_172) (fun _ h9 => h9) rfl dX3_addClause_34 ?_
    refine lv_iload_n hx hb dX3_addClause_37 rfl (lv_at hl 3 rfl) ?_
    refine va_iast hx hb hKN.1 hP hD hS 3 1 rfl rfl (vp_in_iff.mpr ⟨by omega, by omega⟩) dX3_addClause_38 (fun H locs hP hD hS => ?_)
    have hP : va_P D vwCl [(h0, .inr (3, [.int g_odds, .int g_pot, .int g_lines, .int g_men, .int g_clauses, .int g_winds, .int g_far0, .int g_far1, .ref g_qsides, .ref g_qgrips, .ref g_qwits, .ref g_qsays, .ref g_qgives0, .ref g_qgives1, .ref g_qfroms, .ref g_qtos])), (g_qsays, .inl (cA 1, 7, .inl f_4)), (g_qgives0, .inl (cA 1, 7, .inl f_5)), (g_qgives1, .inl (cA 1, 7, .inl (upd g_cgives1 g_clauses.toNatClampNeg p2)))] H := hP
    have hD : va_D A [(h0, .inr (3, [.int g_odds, .int g_pot, .int g_lines, .int g_men, .int g_clauses, .int g_winds, .int g_far0, .int g_far1, .ref g_qsides, .ref g_qgrips, .ref g_qwits, .ref g_qsays, .ref g_qgives0, .ref g_qgives1, .ref g_qfroms, .ref g_qtos])), (g_qsays, .inl (cA 1, 7, .inl f_4)), (g_qgives0, .inl (cA 1, 7, .inl f_5)), (g_qgives1, .inl (cA 1, 7, .inl (upd g_cgives1 g_clauses.toNatClampNeg p2)))] := hD
    generalize ef_6 : (upd g_cgives1 g_clauses.toNatClampNeg p2) = f_6 at hP hD
    refine lv_aload_n hx hb dX3_addClause_39 rfl (lv_at hl 0 rfl) ?_
    refine lv_dup hx hb dX3_addClause_40 rfl ?_
    refine va_get (D := D) (ci := 3) (v := .int g_clauses) (C := RX3) (T := TX3) (N := 16) hx hb hts inX3 hown hKN.1 hP 0 rfl rfl 4 (by decide) (hts _ tw_172) (fun _ h9 => h9) rfl dX3_addClause_41 ?_
    refine lv_iconst (v := 1) hx hb dX3_addClause_44 (by decide) ?_
    refine lv_iadd hx hb dX3_addClause_45 ?_
    refine lv_topi (fun x_7 ex_7 => ?_)
    have k_8 := ar_add rfl zi_1 ex_7 (by omega) (by omega)
    refine va_put (D := D) (ci := 3) (v := .int x_7) (ty := .int) (C := RX3) (T := TX3) (N := 16) hx hb hts inX3 tyX3 tyX3_ok nmX3 hown hKN.1 hP hD hS 0 rfl rfl 4 (by decide) (hts _ tw_172) (fun _ h9 => h9) rfl (by decide +kernel) rfl rfl (Nat.le_of_ble_eq_true rfl) dX3_addClause_46 (fun H locs hP hD hS => ?_)
    have hP : va_P D vwCl [(h0, .inr (3, [.int g_odds, .int g_pot, .int g_lines, .int g_men, .int x_7, .int g_winds, .int g_far0, .int g_far1, .ref g_qsides, .ref g_qgrips, .ref g_qwits, .ref g_qsays, .ref g_qgives0, .ref g_qgives1, .ref g_qfroms, .ref g_qtos])), (g_qsays, .inl (cA 1, 7, .inl f_4)), (g_qgives0, .inl (cA 1, 7, .inl f_5)), (g_qgives1, .inl (cA 1, 7, .inl f_6))] H := hP
    have hD : va_D A [(h0, .inr (3, [.int g_odds, .int g_pot, .int g_lines, .int g_men, .int x_7, .int g_winds, .int g_far0, .int g_far1, .ref g_qsides, .ref g_qgrips, .ref g_qwits, .ref g_qsays, .ref g_qgives0, .ref g_qgives1, .ref g_qfroms, .ref g_qtos])), (g_qsays, .inl (cA 1, 7, .inl f_4)), (g_qgives0, .inl (cA 1, 7, .inl f_5)), (g_qgives1, .inl (cA 1, 7, .inl f_6))] := hD
    have hP9 := hP.sub (ws' := [(h0, .inr (3, [.int g_odds, .int g_pot, .int g_lines, .int g_men, .int x_7, .int g_winds, .int g_far0, .int g_far1, .ref g_qsides, .ref g_qgrips, .ref g_qwits, .ref g_qsays, .ref g_qgives0, .ref g_qgives1, .ref g_qfroms, .ref g_qtos])), (g_qsays, .inl (cA 1, 7, .inl f_4)), (g_qgives0, .inl (cA 1, 7, .inl f_5)), (g_qgives1, .inl (cA 1, 7, .inl f_6))]) [0, 1, 2, 3] rfl
    have hD9 := hD.sub (ws' := [(h0, .inr (3, [.int g_odds, .int g_pot, .int g_lines, .int g_men, .int x_7, .int g_winds, .int g_far0, .int g_far1, .ref g_qsides, .ref g_qgrips, .ref g_qwits, .ref g_qsays, .ref g_qgives0, .ref g_qgives1, .ref g_qfroms, .ref g_qtos])), (g_qsays, .inl (cA 1, 7, .inl f_4)), (g_qgives0, .inl (cA 1, 7, .inl f_5)), (g_qgives1, .inl (cA 1, 7, .inl f_6))]) [0, 1, 2, 3] (by decide) rfl
    exact W.vret hx hb hr (fun t ht hW => ⟨⟨((fun _ => 0), (selI [x_7]), (selF [f_4, f_5, f_6]), (fun _ _ => 0)), rfl, (show 1 ≤ x_7.toInt ∧ x_7.toInt ≤ 7 from by omega), by rw [ht]; exact hP9, hD9⟩, hS.F ht⟩) hS.2.2 dX3_addClause_49
set_option maxHeartbeats 8000000 in
set_option maxRecDepth 100000 in
theorem g_X3_addWind (l : Launch) (D : va_G) (cA : Nat → ClassId) (sz : Nat) (h0 : Nat) (g_odds : Int32) (g_pot : Int32) (g_lines : Int32) (g_men : Int32) (g_clauses : Int32) (g_winds : Int32) (g_far0 : Int32) (g_far1 : Int32) (g_qsides : Nat) (g_qgrips : Nat) (g_qwits : Nat) (g_qsays : Nat) (g_qgives0 : Nat) (g_qgives1 : Nat) (g_qfroms : Nat) (g_qtos : Nat) (g_cfroms : Nat → Int32) (g_ctos : Nat → Int32) (p0 : Int32) (p1 : Int32) (h_g_odds : -999 ≤ (g_odds : Int32).toInt ∧ (g_odds : Int32).toInt ≤ 999) (h_g_pot : -999 ≤ (g_pot : Int32).toInt ∧ (g_pot : Int32).toInt ≤ 999) (h_g_men : 0 ≤ (g_men : Int32).toInt ∧ (g_men : Int32).toInt ≤ 8) (h_g_clauses : 0 ≤ (g_clauses : Int32).toInt ∧ (g_clauses : Int32).toInt ≤ 7) (h_g_winds : 0 ≤ (g_winds : Int32).toInt ∧ (g_winds : Int32).toInt ≤ 4) (h_g_far0 : -999 ≤ (g_far0 : Int32).toInt ∧ (g_far0 : Int32).toInt ≤ 999) (h_g_far1 : -999 ≤ (g_far1 : Int32).toInt ∧ (g_far1 : Int32).toInt ≤ 999) : Met l yX3_addWind (Cond.code yX3_addWind cX3_addWind 3 none :: TB) (rmd 0 0 0) (PM D cA sz [(h0, .inr (3, [.int g_odds, .int g_pot, .int g_lines, .int g_men, .int g_clauses, .int g_winds, .int g_far0, .int g_far1, .ref g_qsides, .ref g_qgrips, .ref g_qwits, .ref g_qsays, .ref g_qgives0, .ref g_qgives1, .ref g_qfroms, .ref g_qtos])), (g_qfroms, .inl (cA 1, 4, .inl g_cfroms)), (g_qtos, .inl (cA 1, 4, .inl g_ctos))] [.ref h0, .int p0, .int p1]) (va_Qv (fun (u : SU) => (1 ≤ (u.2.1 0).toInt ∧ (u.2.1 0).toInt ≤ 4)) (fun u t => va_P D vwCl [(h0, .inr (3, [.int g_odds, .int g_pot, .int g_lines, .int g_men, .int g_clauses, .int (u.2.1 0), .int g_far0, .int g_far1, .ref g_qsides, .ref g_qgrips, .ref g_qwits, .ref g_qsays, .ref g_qgives0, .ref g_qgives1, .ref g_qfroms, .ref g_qtos])), (g_qfroms, .inl (cA 1, 4, .inl (u.2.2.1 0))), (g_qtos, .inl (cA 1, 4, .inl (u.2.2.1 1)))] t.heap ∧ va_D (va_A [(h0, .inr (3, [.int g_odds, .int g_pot, .int g_lines, .int g_men, .int g_clauses, .int g_winds, .int g_far0, .int g_far1, .ref g_qsides, .ref g_qgrips, .ref g_qwits, .ref g_qsays, .ref g_qgives0, .ref g_qgives1, .ref g_qfroms, .ref g_qtos])), (g_qfroms, .inl (cA 1, 4, .inl g_cfroms)), (g_qtos, .inl (cA 1, 4, .inl g_ctos))] sz) [(h0, .inr (3, [.int g_odds, .int g_pot, .int g_lines, .int g_men, .int g_clauses, .int (u.2.1 0), .int g_far0, .int g_far1, .ref g_qsides, .ref g_qgrips, .ref g_qwits, .ref g_qsays, .ref g_qgives0, .ref g_qgives1, .ref g_qfroms, .ref g_qtos])), (g_qfroms, .inl (cA 1, 4, .inl (u.2.2.1 0))), (g_qtos, .inl (cA 1, 4, .inl (u.2.2.1 1)))]) (va_A [(h0, .inr (3, [.int g_odds, .int g_pot, .int g_lines, .int g_men, .int g_clauses, .int g_winds, .int g_far0, .int g_far1, .ref g_qsides, .ref g_qgrips, .ref g_qwits, .ref g_qsays, .ref g_qgives0, .ref g_qgives1, .ref g_qfroms, .ref g_qtos])), (g_qfroms, .inl (cA 1, 4, .inl g_cfroms)), (g_qtos, .inl (cA 1, 4, .inl g_ctos))] sz)) 0 0 (va_A [(h0, .inr (3, [.int g_odds, .int g_pot, .int g_lines, .int g_men, .int g_clauses, .int g_winds, .int g_far0, .int g_far1, .ref g_qsides, .ref g_qgrips, .ref g_qwits, .ref g_qsays, .ref g_qgives0, .ref g_qgives1, .ref g_qfroms, .ref g_qtos])), (g_qfroms, .inl (cA 1, 4, .inl g_cfroms)), (g_qtos, .inl (cA 1, 4, .inl g_ctos))] sz) := by
  refine Met.ofW (cc := cX3_addWind) (maxL := 3) (ret := none) (by decide) rfl ?_
  intro p e s m args below meth c s₁ B hml hv
  obtain ⟨rfl, hsz, hP, hKN, hD0⟩ := hv
  have hx := B.exec
  have hb := B.bytes
  have hr := B.returns
  have hts : ∀ w ∈ TB, w.before _ s = true := fun w h => atoms_spec B.pre w (List.mem_cons_of_mem _ h)
  have hown : s.vm.findClass RX3 = some m.cls := findClass_of_methodNamed B.named
  have hlocks := B.notSynchronized
  subst hsz
  have hD := hD0.self (sz := s.heap.size)
  generalize hAe : va_A [(h0, .inr (3, [.int g_odds, .int g_pot, .int g_lines, .int g_men, .int g_clauses, .int g_winds, .int g_far0, .int g_far1, .ref g_qsides, .ref g_qgrips, .ref g_qwits, .ref g_qsays, .ref g_qgives0, .ref g_qgives1, .ref g_qfroms, .ref g_qtos])), (g_qfroms, .inl (cA 1, 4, .inl g_cfroms)), (g_qtos, .inl (cA 1, 4, .inl g_ctos))] s.heap.size = A at hD ⊢
  have hA : ∀ q : Nat, s.heap.size ≤ q → A q := fun q h => by rw [← hAe]; exact Or.inr h
  have hS : va_S A s.heap s.heap [] := va_S.rf
  have hl := lv_entry ([.ref h0, .int p0, .int p1]) (n := 3) (Nat.le_of_ble_eq_true rfl)
  rw [lg_entry_eq]
  generalize (lg_sl ([.ref h0, .int p0, .int p1]) ++ List.replicate (3 - (lg_sl ([.ref h0, .int p0, .int p1])).length) Slot.unset).toArray = ls at hl ⊢
  have hl : lv_has ls 3 [(0, .ref h0), (1, .int p0), (2, .int p1)] := hl
  refine lv_aload_n hx hb dX3_addWind_0 rfl (lv_at hl 0 rfl) ?_
  refine va_get (D := D) (ci := 3) (v := .int g_winds) (C := RX3) (T := TX3) (N := 16) hx hb hts inX3 hown hKN.1 hP 0 rfl rfl 5 (by decide) (hts _ tw_177) (fun _ h9 => h9) rfl dX3_addWind_1 ?_
  refine lv_iconst (v := 4) hx hb dX3_addWind_4 (by decide) ?_
  refine lv_icmp_ge (tgt := 38) hx hb dX3_addWind_5 (by decide) (fun c_1 => ?_) (fun c_1 => ?_)
  · skip
    have k_2 := kk_le zi_4 rfl c_1
    have hP9 := hP.sub (ws' := [(h0, .inr (3, [.int g_odds, .int g_pot, .int g_lines, .int g_men, .int g_clauses, .int g_winds, .int g_far0, .int g_far1, .ref g_qsides, .ref g_qgrips, .ref g_qwits, .ref g_qsays, .ref g_qgives0, .ref g_qgives1, .ref g_qfroms, .ref g_qtos])), (g_qfroms, .inl (cA 1, 4, .inl g_cfroms)), (g_qtos, .inl (cA 1, 4, .inl g_ctos))]) [0, 1, 2] rfl
    have hD9 := hD.sub (ws' := [(h0, .inr (3, [.int g_odds, .int g_pot, .int g_lines, .int g_men, .int g_clauses, .int g_winds, .int g_far0, .int g_far1, .ref g_qsides, .ref g_qgrips, .ref g_qwits, .ref g_qsays, .ref g_qgives0, .ref g_qgives1, .ref g_qfroms, .ref g_qtos])), (g_qfroms, .inl (cA 1, 4, .inl g_cfroms)), (g_qtos, .inl (cA 1, 4, .inl g_ctos))]) [0, 1, 2] (by decide) rfl
    exact W.vret hx hb hr (fun t ht hW => ⟨⟨((fun _ => 0), (selI [g_winds]), (selF [g_cfroms, g_ctos]), (fun _ _ => 0)), rfl, (show 1 ≤ g_winds.toInt ∧ g_winds.toInt ≤ 4 from by omega), by rw [ht]; exact hP9, hD9⟩, hS.F ht⟩) hS.2.2 dX3_addWind_38
  · skip
    have k_3 := kk_nle zi_4 rfl c_1
    refine lv_aload_n hx hb dX3_addWind_8 rfl (lv_at hl 0 rfl) ?_
    refine va_get (D := D) (ci := 3) (v := .ref g_qfroms) (C := RX3) (T := TX3) (N := 16) hx hb hts inX3 hown hKN.1 hP 0 rfl rfl 14 (by decide) (hts _ tw_188) (fun _ h9 => h9) rfl dX3_addWind_9 ?_
    refine lv_aload_n hx hb dX3_addWind_12 rfl (lv_at hl 0 rfl) ?_
    refine va_get (D := D) (ci := 3) (v := .int g_winds) (C := RX3) (T := TX3) (N := 16) hx hb hts inX3 hown hKN.1 hP 0 rfl rfl 5 (by decide) (hts _ tw_177) (fun _ h9 => h9) rfl dX3_addWind_13 ?_
    refine lv_iload_n hx hb dX3_addWind_16 rfl (lv_at hl 1 rfl) ?_
    refine va_iast hx hb hKN.1 hP hD hS 1 1 rfl rfl (vp_in_iff.mpr ⟨by omega, by omega⟩) dX3_addWind_17 (fun H locs hP hD hS => ?_)
    have hP : va_P D vwCl [(h0, .inr (3, [.int g_odds, .int g_pot, .int g_lines, .int g_men, .int g_clauses, .int g_winds, .int g_far0, .int g_far1, .ref g_qsides, .ref g_qgrips, .ref g_qwits, .ref g_qsays, .ref g_qgives0, .ref g_qgives1, .ref g_qfroms, .ref g_qtos])), (g_qfroms, .inl (cA 1, 4, .inl (upd g_cfroms g_winds.toNatClampNeg p0))), (g_qtos, .inl (cA 1, 4, .inl g_ctos))] H := hP
    have hD : va_D A [(h0, .inr (3, [.int g_odds, .int g_pot, .int g_lines, .int g_men, .int g_clauses, .int g_winds, .int g_far0, .int g_far1, .ref g_qsides, .ref g_qgrips, .ref g_qwits, .ref g_qsays, .ref g_qgives0, .ref g_qgives1, .ref g_qfroms, .ref g_qtos])), (g_qfroms, .inl (cA 1, 4, .inl (upd g_cfroms g_winds.toNatClampNeg p0))), (g_qtos, .inl (cA 1, 4, .inl g_ctos))] := hD
    generalize ef_4 : (upd g_cfroms g_winds.toNatClampNeg p0) = f_4 at hP hD
    refine lv_aload_n hx hb dX3_addWind_18 rfl (lv_at hl 0 rfl) ?_
    refine va_get (D := D) (ci := 3) (v := .ref g_qtos) (C := RX3) (T := TX3) (N := 16) hx hb hts inX3 hown hKN.1 hP 0 rfl rfl 15 (by decide) (hts _ tw_189) (fun _ h9 => h9) rfl dX3_addWind_19 ?_
    refine lv_aload_n hx hb dX3_addWind_22 rfl (lv_at hl 0 rfl) ?_
    refine va_get (D := D) (ci := 3) (v := .int g_winds) (C := RX3) (T := TX3) (N := 16) hx hb hts inX3 hown hKN.1 hP 0 rfl rfl 5 (by decide) (hts _ tw_177) (fun _ h9 => h9) rfl dX3_addWind_23 ?_
    refine lv_iload_n hx hb dX3_addWind_26 rfl (lv_at hl 2 rfl) ?_
    refine va_iast hx hb hKN.1 hP hD hS 2 1 rfl rfl (vp_in_iff.mpr ⟨by omega, by omega⟩) dX3_addWind_27 (fun H locs hP hD hS => ?_)
    have hP : va_P D vwCl [(h0, .inr (3, [.int g_odds, .int g_pot, .int g_lines, .int g_men, .int g_clauses, .int g_winds, .int g_far0, .int g_far1, .ref g_qsides, .ref g_qgrips, .ref g_qwits, .ref g_qsays, .ref g_qgives0, .ref g_qgives1, .ref g_qfroms, .ref g_qtos])), (g_qfroms, .inl (cA 1, 4, .inl f_4)), (g_qtos, .inl (cA 1, 4, .inl (upd g_ctos g_winds.toNatClampNeg p1)))] H := hP
    have hD : va_D A [(h0, .inr (3, [.int g_odds, .int g_pot, .int g_lines, .int g_men, .int g_clauses, .int g_winds, .int g_far0, .int g_far1, .ref g_qsides, .ref g_qgrips, .ref g_qwits, .ref g_qsays, .ref g_qgives0, .ref g_qgives1, .ref g_qfroms, .ref g_qtos])), (g_qfroms, .inl (cA 1, 4, .inl f_4)), (g_qtos, .inl (cA 1, 4, .inl (upd g_ctos g_winds.toNatClampNeg p1)))] := hD
    generalize ef_5 : (upd g_ctos g_winds.toNatClampNeg p1) = f_5 at hP hD
    refine lv_aload_n hx hb dX3_addWind_28 rfl (lv_at hl 0 rfl) ?_
    refine lv_dup hx hb dX3_addWind_29 rfl ?_
    refine va_get (D := D) (ci := 3) (v := .int g_winds) (C := RX3) (T := TX3) (N := 16) hx hb hts inX3 hown hKN.1 hP 0 rfl rfl 5 (by decide) (hts _ tw_177) (fun _ h9 => h9) rfl dX3_addWind_30 ?_
    refine lv_iconst (v := 1) hx hb dX3_addWind_33 (by decide) ?_
    refine lv_iadd hx hb dX3_addWind_34 ?_
    refine lv_topi (fun x_6 ex_6 => ?_)
    have k_7 := ar_add rfl zi_1 ex_6 (by omega) (by omega)
    refine va_put (D := D) (ci := 3) (v := .int x_6) (ty := .int) (C := RX3) (T := TX3) (N := 16) hx hb hts inX3 tyX3 tyX3_ok nmX3 hown hKN.1 hP hD hS 0 rfl rfl 5 (by decide) (hts _ tw_177) (fun _ h9 => h9) rfl (by decide +kernel) rfl rfl (Nat.le_of_ble_eq_true rfl) dX3_addWind_35 (fun H locs hP hD hS => ?_)
    have hP : va_P D vwCl [(h0, .inr (3, [.int g_odds, .int g_pot, .int g_lines, .int g_men, .int g_clauses, .int x_6, .int g_far0, .int g_far1, .ref g_qsides, .ref g_qgrips, .ref g_qwits, .ref g_qsays, .ref g_qgives0, .ref g_qgives1, .ref g_qfroms, .ref g_qtos])), (g_qfroms, .inl (cA 1, 4, .inl f_4)), (g_qtos, .inl (cA 1, 4, .inl f_5))] H := hP
    have hD : va_D A [(h0, .inr (3, [.int g_odds, .int g_pot, .int g_lines, .int g_men, .int g_clauses, .int x_6, .int g_far0, .int g_far1, .ref g_qsides, .ref g_qgrips, .ref g_qwits, .ref g_qsays, .ref g_qgives0, .ref g_qgives1, .ref g_qfroms, .ref g_qtos])), (g_qfroms, .inl (cA 1, 4, .inl f_4)), (g_qtos, .inl (cA 1, 4, .inl f_5))] := hD
    have hP9 := hP.sub (ws' := [(h0, .inr (3, [.int g_odds, .int g_pot, .int g_lines, .int g_men, .int g_clauses, .int x_6, .int g_far0, .int g_far1, .ref g_qsides, .ref g_qgrips, .ref g_qwits, .ref g_qsays, .ref g_qgives0, .ref g_qgives1, .ref g_qfroms, .ref g_qtos])), (g_qfroms, .inl (cA 1, 4, .inl f_4)), (g_qtos, .inl (cA 1, 4, .inl f_5))]) [0, 1, 2] rfl
    have hD9 := hD.sub (ws' := [(h0, .inr (3, [.int g_odds, .int g_pot, .int g_lines, .int g_men, .int g_clauses, .int x_6, .int g_far0, .int g_far1, .ref g_qsides, .ref g_qgrips, .ref g_qwits, .ref g_qsays, .ref g_qgives0, .ref g_qgives1, .ref g_qfroms, .ref g_qtos])), (g_qfroms, .inl (cA 1, 4, .inl f_4)), (g_qtos, .inl (cA 1, 4, .inl f_5))]) [0, 1, 2] (by decide) rfl
    exact W.vret hx hb hr (fun t ht hW => ⟨⟨((fun _ => 0), (selI [x_6]), (selF [f_4, f_5]), (fun _ _ => 0)), rfl, (show 1 ≤ x_6.toInt ∧ x_6.toInt ≤ 4 from by omega), by rw [ht]; exact hP9, hD9⟩, hS.F ht⟩) hS.2.2 dX3_addWind_38
set_option maxHeartbeats 8000000 in
set_option maxRecDepth 100000 in
theorem g_X3_isWindy (l : Launch) (D : va_G) (cA : Nat → ClassId) (h0 : Nat) (g_odds : Int32) (g_pot : Int32) (g_lines : Int32) (g_men : Int32) (g_clauses : Int32) (g_winds : Int32) (g_far0 : Int32) (g_far1 : Int32) (g_qsides : Nat) (g_qgrips : Nat) (g_qwits : Nat) (g_qsays : Nat) (g_qgives0 : Nat) (g_qgives1 : Nat) (g_qfroms : Nat) (g_qtos : Nat) (g_cfroms : Nat → Int32) (g_ctos : Nat → Int32) (p0 : Int32) (h_g_odds : -999 ≤ (g_odds : Int32).toInt ∧ (g_odds : Int32).toInt ≤ 999) (h_g_pot : -999 ≤ (g_pot : Int32).toInt ∧ (g_pot : Int32).toInt ≤ 999) (h_g_men : 0 ≤ (g_men : Int32).toInt ∧ (g_men : Int32).toInt ≤ 8) (h_g_clauses : 0 ≤ (g_clauses : Int32).toInt ∧ (g_clauses : Int32).toInt ≤ 7) (h_g_winds : 0 ≤ (g_winds : Int32).toInt ∧ (g_winds : Int32).toInt ≤ 4) (h_g_far0 : -999 ≤ (g_far0 : Int32).toInt ∧ (g_far0 : Int32).toInt ≤ 999) (h_g_far1 : -999 ≤ (g_far1 : Int32).toInt ∧ (g_far1 : Int32).toInt ≤ 999) : Met l yX3_isWindy (Cond.code yX3_isWindy cX3_isWindy 3 (some .boolean) :: TB) (rmd 1 0 0) (PP D cA [(h0, .inr (3, [.int g_odds, .int g_pot, .int g_lines, .int g_men, .int g_clauses, .int g_winds, .int g_far0, .int g_far1, .ref g_qsides, .ref g_qgrips, .ref g_qwits, .ref g_qsays, .ref g_qgives0, .ref g_qgives1, .ref g_qfroms, .ref g_qtos])), (g_qfroms, .inl (cA 1, 4, .inl g_cfroms)), (g_qtos, .inl (cA 1, 4, .inl g_ctos))] [.ref h0, .int p0]) (vp_Si (fun r => 0 ≤ r.toInt ∧ r.toInt ≤ 1)) 0 0 (fun _ => False) := by
  refine Met.ofW (cc := cX3_isWindy) (maxL := 3) (ret := (some .boolean)) (by decide) rfl ?_
  intro p e s m args below meth c s₁ B hml hv
  obtain ⟨rfl, hP, hKN⟩ := hv
  have hx := B.exec
  have hb := B.bytes
  have hr := B.returns
  have hts : ∀ w ∈ TB, w.before _ s = true := fun w h => atoms_spec B.pre w (List.mem_cons_of_mem _ h)
  have hown : s.vm.findClass RX3 = some m.cls := findClass_of_methodNamed B.named
  have hlocks := B.notSynchronized
  have hl := lv_entry ([.ref h0, .int p0]) (n := 3) (Nat.le_of_ble_eq_true rfl)
  rw [lg_entry_eq]
  generalize (lg_sl ([.ref h0, .int p0]) ++ List.replicate (3 - (lg_sl ([.ref h0, .int p0])).length) Slot.unset).toArray = ls at hl ⊢
  have hl : lv_has ls 3 [(0, .ref h0), (1, .int p0)] := hl
  refine lv_iload_n hx hb dX3_isWindy_0 rfl (lv_at hl 1 rfl) ?_
  refine lv_sipush (v := 999) hx hb dX3_isWindy_1 (by decide) ?_
  refine lv_icmp_le (tgt := 9) hx hb dX3_isWindy_4 (by decide) (fun c_1 => ?_) (fun c_1 => ?_)
  · skip
    have b_3 := i32_bd p0
    have k_2 := kk_le rfl zi_999 c_1
    refine lv_iconst (v := 0) hx hb dX3_isWindy_9 (by decide) ?_
    refine lv_istore_n (lv' := [(2, .int 0), (0, .ref h0), (1, .int p0)]) hx hb dX3_isWindy_10 rfl hl (by decide) rfl (fun ls hl => ?_)
    refine loopW (σ := Int32) (fun _ => []) (fun L2_74 H locs ls => (0 ≤ L2_74.toInt ∧ L2_74.toInt ≤ 4) ∧ H = s.heap ∧ locs = [] ∧ lv_has ls 3 [(2, .int L2_74), (0, .ref h0), (1, .int p0)]) (fun L2_74 => (2147483647 - L2_74.toInt).toNat) ?_ (0 : Int32) ⟨(by decide), rfl, rfl, hl⟩
    intro x_74 H locs ls hI_74 ih_74
    obtain ⟨L2_74, rfl⟩ : ∃ z, z = x_74 := ⟨_, rfl⟩
    obtain ⟨k0_74, rfl, rfl, hl⟩ := hI_74
    have hl : lv_has ls 3 [(2, .int L2_74), (0, .ref h0), (1, .int p0)] := hl
    refine lv_iload_n hx hb dX3_isWindy_11 rfl (lv_at hl 0 rfl) ?_
    refine lv_aload_n hx hb dX3_isWindy_12 rfl (lv_at hl 1 rfl) ?_
    refine va_get (D := D) (ci := 3) (v := .int g_winds) (C := RX3) (T := TX3) (N := 16) hx hb hts inX3 hown hKN.1 hP 0 rfl rfl 5 (by decide) (hts _ tw_177) (fun _ h9 => h9) rfl dX3_isWindy_13 ?_
    refine lv_icmp_ge (tgt := 51) hx hb dX3_isWindy_16 (by decide) (fun c_75 => ?_) (fun c_75 => ?_)
    · skip
      have k_76 := kk_le rfl rfl c_75
      refine lv_iconst (v := 0) hx hb dX3_isWindy_51 (by decide) ?_
      exact W.zret (v := 0) hx hb hr (by decide) (fun t ht hW => ⟨0, rfl, (show 0 ≤ (0 : Int32).toInt ∧ (0 : Int32).toInt ≤ 1 from by decide), ht⟩) (fun _ h => by cases h) dX3_isWindy_52
    · skip
      have k_77 := kk_nle rfl rfl c_75
      refine lv_iload_n hx hb dX3_isWindy_19 rfl (lv_at hl 0 rfl) ?_
      refine lv_iconst (v := 4) hx hb dX3_isWindy_20 (by decide) ?_
      refine lv_icmp_ge (tgt := 51) hx hb dX3_isWindy_21 (by decide) (fun c_78 => ?_) (fun c_78 => ?_)
      · skip
        have k_79 := kk_le zi_4 rfl c_78
        exfalso; omega
      · skip
        have k_80 := kk_nle zi_4 rfl c_78
        refine lv_iload_n hx hb dX3_isWindy_24 rfl (lv_at hl 2 rfl) ?_
        refine lv_aload_n hx hb dX3_isWindy_25 rfl (lv_at hl 1 rfl) ?_
        refine va_get (D := D) (ci := 3) (v := .ref g_qfroms) (C := RX3) (T := TX3) (N := 16) hx hb hts inX3 hown hKN.1 hP 0 rfl rfl 14 (by decide) (hts _ tw_188) (fun _ h9 => h9) rfl dX3_isWindy_26 ?_
        refine lv_iload_n hx hb dX3_isWindy_29 rfl (lv_at hl 0 rfl) ?_
        refine va_iald hx hb hKN.1 hP 1 1 rfl rfl (vp_in_iff.mpr ⟨by omega, by omega⟩) dX3_isWindy_30 ?_
        refine lv_topi (fun x_81 ex_81 => ?_)
        refine lv_aload_n hx hb dX3_isWindy_31 rfl (lv_at hl 1 rfl) ?_
        refine va_get (D := D) (ci := 3) (v := .ref g_qtos) (C := RX3) (T := TX3) (N := 16) hx hb hts inX3 hown hKN.1 hP 0 rfl rfl 15 (by decide) (hts _ tw_189) (fun _ h9 => h9) rfl dX3_isWindy_32 ?_
        refine lv_iload_n hx hb dX3_isWindy_35 rfl (lv_at hl 0 rfl) ?_
        refine va_iald hx hb hKN.1 hP 2 1 rfl rfl (vp_in_iff.mpr ⟨by omega, by omega⟩) dX3_isWindy_36 ?_
        refine lv_topi (fun x_82 ex_82 => ?_)
        refine cpSNi (rest := []) ⟨hx, hb, hml, hown, hts⟩ hKN (hP.sub (ws' := []) [] rfl) (g_X11_isWithin l D cA p0 x_81 x_82) ⟨nw_8, tw_516, tw_101, tw_517⟩ hdX11_isWithin ⟨rfl, rfl, Nat.le_of_ble_eq_true rfl, Nat.le_of_ble_eq_true rfl⟩ ⟨Nat.le_of_ble_eq_true rfl, Nat.le_of_ble_eq_true rfl⟩ rfl hl.1 rfl (Nat.le_of_ble_eq_true rfl) dX3_isWindy_37 (fun r_83 hr_83 => ?_)
        rcases hr_83 with ⟨k_83_0_0, k_83_0_1, rfl⟩ | ⟨k_83_1_0, rfl⟩
        · skip
          refine lv_if_eq (tgt := 45) hx hb dX3_isWindy_40 (by decide) (fun c_84 => absurd c_84 (by decide)) (fun c_84 => ?_)
          refine lv_iconst (v := 1) hx hb dX3_isWindy_43 (by decide) ?_
          exact W.zret (v := 1) hx hb hr (by decide) (fun t ht hW => ⟨1, rfl, (show 0 ≤ (1 : Int32).toInt ∧ (1 : Int32).toInt ≤ 1 from by decide), ht⟩) (fun _ h => by cases h) dX3_isWindy_44
        · skip
          refine lv_if_eq (tgt := 45) hx hb dX3_isWindy_40 (by decide) (fun c_85 => ?_) (fun c_85 => absurd (by decide) c_85)
          obtain ⟨x_86, ex_86⟩ : ∃ y : Int32, L2_74 + Int32.ofInt 1 = y := ⟨_, rfl⟩
          have k_87 := ar_add (b := 1) rfl zi_1 ex_86.symm (by omega) (by omega)
          refine lv_iinc (v := x_86) (lv' := [(2, .int x_86), (0, .ref h0), (1, .int p0)]) hx hb dX3_isWindy_45 hl (k := 0) rfl ex_86 (by decide) rfl (fun ls hl => ?_)
          refine lv_goto (tgt := 11) hx hb dX3_isWindy_48 (by decide) ?_
          exact ih_74 (x_86) _ _ _ ⟨(show 0 ≤ x_86.toInt ∧ x_86.toInt ≤ 4 from by omega), rfl, rfl, lv_sub hl [0, 1, 2] rfl⟩ (by show (2147483647 - x_86.toInt).toNat < (2147483647 - L2_74.toInt).toNat; omega)
  · skip
    have b_89 := i32_bd p0
    have k_88 := kk_nle rfl zi_999 c_1
    refine lv_iconst (v := 0) hx hb dX3_isWindy_7 (by decide) ?_
    exact W.zret (v := 0) hx hb hr (by decide) (fun t ht hW => ⟨0, rfl, (show 0 ≤ (0 : Int32).toInt ∧ (0 : Int32).toInt ≤ 1 from by decide), ht⟩) (fun _ h => by cases h) dX3_isWindy_8
set_option maxHeartbeats 8000000 in
set_option maxRecDepth 100000 in
theorem g_X3_holdByGrips (l : Launch) (D : va_G) (cA : Nat → ClassId) (h0 : Nat) (g_odds : Int32) (g_pot : Int32) (g_lines : Int32) (g_men : Int32) (g_clauses : Int32) (g_winds : Int32) (g_far0 : Int32) (g_far1 : Int32) (g_qsides : Nat) (g_qgrips : Nat) (g_qwits : Nat) (g_qsays : Nat) (g_qgives0 : Nat) (g_qgives1 : Nat) (g_qfroms : Nat) (g_qtos : Nat) (g_cwits : Nat → Int32) (p0 : Int32) (p1 : Int32) (p2 : Int32) (p3 : Int32) (h_g_odds : -999 ≤ (g_odds : Int32).toInt ∧ (g_odds : Int32).toInt ≤ 999) (h_g_pot : -999 ≤ (g_pot : Int32).toInt ∧ (g_pot : Int32).toInt ≤ 999) (h_g_men : 0 ≤ (g_men : Int32).toInt ∧ (g_men : Int32).toInt ≤ 8) (h_g_clauses : 0 ≤ (g_clauses : Int32).toInt ∧ (g_clauses : Int32).toInt ≤ 7) (h_g_winds : 0 ≤ (g_winds : Int32).toInt ∧ (g_winds : Int32).toInt ≤ 4) (h_g_far0 : -999 ≤ (g_far0 : Int32).toInt ∧ (g_far0 : Int32).toInt ≤ 999) (h_g_far1 : -999 ≤ (g_far1 : Int32).toInt ∧ (g_far1 : Int32).toInt ≤ 999) : Met l yX3_holdByGrips (Cond.code yX3_holdByGrips cX3_holdByGrips 5 (some .int) :: TB) (rmd 1 0 0) (PP D cA [(h0, .inr (3, [.int g_odds, .int g_pot, .int g_lines, .int g_men, .int g_clauses, .int g_winds, .int g_far0, .int g_far1, .ref g_qsides, .ref g_qgrips, .ref g_qwits, .ref g_qsays, .ref g_qgives0, .ref g_qgives1, .ref g_qfroms, .ref g_qtos])), (g_qwits, .inl (cA 1, 8, .inl g_cwits))] [.ref h0, .int p0, .int p1, .int p2, .int p3]) (vp_Si (fun r => True)) 0 0 (fun _ => False) := by
  refine Met.ofW (cc := cX3_holdByGrips) (maxL := 5) (ret := (some .int)) (by decide) rfl ?_
  intro p e s m args below meth c s₁ B hml hv
  obtain ⟨rfl, hP, hKN⟩ := hv
  have hx := B.exec
  have hb := B.bytes
  have hr := B.returns
  have hts : ∀ w ∈ TB, w.before _ s = true := fun w h => atoms_spec B.pre w (List.mem_cons_of_mem _ h)
  have hown : s.vm.findClass RX3 = some m.cls := findClass_of_methodNamed B.named
  have hlocks := B.notSynchronized
  have hl := lv_entry ([.ref h0, .int p0, .int p1, .int p2, .int p3]) (n := 5) (Nat.le_of_ble_eq_true rfl)
  rw [lg_entry_eq]
  generalize (lg_sl ([.ref h0, .int p0, .int p1, .int p2, .int p3]) ++ List.replicate (5 - (lg_sl ([.ref h0, .int p0, .int p1, .int p2, .int p3])).length) Slot.unset).toArray = ls at hl ⊢
  have hl : lv_has ls 5 [(0, .ref h0), (1, .int p0), (2, .int p1), (3, .int p2), (4, .int p3)] := hl
  refine lv_aload_n hx hb dX3_holdByGrips_0 rfl (lv_at hl 0 rfl) ?_
  refine lv_iload_n hx hb dX3_holdByGrips_1 rfl (lv_at hl 1 rfl) ?_
  refine cpVi (rest := []) ⟨hx, hb, hml, hown, hts⟩ hKN (hP.sub (ws' := [(h0, .inr (3, [.int g_odds, .int g_pot, .int g_lines, .int g_men, .int g_clauses, .int g_winds, .int g_far0, .int g_far1, .ref g_qsides, .ref g_qgrips, .ref g_qwits, .ref g_qsays, .ref g_qgives0, .ref g_qgives1, .ref g_qfroms, .ref g_qtos]))]) [0] rfl) (g_X3_hasMan l D cA h0 g_odds g_pot g_lines g_men g_clauses g_winds g_far0 g_far1 g_qsides g_qgrips g_qwits g_qsays g_qgives0 g_qgives1 g_qfroms g_qtos p0 (by omega) (by omega) (by omega) (by omega) (by omega) (by omega) (by omega)) (tb_V tw_706 tw_699 tw_700 tw_104 tw_701) hdX3_hasMan ⟨rfl, rfl, Nat.le_of_ble_eq_true rfl, Nat.le_of_ble_eq_true rfl⟩ ⟨Nat.le_of_ble_eq_true rfl, Nat.le_of_ble_eq_true rfl⟩ rfl rfl rfl hl.1 rfl (Nat.le_of_ble_eq_true rfl) dX3_holdByGrips_2 (fun r_1 hr_1 => ?_)
  rcases hr_1 with ⟨k_1_0_0, k_1_0_1, k_1_0_2, rfl⟩ | rfl
  · skip
    refine lv_if_eq (tgt := 16) hx hb dX3_holdByGrips_5 (by decide) (fun c_2 => absurd c_2 (by decide)) (fun c_2 => ?_)
    refine lv_aload_n hx hb dX3_holdByGrips_8 rfl (lv_at hl 0 rfl) ?_
    refine lv_iload_n hx hb dX3_holdByGrips_9 rfl (lv_at hl 2 rfl) ?_
    refine cpVi (rest := []) ⟨hx, hb, hml, hown, hts⟩ hKN (hP.sub (ws' := [(h0, .inr (3, [.int g_odds, .int g_pot, .int g_lines, .int g_men, .int g_clauses, .int g_winds, .int g_far0, .int g_far1, .ref g_qsides, .ref g_qgrips, .ref g_qwits, .ref g_qsays, .ref g_qgives0, .ref g_qgives1, .ref g_qfroms, .ref g_qtos]))]) [0] rfl) (g_X3_hasMan l D cA h0 g_odds g_pot g_lines g_men g_clauses g_winds g_far0 g_far1 g_qsides g_qgrips g_qwits g_qsays g_qgives0 g_qgives1 g_qfroms g_qtos p1 (by omega) (by omega) (by omega) (by omega) (by omega) (by omega) (by omega)) (tb_V tw_706 tw_699 tw_700 tw_104 tw_701) hdX3_hasMan ⟨rfl, rfl, Nat.le_of_ble_eq_true rfl, Nat.le_of_ble_eq_true rfl⟩ ⟨Nat.le_of_ble_eq_true rfl, Nat.le_of_ble_eq_true rfl⟩ rfl rfl rfl hl.1 rfl (Nat.le_of_ble_eq_true rfl) dX3_holdByGrips_10 (fun r_3 hr_3 => ?_)
    rcases hr_3 with ⟨k_3_0_0, k_3_0_1, k_3_0_2, rfl⟩ | rfl
    · skip
      refine lv_if_ne (tgt := 19) hx hb dX3_holdByGrips_13 (by decide) (fun c_4 => ?_) (fun c_4 => absurd c_4 (by decide))
      refine lv_iload_n hx hb dX3_holdByGrips_19 rfl (lv_at hl 3 rfl) ?_
      refine lv_iload hx hb dX3_holdByGrips_20 (lv_at hl 4 rfl) ?_
      refine cpSi (rest := []) ⟨hx, hb, hml, hown, hts⟩ hKN (hP.sub (ws' := []) [] rfl) (g_J9_min_7cf53 l D cA p2 p3) (tb_S tw_851 tw_555 tw_115 tw_556) hdJ9_min_7cf53 ⟨rfl, rfl, Nat.le_of_ble_eq_true rfl, Nat.le_of_ble_eq_true rfl⟩ ⟨Nat.le_of_ble_eq_true rfl, Nat.le_of_ble_eq_true rfl⟩ rfl hl.1 rfl (Nat.le_of_ble_eq_true rfl) dX3_holdByGrips_22 (fun r_5 hr_5 => ?_)
      obtain ⟨k_5_0_0, k_5_0_1, k_5_0_2⟩ := hr_5
      refine lv_aload_n hx hb dX3_holdByGrips_25 rfl (lv_at hl 0 rfl) ?_
      refine va_get (D := D) (ci := 3) (v := .ref g_qwits) (C := RX3) (T := TX3) (N := 16) hx hb hts inX3 hown hKN.1 hP 0 rfl rfl 10 (by decide) (hts _ tw_184) (fun _ h9 => h9) rfl dX3_holdByGrips_26 ?_
      refine lv_iload_n hx hb dX3_holdByGrips_29 rfl (lv_at hl 1 rfl) ?_
      refine va_iald hx hb hKN.1 hP 1 1 rfl rfl (vp_in_iff.mpr ⟨by omega, by omega⟩) dX3_holdByGrips_30 ?_
      refine lv_topi (fun x_6 ex_6 => ?_)
      refine lv_aload_n hx hb dX3_holdByGrips_31 rfl (lv_at hl 0 rfl) ?_
      refine va_get (D := D) (ci := 3) (v := .ref g_qwits) (C := RX3) (T := TX3) (N := 16) hx hb hts inX3 hown hKN.1 hP 0 rfl rfl 10 (by decide) (hts _ tw_184) (fun _ h9 => h9) rfl dX3_holdByGrips_32 ?_
      refine lv_iload_n hx hb dX3_holdByGrips_35 rfl (lv_at hl 2 rfl) ?_
      refine va_iald hx hb hKN.1 hP 1 1 rfl rfl (vp_in_iff.mpr ⟨by omega, by omega⟩) dX3_holdByGrips_36 ?_
      refine lv_topi (fun x_7 ex_7 => ?_)
      refine cpSi (rest := [.int r_5]) ⟨hx, hb, hml, hown, hts⟩ hKN (hP.sub (ws' := []) [] rfl) (g_J9_min_7cf53 l D cA x_6 x_7) (tb_S tw_851 tw_555 tw_115 tw_556) hdJ9_min_7cf53 ⟨rfl, rfl, Nat.le_of_ble_eq_true rfl, Nat.le_of_ble_eq_true rfl⟩ ⟨Nat.le_of_ble_eq_true rfl, Nat.le_of_ble_eq_true rfl⟩ rfl hl.1 rfl (Nat.le_of_ble_eq_true rfl) dX3_holdByGrips_37 (fun r_8 hr_8 => ?_)
      obtain ⟨k_8_0_0, k_8_0_1, k_8_0_2⟩ := hr_8
      refine lv_iadd hx hb dX3_holdByGrips_40 ?_
      refine lv_topi (fun x_9 ex_9 => ?_)
      exact W.iret (v := x_9) hx hb hr (fun t ht hW => ⟨x_9, rfl, trivial, ht⟩) (fun _ h => by cases h) dX3_holdByGrips_41
    · skip
      refine lv_if_ne (tgt := 19) hx hb dX3_holdByGrips_13 (by decide) (fun c_11 => absurd (by decide) c_11) (fun c_11 => ?_)
      refine lv_bipush (v := (-2)) hx hb dX3_holdByGrips_16 (by decide) ?_
      exact W.iret (v := (-2)) hx hb hr (fun t ht hW => ⟨(-2), rfl, trivial, ht⟩) (fun _ h => by cases h) dX3_holdByGrips_18
  · skip
    refine lv_if_eq (tgt := 16) hx hb dX3_holdByGrips_5 (by decide) (fun c_12 => ?_) (fun c_12 => absurd (by decide) c_12)
    refine lv_bipush (v := (-2)) hx hb dX3_holdByGrips_16 (by decide) ?_
    exact W.iret (v := (-2)) hx hb hr (fun t ht hW => ⟨(-2), rfl, trivial, ht⟩) (fun _ h => by cases h) dX3_holdByGrips_18
set_option maxHeartbeats 8000000 in
set_option maxRecDepth 100000 in
theorem g_X3_holdOrRefusal (l : Launch) (D : va_G) (cA : Nat → ClassId) (h0 : Nat) (g_odds : Int32) (g_pot : Int32) (g_lines : Int32) (g_men : Int32) (g_clauses : Int32) (g_winds : Int32) (g_far0 : Int32) (g_far1 : Int32) (g_qsides : Nat) (g_qgrips : Nat) (g_qwits : Nat) (g_qsays : Nat) (g_qgives0 : Nat) (g_qgives1 : Nat) (g_qfroms : Nat) (g_qtos : Nat) (g_csides : Nat → Int32) (g_cgrips : Nat → Int32) (g_cwits : Nat → Int32) (p0 : Int32) (p1 : Int32) (h_g_odds : -999 ≤ (g_odds : Int32).toInt ∧ (g_odds : Int32).toInt ≤ 999) (h_g_pot : -999 ≤ (g_pot : Int32).toInt ∧ (g_pot : Int32).toInt ≤ 999) (h_g_men : 0 ≤ (g_men : Int32).toInt ∧ (g_men : Int32).toInt ≤ 8) (h_g_clauses : 0 ≤ (g_clauses : Int32).toInt ∧ (g_clauses : Int32).toInt ≤ 7) (h_g_winds : 0 ≤ (g_winds : Int32).toInt ∧ (g_winds : Int32).toInt ≤ 4) (h_g_far0 : -999 ≤ (g_far0 : Int32).toInt ∧ (g_far0 : Int32).toInt ≤ 999) (h_g_far1 : -999 ≤ (g_far1 : Int32).toInt ∧ (g_far1 : Int32).toInt ≤ 999) : Met l yX3_holdOrRefusal (Cond.code yX3_holdOrRefusal cX3_holdOrRefusal 3 (some .int) :: TB) (rmd 2 0 0) (PP D cA [(h0, .inr (3, [.int g_odds, .int g_pot, .int g_lines, .int g_men, .int g_clauses, .int g_winds, .int g_far0, .int g_far1, .ref g_qsides, .ref g_qgrips, .ref g_qwits, .ref g_qsays, .ref g_qgives0, .ref g_qgives1, .ref g_qfroms, .ref g_qtos])), (g_qsides, .inl (cA 1, 8, .inl g_csides)), (g_qgrips, .inl (cA 1, 8, .inl g_cgrips)), (g_qwits, .inl (cA 1, 8, .inl g_cwits))] [.ref h0, .int p0, .int p1]) (vp_Si (fun r => True)) 0 0 (fun _ => False) := by
  refine Met.ofW (cc := cX3_holdOrRefusal) (maxL := 3) (ret := (some .int)) (by decide) rfl ?_
  intro p e s m args below meth c s₁ B hml hv
  obtain ⟨rfl, hP, hKN⟩ := hv
  have hx := B.exec
  have hb := B.bytes
  have hr := B.returns
  have hts : ∀ w ∈ TB, w.before _ s = true := fun w h => atoms_spec B.pre w (List.mem_cons_of_mem _ h)
  have hown : s.vm.findClass RX3 = some m.cls := findClass_of_methodNamed B.named
  have hlocks := B.notSynchronized
  have hl := lv_entry ([.ref h0, .int p0, .int p1]) (n := 3) (Nat.le_of_ble_eq_true rfl)
  rw [lg_entry_eq]
  generalize (lg_sl ([.ref h0, .int p0, .int p1]) ++ List.replicate (3 - (lg_sl ([.ref h0, .int p0, .int p1])).length) Slot.unset).toArray = ls at hl ⊢
  have hl : lv_has ls 3 [(0, .ref h0), (1, .int p0), (2, .int p1)] := hl
  refine lv_aload_n hx hb dX3_holdOrRefusal_0 rfl (lv_at hl 0 rfl) ?_
  refine lv_iload_n hx hb dX3_holdOrRefusal_1 rfl (lv_at hl 1 rfl) ?_
  refine cpVi (rest := []) ⟨hx, hb, hml, hown, hts⟩ hKN (hP.sub (ws' := [(h0, .inr (3, [.int g_odds, .int g_pot, .int g_lines, .int g_men, .int g_clauses, .int g_winds, .int g_far0, .int g_far1, .ref g_qsides, .ref g_qgrips, .ref g_qwits, .ref g_qsays, .ref g_qgives0, .ref g_qgives1, .ref g_qfroms, .ref g_qtos]))]) [0] rfl) (g_X3_hasMan l D cA h0 g_odds g_pot g_lines g_men g_clauses g_winds g_far0 g_far1 g_qsides g_qgrips g_qwits g_qsays g_qgives0 g_qgives1 g_qfroms g_qtos p0 (by omega) (by omega) (by omega) (by omega) (by omega) (by omega) (by omega)) (tb_V tw_706 tw_699 tw_700 tw_104 tw_701) hdX3_hasMan ⟨rfl, rfl, Nat.le_of_ble_eq_true rfl, Nat.le_of_ble_eq_true rfl⟩ ⟨Nat.le_of_ble_eq_true rfl, Nat.le_of_ble_eq_true rfl⟩ rfl rfl rfl hl.1 rfl (Nat.le_of_ble_eq_true rfl) dX3_holdOrRefusal_2 (fun r_1 hr_1 => ?_)
  rcases hr_1 with ⟨k_1_0_0, k_1_0_1, k_1_0_2, rfl⟩ | rfl
  · skip
    refine lv_if_eq (tgt := 16) hx hb dX3_holdOrRefusal_5 (by decide) (fun c_2 => absurd c_2 (by decide)) (fun c_2 => ?_)
    refine lv_aload_n hx hb dX3_holdOrRefusal_8 rfl (lv_at hl 0 rfl) ?_
    refine lv_iload_n hx hb dX3_holdOrRefusal_9 rfl (lv_at hl 2 rfl) ?_
    refine cpVi (rest := []) ⟨hx, hb, hml, hown, hts⟩ hKN (hP.sub (ws' := [(h0, .inr (3, [.int g_odds, .int g_pot, .int g_lines, .int g_men, .int g_clauses, .int g_winds, .int g_far0, .int g_far1, .ref g_qsides, .ref g_qgrips, .ref g_qwits, .ref g_qsays, .ref g_qgives0, .ref g_qgives1, .ref g_qfroms, .ref g_qtos]))]) [0] rfl) (g_X3_hasMan l D cA h0 g_odds g_pot g_lines g_men g_clauses g_winds g_far0 g_far1 g_qsides g_qgrips g_qwits g_qsays g_qgives0 g_qgives1 g_qfroms g_qtos p1 (by omega) (by omega) (by omega) (by omega) (by omega) (by omega) (by omega)) (tb_V tw_706 tw_699 tw_700 tw_104 tw_701) hdX3_hasMan ⟨rfl, rfl, Nat.le_of_ble_eq_true rfl, Nat.le_of_ble_eq_true rfl⟩ ⟨Nat.le_of_ble_eq_true rfl, Nat.le_of_ble_eq_true rfl⟩ rfl rfl rfl hl.1 rfl (Nat.le_of_ble_eq_true rfl) dX3_holdOrRefusal_10 (fun r_3 hr_3 => ?_)
    rcases hr_3 with ⟨k_3_0_0, k_3_0_1, k_3_0_2, rfl⟩ | rfl
    · skip
      refine lv_if_ne (tgt := 19) hx hb dX3_holdOrRefusal_13 (by decide) (fun c_4 => ?_) (fun c_4 => absurd c_4 (by decide))
      refine lv_aload_n hx hb dX3_holdOrRefusal_19 rfl (lv_at hl 0 rfl) ?_
      refine va_get (D := D) (ci := 3) (v := .ref g_qsides) (C := RX3) (T := TX3) (N := 16) hx hb hts inX3 hown hKN.1 hP 0 rfl rfl 8 (by decide) (hts _ tw_182) (fun _ h9 => h9) rfl dX3_holdOrRefusal_20 ?_
      refine lv_iload_n hx hb dX3_holdOrRefusal_23 rfl (lv_at hl 1 rfl) ?_
      refine va_iald hx hb hKN.1 hP 1 1 rfl rfl (vp_in_iff.mpr ⟨by omega, by omega⟩) dX3_holdOrRefusal_24 ?_
      refine lv_topi (fun x_5 ex_5 => ?_)
      refine lv_aload_n hx hb dX3_holdOrRefusal_25 rfl (lv_at hl 0 rfl) ?_
      refine va_get (D := D) (ci := 3) (v := .ref g_qsides) (C := RX3) (T := TX3) (N := 16) hx hb hts inX3 hown hKN.1 hP 0 rfl rfl 8 (by decide) (hts _ tw_182) (fun _ h9 => h9) rfl dX3_holdOrRefusal_26 ?_
      refine lv_iload_n hx hb dX3_holdOrRefusal_29 rfl (lv_at hl 2 rfl) ?_
      refine va_iald hx hb hKN.1 hP 1 1 rfl rfl (vp_in_iff.mpr ⟨by omega, by omega⟩) dX3_holdOrRefusal_30 ?_
      refine lv_topi (fun x_6 ex_6 => ?_)
      refine lv_icmp_ne (tgt := 36) hx hb dX3_holdOrRefusal_31 (by decide) (fun c_7 => ?_) (fun c_7 => ?_)
      · skip
        have b_9 := i32_bd x_5
        have b_10 := i32_bd x_6
        have k_8 := kk_ne rfl rfl c_7
        refine lv_aload_n hx hb dX3_holdOrRefusal_36 rfl (lv_at hl 0 rfl) ?_
        refine lv_iload_n hx hb dX3_holdOrRefusal_37 rfl (lv_at hl 1 rfl) ?_
        refine lv_iload_n hx hb dX3_holdOrRefusal_38 rfl (lv_at hl 2 rfl) ?_
        refine lv_aload_n hx hb dX3_holdOrRefusal_39 rfl (lv_at hl 0 rfl) ?_
        refine va_get (D := D) (ci := 3) (v := .ref g_qgrips) (C := RX3) (T := TX3) (N := 16) hx hb hts inX3 hown hKN.1 hP 0 rfl rfl 9 (by decide) (hts _ tw_183) (fun _ h9 => h9) rfl dX3_holdOrRefusal_40 ?_
        refine lv_iload_n hx hb dX3_holdOrRefusal_43 rfl (lv_at hl 1 rfl) ?_
        refine va_iald hx hb hKN.1 hP 2 1 rfl rfl (vp_in_iff.mpr ⟨by omega, by omega⟩) dX3_holdOrRefusal_44 ?_
        refine lv_topi (fun x_11 ex_11 => ?_)
        refine lv_aload_n hx hb dX3_holdOrRefusal_45 rfl (lv_at hl 0 rfl) ?_
        refine va_get (D := D) (ci := 3) (v := .ref g_qgrips) (C := RX3) (T := TX3) (N := 16) hx hb hts inX3 hown hKN.1 hP 0 rfl rfl 9 (by decide) (hts _ tw_183) (fun _ h9 => h9) rfl dX3_holdOrRefusal_46 ?_
        refine lv_iload_n hx hb dX3_holdOrRefusal_49 rfl (lv_at hl 2 rfl) ?_
        refine va_iald hx hb hKN.1 hP 2 1 rfl rfl (vp_in_iff.mpr ⟨by omega, by omega⟩) dX3_holdOrRefusal_50 ?_
        refine lv_topi (fun x_12 ex_12 => ?_)
        refine cpVi (rest := []) ⟨hx, hb, hml, hown, hts⟩ hKN (hP.sub (ws' := [(h0, .inr (3, [.int g_odds, .int g_pot, .int g_lines, .int g_men, .int g_clauses, .int g_winds, .int g_far0, .int g_far1, .ref g_qsides, .ref g_qgrips, .ref g_qwits, .ref g_qsays, .ref g_qgives0, .ref g_qgives1, .ref g_qfroms, .ref g_qtos])), (g_qwits, .inl (cA 1, 8, .inl g_cwits))]) [0, 3] rfl) (g_X3_holdByGrips l D cA h0 g_odds g_pot g_lines g_men g_clauses g_winds g_far0 g_far1 g_qsides g_qgrips g_qwits g_qsays g_qgives0 g_qgives1 g_qfroms g_qtos g_cwits p0 p1 x_11 x_12 (by omega) (by omega) (by omega) (by omega) (by omega) (by omega) (by omega)) (tb_V tw_847 tw_848 tw_849 tw_104 tw_850) hdX3_holdByGrips ⟨rfl, rfl, Nat.le_of_ble_eq_true rfl, Nat.le_of_ble_eq_true rfl⟩ ⟨Nat.le_of_ble_eq_true rfl, Nat.le_of_ble_eq_true rfl⟩ rfl rfl rfl hl.1 rfl (Nat.le_of_ble_eq_true rfl) dX3_holdOrRefusal_51 (fun r_13 hr_13 => ?_)
        exact W.iret (v := r_13) hx hb hr (fun t ht hW => ⟨r_13, rfl, trivial, ht⟩) (fun _ h => by cases h) dX3_holdOrRefusal_54
      · skip
        have b_15 := i32_bd x_5
        have b_16 := i32_bd x_6
        have k_14 := kk_eq rfl rfl c_7
        refine lv_iconst (v := (-1)) hx hb dX3_holdOrRefusal_34 (by decide) ?_
        exact W.iret (v := (-1)) hx hb hr (fun t ht hW => ⟨(-1), rfl, trivial, ht⟩) (fun _ h => by cases h) dX3_holdOrRefusal_35
    · skip
      refine lv_if_ne (tgt := 19) hx hb dX3_holdOrRefusal_13 (by decide) (fun c_17 => absurd (by decide) c_17) (fun c_17 => ?_)
      refine lv_bipush (v := (-2)) hx hb dX3_holdOrRefusal_16 (by decide) ?_
      exact W.iret (v := (-2)) hx hb hr (fun t ht hW => ⟨(-2), rfl, trivial, ht⟩) (fun _ h => by cases h) dX3_holdOrRefusal_18
  · skip
    refine lv_if_eq (tgt := 16) hx hb dX3_holdOrRefusal_5 (by decide) (fun c_18 => ?_) (fun c_18 => absurd (by decide) c_18)
    refine lv_bipush (v := (-2)) hx hb dX3_holdOrRefusal_16 (by decide) ?_
    exact W.iret (v := (-2)) hx hb hr (fun t ht hW => ⟨(-2), rfl, trivial, ht⟩) (fun _ h => by cases h) dX3_holdOrRefusal_18
set_option maxHeartbeats 8000000 in
set_option maxRecDepth 100000 in
theorem g_X3_resinedHold (l : Launch) (D : va_G) (cA : Nat → ClassId) (h0 : Nat) (g_odds : Int32) (g_pot : Int32) (g_lines : Int32) (g_men : Int32) (g_clauses : Int32) (g_winds : Int32) (g_far0 : Int32) (g_far1 : Int32) (g_qsides : Nat) (g_qgrips : Nat) (g_qwits : Nat) (g_qsays : Nat) (g_qgives0 : Nat) (g_qgives1 : Nat) (g_qfroms : Nat) (g_qtos : Nat) (g_cgrips : Nat → Int32) (g_cwits : Nat → Int32) (p0 : Int32) (p1 : Int32) (p2 : Int32) (h_g_odds : -999 ≤ (g_odds : Int32).toInt ∧ (g_odds : Int32).toInt ≤ 999) (h_g_pot : -999 ≤ (g_pot : Int32).toInt ∧ (g_pot : Int32).toInt ≤ 999) (h_g_men : 0 ≤ (g_men : Int32).toInt ∧ (g_men : Int32).toInt ≤ 8) (h_g_clauses : 0 ≤ (g_clauses : Int32).toInt ∧ (g_clauses : Int32).toInt ≤ 7) (h_g_winds : 0 ≤ (g_winds : Int32).toInt ∧ (g_winds : Int32).toInt ≤ 4) (h_g_far0 : -999 ≤ (g_far0 : Int32).toInt ∧ (g_far0 : Int32).toInt ≤ 999) (h_g_far1 : -999 ≤ (g_far1 : Int32).toInt ∧ (g_far1 : Int32).toInt ≤ 999) (h_p2 : (p2 : Int32).toInt ≤ 999) : Met l yX3_resinedHold (Cond.code yX3_resinedHold cX3_resinedHold 7 (some .int) :: TB) (rmd 2 0 0) (PP D cA [(h0, .inr (3, [.int g_odds, .int g_pot, .int g_lines, .int g_men, .int g_clauses, .int g_winds, .int g_far0, .int g_far1, .ref g_qsides, .ref g_qgrips, .ref g_qwits, .ref g_qsays, .ref g_qgives0, .ref g_qgives1, .ref g_qfroms, .ref g_qtos])), (g_qgrips, .inl (cA 1, 8, .inl g_cgrips)), (g_qwits, .inl (cA 1, 8, .inl g_cwits))] [.ref h0, .int p0, .int p1, .int p2]) (vp_Si (fun r => -2 ≤ r.toInt)) 0 0 (fun _ => False) := by
  refine Met.ofW (cc := cX3_resinedHold) (maxL := 7) (ret := (some .int)) (by decide) rfl ?_
  intro p e s m args below meth c s₁ B hml hv
  obtain ⟨rfl, hP, hKN⟩ := hv
  have hx := B.exec
  have hb := B.bytes
  have hr := B.returns
  have hts : ∀ w ∈ TB, w.before _ s = true := fun w h => atoms_spec B.pre w (List.mem_cons_of_mem _ h)
  have hown : s.vm.findClass RX3 = some m.cls := findClass_of_methodNamed B.named
  have hlocks := B.notSynchronized
  have hl := lv_entry ([.ref h0, .int p0, .int p1, .int p2]) (n := 7) (Nat.le_of_ble_eq_true rfl)
  rw [lg_entry_eq]
  generalize (lg_sl ([.ref h0, .int p0, .int p1, .int p2]) ++ List.replicate (7 - (lg_sl ([.ref h0, .int p0, .int p1, .int p2])).length) Slot.unset).toArray = ls at hl ⊢
  have hl : lv_has ls 7 [(0, .ref h0), (1, .int p0), (2, .int p1), (3, .int p2)] := hl
  refine lv_aload_n hx hb dX3_resinedHold_0 rfl (lv_at hl 0 rfl) ?_
  refine lv_iload_n hx hb dX3_resinedHold_1 rfl (lv_at hl 1 rfl) ?_
  refine cpVi (rest := []) ⟨hx, hb, hml, hown, hts⟩ hKN (hP.sub (ws' := [(h0, .inr (3, [.int g_odds, .int g_pot, .int g_lines, .int g_men, .int g_clauses, .int g_winds, .int g_far0, .int g_far1, .ref g_qsides, .ref g_qgrips, .ref g_qwits, .ref g_qsays, .ref g_qgives0, .ref g_qgives1, .ref g_qfroms, .ref g_qtos]))]) [0] rfl) (g_X3_hasMan l D cA h0 g_odds g_pot g_lines g_men g_clauses g_winds g_far0 g_far1 g_qsides g_qgrips g_qwits g_qsays g_qgives0 g_qgives1 g_qfroms g_qtos p0 (by omega) (by omega) (by omega) (by omega) (by omega) (by omega) (by omega)) (tb_V tw_706 tw_699 tw_700 tw_104 tw_701) hdX3_hasMan ⟨rfl, rfl, Nat.le_of_ble_eq_true rfl, Nat.le_of_ble_eq_true rfl⟩ ⟨Nat.le_of_ble_eq_true rfl, Nat.le_of_ble_eq_true rfl⟩ rfl rfl rfl hl.1 rfl (Nat.le_of_ble_eq_true rfl) dX3_resinedHold_2 (fun r_1 hr_1 => ?_)
  rcases hr_1 with ⟨k_1_0_0, k_1_0_1, k_1_0_2, rfl⟩ | rfl
  · skip
    refine lv_if_eq (tgt := 16) hx hb dX3_resinedHold_5 (by decide) (fun c_2 => absurd c_2 (by decide)) (fun c_2 => ?_)
    refine lv_aload_n hx hb dX3_resinedHold_8 rfl (lv_at hl 0 rfl) ?_
    refine lv_iload_n hx hb dX3_resinedHold_9 rfl (lv_at hl 2 rfl) ?_
    refine cpVi (rest := []) ⟨hx, hb, hml, hown, hts⟩ hKN (hP.sub (ws' := [(h0, .inr (3, [.int g_odds, .int g_pot, .int g_lines, .int g_men, .int g_clauses, .int g_winds, .int g_far0, .int g_far1, .ref g_qsides, .ref g_qgrips, .ref g_qwits, .ref g_qsays, .ref g_qgives0, .ref g_qgives1, .ref g_qfroms, .ref g_qtos]))]) [0] rfl) (g_X3_hasMan l D cA h0 g_odds g_pot g_lines g_men g_clauses g_winds g_far0 g_far1 g_qsides g_qgrips g_qwits g_qsays g_qgives0 g_qgives1 g_qfroms g_qtos p1 (by omega) (by omega) (by omega) (by omega) (by omega) (by omega) (by omega)) (tb_V tw_706 tw_699 tw_700 tw_104 tw_701) hdX3_hasMan ⟨rfl, rfl, Nat.le_of_ble_eq_true rfl, Nat.le_of_ble_eq_true rfl⟩ ⟨Nat.le_of_ble_eq_true rfl, Nat.le_of_ble_eq_true rfl⟩ rfl rfl rfl hl.1 rfl (Nat.le_of_ble_eq_true rfl) dX3_resinedHold_10 (fun r_3 hr_3 => ?_)
    rcases hr_3 with ⟨k_3_0_0, k_3_0_1, k_3_0_2, rfl⟩ | rfl
    · skip
      refine lv_if_ne (tgt := 19) hx hb dX3_resinedHold_13 (by decide) (fun c_4 => ?_) (fun c_4 => absurd c_4 (by decide))
      refine lv_iconst (v := 0) hx hb dX3_resinedHold_19 (by decide) ?_
      refine lv_istore (lv' := [(4, .int 0), (0, .ref h0), (1, .int p0), (2, .int p1), (3, .int p2)]) hx hb dX3_resinedHold_20 hl (by decide) rfl (fun ls hl => ?_)
      refine lv_iconst (v := 0) hx hb dX3_resinedHold_22 (by decide) ?_
      refine lv_istore (lv' := [(5, .int 0), (4, .int 0), (0, .ref h0), (1, .int p0), (2, .int p1), (3, .int p2)]) hx hb dX3_resinedHold_23 hl (by decide) rfl (fun ls hl => ?_)
      refine loopW (σ := Int32 × Int32) (fun _ => []) (fun ⟨L5_106, L4_106⟩ H locs ls => (0 ≤ L5_106.toInt ∧ L5_106.toInt ≤ 1000) ∧ (0 ≤ L4_106.toInt) ∧ H = s.heap ∧ locs = [] ∧ lv_has ls 7 [(5, .int L5_106), (4, .int L4_106), (0, .ref h0), (1, .int p0), (2, .int p1), (3, .int p2)]) (fun ⟨L5_106, L4_106⟩ => (2147483647 - L5_106.toInt).toNat) ?_ ((0, 0) : Int32 × Int32) ⟨(by decide), (by decide), rfl, rfl, hl⟩
      intro x_106 H locs ls hI_106 ih_106
      obtain ⟨L5_106, L4_106⟩ := x_106
      obtain ⟨k0_106, k1_106, rfl, rfl, hl⟩ := hI_106
      have hl : lv_has ls 7 [(5, .int L5_106), (4, .int L4_106), (0, .ref h0), (1, .int p0), (2, .int p1), (3, .int p2)] := hl
      refine lv_iload hx hb dX3_resinedHold_25 (lv_at hl 0 rfl) ?_
      refine lv_iload_n hx hb dX3_resinedHold_27 rfl (lv_at hl 5 rfl) ?_
      refine lv_icmp_gt (tgt := 78) hx hb dX3_resinedHold_28 (by decide) (fun c_107 => ?_) (fun c_107 => ?_)
      · skip
        have k_108 := kk_lt rfl rfl c_107
        refine lv_iload hx hb dX3_resinedHold_78 (lv_at hl 1 rfl) ?_
        exact W.iret (v := L4_106) hx hb hr (fun t ht hW => ⟨L4_106, rfl, (show -2 ≤ L4_106.toInt from by omega), ht⟩) (fun _ h => by cases h) dX3_resinedHold_80
      · skip
        have k_109 := kk_nlt rfl rfl c_107
        refine lv_aload_n hx hb dX3_resinedHold_31 rfl (lv_at hl 2 rfl) ?_
        refine lv_iload_n hx hb dX3_resinedHold_32 rfl (lv_at hl 3 rfl) ?_
        refine lv_iload_n hx hb dX3_resinedHold_33 rfl (lv_at hl 4 rfl) ?_
        refine lv_aload_n hx hb dX3_resinedHold_34 rfl (lv_at hl 2 rfl) ?_
        refine va_get (D := D) (ci := 3) (v := .ref g_qgrips) (C := RX3) (T := TX3) (N := 16) hx hb hts inX3 hown hKN.1 hP 0 rfl rfl 9 (by decide) (hts _ tw_183) (fun _ h9 => h9) rfl dX3_resinedHold_35 ?_
        refine lv_iload_n hx hb dX3_resinedHold_38 rfl (lv_at hl 3 rfl) ?_
        refine va_iald hx hb hKN.1 hP 1 1 rfl rfl (vp_in_iff.mpr ⟨by omega, by omega⟩) dX3_resinedHold_39 ?_
        refine lv_topi (fun x_110 ex_110 => ?_)
        refine lv_iconst (v := 2) hx hb dX3_resinedHold_40 (by decide) ?_
        refine lv_iload hx hb dX3_resinedHold_41 (lv_at hl 0 rfl) ?_
        refine lv_imul hx hb dX3_resinedHold_43 ?_
        refine lv_topi (fun x_111 ex_111 => ?_)
        have k_112 := ar_mul zi_2 rfl ex_111 (by omega) (by omega)
        refine lv_iadd hx hb dX3_resinedHold_44 ?_
        refine lv_topi (fun x_113 ex_113 => ?_)
        refine lv_aload_n hx hb dX3_resinedHold_45 rfl (lv_at hl 2 rfl) ?_
        refine va_get (D := D) (ci := 3) (v := .ref g_qgrips) (C := RX3) (T := TX3) (N := 16) hx hb hts inX3 hown hKN.1 hP 0 rfl rfl 9 (by decide) (hts _ tw_183) (fun _ h9 => h9) rfl dX3_resinedHold_46 ?_
        refine lv_iload_n hx hb dX3_resinedHold_49 rfl (lv_at hl 4 rfl) ?_
        refine va_iald hx hb hKN.1 hP 1 1 rfl rfl (vp_in_iff.mpr ⟨by omega, by omega⟩) dX3_resinedHold_50 ?_
        refine lv_topi (fun x_115 ex_115 => ?_)
        refine lv_iconst (v := 2) hx hb dX3_resinedHold_51 (by decide) ?_
        refine lv_iload_n hx hb dX3_resinedHold_52 rfl (lv_at hl 5 rfl) ?_
        refine lv_iload hx hb dX3_resinedHold_53 (lv_at hl 0 rfl) ?_
        refine lv_isub hx hb dX3_resinedHold_55 ?_
        refine lv_topi (fun x_116 ex_116 => ?_)
        have k_117 := ar_sub rfl rfl ex_116 (by omega) (by omega)
        refine lv_imul hx hb dX3_resinedHold_56 ?_
        refine lv_topi (fun x_118 ex_118 => ?_)
        have k_119 := ar_mul zi_2 rfl ex_118 (by omega) (by omega)
        refine lv_iadd hx hb dX3_resinedHold_57 ?_
        refine lv_topi (fun x_120 ex_120 => ?_)
        refine cpVi (rest := []) ⟨hx, hb, hml, hown, hts⟩ hKN (hP.sub (ws' := [(h0, .inr (3, [.int g_odds, .int g_pot, .int g_lines, .int g_men, .int g_clauses, .int g_winds, .int g_far0, .int g_far1, .ref g_qsides, .ref g_qgrips, .ref g_qwits, .ref g_qsays, .ref g_qgives0, .ref g_qgives1, .ref g_qfroms, .ref g_qtos])), (g_qwits, .inl (cA 1, 8, .inl g_cwits))]) [0, 2] rfl) (g_X3_holdByGrips l D cA h0 g_odds g_pot g_lines g_men g_clauses g_winds g_far0 g_far1 g_qsides g_qgrips g_qwits g_qsays g_qgives0 g_qgives1 g_qfroms g_qtos g_cwits p0 p1 x_113 x_120 (by omega) (by omega) (by omega) (by omega) (by omega) (by omega) (by omega)) (tb_V tw_847 tw_848 tw_849 tw_104 tw_850) hdX3_holdByGrips ⟨rfl, rfl, Nat.le_of_ble_eq_true rfl, Nat.le_of_ble_eq_true rfl⟩ ⟨Nat.le_of_ble_eq_true rfl, Nat.le_of_ble_eq_true rfl⟩ rfl rfl rfl hl.1 rfl (Nat.le_of_ble_eq_true rfl) dX3_resinedHold_58 (fun r_122 hr_122 => ?_)
        refine lv_istore (lv' := [(6, .int r_122), (5, .int L5_106), (4, .int L4_106), (0, .ref h0), (1, .int p0), (2, .int p1), (3, .int p2)]) hx hb dX3_resinedHold_61 hl (by decide) rfl (fun ls hl => ?_)
        refine lv_iload hx hb dX3_resinedHold_63 (lv_at hl 2 rfl) ?_
        refine lv_iload hx hb dX3_resinedHold_65 (lv_at hl 0 rfl) ?_
        refine cpSi (rest := []) ⟨hx, hb, hml, hown, hts⟩ hKN (hP.sub (ws' := []) [] rfl) (g_J9_max_7cf53 l D cA L4_106 r_122) (tb_S tw_921 tw_779 tw_115 tw_780) hdJ9_max_7cf53 ⟨rfl, rfl, Nat.le_of_ble_eq_true rfl, Nat.le_of_ble_eq_true rfl⟩ ⟨Nat.le_of_ble_eq_true rfl, Nat.le_of_ble_eq_true rfl⟩ rfl hl.1 rfl (Nat.le_of_ble_eq_true rfl) dX3_resinedHold_67 (fun r_123 hr_123 => ?_)
        obtain ⟨k_123_0_0, k_123_0_1, k_123_0_2⟩ := hr_123
        refine lv_istore (lv' := [(4, .int r_123), (6, .int r_122), (5, .int L5_106), (0, .ref h0), (1, .int p0), (2, .int p1), (3, .int p2)]) hx hb dX3_resinedHold_70 hl (by decide) rfl (fun ls hl => ?_)
        obtain ⟨x_124, ex_124⟩ : ∃ y : Int32, L5_106 + Int32.ofInt 1 = y := ⟨_, rfl⟩
        have k_125 := ar_add (b := 1) rfl zi_1 ex_124.symm (by omega) (by omega)
        refine lv_iinc (v := x_124) (lv' := [(5, .int x_124), (4, .int r_123), (6, .int r_122), (0, .ref h0), (1, .int p0), (2, .int p1), (3, .int p2)]) hx hb dX3_resinedHold_72 hl (k := 2) rfl ex_124 (by decide) rfl (fun ls hl => ?_)
        refine lv_goto (tgt := 25) hx hb dX3_resinedHold_75 (by decide) ?_
        exact ih_106 (x_124, r_123) _ _ _ ⟨(show 0 ≤ x_124.toInt ∧ x_124.toInt ≤ 1000 from by omega), (show 0 ≤ r_123.toInt from by omega), rfl, rfl, lv_sub hl [0, 1, 3, 4, 5, 6] rfl⟩ (by show (2147483647 - x_124.toInt).toNat < (2147483647 - L5_106.toInt).toNat; omega)
    · skip
      refine lv_if_ne (tgt := 19) hx hb dX3_resinedHold_13 (by decide) (fun c_126 => absurd (by decide) c_126) (fun c_126 => ?_)
      refine lv_bipush (v := (-2)) hx hb dX3_resinedHold_16 (by decide) ?_
      exact W.iret (v := (-2)) hx hb hr (fun t ht hW => ⟨(-2), rfl, (show -2 ≤ ((-2) : Int32).toInt from by decide), ht⟩) (fun _ h => by cases h) dX3_resinedHold_18
  · skip
    refine lv_if_eq (tgt := 16) hx hb dX3_resinedHold_5 (by decide) (fun c_127 => ?_) (fun c_127 => absurd (by decide) c_127)
    refine lv_bipush (v := (-2)) hx hb dX3_resinedHold_16 (by decide) ?_
    exact W.iret (v := (-2)) hx hb hr (fun t ht hW => ⟨(-2), rfl, (show -2 ≤ ((-2) : Int32).toInt from by decide), ht⟩) (fun _ h => by cases h) dX3_resinedHold_18
set_option maxHeartbeats 8000000 in
set_option maxRecDepth 100000 in
theorem g_X3_bestPartner (l : Launch) (D : va_G) (cA : Nat → ClassId) (h0 : Nat) (g_odds : Int32) (g_pot : Int32) (g_lines : Int32) (g_men : Int32) (g_clauses : Int32) (g_winds : Int32) (g_far0 : Int32) (g_far1 : Int32) (g_qsides : Nat) (g_qgrips : Nat) (g_qwits : Nat) (g_qsays : Nat) (g_qgives0 : Nat) (g_qgives1 : Nat) (g_qfroms : Nat) (g_qtos : Nat) (g_csides : Nat → Int32) (g_cgrips : Nat → Int32) (g_cwits : Nat → Int32) (p0 : Int32) (h_g_odds : -999 ≤ (g_odds : Int32).toInt ∧ (g_odds : Int32).toInt ≤ 999) (h_g_pot : -999 ≤ (g_pot : Int32).toInt ∧ (g_pot : Int32).toInt ≤ 999) (h_g_men : 0 ≤ (g_men : Int32).toInt ∧ (g_men : Int32).toInt ≤ 8) (h_g_clauses : 0 ≤ (g_clauses : Int32).toInt ∧ (g_clauses : Int32).toInt ≤ 7) (h_g_winds : 0 ≤ (g_winds : Int32).toInt ∧ (g_winds : Int32).toInt ≤ 4) (h_g_far0 : -999 ≤ (g_far0 : Int32).toInt ∧ (g_far0 : Int32).toInt ≤ 999) (h_g_far1 : -999 ≤ (g_far1 : Int32).toInt ∧ (g_far1 : Int32).toInt ≤ 999) : Met l yX3_bestPartner (Cond.code yX3_bestPartner cX3_bestPartner 6 (some .int) :: TB) (rmd 3 0 0) (PP D cA [(h0, .inr (3, [.int g_odds, .int g_pot, .int g_lines, .int g_men, .int g_clauses, .int g_winds, .int g_far0, .int g_far1, .ref g_qsides, .ref g_qgrips, .ref g_qwits, .ref g_qsays, .ref g_qgives0, .ref g_qgives1, .ref g_qfroms, .ref g_qtos])), (g_qsides, .inl (cA 1, 8, .inl g_csides)), (g_qgrips, .inl (cA 1, 8, .inl g_cgrips)), (g_qwits, .inl (cA 1, 8, .inl g_cwits))] [.ref h0, .int p0]) (vp_Si (fun r => -1 ≤ r.toInt ∧ r.toInt ≤ 7)) 0 0 (fun _ => False) := by
  refine Met.ofW (cc := cX3_bestPartner) (maxL := 6) (ret := (some .int)) (by decide) rfl ?_
  intro p e s m args below meth c s₁ B hml hv
  obtain ⟨rfl, hP, hKN⟩ := hv
  have hx := B.exec
  have hb := B.bytes
  have hr := B.returns
  have hts : ∀ w ∈ TB, w.before _ s = true := fun w h => atoms_spec B.pre w (List.mem_cons_of_mem _ h)
  have hown : s.vm.findClass RX3 = some m.cls := findClass_of_methodNamed B.named
  have hlocks := B.notSynchronized
  have hl := lv_entry ([.ref h0, .int p0]) (n := 6) (Nat.le_of_ble_eq_true rfl)
  rw [lg_entry_eq]
  generalize (lg_sl ([.ref h0, .int p0]) ++ List.replicate (6 - (lg_sl ([.ref h0, .int p0])).length) Slot.unset).toArray = ls at hl ⊢
  have hl : lv_has ls 6 [(0, .ref h0), (1, .int p0)] := hl
  refine lv_iconst (v := (-1)) hx hb dX3_bestPartner_0 (by decide) ?_
  refine lv_istore_n (lv' := [(2, .int (-1)), (0, .ref h0), (1, .int p0)]) hx hb dX3_bestPartner_1 rfl hl (by decide) rfl (fun ls hl => ?_)
  refine lv_iconst (v := 0) hx hb dX3_bestPartner_2 (by decide) ?_
  refine lv_istore_n (lv' := [(3, .int 0), (2, .int (-1)), (0, .ref h0), (1, .int p0)]) hx hb dX3_bestPartner_3 rfl hl (by decide) rfl (fun ls hl => ?_)
  refine lv_iconst (v := 0) hx hb dX3_bestPartner_4 (by decide) ?_
  refine lv_istore (lv' := [(4, .int 0), (3, .int 0), (2, .int (-1)), (0, .ref h0), (1, .int p0)]) hx hb dX3_bestPartner_5 hl (by decide) rfl (fun ls hl => ?_)
  refine loopW (σ := Int32 × Int32 × Int32) (fun _ => []) (fun ⟨L4_85, L3_85, L2_85⟩ H locs ls => (0 ≤ L4_85.toInt ∧ L4_85.toInt ≤ 8) ∧ (0 ≤ L3_85.toInt) ∧ (-1 ≤ L2_85.toInt ∧ L2_85.toInt ≤ 7) ∧ H = s.heap ∧ locs = [] ∧ lv_has ls 6 [(4, .int L4_85), (3, .int L3_85), (2, .int L2_85), (0, .ref h0), (1, .int p0)]) (fun ⟨L4_85, L3_85, L2_85⟩ => (2147483647 - L4_85.toInt).toNat) ?_ ((0, 0, (-1)) : Int32 × Int32 × Int32) ⟨(by decide), (by decide), (by decide), rfl, rfl, hl⟩
  intro x_85 H locs ls hI_85 ih_85
  obtain ⟨L4_85, L3_85, L2_85⟩ := x_85
  obtain ⟨k0_85, k1_85, k2_85, rfl, rfl, hl⟩ := hI_85
  have hl : lv_has ls 6 [(4, .int L4_85), (3, .int L3_85), (2, .int L2_85), (0, .ref h0), (1, .int p0)] := hl
  refine lv_iload hx hb dX3_bestPartner_7 (lv_at hl 0 rfl) ?_
  refine lv_aload_n hx hb dX3_bestPartner_9 rfl (lv_at hl 3 rfl) ?_
  refine va_get (D := D) (ci := 3) (v := .int g_men) (C := RX3) (T := TX3) (N := 16) hx hb hts inX3 hown hKN.1 hP 0 rfl rfl 3 (by decide) (hts _ tw_167) (fun _ h9 => h9) rfl dX3_bestPartner_10 ?_
  refine lv_icmp_ge (tgt := 43) hx hb dX3_bestPartner_13 (by decide) (fun c_86 => ?_) (fun c_86 => ?_)
  · skip
    have k_87 := kk_le rfl rfl c_86
    refine lv_iload_n hx hb dX3_bestPartner_43 rfl (lv_at hl 2 rfl) ?_
    exact W.iret (v := L2_85) hx hb hr (fun t ht hW => ⟨L2_85, rfl, (show -1 ≤ L2_85.toInt ∧ L2_85.toInt ≤ 7 from by omega), ht⟩) (fun _ h => by cases h) dX3_bestPartner_44
  · skip
    have k_88 := kk_nle rfl rfl c_86
    refine lv_aload_n hx hb dX3_bestPartner_16 rfl (lv_at hl 3 rfl) ?_
    refine lv_iload_n hx hb dX3_bestPartner_17 rfl (lv_at hl 4 rfl) ?_
    refine lv_iload hx hb dX3_bestPartner_18 (lv_at hl 0 rfl) ?_
    refine cpVi (rest := []) ⟨hx, hb, hml, hown, hts⟩ hKN (hP.sub (ws' := [(h0, .inr (3, [.int g_odds, .int g_pot, .int g_lines, .int g_men, .int g_clauses, .int g_winds, .int g_far0, .int g_far1, .ref g_qsides, .ref g_qgrips, .ref g_qwits, .ref g_qsays, .ref g_qgives0, .ref g_qgives1, .ref g_qfroms, .ref g_qtos])), (g_qsides, .inl (cA 1, 8, .inl g_csides)), (g_qgrips, .inl (cA 1, 8, .inl g_cgrips)), (g_qwits, .inl (cA 1, 8, .inl g_cwits))]) [0, 1, 2, 3] rfl) (g_X3_holdOrRefusal l D cA h0 g_odds g_pot g_lines g_men g_clauses g_winds g_far0 g_far1 g_qsides g_qgrips g_qwits g_qsays g_qgives0 g_qgives1 g_qfroms g_qtos g_csides g_cgrips g_cwits p0 L4_85 (by omega) (by omega) (by omega) (by omega) (by omega) (by omega) (by omega)) (tb_V tw_860 tw_844 tw_845 tw_104 tw_846) hdX3_holdOrRefusal ⟨rfl, rfl, Nat.le_of_ble_eq_true rfl, Nat.le_of_ble_eq_true rfl⟩ ⟨Nat.le_of_ble_eq_true rfl, Nat.le_of_ble_eq_true rfl⟩ rfl rfl rfl hl.1 rfl (Nat.le_of_ble_eq_true rfl) dX3_bestPartner_20 (fun r_89 hr_89 => ?_)
    refine lv_istore (lv' := [(5, .int r_89), (4, .int L4_85), (3, .int L3_85), (2, .int L2_85), (0, .ref h0), (1, .int p0)]) hx hb dX3_bestPartner_23 hl (by decide) rfl (fun ls hl => ?_)
    refine lv_iload hx hb dX3_bestPartner_25 (lv_at hl 0 rfl) ?_
    refine lv_iload_n hx hb dX3_bestPartner_27 rfl (lv_at hl 2 rfl) ?_
    refine lv_icmp_le (tgt := 37) hx hb dX3_bestPartner_28 (by decide) (fun c_90 => ?_) (fun c_90 => ?_)
    · skip
      have b_92 := i32_bd r_89
      have k_91 := kk_le rfl rfl c_90
      obtain ⟨x_93, ex_93⟩ : ∃ y : Int32, L4_85 + Int32.ofInt 1 = y := ⟨_, rfl⟩
      have k_94 := ar_add (b := 1) rfl zi_1 ex_93.symm (by omega) (by omega)
      refine lv_iinc (v := x_93) (lv' := [(4, .int x_93), (5, .int r_89), (3, .int L3_85), (2, .int L2_85), (0, .ref h0), (1, .int p0)]) hx hb dX3_bestPartner_37 hl (k := 1) rfl ex_93 (by decide) rfl (fun ls hl => ?_)
      refine lv_goto (tgt := 7) hx hb dX3_bestPartner_40 (by decide) ?_
      exact ih_85 (x_93, L3_85, L2_85) _ _ _ ⟨(show 0 ≤ x_93.toInt ∧ x_93.toInt ≤ 8 from by omega), (show 0 ≤ L3_85.toInt from by omega), (show -1 ≤ L2_85.toInt ∧ L2_85.toInt ≤ 7 from by omega), rfl, rfl, lv_sub hl [0, 2, 3, 4, 5] rfl⟩ (by show (2147483647 - x_93.toInt).toNat < (2147483647 - L4_85.toInt).toNat; omega)
    · skip
      have b_96 := i32_bd r_89
      have k_95 := kk_nle rfl rfl c_90
      refine lv_iload hx hb dX3_bestPartner_31 (lv_at hl 1 rfl) ?_
      refine lv_istore_n (lv' := [(2, .int L4_85), (5, .int r_89), (4, .int L4_85), (3, .int L3_85), (0, .ref h0), (1, .int p0)]) hx hb dX3_bestPartner_33 rfl hl (by decide) rfl (fun ls hl => ?_)
      refine lv_iload hx hb dX3_bestPartner_34 (lv_at hl 1 rfl) ?_
      refine lv_istore_n (lv' := [(3, .int r_89), (2, .int L4_85), (5, .int r_89), (4, .int L4_85), (0, .ref h0), (1, .int p0)]) hx hb dX3_bestPartner_36 rfl hl (by decide) rfl (fun ls hl => ?_)
      obtain ⟨x_97, ex_97⟩ : ∃ y : Int32, L4_85 + Int32.ofInt 1 = y := ⟨_, rfl⟩
      have k_98 := ar_add (b := 1) rfl zi_1 ex_97.symm (by omega) (by omega)
      refine lv_iinc (v := x_97) (lv' := [(4, .int x_97), (3, .int r_89), (2, .int L4_85), (5, .int r_89), (0, .ref h0), (1, .int p0)]) hx hb dX3_bestPartner_37 hl (k := 3) rfl ex_97 (by decide) rfl (fun ls hl => ?_)
      refine lv_goto (tgt := 7) hx hb dX3_bestPartner_40 (by decide) ?_
      exact ih_85 (x_97, r_89, L4_85) _ _ _ ⟨(show 0 ≤ x_97.toInt ∧ x_97.toInt ≤ 8 from by omega), (show 0 ≤ r_89.toInt from by omega), (show -1 ≤ L4_85.toInt ∧ L4_85.toInt ≤ 7 from by omega), rfl, rfl, lv_sub hl [0, 1, 2, 4, 5] rfl⟩ (by show (2147483647 - x_97.toInt).toNat < (2147483647 - L4_85.toInt).toNat; omega)
set_option maxHeartbeats 8000000 in
set_option maxRecDepth 100000 in
theorem g_X3_giftOf (l : Launch) (D : va_G) (cA : Nat → ClassId) (h0 : Nat) (g_odds : Int32) (g_pot : Int32) (g_lines : Int32) (g_men : Int32) (g_clauses : Int32) (g_winds : Int32) (g_far0 : Int32) (g_far1 : Int32) (g_qsides : Nat) (g_qgrips : Nat) (g_qwits : Nat) (g_qsays : Nat) (g_qgives0 : Nat) (g_qgives1 : Nat) (g_qfroms : Nat) (g_qtos : Nat) (g_cgives0 : Nat → Int32) (g_cgives1 : Nat → Int32) (p0 : Int32) (p1 : Int32) (h_g_odds : -999 ≤ (g_odds : Int32).toInt ∧ (g_odds : Int32).toInt ≤ 999) (h_g_pot : -999 ≤ (g_pot : Int32).toInt ∧ (g_pot : Int32).toInt ≤ 999) (h_g_men : 0 ≤ (g_men : Int32).toInt ∧ (g_men : Int32).toInt ≤ 8) (h_g_clauses : 0 ≤ (g_clauses : Int32).toInt ∧ (g_clauses : Int32).toInt ≤ 7) (h_g_winds : 0 ≤ (g_winds : Int32).toInt ∧ (g_winds : Int32).toInt ≤ 4) (h_g_far0 : -999 ≤ (g_far0 : Int32).toInt ∧ (g_far0 : Int32).toInt ≤ 999) (h_g_far1 : -999 ≤ (g_far1 : Int32).toInt ∧ (g_far1 : Int32).toInt ≤ 999) : Met l yX3_giftOf (Cond.code yX3_giftOf cX3_giftOf 3 (some .int) :: TB) (rmd 1 0 0) (PP D cA [(h0, .inr (3, [.int g_odds, .int g_pot, .int g_lines, .int g_men, .int g_clauses, .int g_winds, .int g_far0, .int g_far1, .ref g_qsides, .ref g_qgrips, .ref g_qwits, .ref g_qsays, .ref g_qgives0, .ref g_qgives1, .ref g_qfroms, .ref g_qtos])), (g_qgives0, .inl (cA 1, 7, .inl g_cgives0)), (g_qgives1, .inl (cA 1, 7, .inl g_cgives1))] [.ref h0, .int p0, .int p1]) (vp_Si (fun r => True)) 0 0 (fun _ => False) := by
  refine Met.ofW (cc := cX3_giftOf) (maxL := 3) (ret := (some .int)) (by decide) rfl ?_
  intro p e s m args below meth c s₁ B hml hv
  obtain ⟨rfl, hP, hKN⟩ := hv
  have hx := B.exec
  have hb := B.bytes
  have hr := B.returns
  have hts : ∀ w ∈ TB, w.before _ s = true := fun w h => atoms_spec B.pre w (List.mem_cons_of_mem _ h)
  have hown : s.vm.findClass RX3 = some m.cls := findClass_of_methodNamed B.named
  have hlocks := B.notSynchronized
  have hl := lv_entry ([.ref h0, .int p0, .int p1]) (n := 3) (Nat.le_of_ble_eq_true rfl)
  rw [lg_entry_eq]
  generalize (lg_sl ([.ref h0, .int p0, .int p1]) ++ List.replicate (3 - (lg_sl ([.ref h0, .int p0, .int p1])).length) Slot.unset).toArray = ls at hl ⊢
  have hl : lv_has ls 3 [(0, .ref h0), (1, .int p0), (2, .int p1)] := hl
  refine lv_aload_n hx hb dX3_giftOf_0 rfl (lv_at hl 0 rfl) ?_
  refine lv_iload_n hx hb dX3_giftOf_1 rfl (lv_at hl 1 rfl) ?_
  refine cpVi (rest := []) ⟨hx, hb, hml, hown, hts⟩ hKN (hP.sub (ws' := [(h0, .inr (3, [.int g_odds, .int g_pot, .int g_lines, .int g_men, .int g_clauses, .int g_winds, .int g_far0, .int g_far1, .ref g_qsides, .ref g_qgrips, .ref g_qwits, .ref g_qsays, .ref g_qgives0, .ref g_qgives1, .ref g_qfroms, .ref g_qtos]))]) [0] rfl) (g_X3_hasClause l D cA h0 g_odds g_pot g_lines g_men g_clauses g_winds g_far0 g_far1 g_qsides g_qgrips g_qwits g_qsays g_qgives0 g_qgives1 g_qfroms g_qtos p0 (by omega) (by omega) (by omega) (by omega) (by omega) (by omega) (by omega)) (tb_V tw_727 tw_720 tw_721 tw_104 tw_722) hdX3_hasClause ⟨rfl, rfl, Nat.le_of_ble_eq_true rfl, Nat.le_of_ble_eq_true rfl⟩ ⟨Nat.le_of_ble_eq_true rfl, Nat.le_of_ble_eq_true rfl⟩ rfl rfl rfl hl.1 rfl (Nat.le_of_ble_eq_true rfl) dX3_giftOf_2 (fun r_1 hr_1 => ?_)
  rcases hr_1 with ⟨k_1_0_0, k_1_0_1, k_1_0_2, rfl⟩ | rfl
  · skip
    refine lv_if_ne (tgt := 10) hx hb dX3_giftOf_5 (by decide) (fun c_2 => ?_) (fun c_2 => absurd c_2 (by decide))
    refine lv_iload_n hx hb dX3_giftOf_10 rfl (lv_at hl 2 rfl) ?_
    refine lv_if_ne (tgt := 23) hx hb dX3_giftOf_11 (by decide) (fun c_3 => ?_) (fun c_3 => ?_)
    · skip
      have b_5 := i32_bd p1
      have k_4 := kk_ne rfl zi_0 c_3
      refine lv_aload_n hx hb dX3_giftOf_23 rfl (lv_at hl 0 rfl) ?_
      refine va_get (D := D) (ci := 3) (v := .ref g_qgives1) (C := RX3) (T := TX3) (N := 16) hx hb hts inX3 hown hKN.1 hP 0 rfl rfl 13 (by decide) (hts _ tw_187) (fun _ h9 => h9) rfl dX3_giftOf_24 ?_
      refine lv_iload_n hx hb dX3_giftOf_27 rfl (lv_at hl 1 rfl) ?_
      refine va_iald hx hb hKN.1 hP 2 1 rfl rfl (vp_in_iff.mpr ⟨by omega, by omega⟩) dX3_giftOf_28 ?_
      refine lv_topi (fun x_6 ex_6 => ?_)
      exact W.iret (v := x_6) hx hb hr (fun t ht hW => ⟨x_6, rfl, trivial, ht⟩) (fun _ h => by cases h) dX3_giftOf_29
    · skip
      have b_8 := i32_bd p1
      have k_7 := kk_eq rfl zi_0 c_3
      refine lv_aload_n hx hb dX3_giftOf_14 rfl (lv_at hl 0 rfl) ?_
      refine va_get (D := D) (ci := 3) (v := .ref g_qgives0) (C := RX3) (T := TX3) (N := 16) hx hb hts inX3 hown hKN.1 hP 0 rfl rfl 12 (by decide) (hts _ tw_186) (fun _ h9 => h9) rfl dX3_giftOf_15 ?_
      refine lv_iload_n hx hb dX3_giftOf_18 rfl (lv_at hl 1 rfl) ?_
      refine va_iald hx hb hKN.1 hP 1 1 rfl rfl (vp_in_iff.mpr ⟨by omega, by omega⟩) dX3_giftOf_19 ?_
      refine lv_topi (fun x_9 ex_9 => ?_)
      refine lv_goto (tgt := 29) hx hb dX3_giftOf_20 (by decide) ?_
      exact W.iret (v := x_9) hx hb hr (fun t ht hW => ⟨x_9, rfl, trivial, ht⟩) (fun _ h => by cases h) dX3_giftOf_29
  · skip
    refine lv_if_ne (tgt := 10) hx hb dX3_giftOf_5 (by decide) (fun c_10 => absurd (by decide) c_10) (fun c_10 => ?_)
    refine lv_iconst (v := 0) hx hb dX3_giftOf_8 (by decide) ?_
    exact W.iret (v := 0) hx hb hr (fun t ht hW => ⟨0, rfl, trivial, ht⟩) (fun _ h => by cases h) dX3_giftOf_9
set_option maxHeartbeats 8000000 in
set_option maxRecDepth 100000 in
theorem g_X3_worthOf (l : Launch) (D : va_G) (cA : Nat → ClassId) (h0 : Nat) (g_odds : Int32) (g_pot : Int32) (g_lines : Int32) (g_men : Int32) (g_clauses : Int32) (g_winds : Int32) (g_far0 : Int32) (g_far1 : Int32) (g_qsides : Nat) (g_qgrips : Nat) (g_qwits : Nat) (g_qsays : Nat) (g_qgives0 : Nat) (g_qgives1 : Nat) (g_qfroms : Nat) (g_qtos : Nat) (g_cgives0 : Nat → Int32) (g_cgives1 : Nat → Int32) (p0 : Int32) (p1 : Int32) (h_g_odds : -999 ≤ (g_odds : Int32).toInt ∧ (g_odds : Int32).toInt ≤ 999) (h_g_pot : -999 ≤ (g_pot : Int32).toInt ∧ (g_pot : Int32).toInt ≤ 999) (h_g_men : 0 ≤ (g_men : Int32).toInt ∧ (g_men : Int32).toInt ≤ 8) (h_g_clauses : 0 ≤ (g_clauses : Int32).toInt ∧ (g_clauses : Int32).toInt ≤ 7) (h_g_winds : 0 ≤ (g_winds : Int32).toInt ∧ (g_winds : Int32).toInt ≤ 4) (h_g_far0 : -999 ≤ (g_far0 : Int32).toInt ∧ (g_far0 : Int32).toInt ≤ 999) (h_g_far1 : -999 ≤ (g_far1 : Int32).toInt ∧ (g_far1 : Int32).toInt ≤ 999) : Met l yX3_worthOf (Cond.code yX3_worthOf cX3_worthOf 5 (some .int) :: TB) (rmd 2 0 0) (PP D cA [(h0, .inr (3, [.int g_odds, .int g_pot, .int g_lines, .int g_men, .int g_clauses, .int g_winds, .int g_far0, .int g_far1, .ref g_qsides, .ref g_qgrips, .ref g_qwits, .ref g_qsays, .ref g_qgives0, .ref g_qgives1, .ref g_qfroms, .ref g_qtos])), (g_qgives0, .inl (cA 1, 7, .inl g_cgives0)), (g_qgives1, .inl (cA 1, 7, .inl g_cgives1))] [.ref h0, .int p0, .int p1]) (vp_Si (fun r => True)) 0 0 (fun _ => False) := by
  refine Met.ofW (cc := cX3_worthOf) (maxL := 5) (ret := (some .int)) (by decide) rfl ?_
  intro p e s m args below meth c s₁ B hml hv
  obtain ⟨rfl, hP, hKN⟩ := hv
  have hx := B.exec
  have hb := B.bytes
  have hr := B.returns
  have hts : ∀ w ∈ TB, w.before _ s = true := fun w h => atoms_spec B.pre w (List.mem_cons_of_mem _ h)
  have hown : s.vm.findClass RX3 = some m.cls := findClass_of_methodNamed B.named
  have hlocks := B.notSynchronized
  have hl := lv_entry ([.ref h0, .int p0, .int p1]) (n := 5) (Nat.le_of_ble_eq_true rfl)
  rw [lg_entry_eq]
  generalize (lg_sl ([.ref h0, .int p0, .int p1]) ++ List.replicate (5 - (lg_sl ([.ref h0, .int p0, .int p1])).length) Slot.unset).toArray = ls at hl ⊢
  have hl : lv_has ls 5 [(0, .ref h0), (1, .int p0), (2, .int p1)] := hl
  refine lv_iconst (v := 0) hx hb dX3_worthOf_0 (by decide) ?_
  refine lv_istore_n (lv' := [(3, .int 0), (0, .ref h0), (1, .int p0), (2, .int p1)]) hx hb dX3_worthOf_1 rfl hl (by decide) rfl (fun ls hl => ?_)
  refine lv_iconst (v := 0) hx hb dX3_worthOf_2 (by decide) ?_
  refine lv_istore (lv' := [(4, .int 0), (3, .int 0), (0, .ref h0), (1, .int p0), (2, .int p1)]) hx hb dX3_worthOf_3 hl (by decide) rfl (fun ls hl => ?_)
  refine loopW (σ := Int32 × Int32) (fun _ => []) (fun ⟨L4_92, L3_92⟩ H locs ls => (0 ≤ L4_92.toInt ∧ L4_92.toInt ≤ 7) ∧ H = s.heap ∧ locs = [] ∧ lv_has ls 5 [(4, .int L4_92), (3, .int L3_92), (0, .ref h0), (1, .int p0), (2, .int p1)]) (fun ⟨L4_92, L3_92⟩ => (2147483647 - L4_92.toInt).toNat) ?_ ((0, 0) : Int32 × Int32) ⟨(by decide), rfl, rfl, hl⟩
  intro x_92 H locs ls hI_92 ih_92
  obtain ⟨L4_92, L3_92⟩ := x_92
  obtain ⟨k0_92, rfl, rfl, hl⟩ := hI_92
  have hl : lv_has ls 5 [(4, .int L4_92), (3, .int L3_92), (0, .ref h0), (1, .int p0), (2, .int p1)] := hl
  refine lv_iload hx hb dX3_worthOf_5 (lv_at hl 0 rfl) ?_
  refine lv_aload_n hx hb dX3_worthOf_7 rfl (lv_at hl 2 rfl) ?_
  refine va_get (D := D) (ci := 3) (v := .int g_clauses) (C := RX3) (T := TX3) (N := 16) hx hb hts inX3 hown hKN.1 hP 0 rfl rfl 4 (by decide) (hts _ tw_172) (fun _ h9 => h9) rfl dX3_worthOf_8 ?_
  refine lv_icmp_ge (tgt := 40) hx hb dX3_worthOf_11 (by decide) (fun c_93 => ?_) (fun c_93 => ?_)
  · skip
    have k_94 := kk_le rfl rfl c_93
    refine lv_iload_n hx hb dX3_worthOf_40 rfl (lv_at hl 1 rfl) ?_
    exact W.iret (v := L3_92) hx hb hr (fun t ht hW => ⟨L3_92, rfl, trivial, ht⟩) (fun _ h => by cases h) dX3_worthOf_41
  · skip
    have k_95 := kk_nle rfl rfl c_93
    refine lv_iload_n hx hb dX3_worthOf_14 rfl (lv_at hl 3 rfl) ?_
    refine lv_iload hx hb dX3_worthOf_15 (lv_at hl 0 rfl) ?_
    refine lv_ishr hx hb dX3_worthOf_17 ?_
    refine lv_topi (fun x_96 ex_96 => ?_)
    refine lv_iconst (v := 1) hx hb dX3_worthOf_18 (by decide) ?_
    refine lv_iand hx hb dX3_worthOf_19 ?_
    refine lv_topi (fun x_98 ex_98 => ?_)
    have k_99 := ar_andR zi_1 ex_98 (by omega)
    refine lv_iconst (v := 1) hx hb dX3_worthOf_20 (by decide) ?_
    refine lv_icmp_ne (tgt := 34) hx hb dX3_worthOf_21 (by decide) (fun c_100 => ?_) (fun c_100 => ?_)
    · skip
      have k_101 := kk_ne rfl zi_1 c_100
      obtain ⟨x_102, ex_102⟩ : ∃ y : Int32, L4_92 + Int32.ofInt 1 = y := ⟨_, rfl⟩
      have k_103 := ar_add (b := 1) rfl zi_1 ex_102.symm (by omega) (by omega)
      refine lv_iinc (v := x_102) (lv' := [(4, .int x_102), (3, .int L3_92), (0, .ref h0), (1, .int p0), (2, .int p1)]) hx hb dX3_worthOf_34 hl (k := 0) rfl ex_102 (by decide) rfl (fun ls hl => ?_)
      refine lv_goto (tgt := 5) hx hb dX3_worthOf_37 (by decide) ?_
      exact ih_92 (x_102, L3_92) _ _ _ ⟨(show 0 ≤ x_102.toInt ∧ x_102.toInt ≤ 7 from by omega), rfl, rfl, lv_sub hl [0, 1, 2, 3, 4] rfl⟩ (by show (2147483647 - x_102.toInt).toNat < (2147483647 - L4_92.toInt).toNat; omega)
    · skip
      have k_104 := kk_eq rfl zi_1 c_100
      refine lv_iload_n hx hb dX3_worthOf_24 rfl (lv_at hl 1 rfl) ?_
      refine lv_aload_n hx hb dX3_worthOf_25 rfl (lv_at hl 2 rfl) ?_
      refine lv_iload hx hb dX3_worthOf_26 (lv_at hl 0 rfl) ?_
      refine lv_iload_n hx hb dX3_worthOf_28 rfl (lv_at hl 4 rfl) ?_
      refine cpVi (rest := [.int L3_92]) ⟨hx, hb, hml, hown, hts⟩ hKN (hP.sub (ws' := [(h0, .inr (3, [.int g_odds, .int g_pot, .int g_lines, .int g_men, .int g_clauses, .int g_winds, .int g_far0, .int g_far1, .ref g_qsides, .ref g_qgrips, .ref g_qwits, .ref g_qsays, .ref g_qgives0, .ref g_qgives1, .ref g_qfroms, .ref g_qtos])), (g_qgives0, .inl (cA 1, 7, .inl g_cgives0)), (g_qgives1, .inl (cA 1, 7, .inl g_cgives1))]) [0, 1, 2] rfl) (g_X3_giftOf l D cA h0 g_odds g_pot g_lines g_men g_clauses g_winds g_far0 g_far1 g_qsides g_qgrips g_qwits g_qsays g_qgives0 g_qgives1 g_qfroms g_qtos g_cgives0 g_cgives1 L4_92 p1 (by omega) (by omega) (by omega) (by omega) (by omega) (by omega) (by omega)) (tb_V tw_1082 tw_729 tw_730 tw_104 tw_731) hdX3_giftOf ⟨rfl, rfl, Nat.le_of_ble_eq_true rfl, Nat.le_of_ble_eq_true rfl⟩ ⟨Nat.le_of_ble_eq_true rfl, Nat.le_of_ble_eq_true rfl⟩ rfl rfl rfl hl.1 rfl (Nat.le_of_ble_eq_true rfl) dX3_worthOf_29 (fun r_105 hr_105 => ?_)
      refine lv_iadd hx hb dX3_worthOf_32 ?_
      refine lv_topi (fun x_106 ex_106 => ?_)
      refine lv_istore_n (lv' := [(3, .int x_106), (4, .int L4_92), (0, .ref h0), (1, .int p0), (2, .int p1)]) hx hb dX3_worthOf_33 rfl hl (by decide) rfl (fun ls hl => ?_)
      obtain ⟨x_108, ex_108⟩ : ∃ y : Int32, L4_92 + Int32.ofInt 1 = y := ⟨_, rfl⟩
      have k_109 := ar_add (b := 1) rfl zi_1 ex_108.symm (by omega) (by omega)
      refine lv_iinc (v := x_108) (lv' := [(4, .int x_108), (3, .int x_106), (0, .ref h0), (1, .int p0), (2, .int p1)]) hx hb dX3_worthOf_34 hl (k := 1) rfl ex_108 (by decide) rfl (fun ls hl => ?_)
      refine lv_goto (tgt := 5) hx hb dX3_worthOf_37 (by decide) ?_
      exact ih_92 (x_108, x_106) _ _ _ ⟨(show 0 ≤ x_108.toInt ∧ x_108.toInt ≤ 7 from by omega), rfl, rfl, lv_sub hl [0, 1, 2, 3, 4] rfl⟩ (by show (2147483647 - x_108.toInt).toNat < (2147483647 - L4_92.toInt).toNat; omega)

set_option maxHeartbeats 4000000 in
set_option maxRecDepth 100000 in
theorem k_X12_feed (l : Launch) (D : va_G) (cA : Nat → ClassId) (sz : Nat) (h0 : Nat) (m_world : Nat) (m_images : Nat) (m_hasImage : Nat) (m_tape : Nat) (m_five : Nat) (m_fresh : Nat) (m_sums : Nat) (m_pairs : Nat) (m_goesWith : Nat) (m_said : Nat) (m_firstOrder : Nat) (m_tiredBy : Nat) (m_many : Nat) (m_width : Nat) (m_numbers : Nat) (m_moving : Nat) (f5 : Nat → Int32) (ft : Nat → Int32) (p0 : Int32) (p1 : Int32) (p2 : Int32) (p3 : Int32) (p4 : Int32) : Met l yX12_feed (Cond.code yX12_feed cX12_feed 7 (some .int) :: TB) (rmd 0 0 0) (PM D cA sz [(h0, .inr (12, [.int 0, .ref m_world, .ref m_images, .ref m_hasImage, .ref m_tape, .int 0, .ref m_five, .int 0, .int 0, .int 0, .int 0, .int 0, .int 0, .int (-1), .ref m_fresh, .int 0, .int 0, .int 0, .int 0, .int 0, .int 0, .ref m_sums, .ref m_pairs, .ref m_goesWith, .ref m_said, .int 0, .int 0, .ref m_firstOrder, .int 0, .ref m_tiredBy, .int 0, .ref m_many, .ref m_width, .ref m_numbers, .ref m_moving])), (m_five, .inl (cA 1, 5, .inl f5)), (m_tape, .inl (cA 0, 800, .inl ft))] [.ref h0, .int p0, .int p1, .int p2, .int p3, .int p4]) (va_Qi (fun r (_ : SU) => r = 20) (fun u t => va_P D vwCl [] t.heap ∧ va_D (va_A [(h0, .inr (12, [.int 0, .ref m_world, .ref m_images, .ref m_hasImage, .ref m_tape, .int 0, .ref m_five, .int 0, .int 0, .int 0, .int 0, .int 0, .int 0, .int (-1), .ref m_fresh, .int 0, .int 0, .int 0, .int 0, .int 0, .int 0, .ref m_sums, .ref m_pairs, .ref m_goesWith, .ref m_said, .int 0, .int 0, .ref m_firstOrder, .int 0, .ref m_tiredBy, .int 0, .ref m_many, .ref m_width, .ref m_numbers, .ref m_moving])), (m_five, .inl (cA 1, 5, .inl f5)), (m_tape, .inl (cA 0, 800, .inl ft))] sz) []) (va_A [(h0, .inr (12, [.int 0, .ref m_world, .ref m_images, .ref m_hasImage, .ref m_tape, .int 0, .ref m_five, .int 0, .int 0, .int 0, .int 0, .int 0, .int 0, .int (-1), .ref m_fresh, .int 0, .int 0, .int 0, .int 0, .int 0, .int 0, .ref m_sums, .ref m_pairs, .ref m_goesWith, .ref m_said, .int 0, .int 0, .ref m_firstOrder, .int 0, .ref m_tiredBy, .int 0, .ref m_many, .ref m_width, .ref m_numbers, .ref m_moving])), (m_five, .inl (cA 1, 5, .inl f5)), (m_tape, .inl (cA 0, 800, .inl ft))] sz)) 0 0 (va_A [(h0, .inr (12, [.int 0, .ref m_world, .ref m_images, .ref m_hasImage, .ref m_tape, .int 0, .ref m_five, .int 0, .int 0, .int 0, .int 0, .int 0, .int 0, .int (-1), .ref m_fresh, .int 0, .int 0, .int 0, .int 0, .int 0, .int 0, .ref m_sums, .ref m_pairs, .ref m_goesWith, .ref m_said, .int 0, .int 0, .ref m_firstOrder, .int 0, .ref m_tiredBy, .int 0, .ref m_many, .ref m_width, .ref m_numbers, .ref m_moving])), (m_five, .inl (cA 1, 5, .inl f5)), (m_tape, .inl (cA 0, 800, .inl ft))] sz) := by
  refine Met.ofW (cc := cX12_feed) (maxL := 7) (ret := (some .int)) (by decide) rfl ?_
  intro p e s m args below meth c s₁ B hml hv
  obtain ⟨rfl, hsz, hP, hKN, hD0⟩ := hv
  have hx := B.exec
  have hb := B.bytes
  have hr := B.returns
  have hts : ∀ w ∈ TB, w.before _ s = true := fun w h => atoms_spec B.pre w (List.mem_cons_of_mem _ h)
  have hown : s.vm.findClass RX12 = some m.cls := findClass_of_methodNamed B.named
  have hlocks := B.notSynchronized
  subst hsz
  have hD := hD0.self (sz := s.heap.size)
  generalize hAe : va_A [(h0, .inr (12, [.int 0, .ref m_world, .ref m_images, .ref m_hasImage, .ref m_tape, .int 0, .ref m_five, .int 0, .int 0, .int 0, .int 0, .int 0, .int 0, .int (-1), .ref m_fresh, .int 0, .int 0, .int 0, .int 0, .int 0, .int 0, .ref m_sums, .ref m_pairs, .ref m_goesWith, .ref m_said, .int 0, .int 0, .ref m_firstOrder, .int 0, .ref m_tiredBy, .int 0, .ref m_many, .ref m_width, .ref m_numbers, .ref m_moving])), (m_five, .inl (cA 1, 5, .inl f5)), (m_tape, .inl (cA 0, 800, .inl ft))] s.heap.size = A at hD ⊢
  have hA : ∀ q : Nat, s.heap.size ≤ q → A q := fun q h => by rw [← hAe]; exact Or.inr h
  have hS : va_S A s.heap s.heap [] := va_S.rf
  have hl := lv_entry ([.ref h0, .int p0, .int p1, .int p2, .int p3, .int p4]) (n := 7) (Nat.le_of_ble_eq_true rfl)
  rw [lg_entry_eq]
  generalize (lg_sl ([.ref h0, .int p0, .int p1, .int p2, .int p3, .int p4]) ++ List.replicate (7 - (lg_sl ([.ref h0, .int p0, .int p1, .int p2, .int p3, .int p4])).length) Slot.unset).toArray = ls at hl ⊢
  have hl : lv_has ls 7 [(0, .ref h0), (1, .int p0), (2, .int p1), (3, .int p2), (4, .int p3), (5, .int p4)] := hl
  refine lv_aload_n hx hb dX12_feed_0 rfl (lv_at hl 0 rfl) ?_
  refine va_get (D := D) (ci := 12) (v := .int 0) (C := RX12) (T := TX12) (N := 35) hx hb hts inX12 hown hKN.1 hP 0 rfl rfl 5 (by decide) (hts _ tw_1424) (fun _ h9 => h9) rfl dX12_feed_1 ?_
  refine lv_bipush (v := 20) hx hb dX12_feed_4 (by decide) ?_
  refine lv_iadd hx hb dX12_feed_6 ?_
  refine lv_topi (fun x_1 ex_1 => ?_)
  obtain rfl : x_1 = 20 := ex_1.trans (by decide)
  refine lv_sipush (v := 800) hx hb dX12_feed_7 (by decide) ?_
  refine lv_icmp_le (tgt := 15) hx hb dX12_feed_10 (by decide) (fun c_2 => ?_) (fun c_2 => absurd (by decide) c_2)
  refine lv_aload_n hx hb dX12_feed_15 rfl (lv_at hl 0 rfl) ?_
  refine va_get (D := D) (ci := 12) (v := .ref m_five) (C := RX12) (T := TX12) (N := 35) hx hb hts inX12 hown hKN.1 hP 0 rfl rfl 6 (by decide) (hts _ tw_1425) (fun _ h9 => h9) rfl dX12_feed_16 ?_
  refine lv_iconst (v := 0) hx hb dX12_feed_19 (by decide) ?_
  refine lv_iload_n hx hb dX12_feed_20 rfl (lv_at hl 1 rfl) ?_
  refine va_iast hx hb hKN.1 hP hD hS 1 1 rfl rfl (by unfold vp_in; decide) dX12_feed_21 (fun H locs hP hD hS => ?_)
  have hP : va_P D vwCl [(h0, .inr (12, [.int 0, .ref m_world, .ref m_images, .ref m_hasImage, .ref m_tape, .int 0, .ref m_five, .int 0, .int 0, .int 0, .int 0, .int 0, .int 0, .int (-1), .ref m_fresh, .int 0, .int 0, .int 0, .int 0, .int 0, .int 0, .ref m_sums, .ref m_pairs, .ref m_goesWith, .ref m_said, .int 0, .int 0, .ref m_firstOrder, .int 0, .ref m_tiredBy, .int 0, .ref m_many, .ref m_width, .ref m_numbers, .ref m_moving])), (m_five, .inl (cA 1, 5, .inl (upd f5 0 p0))), (m_tape, .inl (cA 0, 800, .inl ft))] H := hP
  have hD : va_D A [(h0, .inr (12, [.int 0, .ref m_world, .ref m_images, .ref m_hasImage, .ref m_tape, .int 0, .ref m_five, .int 0, .int 0, .int 0, .int 0, .int 0, .int 0, .int (-1), .ref m_fresh, .int 0, .int 0, .int 0, .int 0, .int 0, .int 0, .ref m_sums, .ref m_pairs, .ref m_goesWith, .ref m_said, .int 0, .int 0, .ref m_firstOrder, .int 0, .ref m_tiredBy, .int 0, .ref m_many, .ref m_width, .ref m_numbers, .ref m_moving])), (m_five, .inl (cA 1, 5, .inl (upd f5 0 p0))), (m_tape, .inl (cA 0, 800, .inl ft))] := hD
  generalize ef_3 : (upd f5 0 p0) = f_3 at hP hD
  refine lv_aload_n hx hb dX12_feed_22 rfl (lv_at hl 0 rfl) ?_
  refine va_get (D := D) (ci := 12) (v := .ref m_five) (C := RX12) (T := TX12) (N := 35) hx hb hts inX12 hown hKN.1 hP 0 rfl rfl 6 (by decide) (hts _ tw_1425) (fun _ h9 => h9) rfl dX12_feed_23 ?_
  refine lv_iconst (v := 1) hx hb dX12_feed_26 (by decide) ?_
  refine lv_iload_n hx hb dX12_feed_27 rfl (lv_at hl 2 rfl) ?_
  refine va_iast hx hb hKN.1 hP hD hS 1 1 rfl rfl (by unfold vp_in; decide) dX12_feed_28 (fun H locs hP hD hS => ?_)
  have hP : va_P D vwCl [(h0, .inr (12, [.int 0, .ref m_world, .ref m_images, .ref m_hasImage, .ref m_tape, .int 0, .ref m_five, .int 0, .int 0, .int 0, .int 0, .int 0, .int 0, .int (-1), .ref m_fresh, .int 0, .int 0, .int 0, .int 0, .int 0, .int 0, .ref m_sums, .ref m_pairs, .ref m_goesWith, .ref m_said, .int 0, .int 0, .ref m_firstOrder, .int 0, .ref m_tiredBy, .int 0, .ref m_many, .ref m_width, .ref m_numbers, .ref m_moving])), (m_five, .inl (cA 1, 5, .inl (upd f_3 1 p1))), (m_tape, .inl (cA 0, 800, .inl ft))] H := hP
  have hD : va_D A [(h0, .inr (12, [.int 0, .ref m_world, .ref m_images, .ref m_hasImage, .ref m_tape, .int 0, .ref m_five, .int 0, .int 0, .int 0, .int 0, .int 0, .int 0, .int (-1), .ref m_fresh, .int 0, .int 0, .int 0, .int 0, .int 0, .int 0, .ref m_sums, .ref m_pairs, .ref m_goesWith, .ref m_said, .int 0, .int 0, .ref m_firstOrder, .int 0, .ref m_tiredBy, .int 0, .ref m_many, .ref m_width, .ref m_numbers, .ref m_moving])), (m_five, .inl (cA 1, 5, .inl (upd f_3 1 p1))), (m_tape, .inl (cA 0, 800, .inl ft))] := hD
  generalize ef_4 : (upd f_3 1 p1) = f_4 at hP hD
  refine lv_aload_n hx hb dX12_feed_29 rfl (lv_at hl 0 rfl) ?_
  refine va_get (D := D) (ci := 12) (v := .ref m_five) (C := RX12) (T := TX12) (N := 35) hx hb hts inX12 hown hKN.1 hP 0 rfl rfl 6 (by decide) (hts _ tw_1425) (fun _ h9 => h9) rfl dX12_feed_30 ?_
  refine lv_iconst (v := 2) hx hb dX12_feed_33 (by decide) ?_
  refine lv_iload_n hx hb dX12_feed_34 rfl (lv_at hl 3 rfl) ?_
  refine va_iast hx hb hKN.1 hP hD hS 1 1 rfl rfl (by unfold vp_in; decide) dX12_feed_35 (fun H locs hP hD hS => ?_)
  have hP : va_P D vwCl [(h0, .inr (12, [.int 0, .ref m_world, .ref m_images, .ref m_hasImage, .ref m_tape, .int 0, .ref m_five, .int 0, .int 0, .int 0, .int 0, .int 0, .int 0, .int (-1), .ref m_fresh, .int 0, .int 0, .int 0, .int 0, .int 0, .int 0, .ref m_sums, .ref m_pairs, .ref m_goesWith, .ref m_said, .int 0, .int 0, .ref m_firstOrder, .int 0, .ref m_tiredBy, .int 0, .ref m_many, .ref m_width, .ref m_numbers, .ref m_moving])), (m_five, .inl (cA 1, 5, .inl (upd f_4 2 p2))), (m_tape, .inl (cA 0, 800, .inl ft))] H := hP
  have hD : va_D A [(h0, .inr (12, [.int 0, .ref m_world, .ref m_images, .ref m_hasImage, .ref m_tape, .int 0, .ref m_five, .int 0, .int 0, .int 0, .int 0, .int 0, .int 0, .int (-1), .ref m_fresh, .int 0, .int 0, .int 0, .int 0, .int 0, .int 0, .ref m_sums, .ref m_pairs, .ref m_goesWith, .ref m_said, .int 0, .int 0, .ref m_firstOrder, .int 0, .ref m_tiredBy, .int 0, .ref m_many, .ref m_width, .ref m_numbers, .ref m_moving])), (m_five, .inl (cA 1, 5, .inl (upd f_4 2 p2))), (m_tape, .inl (cA 0, 800, .inl ft))] := hD
  generalize ef_5 : (upd f_4 2 p2) = f_5 at hP hD
  refine lv_aload_n hx hb dX12_feed_36 rfl (lv_at hl 0 rfl) ?_
  refine va_get (D := D) (ci := 12) (v := .ref m_five) (C := RX12) (T := TX12) (N := 35) hx hb hts inX12 hown hKN.1 hP 0 rfl rfl 6 (by decide) (hts _ tw_1425) (fun _ h9 => h9) rfl dX12_feed_37 ?_
  refine lv_iconst (v := 3) hx hb dX12_feed_40 (by decide) ?_
  refine lv_iload hx hb dX12_feed_41 (lv_at hl 4 rfl) ?_
  refine va_iast hx hb hKN.1 hP hD hS 1 1 rfl rfl (by unfold vp_in; decide) dX12_feed_43 (fun H locs hP hD hS => ?_)
  have hP : va_P D vwCl [(h0, .inr (12, [.int 0, .ref m_world, .ref m_images, .ref m_hasImage, .ref m_tape, .int 0, .ref m_five, .int 0, .int 0, .int 0, .int 0, .int 0, .int 0, .int (-1), .ref m_fresh, .int 0, .int 0, .int 0, .int 0, .int 0, .int 0, .ref m_sums, .ref m_pairs, .ref m_goesWith, .ref m_said, .int 0, .int 0, .ref m_firstOrder, .int 0, .ref m_tiredBy, .int 0, .ref m_many, .ref m_width, .ref m_numbers, .ref m_moving])), (m_five, .inl (cA 1, 5, .inl (upd f_5 3 p3))), (m_tape, .inl (cA 0, 800, .inl ft))] H := hP
  have hD : va_D A [(h0, .inr (12, [.int 0, .ref m_world, .ref m_images, .ref m_hasImage, .ref m_tape, .int 0, .ref m_five, .int 0, .int 0, .int 0, .int 0, .int 0, .int 0, .int (-1), .ref m_fresh, .int 0, .int 0, .int 0, .int 0, .int 0, .int 0, .ref m_sums, .ref m_pairs, .ref m_goesWith, .ref m_said, .int 0, .int 0, .ref m_firstOrder, .int 0, .ref m_tiredBy, .int 0, .ref m_many, .ref m_width, .ref m_numbers, .ref m_moving])), (m_five, .inl (cA 1, 5, .inl (upd f_5 3 p3))), (m_tape, .inl (cA 0, 800, .inl ft))] := hD
  generalize ef_6 : (upd f_5 3 p3) = f_6 at hP hD
  refine lv_aload_n hx hb dX12_feed_44 rfl (lv_at hl 0 rfl) ?_
  refine va_get (D := D) (ci := 12) (v := .ref m_five) (C := RX12) (T := TX12) (N := 35) hx hb hts inX12 hown hKN.1 hP 0 rfl rfl 6 (by decide) (hts _ tw_1425) (fun _ h9 => h9) rfl dX12_feed_45 ?_
  refine lv_iconst (v := 4) hx hb dX12_feed_48 (by decide) ?_
  refine lv_iload hx hb dX12_feed_49 (lv_at hl 5 rfl) ?_
  refine va_iast hx hb hKN.1 hP hD hS 1 1 rfl rfl (by unfold vp_in; decide) dX12_feed_51 (fun H locs hP hD hS => ?_)
  have hP : va_P D vwCl [(h0, .inr (12, [.int 0, .ref m_world, .ref m_images, .ref m_hasImage, .ref m_tape, .int 0, .ref m_five, .int 0, .int 0, .int 0, .int 0, .int 0, .int 0, .int (-1), .ref m_fresh, .int 0, .int 0, .int 0, .int 0, .int 0, .int 0, .ref m_sums, .ref m_pairs, .ref m_goesWith, .ref m_said, .int 0, .int 0, .ref m_firstOrder, .int 0, .ref m_tiredBy, .int 0, .ref m_many, .ref m_width, .ref m_numbers, .ref m_moving])), (m_five, .inl (cA 1, 5, .inl (upd f_6 4 p4))), (m_tape, .inl (cA 0, 800, .inl ft))] H := hP
  have hD : va_D A [(h0, .inr (12, [.int 0, .ref m_world, .ref m_images, .ref m_hasImage, .ref m_tape, .int 0, .ref m_five, .int 0, .int 0, .int 0, .int 0, .int 0, .int 0, .int (-1), .ref m_fresh, .int 0, .int 0, .int 0, .int 0, .int 0, .int 0, .ref m_sums, .ref m_pairs, .ref m_goesWith, .ref m_said, .int 0, .int 0, .ref m_firstOrder, .int 0, .ref m_tiredBy, .int 0, .ref m_many, .ref m_width, .ref m_numbers, .ref m_moving])), (m_five, .inl (cA 1, 5, .inl (upd f_6 4 p4))), (m_tape, .inl (cA 0, 800, .inl ft))] := hD
  generalize ef_7 : (upd f_6 4 p4) = f_7 at hP hD
  refine lv_iconst (v := 0) hx hb dX12_feed_52 (by decide) ?_
  refine lv_istore (lv' := [(6, .int 0), (0, .ref h0), (1, .int p0), (2, .int p1), (3, .int p2), (4, .int p3), (5, .int p4)]) hx hb dX12_feed_53 hl (by decide) rfl (fun ls hl => ?_)
  refine lv_iload hx hb dX12_feed_55 (lv_at hl 0 rfl) ?_
  refine lv_bipush (v := 20) hx hb dX12_feed_57 (by decide) ?_
  refine lv_icmp_ge (tgt := 101) hx hb dX12_feed_59 (by decide) (fun c_8 => absurd c_8 (by decide)) (fun c_8 => ?_)
  refine lv_aload_n hx hb dX12_feed_62 rfl (lv_at hl 1 rfl) ?_
  refine va_get (D := D) (ci := 12) (v := .ref m_tape) (C := RX12) (T := TX12) (N := 35) hx hb hts inX12 hown hKN.1 hP 0 rfl rfl 4 (by decide) (hts _ tw_1423) (fun _ h9 => h9) rfl dX12_feed_63 ?_
  refine lv_aload_n hx hb dX12_feed_66 rfl (lv_at hl 1 rfl) ?_
  refine va_get (D := D) (ci := 12) (v := .int 0) (C := RX12) (T := TX12) (N := 35) hx hb hts inX12 hown hKN.1 hP 0 rfl rfl 5 (by decide) (hts _ tw_1424) (fun _ h9 => h9) rfl dX12_feed_67 ?_
  refine lv_iload hx hb dX12_feed_70 (lv_at hl 0 rfl) ?_
  refine lv_iadd hx hb dX12_feed_72 ?_
  refine lv_topi (fun x_9 ex_9 => ?_)
  obtain rfl : x_9 = 0 := ex_9.trans (by decide)
  refine lv_aload_n hx hb dX12_feed_73 rfl (lv_at hl 1 rfl) ?_
  refine va_get (D := D) (ci := 12) (v := .ref m_five) (C := RX12) (T := TX12) (N := 35) hx hb hts inX12 hown hKN.1 hP 0 rfl rfl 6 (by decide) (hts _ tw_1425) (fun _ h9 => h9) rfl dX12_feed_74 ?_
  refine lv_iload hx hb dX12_feed_77 (lv_at hl 0 rfl) ?_
  refine lv_iconst (v := 4) hx hb dX12_feed_79 (by decide) ?_
  refine lv_idiv hx hb dX12_feed_80 (by decide) ?_
  refine lv_topi (fun x_10 ex_10 => ?_)
  obtain rfl : x_10 = 0 := ex_10.trans (by decide)
  refine va_iald hx hb hKN.1 hP 1 1 rfl rfl (by unfold vp_in; decide) dX12_feed_81 ?_
  refine lv_topi (fun x_11 ex_11 => ?_)
  refine lv_bipush (v := 24) hx hb dX12_feed_82 (by decide) ?_
  refine lv_bipush (v := 8) hx hb dX12_feed_84 (by decide) ?_
  refine lv_iload hx hb dX12_feed_86 (lv_at hl 0 rfl) ?_
  refine lv_iconst (v := 4) hx hb dX12_feed_88 (by decide) ?_
  refine lv_irem hx hb dX12_feed_89 (by decide) ?_
  refine lv_topi (fun x_12 ex_12 => ?_)
  obtain rfl : x_12 = 0 := ex_12.trans (by decide)
  refine lv_imul hx hb dX12_feed_90 ?_
  refine lv_topi (fun x_13 ex_13 => ?_)
  obtain rfl : x_13 = 0 := ex_13.trans (by decide)
  refine lv_isub hx hb dX12_feed_91 ?_
  refine lv_topi (fun x_14 ex_14 => ?_)
  obtain rfl : x_14 = 24 := ex_14.trans (by decide)
  refine lv_ishr hx hb dX12_feed_92 ?_
  refine lv_topi (fun x_15 ex_15 => ?_)
  obtain ⟨x_16, ex_16⟩ : ∃ y, x_15.toInt8.toInt32 = y := ⟨_, rfl⟩
  refine lv_i2b (v := x_16) hx hb dX12_feed_93 ex_16 ?_
  refine va_bast hx hb hKN.1 hP hD hS 2 0 rfl rfl (by unfold vp_in; decide) dX12_feed_94 (fun H locs hP hD hS => ?_)
  have hP : va_P D vwCl [(h0, .inr (12, [.int 0, .ref m_world, .ref m_images, .ref m_hasImage, .ref m_tape, .int 0, .ref m_five, .int 0, .int 0, .int 0, .int 0, .int 0, .int 0, .int (-1), .ref m_fresh, .int 0, .int 0, .int 0, .int 0, .int 0, .int 0, .ref m_sums, .ref m_pairs, .ref m_goesWith, .ref m_said, .int 0, .int 0, .ref m_firstOrder, .int 0, .ref m_tiredBy, .int 0, .ref m_many, .ref m_width, .ref m_numbers, .ref m_moving])), (m_five, .inl (cA 1, 5, .inl f_7)), (m_tape, .inl (cA 0, 800, .inl (upd ft 0 (vp_nar .byte x_16))))] H := hP
  have hD : va_D A [(h0, .inr (12, [.int 0, .ref m_world, .ref m_images, .ref m_hasImage, .ref m_tape, .int 0, .ref m_five, .int 0, .int 0, .int 0, .int 0, .int 0, .int 0, .int (-1), .ref m_fresh, .int 0, .int 0, .int 0, .int 0, .int 0, .int 0, .ref m_sums, .ref m_pairs, .ref m_goesWith, .ref m_said, .int 0, .int 0, .ref m_firstOrder, .int 0, .ref m_tiredBy, .int 0, .ref m_many, .ref m_width, .ref m_numbers, .ref m_moving])), (m_five, .inl (cA 1, 5, .inl f_7)), (m_tape, .inl (cA 0, 800, .inl (upd ft 0 (vp_nar .byte x_16))))] := hD
  generalize ef_17 : (upd ft 0 (vp_nar .byte x_16)) = f_17 at hP hD
  refine lv_iinc (v := 1) (lv' := [(6, .int 1), (0, .ref h0), (1, .int p0), (2, .int p1), (3, .int p2), (4, .int p3), (5, .int p4)]) hx hb dX12_feed_95 hl (k := 0) rfl (by decide) (by decide) rfl (fun ls hl => ?_)
  refine lv_goto (tgt := 55) hx hb dX12_feed_98 (by decide) ?_
  refine lv_iload hx hb dX12_feed_55 (lv_at hl 0 rfl) ?_
  refine lv_bipush (v := 20) hx hb dX12_feed_57 (by decide) ?_
  refine lv_icmp_ge (tgt := 101) hx hb dX12_feed_59 (by decide) (fun c_18 => absurd c_18 (by decide)) (fun c_18 => ?_)
  refine lv_aload_n hx hb dX12_feed_62 rfl (lv_at hl 1 rfl) ?_
  refine va_get (D := D) (ci := 12) (v := .ref m_tape) (C := RX12) (T := TX12) (N := 35) hx hb hts inX12 hown hKN.1 hP 0 rfl rfl 4 (by decide) (hts _ tw_1423) (fun _ h9 => h9) rfl dX12_feed_63 ?_
  refine lv_aload_n hx hb dX12_feed_66 rfl (lv_at hl 1 rfl) ?_
  refine va_get (D := D) (ci := 12) (v := .int 0) (C := RX12) (T := TX12) (N := 35) hx hb hts inX12 hown hKN.1 hP 0 rfl rfl 5 (by decide) (hts _ tw_1424) (fun _ h9 => h9) rfl dX12_feed_67 ?_
  refine lv_iload hx hb dX12_feed_70 (lv_at hl 0 rfl) ?_
  refine lv_iadd hx hb dX12_feed_72 ?_
  refine lv_topi (fun x_19 ex_19 => ?_)
  obtain rfl : x_19 = 1 := ex_19.trans (by decide)
  refine lv_aload_n hx hb dX12_feed_73 rfl (lv_at hl 1 rfl) ?_
  refine va_get (D := D) (ci := 12) (v := .ref m_five) (C := RX12) (T := TX12) (N := 35) hx hb hts inX12 hown hKN.1 hP 0 rfl rfl 6 (by decide) (hts _ tw_1425) (fun _ h9 => h9) rfl dX12_feed_74 ?_
  refine lv_iload hx hb dX12_feed_77 (lv_at hl 0 rfl) ?_
  refine lv_iconst (v := 4) hx hb dX12_feed_79 (by decide) ?_
  refine lv_idiv hx hb dX12_feed_80 (by decide) ?_
  refine lv_topi (fun x_20 ex_20 => ?_)
  obtain rfl : x_20 = 0 := ex_20.trans (by decide)
  refine va_iald hx hb hKN.1 hP 1 1 rfl rfl (by unfold vp_in; decide) dX12_feed_81 ?_
  refine lv_topi (fun x_21 ex_21 => ?_)
  refine lv_bipush (v := 24) hx hb dX12_feed_82 (by decide) ?_
  refine lv_bipush (v := 8) hx hb dX12_feed_84 (by decide) ?_
  refine lv_iload hx hb dX12_feed_86 (lv_at hl 0 rfl) ?_
  refine lv_iconst (v := 4) hx hb dX12_feed_88 (by decide) ?_
  refine lv_irem hx hb dX12_feed_89 (by decide) ?_
  refine lv_topi (fun x_22 ex_22 => ?_)
  obtain rfl : x_22 = 1 := ex_22.trans (by decide)
  refine lv_imul hx hb dX12_feed_90 ?_
  refine lv_topi (fun x_23 ex_23 => ?_)
  obtain rfl : x_23 = 8 := ex_23.trans (by decide)
  refine lv_isub hx hb dX12_feed_91 ?_
  refine lv_topi (fun x_24 ex_24 => ?_)
  obtain rfl : x_24 = 16 := ex_24.trans (by decide)
  refine lv_ishr hx hb dX12_feed_92 ?_
  refine lv_topi (fun x_25 ex_25 => ?_)
  obtain ⟨x_26, ex_26⟩ : ∃ y, x_25.toInt8.toInt32 = y := ⟨_, rfl⟩
  refine lv_i2b (v := x_26) hx hb dX12_feed_93 ex_26 ?_
  refine va_bast hx hb hKN.1 hP hD hS 2 0 rfl rfl (by unfold vp_in; decide) dX12_feed_94 (fun H locs hP hD hS => ?_)
  have hP : va_P D vwCl [(h0, .inr (12, [.int 0, .ref m_world, .ref m_images, .ref m_hasImage, .ref m_tape, .int 0, .ref m_five, .int 0, .int 0, .int 0, .int 0, .int 0, .int 0, .int (-1), .ref m_fresh, .int 0, .int 0, .int 0, .int 0, .int 0, .int 0, .ref m_sums, .ref m_pairs, .ref m_goesWith, .ref m_said, .int 0, .int 0, .ref m_firstOrder, .int 0, .ref m_tiredBy, .int 0, .ref m_many, .ref m_width, .ref m_numbers, .ref m_moving])), (m_five, .inl (cA 1, 5, .inl f_7)), (m_tape, .inl (cA 0, 800, .inl (upd f_17 1 (vp_nar .byte x_26))))] H := hP
  have hD : va_D A [(h0, .inr (12, [.int 0, .ref m_world, .ref m_images, .ref m_hasImage, .ref m_tape, .int 0, .ref m_five, .int 0, .int 0, .int 0, .int 0, .int 0, .int 0, .int (-1), .ref m_fresh, .int 0, .int 0, .int 0, .int 0, .int 0, .int 0, .ref m_sums, .ref m_pairs, .ref m_goesWith, .ref m_said, .int 0, .int 0, .ref m_firstOrder, .int 0, .ref m_tiredBy, .int 0, .ref m_many, .ref m_width, .ref m_numbers, .ref m_moving])), (m_five, .inl (cA 1, 5, .inl f_7)), (m_tape, .inl (cA 0, 800, .inl (upd f_17 1 (vp_nar .byte x_26))))] := hD
  generalize ef_27 : (upd f_17 1 (vp_nar .byte x_26)) = f_27 at hP hD
  refine lv_iinc (v := 2) (lv' := [(6, .int 2), (0, .ref h0), (1, .int p0), (2, .int p1), (3, .int p2), (4, .int p3), (5, .int p4)]) hx hb dX12_feed_95 hl (k := 0) rfl (by decide) (by decide) rfl (fun ls hl => ?_)
  refine lv_goto (tgt := 55) hx hb dX12_feed_98 (by decide) ?_
  refine lv_iload hx hb dX12_feed_55 (lv_at hl 0 rfl) ?_
  refine lv_bipush (v := 20) hx hb dX12_feed_57 (by decide) ?_
  refine lv_icmp_ge (tgt := 101) hx hb dX12_feed_59 (by decide) (fun c_28 => absurd c_28 (by decide)) (fun c_28 => ?_)
  refine lv_aload_n hx hb dX12_feed_62 rfl (lv_at hl 1 rfl) ?_
  refine va_get (D := D) (ci := 12) (v := .ref m_tape) (C := RX12) (T := TX12) (N := 35) hx hb hts inX12 hown hKN.1 hP 0 rfl rfl 4 (by decide) (hts _ tw_1423) (fun _ h9 => h9) rfl dX12_feed_63 ?_
  refine lv_aload_n hx hb dX12_feed_66 rfl (lv_at hl 1 rfl) ?_
  refine va_get (D := D) (ci := 12) (v := .int 0) (C := RX12) (T := TX12) (N := 35) hx hb hts inX12 hown hKN.1 hP 0 rfl rfl 5 (by decide) (hts _ tw_1424) (fun _ h9 => h9) rfl dX12_feed_67 ?_
  refine lv_iload hx hb dX12_feed_70 (lv_at hl 0 rfl) ?_
  refine lv_iadd hx hb dX12_feed_72 ?_
  refine lv_topi (fun x_29 ex_29 => ?_)
  obtain rfl : x_29 = 2 := ex_29.trans (by decide)
  refine lv_aload_n hx hb dX12_feed_73 rfl (lv_at hl 1 rfl) ?_
  refine va_get (D := D) (ci := 12) (v := .ref m_five) (C := RX12) (T := TX12) (N := 35) hx hb hts inX12 hown hKN.1 hP 0 rfl rfl 6 (by decide) (hts _ tw_1425) (fun _ h9 => h9) rfl dX12_feed_74 ?_
  refine lv_iload hx hb dX12_feed_77 (lv_at hl 0 rfl) ?_
  refine lv_iconst (v := 4) hx hb dX12_feed_79 (by decide) ?_
  refine lv_idiv hx hb dX12_feed_80 (by decide) ?_
  refine lv_topi (fun x_30 ex_30 => ?_)
  obtain rfl : x_30 = 0 := ex_30.trans (by decide)
  refine va_iald hx hb hKN.1 hP 1 1 rfl rfl (by unfold vp_in; decide) dX12_feed_81 ?_
  refine lv_topi (fun x_31 ex_31 => ?_)
  refine lv_bipush (v := 24) hx hb dX12_feed_82 (by decide) ?_
  refine lv_bipush (v := 8) hx hb dX12_feed_84 (by decide) ?_
  refine lv_iload hx hb dX12_feed_86 (lv_at hl 0 rfl) ?_
  refine lv_iconst (v := 4) hx hb dX12_feed_88 (by decide) ?_
  refine lv_irem hx hb dX12_feed_89 (by decide) ?_
  refine lv_topi (fun x_32 ex_32 => ?_)
  obtain rfl : x_32 = 2 := ex_32.trans (by decide)
  refine lv_imul hx hb dX12_feed_90 ?_
  refine lv_topi (fun x_33 ex_33 => ?_)
  obtain rfl : x_33 = 16 := ex_33.trans (by decide)
  refine lv_isub hx hb dX12_feed_91 ?_
  refine lv_topi (fun x_34 ex_34 => ?_)
  obtain rfl : x_34 = 8 := ex_34.trans (by decide)
  refine lv_ishr hx hb dX12_feed_92 ?_
  refine lv_topi (fun x_35 ex_35 => ?_)
  obtain ⟨x_36, ex_36⟩ : ∃ y, x_35.toInt8.toInt32 = y := ⟨_, rfl⟩
  refine lv_i2b (v := x_36) hx hb dX12_feed_93 ex_36 ?_
  refine va_bast hx hb hKN.1 hP hD hS 2 0 rfl rfl (by unfold vp_in; decide) dX12_feed_94 (fun H locs hP hD hS => ?_)
  have hP : va_P D vwCl [(h0, .inr (12, [.int 0, .ref m_world, .ref m_images, .ref m_hasImage, .ref m_tape, .int 0, .ref m_five, .int 0, .int 0, .int 0, .int 0, .int 0, .int 0, .int (-1), .ref m_fresh, .int 0, .int 0, .int 0, .int 0, .int 0, .int 0, .ref m_sums, .ref m_pairs, .ref m_goesWith, .ref m_said, .int 0, .int 0, .ref m_firstOrder, .int 0, .ref m_tiredBy, .int 0, .ref m_many, .ref m_width, .ref m_numbers, .ref m_moving])), (m_five, .inl (cA 1, 5, .inl f_7)), (m_tape, .inl (cA 0, 800, .inl (upd f_27 2 (vp_nar .byte x_36))))] H := hP
  have hD : va_D A [(h0, .inr (12, [.int 0, .ref m_world, .ref m_images, .ref m_hasImage, .ref m_tape, .int 0, .ref m_five, .int 0, .int 0, .int 0, .int 0, .int 0, .int 0, .int (-1), .ref m_fresh, .int 0, .int 0, .int 0, .int 0, .int 0, .int 0, .ref m_sums, .ref m_pairs, .ref m_goesWith, .ref m_said, .int 0, .int 0, .ref m_firstOrder, .int 0, .ref m_tiredBy, .int 0, .ref m_many, .ref m_width, .ref m_numbers, .ref m_moving])), (m_five, .inl (cA 1, 5, .inl f_7)), (m_tape, .inl (cA 0, 800, .inl (upd f_27 2 (vp_nar .byte x_36))))] := hD
  generalize ef_37 : (upd f_27 2 (vp_nar .byte x_36)) = f_37 at hP hD
  refine lv_iinc (v := 3) (lv' := [(6, .int 3), (0, .ref h0), (1, .int p0), (2, .int p1), (3, .int p2), (4, .int p3), (5, .int p4)]) hx hb dX12_feed_95 hl (k := 0) rfl (by decide) (by decide) rfl (fun ls hl => ?_)
  refine lv_goto (tgt := 55) hx hb dX12_feed_98 (by decide) ?_
  refine lv_iload hx hb dX12_feed_55 (lv_at hl 0 rfl) ?_
  refine lv_bipush (v := 20) hx hb dX12_feed_57 (by decide) ?_
  refine lv_icmp_ge (tgt := 101) hx hb dX12_feed_59 (by decide) (fun c_38 => absurd c_38 (by decide)) (fun c_38 => ?_)
  refine lv_aload_n hx hb dX12_feed_62 rfl (lv_at hl 1 rfl) ?_
  refine va_get (D := D) (ci := 12) (v := .ref m_tape) (C := RX12) (T := TX12) (N := 35) hx hb hts inX12 hown hKN.1 hP 0 rfl rfl 4 (by decide) (hts _ tw_1423) (fun _ h9 => h9) rfl dX12_feed_63 ?_
  refine lv_aload_n hx hb dX12_feed_66 rfl (lv_at hl 1 rfl) ?_
  refine va_get (D := D) (ci := 12) (v := .int 0) (C := RX12) (T := TX12) (N := 35) hx hb hts inX12 hown hKN.1 hP 0 rfl rfl 5 (by decide) (hts _ tw_1424) (fun _ h9 => h9) rfl dX12_feed_67 ?_
  refine lv_iload hx hb dX12_feed_70 (lv_at hl 0 rfl) ?_
  refine lv_iadd hx hb dX12_feed_72 ?_
  refine lv_topi (fun x_39 ex_39 => ?_)
  obtain rfl : x_39 = 3 := ex_39.trans (by decide)
  refine lv_aload_n hx hb dX12_feed_73 rfl (lv_at hl 1 rfl) ?_
  refine va_get (D := D) (ci := 12) (v := .ref m_five) (C := RX12) (T := TX12) (N := 35) hx hb hts inX12 hown hKN.1 hP 0 rfl rfl 6 (by decide) (hts _ tw_1425) (fun _ h9 => h9) rfl dX12_feed_74 ?_
  refine lv_iload hx hb dX12_feed_77 (lv_at hl 0 rfl) ?_
  refine lv_iconst (v := 4) hx hb dX12_feed_79 (by decide) ?_
  refine lv_idiv hx hb dX12_feed_80 (by decide) ?_
  refine lv_topi (fun x_40 ex_40 => ?_)
  obtain rfl : x_40 = 0 := ex_40.trans (by decide)
  refine va_iald hx hb hKN.1 hP 1 1 rfl rfl (by unfold vp_in; decide) dX12_feed_81 ?_
  refine lv_topi (fun x_41 ex_41 => ?_)
  refine lv_bipush (v := 24) hx hb dX12_feed_82 (by decide) ?_
  refine lv_bipush (v := 8) hx hb dX12_feed_84 (by decide) ?_
  refine lv_iload hx hb dX12_feed_86 (lv_at hl 0 rfl) ?_
  refine lv_iconst (v := 4) hx hb dX12_feed_88 (by decide) ?_
  refine lv_irem hx hb dX12_feed_89 (by decide) ?_
  refine lv_topi (fun x_42 ex_42 => ?_)
  obtain rfl : x_42 = 3 := ex_42.trans (by decide)
  refine lv_imul hx hb dX12_feed_90 ?_
  refine lv_topi (fun x_43 ex_43 => ?_)
  obtain rfl : x_43 = 24 := ex_43.trans (by decide)
  refine lv_isub hx hb dX12_feed_91 ?_
  refine lv_topi (fun x_44 ex_44 => ?_)
  obtain rfl : x_44 = 0 := ex_44.trans (by decide)
  refine lv_ishr hx hb dX12_feed_92 ?_
  refine lv_topi (fun x_45 ex_45 => ?_)
  obtain ⟨x_46, ex_46⟩ : ∃ y, x_45.toInt8.toInt32 = y := ⟨_, rfl⟩
  refine lv_i2b (v := x_46) hx hb dX12_feed_93 ex_46 ?_
  refine va_bast hx hb hKN.1 hP hD hS 2 0 rfl rfl (by unfold vp_in; decide) dX12_feed_94 (fun H locs hP hD hS => ?_)
  have hP : va_P D vwCl [(h0, .inr (12, [.int 0, .ref m_world, .ref m_images, .ref m_hasImage, .ref m_tape, .int 0, .ref m_five, .int 0, .int 0, .int 0, .int 0, .int 0, .int 0, .int (-1), .ref m_fresh, .int 0, .int 0, .int 0, .int 0, .int 0, .int 0, .ref m_sums, .ref m_pairs, .ref m_goesWith, .ref m_said, .int 0, .int 0, .ref m_firstOrder, .int 0, .ref m_tiredBy, .int 0, .ref m_many, .ref m_width, .ref m_numbers, .ref m_moving])), (m_five, .inl (cA 1, 5, .inl f_7)), (m_tape, .inl (cA 0, 800, .inl (upd f_37 3 (vp_nar .byte x_46))))] H := hP
  have hD : va_D A [(h0, .inr (12, [.int 0, .ref m_world, .ref m_images, .ref m_hasImage, .ref m_tape, .int 0, .ref m_five, .int 0, .int 0, .int 0, .int 0, .int 0, .int 0, .int (-1), .ref m_fresh, .int 0, .int 0, .int 0, .int 0, .int 0, .int 0, .ref m_sums, .ref m_pairs, .ref m_goesWith, .ref m_said, .int 0, .int 0, .ref m_firstOrder, .int 0, .ref m_tiredBy, .int 0, .ref m_many, .ref m_width, .ref m_numbers, .ref m_moving])), (m_five, .inl (cA 1, 5, .inl f_7)), (m_tape, .inl (cA 0, 800, .inl (upd f_37 3 (vp_nar .byte x_46))))] := hD
  generalize ef_47 : (upd f_37 3 (vp_nar .byte x_46)) = f_47 at hP hD
  refine lv_iinc (v := 4) (lv' := [(6, .int 4), (0, .ref h0), (1, .int p0), (2, .int p1), (3, .int p2), (4, .int p3), (5, .int p4)]) hx hb dX12_feed_95 hl (k := 0) rfl (by decide) (by decide) rfl (fun ls hl => ?_)
  refine lv_goto (tgt := 55) hx hb dX12_feed_98 (by decide) ?_
  refine lv_iload hx hb dX12_feed_55 (lv_at hl 0 rfl) ?_
  refine lv_bipush (v := 20) hx hb dX12_feed_57 (by decide) ?_
  refine lv_icmp_ge (tgt := 101) hx hb dX12_feed_59 (by decide) (fun c_48 => absurd c_48 (by decide)) (fun c_48 => ?_)
  refine lv_aload_n hx hb dX12_feed_62 rfl (lv_at hl 1 rfl) ?_
  refine va_get (D := D) (ci := 12) (v := .ref m_tape) (C := RX12) (T := TX12) (N := 35) hx hb hts inX12 hown hKN.1 hP 0 rfl rfl 4 (by decide) (hts _ tw_1423) (fun _ h9 => h9) rfl dX12_feed_63 ?_
  refine lv_aload_n hx hb dX12_feed_66 rfl (lv_at hl 1 rfl) ?_
  refine va_get (D := D) (ci := 12) (v := .int 0) (C := RX12) (T := TX12) (N := 35) hx hb hts inX12 hown hKN.1 hP 0 rfl rfl 5 (by decide) (hts _ tw_1424) (fun _ h9 => h9) rfl dX12_feed_67 ?_
  refine lv_iload hx hb dX12_feed_70 (lv_at hl 0 rfl) ?_
  refine lv_iadd hx hb dX12_feed_72 ?_
  refine lv_topi (fun x_49 ex_49 => ?_)
  obtain rfl : x_49 = 4 := ex_49.trans (by decide)
  refine lv_aload_n hx hb dX12_feed_73 rfl (lv_at hl 1 rfl) ?_
  refine va_get (D := D) (ci := 12) (v := .ref m_five) (C := RX12) (T := TX12) (N := 35) hx hb hts inX12 hown hKN.1 hP 0 rfl rfl 6 (by decide) (hts _ tw_1425) (fun _ h9 => h9) rfl dX12_feed_74 ?_
  refine lv_iload hx hb dX12_feed_77 (lv_at hl 0 rfl) ?_
  refine lv_iconst (v := 4) hx hb dX12_feed_79 (by decide) ?_
  refine lv_idiv hx hb dX12_feed_80 (by decide) ?_
  refine lv_topi (fun x_50 ex_50 => ?_)
  obtain rfl : x_50 = 1 := ex_50.trans (by decide)
  refine va_iald hx hb hKN.1 hP 1 1 rfl rfl (by unfold vp_in; decide) dX12_feed_81 ?_
  refine lv_topi (fun x_51 ex_51 => ?_)
  refine lv_bipush (v := 24) hx hb dX12_feed_82 (by decide) ?_
  refine lv_bipush (v := 8) hx hb dX12_feed_84 (by decide) ?_
  refine lv_iload hx hb dX12_feed_86 (lv_at hl 0 rfl) ?_
  refine lv_iconst (v := 4) hx hb dX12_feed_88 (by decide) ?_
  refine lv_irem hx hb dX12_feed_89 (by decide) ?_
  refine lv_topi (fun x_52 ex_52 => ?_)
  obtain rfl : x_52 = 0 := ex_52.trans (by decide)
  refine lv_imul hx hb dX12_feed_90 ?_
  refine lv_topi (fun x_53 ex_53 => ?_)
  obtain rfl : x_53 = 0 := ex_53.trans (by decide)
  refine lv_isub hx hb dX12_feed_91 ?_
  refine lv_topi (fun x_54 ex_54 => ?_)
  obtain rfl : x_54 = 24 := ex_54.trans (by decide)
  refine lv_ishr hx hb dX12_feed_92 ?_
  refine lv_topi (fun x_55 ex_55 => ?_)
  obtain ⟨x_56, ex_56⟩ : ∃ y, x_55.toInt8.toInt32 = y := ⟨_, rfl⟩
  refine lv_i2b (v := x_56) hx hb dX12_feed_93 ex_56 ?_
  refine va_bast hx hb hKN.1 hP hD hS 2 0 rfl rfl (by unfold vp_in; decide) dX12_feed_94 (fun H locs hP hD hS => ?_)
  have hP : va_P D vwCl [(h0, .inr (12, [.int 0, .ref m_world, .ref m_images, .ref m_hasImage, .ref m_tape, .int 0, .ref m_five, .int 0, .int 0, .int 0, .int 0, .int 0, .int 0, .int (-1), .ref m_fresh, .int 0, .int 0, .int 0, .int 0, .int 0, .int 0, .ref m_sums, .ref m_pairs, .ref m_goesWith, .ref m_said, .int 0, .int 0, .ref m_firstOrder, .int 0, .ref m_tiredBy, .int 0, .ref m_many, .ref m_width, .ref m_numbers, .ref m_moving])), (m_five, .inl (cA 1, 5, .inl f_7)), (m_tape, .inl (cA 0, 800, .inl (upd f_47 4 (vp_nar .byte x_56))))] H := hP
  have hD : va_D A [(h0, .inr (12, [.int 0, .ref m_world, .ref m_images, .ref m_hasImage, .ref m_tape, .int 0, .ref m_five, .int 0, .int 0, .int 0, .int 0, .int 0, .int 0, .int (-1), .ref m_fresh, .int 0, .int 0, .int 0, .int 0, .int 0, .int 0, .ref m_sums, .ref m_pairs, .ref m_goesWith, .ref m_said, .int 0, .int 0, .ref m_firstOrder, .int 0, .ref m_tiredBy, .int 0, .ref m_many, .ref m_width, .ref m_numbers, .ref m_moving])), (m_five, .inl (cA 1, 5, .inl f_7)), (m_tape, .inl (cA 0, 800, .inl (upd f_47 4 (vp_nar .byte x_56))))] := hD
  generalize ef_57 : (upd f_47 4 (vp_nar .byte x_56)) = f_57 at hP hD
  refine lv_iinc (v := 5) (lv' := [(6, .int 5), (0, .ref h0), (1, .int p0), (2, .int p1), (3, .int p2), (4, .int p3), (5, .int p4)]) hx hb dX12_feed_95 hl (k := 0) rfl (by decide) (by decide) rfl (fun ls hl => ?_)
  refine lv_goto (tgt := 55) hx hb dX12_feed_98 (by decide) ?_
  refine lv_iload hx hb dX12_feed_55 (lv_at hl 0 rfl) ?_
  refine lv_bipush (v := 20) hx hb dX12_feed_57 (by decide) ?_
  refine lv_icmp_ge (tgt := 101) hx hb dX12_feed_59 (by decide) (fun c_58 => absurd c_58 (by decide)) (fun c_58 => ?_)
  refine lv_aload_n hx hb dX12_feed_62 rfl (lv_at hl 1 rfl) ?_
  refine va_get (D := D) (ci := 12) (v := .ref m_tape) (C := RX12) (T := TX12) (N := 35) hx hb hts inX12 hown hKN.1 hP 0 rfl rfl 4 (by decide) (hts _ tw_1423) (fun _ h9 => h9) rfl dX12_feed_63 ?_
  refine lv_aload_n hx hb dX12_feed_66 rfl (lv_at hl 1 rfl) ?_
  refine va_get (D := D) (ci := 12) (v := .int 0) (C := RX12) (T := TX12) (N := 35) hx hb hts inX12 hown hKN.1 hP 0 rfl rfl 5 (by decide) (hts _ tw_1424) (fun _ h9 => h9) rfl dX12_feed_67 ?_
  refine lv_iload hx hb dX12_feed_70 (lv_at hl 0 rfl) ?_
  refine lv_iadd hx hb dX12_feed_72 ?_
  refine lv_topi (fun x_59 ex_59 => ?_)
  obtain rfl : x_59 = 5 := ex_59.trans (by decide)
  refine lv_aload_n hx hb dX12_feed_73 rfl (lv_at hl 1 rfl) ?_
  refine va_get (D := D) (ci := 12) (v := .ref m_five) (C := RX12) (T := TX12) (N := 35) hx hb hts inX12 hown hKN.1 hP 0 rfl rfl 6 (by decide) (hts _ tw_1425) (fun _ h9 => h9) rfl dX12_feed_74 ?_
  refine lv_iload hx hb dX12_feed_77 (lv_at hl 0 rfl) ?_
  refine lv_iconst (v := 4) hx hb dX12_feed_79 (by decide) ?_
  refine lv_idiv hx hb dX12_feed_80 (by decide) ?_
  refine lv_topi (fun x_60 ex_60 => ?_)
  obtain rfl : x_60 = 1 := ex_60.trans (by decide)
  refine va_iald hx hb hKN.1 hP 1 1 rfl rfl (by unfold vp_in; decide) dX12_feed_81 ?_
  refine lv_topi (fun x_61 ex_61 => ?_)
  refine lv_bipush (v := 24) hx hb dX12_feed_82 (by decide) ?_
  refine lv_bipush (v := 8) hx hb dX12_feed_84 (by decide) ?_
  refine lv_iload hx hb dX12_feed_86 (lv_at hl 0 rfl) ?_
  refine lv_iconst (v := 4) hx hb dX12_feed_88 (by decide) ?_
  refine lv_irem hx hb dX12_feed_89 (by decide) ?_
  refine lv_topi (fun x_62 ex_62 => ?_)
  obtain rfl : x_62 = 1 := ex_62.trans (by decide)
  refine lv_imul hx hb dX12_feed_90 ?_
  refine lv_topi (fun x_63 ex_63 => ?_)
  obtain rfl : x_63 = 8 := ex_63.trans (by decide)
  refine lv_isub hx hb dX12_feed_91 ?_
  refine lv_topi (fun x_64 ex_64 => ?_)
  obtain rfl : x_64 = 16 := ex_64.trans (by decide)
  refine lv_ishr hx hb dX12_feed_92 ?_
  refine lv_topi (fun x_65 ex_65 => ?_)
  obtain ⟨x_66, ex_66⟩ : ∃ y, x_65.toInt8.toInt32 = y := ⟨_, rfl⟩
  refine lv_i2b (v := x_66) hx hb dX12_feed_93 ex_66 ?_
  refine va_bast hx hb hKN.1 hP hD hS 2 0 rfl rfl (by unfold vp_in; decide) dX12_feed_94 (fun H locs hP hD hS => ?_)
  have hP : va_P D vwCl [(h0, .inr (12, [.int 0, .ref m_world, .ref m_images, .ref m_hasImage, .ref m_tape, .int 0, .ref m_five, .int 0, .int 0, .int 0, .int 0, .int 0, .int 0, .int (-1), .ref m_fresh, .int 0, .int 0, .int 0, .int 0, .int 0, .int 0, .ref m_sums, .ref m_pairs, .ref m_goesWith, .ref m_said, .int 0, .int 0, .ref m_firstOrder, .int 0, .ref m_tiredBy, .int 0, .ref m_many, .ref m_width, .ref m_numbers, .ref m_moving])), (m_five, .inl (cA 1, 5, .inl f_7)), (m_tape, .inl (cA 0, 800, .inl (upd f_57 5 (vp_nar .byte x_66))))] H := hP
  have hD : va_D A [(h0, .inr (12, [.int 0, .ref m_world, .ref m_images, .ref m_hasImage, .ref m_tape, .int 0, .ref m_five, .int 0, .int 0, .int 0, .int 0, .int 0, .int 0, .int (-1), .ref m_fresh, .int 0, .int 0, .int 0, .int 0, .int 0, .int 0, .ref m_sums, .ref m_pairs, .ref m_goesWith, .ref m_said, .int 0, .int 0, .ref m_firstOrder, .int 0, .ref m_tiredBy, .int 0, .ref m_many, .ref m_width, .ref m_numbers, .ref m_moving])), (m_five, .inl (cA 1, 5, .inl f_7)), (m_tape, .inl (cA 0, 800, .inl (upd f_57 5 (vp_nar .byte x_66))))] := hD
  generalize ef_67 : (upd f_57 5 (vp_nar .byte x_66)) = f_67 at hP hD
  refine lv_iinc (v := 6) (lv' := [(6, .int 6), (0, .ref h0), (1, .int p0), (2, .int p1), (3, .int p2), (4, .int p3), (5, .int p4)]) hx hb dX12_feed_95 hl (k := 0) rfl (by decide) (by decide) rfl (fun ls hl => ?_)
  refine lv_goto (tgt := 55) hx hb dX12_feed_98 (by decide) ?_
  refine lv_iload hx hb dX12_feed_55 (lv_at hl 0 rfl) ?_
  refine lv_bipush (v := 20) hx hb dX12_feed_57 (by decide) ?_
  refine lv_icmp_ge (tgt := 101) hx hb dX12_feed_59 (by decide) (fun c_68 => absurd c_68 (by decide)) (fun c_68 => ?_)
  refine lv_aload_n hx hb dX12_feed_62 rfl (lv_at hl 1 rfl) ?_
  refine va_get (D := D) (ci := 12) (v := .ref m_tape) (C := RX12) (T := TX12) (N := 35) hx hb hts inX12 hown hKN.1 hP 0 rfl rfl 4 (by decide) (hts _ tw_1423) (fun _ h9 => h9) rfl dX12_feed_63 ?_
  refine lv_aload_n hx hb dX12_feed_66 rfl (lv_at hl 1 rfl) ?_
  refine va_get (D := D) (ci := 12) (v := .int 0) (C := RX12) (T := TX12) (N := 35) hx hb hts inX12 hown hKN.1 hP 0 rfl rfl 5 (by decide) (hts _ tw_1424) (fun _ h9 => h9) rfl dX12_feed_67 ?_
  refine lv_iload hx hb dX12_feed_70 (lv_at hl 0 rfl) ?_
  refine lv_iadd hx hb dX12_feed_72 ?_
  refine lv_topi (fun x_69 ex_69 => ?_)
  obtain rfl : x_69 = 6 := ex_69.trans (by decide)
  refine lv_aload_n hx hb dX12_feed_73 rfl (lv_at hl 1 rfl) ?_
  refine va_get (D := D) (ci := 12) (v := .ref m_five) (C := RX12) (T := TX12) (N := 35) hx hb hts inX12 hown hKN.1 hP 0 rfl rfl 6 (by decide) (hts _ tw_1425) (fun _ h9 => h9) rfl dX12_feed_74 ?_
  refine lv_iload hx hb dX12_feed_77 (lv_at hl 0 rfl) ?_
  refine lv_iconst (v := 4) hx hb dX12_feed_79 (by decide) ?_
  refine lv_idiv hx hb dX12_feed_80 (by decide) ?_
  refine lv_topi (fun x_70 ex_70 => ?_)
  obtain rfl : x_70 = 1 := ex_70.trans (by decide)
  refine va_iald hx hb hKN.1 hP 1 1 rfl rfl (by unfold vp_in; decide) dX12_feed_81 ?_
  refine lv_topi (fun x_71 ex_71 => ?_)
  refine lv_bipush (v := 24) hx hb dX12_feed_82 (by decide) ?_
  refine lv_bipush (v := 8) hx hb dX12_feed_84 (by decide) ?_
  refine lv_iload hx hb dX12_feed_86 (lv_at hl 0 rfl) ?_
  refine lv_iconst (v := 4) hx hb dX12_feed_88 (by decide) ?_
  refine lv_irem hx hb dX12_feed_89 (by decide) ?_
  refine lv_topi (fun x_72 ex_72 => ?_)
  obtain rfl : x_72 = 2 := ex_72.trans (by decide)
  refine lv_imul hx hb dX12_feed_90 ?_
  refine lv_topi (fun x_73 ex_73 => ?_)
  obtain rfl : x_73 = 16 := ex_73.trans (by decide)
  refine lv_isub hx hb dX12_feed_91 ?_
  refine lv_topi (fun x_74 ex_74 => ?_)
  obtain rfl : x_74 = 8 := ex_74.trans (by decide)
  refine lv_ishr hx hb dX12_feed_92 ?_
  refine lv_topi (fun x_75 ex_75 => ?_)
  obtain ⟨x_76, ex_76⟩ : ∃ y, x_75.toInt8.toInt32 = y := ⟨_, rfl⟩
  refine lv_i2b (v := x_76) hx hb dX12_feed_93 ex_76 ?_
  refine va_bast hx hb hKN.1 hP hD hS 2 0 rfl rfl (by unfold vp_in; decide) dX12_feed_94 (fun H locs hP hD hS => ?_)
  have hP : va_P D vwCl [(h0, .inr (12, [.int 0, .ref m_world, .ref m_images, .ref m_hasImage, .ref m_tape, .int 0, .ref m_five, .int 0, .int 0, .int 0, .int 0, .int 0, .int 0, .int (-1), .ref m_fresh, .int 0, .int 0, .int 0, .int 0, .int 0, .int 0, .ref m_sums, .ref m_pairs, .ref m_goesWith, .ref m_said, .int 0, .int 0, .ref m_firstOrder, .int 0, .ref m_tiredBy, .int 0, .ref m_many, .ref m_width, .ref m_numbers, .ref m_moving])), (m_five, .inl (cA 1, 5, .inl f_7)), (m_tape, .inl (cA 0, 800, .inl (upd f_67 6 (vp_nar .byte x_76))))] H := hP
  have hD : va_D A [(h0, .inr (12, [.int 0, .ref m_world, .ref m_images, .ref m_hasImage, .ref m_tape, .int 0, .ref m_five, .int 0, .int 0, .int 0, .int 0, .int 0, .int 0, .int (-1), .ref m_fresh, .int 0, .int 0, .int 0, .int 0, .int 0, .int 0, .ref m_sums, .ref m_pairs, .ref m_goesWith, .ref m_said, .int 0, .int 0, .ref m_firstOrder, .int 0, .ref m_tiredBy, .int 0, .ref m_many, .ref m_width, .ref m_numbers, .ref m_moving])), (m_five, .inl (cA 1, 5, .inl f_7)), (m_tape, .inl (cA 0, 800, .inl (upd f_67 6 (vp_nar .byte x_76))))] := hD
  generalize ef_77 : (upd f_67 6 (vp_nar .byte x_76)) = f_77 at hP hD
  refine lv_iinc (v := 7) (lv' := [(6, .int 7), (0, .ref h0), (1, .int p0), (2, .int p1), (3, .int p2), (4, .int p3), (5, .int p4)]) hx hb dX12_feed_95 hl (k := 0) rfl (by decide) (by decide) rfl (fun ls hl => ?_)
  refine lv_goto (tgt := 55) hx hb dX12_feed_98 (by decide) ?_
  refine lv_iload hx hb dX12_feed_55 (lv_at hl 0 rfl) ?_
  refine lv_bipush (v := 20) hx hb dX12_feed_57 (by decide) ?_
  refine lv_icmp_ge (tgt := 101) hx hb dX12_feed_59 (by decide) (fun c_78 => absurd c_78 (by decide)) (fun c_78 => ?_)
  refine lv_aload_n hx hb dX12_feed_62 rfl (lv_at hl 1 rfl) ?_
  refine va_get (D := D) (ci := 12) (v := .ref m_tape) (C := RX12) (T := TX12) (N := 35) hx hb hts inX12 hown hKN.1 hP 0 rfl rfl 4 (by decide) (hts _ tw_1423) (fun _ h9 => h9) rfl dX12_feed_63 ?_
  refine lv_aload_n hx hb dX12_feed_66 rfl (lv_at hl 1 rfl) ?_
  refine va_get (D := D) (ci := 12) (v := .int 0) (C := RX12) (T := TX12) (N := 35) hx hb hts inX12 hown hKN.1 hP 0 rfl rfl 5 (by decide) (hts _ tw_1424) (fun _ h9 => h9) rfl dX12_feed_67 ?_
  refine lv_iload hx hb dX12_feed_70 (lv_at hl 0 rfl) ?_
  refine lv_iadd hx hb dX12_feed_72 ?_
  refine lv_topi (fun x_79 ex_79 => ?_)
  obtain rfl : x_79 = 7 := ex_79.trans (by decide)
  refine lv_aload_n hx hb dX12_feed_73 rfl (lv_at hl 1 rfl) ?_
  refine va_get (D := D) (ci := 12) (v := .ref m_five) (C := RX12) (T := TX12) (N := 35) hx hb hts inX12 hown hKN.1 hP 0 rfl rfl 6 (by decide) (hts _ tw_1425) (fun _ h9 => h9) rfl dX12_feed_74 ?_
  refine lv_iload hx hb dX12_feed_77 (lv_at hl 0 rfl) ?_
  refine lv_iconst (v := 4) hx hb dX12_feed_79 (by decide) ?_
  refine lv_idiv hx hb dX12_feed_80 (by decide) ?_
  refine lv_topi (fun x_80 ex_80 => ?_)
  obtain rfl : x_80 = 1 := ex_80.trans (by decide)
  refine va_iald hx hb hKN.1 hP 1 1 rfl rfl (by unfold vp_in; decide) dX12_feed_81 ?_
  refine lv_topi (fun x_81 ex_81 => ?_)
  refine lv_bipush (v := 24) hx hb dX12_feed_82 (by decide) ?_
  refine lv_bipush (v := 8) hx hb dX12_feed_84 (by decide) ?_
  refine lv_iload hx hb dX12_feed_86 (lv_at hl 0 rfl) ?_
  refine lv_iconst (v := 4) hx hb dX12_feed_88 (by decide) ?_
  refine lv_irem hx hb dX12_feed_89 (by decide) ?_
  refine lv_topi (fun x_82 ex_82 => ?_)
  obtain rfl : x_82 = 3 := ex_82.trans (by decide)
  refine lv_imul hx hb dX12_feed_90 ?_
  refine lv_topi (fun x_83 ex_83 => ?_)
  obtain rfl : x_83 = 24 := ex_83.trans (by decide)
  refine lv_isub hx hb dX12_feed_91 ?_
  refine lv_topi (fun x_84 ex_84 => ?_)
  obtain rfl : x_84 = 0 := ex_84.trans (by decide)
  refine lv_ishr hx hb dX12_feed_92 ?_
  refine lv_topi (fun x_85 ex_85 => ?_)
  obtain ⟨x_86, ex_86⟩ : ∃ y, x_85.toInt8.toInt32 = y := ⟨_, rfl⟩
  refine lv_i2b (v := x_86) hx hb dX12_feed_93 ex_86 ?_
  refine va_bast hx hb hKN.1 hP hD hS 2 0 rfl rfl (by unfold vp_in; decide) dX12_feed_94 (fun H locs hP hD hS => ?_)
  have hP : va_P D vwCl [(h0, .inr (12, [.int 0, .ref m_world, .ref m_images, .ref m_hasImage, .ref m_tape, .int 0, .ref m_five, .int 0, .int 0, .int 0, .int 0, .int 0, .int 0, .int (-1), .ref m_fresh, .int 0, .int 0, .int 0, .int 0, .int 0, .int 0, .ref m_sums, .ref m_pairs, .ref m_goesWith, .ref m_said, .int 0, .int 0, .ref m_firstOrder, .int 0, .ref m_tiredBy, .int 0, .ref m_many, .ref m_width, .ref m_numbers, .ref m_moving])), (m_five, .inl (cA 1, 5, .inl f_7)), (m_tape, .inl (cA 0, 800, .inl (upd f_77 7 (vp_nar .byte x_86))))] H := hP
  have hD : va_D A [(h0, .inr (12, [.int 0, .ref m_world, .ref m_images, .ref m_hasImage, .ref m_tape, .int 0, .ref m_five, .int 0, .int 0, .int 0, .int 0, .int 0, .int 0, .int (-1), .ref m_fresh, .int 0, .int 0, .int 0, .int 0, .int 0, .int 0, .ref m_sums, .ref m_pairs, .ref m_goesWith, .ref m_said, .int 0, .int 0, .ref m_firstOrder, .int 0, .ref m_tiredBy, .int 0, .ref m_many, .ref m_width, .ref m_numbers, .ref m_moving])), (m_five, .inl (cA 1, 5, .inl f_7)), (m_tape, .inl (cA 0, 800, .inl (upd f_77 7 (vp_nar .byte x_86))))] := hD
  generalize ef_87 : (upd f_77 7 (vp_nar .byte x_86)) = f_87 at hP hD
  refine lv_iinc (v := 8) (lv' := [(6, .int 8), (0, .ref h0), (1, .int p0), (2, .int p1), (3, .int p2), (4, .int p3), (5, .int p4)]) hx hb dX12_feed_95 hl (k := 0) rfl (by decide) (by decide) rfl (fun ls hl => ?_)
  refine lv_goto (tgt := 55) hx hb dX12_feed_98 (by decide) ?_
  refine lv_iload hx hb dX12_feed_55 (lv_at hl 0 rfl) ?_
  refine lv_bipush (v := 20) hx hb dX12_feed_57 (by decide) ?_
  refine lv_icmp_ge (tgt := 101) hx hb dX12_feed_59 (by decide) (fun c_88 => absurd c_88 (by decide)) (fun c_88 => ?_)
  refine lv_aload_n hx hb dX12_feed_62 rfl (lv_at hl 1 rfl) ?_
  refine va_get (D := D) (ci := 12) (v := .ref m_tape) (C := RX12) (T := TX12) (N := 35) hx hb hts inX12 hown hKN.1 hP 0 rfl rfl 4 (by decide) (hts _ tw_1423) (fun _ h9 => h9) rfl dX12_feed_63 ?_
  refine lv_aload_n hx hb dX12_feed_66 rfl (lv_at hl 1 rfl) ?_
  refine va_get (D := D) (ci := 12) (v := .int 0) (C := RX12) (T := TX12) (N := 35) hx hb hts inX12 hown hKN.1 hP 0 rfl rfl 5 (by decide) (hts _ tw_1424) (fun _ h9 => h9) rfl dX12_feed_67 ?_
  refine lv_iload hx hb dX12_feed_70 (lv_at hl 0 rfl) ?_
  refine lv_iadd hx hb dX12_feed_72 ?_
  refine lv_topi (fun x_89 ex_89 => ?_)
  obtain rfl : x_89 = 8 := ex_89.trans (by decide)
  refine lv_aload_n hx hb dX12_feed_73 rfl (lv_at hl 1 rfl) ?_
  refine va_get (D := D) (ci := 12) (v := .ref m_five) (C := RX12) (T := TX12) (N := 35) hx hb hts inX12 hown hKN.1 hP 0 rfl rfl 6 (by decide) (hts _ tw_1425) (fun _ h9 => h9) rfl dX12_feed_74 ?_
  refine lv_iload hx hb dX12_feed_77 (lv_at hl 0 rfl) ?_
  refine lv_iconst (v := 4) hx hb dX12_feed_79 (by decide) ?_
  refine lv_idiv hx hb dX12_feed_80 (by decide) ?_
  refine lv_topi (fun x_90 ex_90 => ?_)
  obtain rfl : x_90 = 2 := ex_90.trans (by decide)
  refine va_iald hx hb hKN.1 hP 1 1 rfl rfl (by unfold vp_in; decide) dX12_feed_81 ?_
  refine lv_topi (fun x_91 ex_91 => ?_)
  refine lv_bipush (v := 24) hx hb dX12_feed_82 (by decide) ?_
  refine lv_bipush (v := 8) hx hb dX12_feed_84 (by decide) ?_
  refine lv_iload hx hb dX12_feed_86 (lv_at hl 0 rfl) ?_
  refine lv_iconst (v := 4) hx hb dX12_feed_88 (by decide) ?_
  refine lv_irem hx hb dX12_feed_89 (by decide) ?_
  refine lv_topi (fun x_92 ex_92 => ?_)
  obtain rfl : x_92 = 0 := ex_92.trans (by decide)
  refine lv_imul hx hb dX12_feed_90 ?_
  refine lv_topi (fun x_93 ex_93 => ?_)
  obtain rfl : x_93 = 0 := ex_93.trans (by decide)
  refine lv_isub hx hb dX12_feed_91 ?_
  refine lv_topi (fun x_94 ex_94 => ?_)
  obtain rfl : x_94 = 24 := ex_94.trans (by decide)
  refine lv_ishr hx hb dX12_feed_92 ?_
  refine lv_topi (fun x_95 ex_95 => ?_)
  obtain ⟨x_96, ex_96⟩ : ∃ y, x_95.toInt8.toInt32 = y := ⟨_, rfl⟩
  refine lv_i2b (v := x_96) hx hb dX12_feed_93 ex_96 ?_
  refine va_bast hx hb hKN.1 hP hD hS 2 0 rfl rfl (by unfold vp_in; decide) dX12_feed_94 (fun H locs hP hD hS => ?_)
  have hP : va_P D vwCl [(h0, .inr (12, [.int 0, .ref m_world, .ref m_images, .ref m_hasImage, .ref m_tape, .int 0, .ref m_five, .int 0, .int 0, .int 0, .int 0, .int 0, .int 0, .int (-1), .ref m_fresh, .int 0, .int 0, .int 0, .int 0, .int 0, .int 0, .ref m_sums, .ref m_pairs, .ref m_goesWith, .ref m_said, .int 0, .int 0, .ref m_firstOrder, .int 0, .ref m_tiredBy, .int 0, .ref m_many, .ref m_width, .ref m_numbers, .ref m_moving])), (m_five, .inl (cA 1, 5, .inl f_7)), (m_tape, .inl (cA 0, 800, .inl (upd f_87 8 (vp_nar .byte x_96))))] H := hP
  have hD : va_D A [(h0, .inr (12, [.int 0, .ref m_world, .ref m_images, .ref m_hasImage, .ref m_tape, .int 0, .ref m_five, .int 0, .int 0, .int 0, .int 0, .int 0, .int 0, .int (-1), .ref m_fresh, .int 0, .int 0, .int 0, .int 0, .int 0, .int 0, .ref m_sums, .ref m_pairs, .ref m_goesWith, .ref m_said, .int 0, .int 0, .ref m_firstOrder, .int 0, .ref m_tiredBy, .int 0, .ref m_many, .ref m_width, .ref m_numbers, .ref m_moving])), (m_five, .inl (cA 1, 5, .inl f_7)), (m_tape, .inl (cA 0, 800, .inl (upd f_87 8 (vp_nar .byte x_96))))] := hD
  generalize ef_97 : (upd f_87 8 (vp_nar .byte x_96)) = f_97 at hP hD
  refine lv_iinc (v := 9) (lv' := [(6, .int 9), (0, .ref h0), (1, .int p0), (2, .int p1), (3, .int p2), (4, .int p3), (5, .int p4)]) hx hb dX12_feed_95 hl (k := 0) rfl (by decide) (by decide) rfl (fun ls hl => ?_)
  refine lv_goto (tgt := 55) hx hb dX12_feed_98 (by decide) ?_
  refine lv_iload hx hb dX12_feed_55 (lv_at hl 0 rfl) ?_
  refine lv_bipush (v := 20) hx hb dX12_feed_57 (by decide) ?_
  refine lv_icmp_ge (tgt := 101) hx hb dX12_feed_59 (by decide) (fun c_98 => absurd c_98 (by decide)) (fun c_98 => ?_)
  refine lv_aload_n hx hb dX12_feed_62 rfl (lv_at hl 1 rfl) ?_
  refine va_get (D := D) (ci := 12) (v := .ref m_tape) (C := RX12) (T := TX12) (N := 35) hx hb hts inX12 hown hKN.1 hP 0 rfl rfl 4 (by decide) (hts _ tw_1423) (fun _ h9 => h9) rfl dX12_feed_63 ?_
  refine lv_aload_n hx hb dX12_feed_66 rfl (lv_at hl 1 rfl) ?_
  refine va_get (D := D) (ci := 12) (v := .int 0) (C := RX12) (T := TX12) (N := 35) hx hb hts inX12 hown hKN.1 hP 0 rfl rfl 5 (by decide) (hts _ tw_1424) (fun _ h9 => h9) rfl dX12_feed_67 ?_
  refine lv_iload hx hb dX12_feed_70 (lv_at hl 0 rfl) ?_
  refine lv_iadd hx hb dX12_feed_72 ?_
  refine lv_topi (fun x_99 ex_99 => ?_)
  obtain rfl : x_99 = 9 := ex_99.trans (by decide)
  refine lv_aload_n hx hb dX12_feed_73 rfl (lv_at hl 1 rfl) ?_
  refine va_get (D := D) (ci := 12) (v := .ref m_five) (C := RX12) (T := TX12) (N := 35) hx hb hts inX12 hown hKN.1 hP 0 rfl rfl 6 (by decide) (hts _ tw_1425) (fun _ h9 => h9) rfl dX12_feed_74 ?_
  refine lv_iload hx hb dX12_feed_77 (lv_at hl 0 rfl) ?_
  refine lv_iconst (v := 4) hx hb dX12_feed_79 (by decide) ?_
  refine lv_idiv hx hb dX12_feed_80 (by decide) ?_
  refine lv_topi (fun x_100 ex_100 => ?_)
  obtain rfl : x_100 = 2 := ex_100.trans (by decide)
  refine va_iald hx hb hKN.1 hP 1 1 rfl rfl (by unfold vp_in; decide) dX12_feed_81 ?_
  refine lv_topi (fun x_101 ex_101 => ?_)
  refine lv_bipush (v := 24) hx hb dX12_feed_82 (by decide) ?_
  refine lv_bipush (v := 8) hx hb dX12_feed_84 (by decide) ?_
  refine lv_iload hx hb dX12_feed_86 (lv_at hl 0 rfl) ?_
  refine lv_iconst (v := 4) hx hb dX12_feed_88 (by decide) ?_
  refine lv_irem hx hb dX12_feed_89 (by decide) ?_
  refine lv_topi (fun x_102 ex_102 => ?_)
  obtain rfl : x_102 = 1 := ex_102.trans (by decide)
  refine lv_imul hx hb dX12_feed_90 ?_
  refine lv_topi (fun x_103 ex_103 => ?_)
  obtain rfl : x_103 = 8 := ex_103.trans (by decide)
  refine lv_isub hx hb dX12_feed_91 ?_
  refine lv_topi (fun x_104 ex_104 => ?_)
  obtain rfl : x_104 = 16 := ex_104.trans (by decide)
  refine lv_ishr hx hb dX12_feed_92 ?_
  refine lv_topi (fun x_105 ex_105 => ?_)
  obtain ⟨x_106, ex_106⟩ : ∃ y, x_105.toInt8.toInt32 = y := ⟨_, rfl⟩
  refine lv_i2b (v := x_106) hx hb dX12_feed_93 ex_106 ?_
  refine va_bast hx hb hKN.1 hP hD hS 2 0 rfl rfl (by unfold vp_in; decide) dX12_feed_94 (fun H locs hP hD hS => ?_)
  have hP : va_P D vwCl [(h0, .inr (12, [.int 0, .ref m_world, .ref m_images, .ref m_hasImage, .ref m_tape, .int 0, .ref m_five, .int 0, .int 0, .int 0, .int 0, .int 0, .int 0, .int (-1), .ref m_fresh, .int 0, .int 0, .int 0, .int 0, .int 0, .int 0, .ref m_sums, .ref m_pairs, .ref m_goesWith, .ref m_said, .int 0, .int 0, .ref m_firstOrder, .int 0, .ref m_tiredBy, .int 0, .ref m_many, .ref m_width, .ref m_numbers, .ref m_moving])), (m_five, .inl (cA 1, 5, .inl f_7)), (m_tape, .inl (cA 0, 800, .inl (upd f_97 9 (vp_nar .byte x_106))))] H := hP
  have hD : va_D A [(h0, .inr (12, [.int 0, .ref m_world, .ref m_images, .ref m_hasImage, .ref m_tape, .int 0, .ref m_five, .int 0, .int 0, .int 0, .int 0, .int 0, .int 0, .int (-1), .ref m_fresh, .int 0, .int 0, .int 0, .int 0, .int 0, .int 0, .ref m_sums, .ref m_pairs, .ref m_goesWith, .ref m_said, .int 0, .int 0, .ref m_firstOrder, .int 0, .ref m_tiredBy, .int 0, .ref m_many, .ref m_width, .ref m_numbers, .ref m_moving])), (m_five, .inl (cA 1, 5, .inl f_7)), (m_tape, .inl (cA 0, 800, .inl (upd f_97 9 (vp_nar .byte x_106))))] := hD
  generalize ef_107 : (upd f_97 9 (vp_nar .byte x_106)) = f_107 at hP hD
  refine lv_iinc (v := 10) (lv' := [(6, .int 10), (0, .ref h0), (1, .int p0), (2, .int p1), (3, .int p2), (4, .int p3), (5, .int p4)]) hx hb dX12_feed_95 hl (k := 0) rfl (by decide) (by decide) rfl (fun ls hl => ?_)
  refine lv_goto (tgt := 55) hx hb dX12_feed_98 (by decide) ?_
  refine lv_iload hx hb dX12_feed_55 (lv_at hl 0 rfl) ?_
  refine lv_bipush (v := 20) hx hb dX12_feed_57 (by decide) ?_
  refine lv_icmp_ge (tgt := 101) hx hb dX12_feed_59 (by decide) (fun c_108 => absurd c_108 (by decide)) (fun c_108 => ?_)
  refine lv_aload_n hx hb dX12_feed_62 rfl (lv_at hl 1 rfl) ?_
  refine va_get (D := D) (ci := 12) (v := .ref m_tape) (C := RX12) (T := TX12) (N := 35) hx hb hts inX12 hown hKN.1 hP 0 rfl rfl 4 (by decide) (hts _ tw_1423) (fun _ h9 => h9) rfl dX12_feed_63 ?_
  refine lv_aload_n hx hb dX12_feed_66 rfl (lv_at hl 1 rfl) ?_
  refine va_get (D := D) (ci := 12) (v := .int 0) (C := RX12) (T := TX12) (N := 35) hx hb hts inX12 hown hKN.1 hP 0 rfl rfl 5 (by decide) (hts _ tw_1424) (fun _ h9 => h9) rfl dX12_feed_67 ?_
  refine lv_iload hx hb dX12_feed_70 (lv_at hl 0 rfl) ?_
  refine lv_iadd hx hb dX12_feed_72 ?_
  refine lv_topi (fun x_109 ex_109 => ?_)
  obtain rfl : x_109 = 10 := ex_109.trans (by decide)
  refine lv_aload_n hx hb dX12_feed_73 rfl (lv_at hl 1 rfl) ?_
  refine va_get (D := D) (ci := 12) (v := .ref m_five) (C := RX12) (T := TX12) (N := 35) hx hb hts inX12 hown hKN.1 hP 0 rfl rfl 6 (by decide) (hts _ tw_1425) (fun _ h9 => h9) rfl dX12_feed_74 ?_
  refine lv_iload hx hb dX12_feed_77 (lv_at hl 0 rfl) ?_
  refine lv_iconst (v := 4) hx hb dX12_feed_79 (by decide) ?_
  refine lv_idiv hx hb dX12_feed_80 (by decide) ?_
  refine lv_topi (fun x_110 ex_110 => ?_)
  obtain rfl : x_110 = 2 := ex_110.trans (by decide)
  refine va_iald hx hb hKN.1 hP 1 1 rfl rfl (by unfold vp_in; decide) dX12_feed_81 ?_
  refine lv_topi (fun x_111 ex_111 => ?_)
  refine lv_bipush (v := 24) hx hb dX12_feed_82 (by decide) ?_
  refine lv_bipush (v := 8) hx hb dX12_feed_84 (by decide) ?_
  refine lv_iload hx hb dX12_feed_86 (lv_at hl 0 rfl) ?_
  refine lv_iconst (v := 4) hx hb dX12_feed_88 (by decide) ?_
  refine lv_irem hx hb dX12_feed_89 (by decide) ?_
  refine lv_topi (fun x_112 ex_112 => ?_)
  obtain rfl : x_112 = 2 := ex_112.trans (by decide)
  refine lv_imul hx hb dX12_feed_90 ?_
  refine lv_topi (fun x_113 ex_113 => ?_)
  obtain rfl : x_113 = 16 := ex_113.trans (by decide)
  refine lv_isub hx hb dX12_feed_91 ?_
  refine lv_topi (fun x_114 ex_114 => ?_)
  obtain rfl : x_114 = 8 := ex_114.trans (by decide)
  refine lv_ishr hx hb dX12_feed_92 ?_
  refine lv_topi (fun x_115 ex_115 => ?_)
  obtain ⟨x_116, ex_116⟩ : ∃ y, x_115.toInt8.toInt32 = y := ⟨_, rfl⟩
  refine lv_i2b (v := x_116) hx hb dX12_feed_93 ex_116 ?_
  refine va_bast hx hb hKN.1 hP hD hS 2 0 rfl rfl (by unfold vp_in; decide) dX12_feed_94 (fun H locs hP hD hS => ?_)
  have hP : va_P D vwCl [(h0, .inr (12, [.int 0, .ref m_world, .ref m_images, .ref m_hasImage, .ref m_tape, .int 0, .ref m_five, .int 0, .int 0, .int 0, .int 0, .int 0, .int 0, .int (-1), .ref m_fresh, .int 0, .int 0, .int 0, .int 0, .int 0, .int 0, .ref m_sums, .ref m_pairs, .ref m_goesWith, .ref m_said, .int 0, .int 0, .ref m_firstOrder, .int 0, .ref m_tiredBy, .int 0, .ref m_many, .ref m_width, .ref m_numbers, .ref m_moving])), (m_five, .inl (cA 1, 5, .inl f_7)), (m_tape, .inl (cA 0, 800, .inl (upd f_107 10 (vp_nar .byte x_116))))] H := hP
  have hD : va_D A [(h0, .inr (12, [.int 0, .ref m_world, .ref m_images, .ref m_hasImage, .ref m_tape, .int 0, .ref m_five, .int 0, .int 0, .int 0, .int 0, .int 0, .int 0, .int (-1), .ref m_fresh, .int 0, .int 0, .int 0, .int 0, .int 0, .int 0, .ref m_sums, .ref m_pairs, .ref m_goesWith, .ref m_said, .int 0, .int 0, .ref m_firstOrder, .int 0, .ref m_tiredBy, .int 0, .ref m_many, .ref m_width, .ref m_numbers, .ref m_moving])), (m_five, .inl (cA 1, 5, .inl f_7)), (m_tape, .inl (cA 0, 800, .inl (upd f_107 10 (vp_nar .byte x_116))))] := hD
  generalize ef_117 : (upd f_107 10 (vp_nar .byte x_116)) = f_117 at hP hD
  refine lv_iinc (v := 11) (lv' := [(6, .int 11), (0, .ref h0), (1, .int p0), (2, .int p1), (3, .int p2), (4, .int p3), (5, .int p4)]) hx hb dX12_feed_95 hl (k := 0) rfl (by decide) (by decide) rfl (fun ls hl => ?_)
  refine lv_goto (tgt := 55) hx hb dX12_feed_98 (by decide) ?_
  refine lv_iload hx hb dX12_feed_55 (lv_at hl 0 rfl) ?_
  refine lv_bipush (v := 20) hx hb dX12_feed_57 (by decide) ?_
  refine lv_icmp_ge (tgt := 101) hx hb dX12_feed_59 (by decide) (fun c_118 => absurd c_118 (by decide)) (fun c_118 => ?_)
  refine lv_aload_n hx hb dX12_feed_62 rfl (lv_at hl 1 rfl) ?_
  refine va_get (D := D) (ci := 12) (v := .ref m_tape) (C := RX12) (T := TX12) (N := 35) hx hb hts inX12 hown hKN.1 hP 0 rfl rfl 4 (by decide) (hts _ tw_1423) (fun _ h9 => h9) rfl dX12_feed_63 ?_
  refine lv_aload_n hx hb dX12_feed_66 rfl (lv_at hl 1 rfl) ?_
  refine va_get (D := D) (ci := 12) (v := .int 0) (C := RX12) (T := TX12) (N := 35) hx hb hts inX12 hown hKN.1 hP 0 rfl rfl 5 (by decide) (hts _ tw_1424) (fun _ h9 => h9) rfl dX12_feed_67 ?_
  refine lv_iload hx hb dX12_feed_70 (lv_at hl 0 rfl) ?_
  refine lv_iadd hx hb dX12_feed_72 ?_
  refine lv_topi (fun x_119 ex_119 => ?_)
  obtain rfl : x_119 = 11 := ex_119.trans (by decide)
  refine lv_aload_n hx hb dX12_feed_73 rfl (lv_at hl 1 rfl) ?_
  refine va_get (D := D) (ci := 12) (v := .ref m_five) (C := RX12) (T := TX12) (N := 35) hx hb hts inX12 hown hKN.1 hP 0 rfl rfl 6 (by decide) (hts _ tw_1425) (fun _ h9 => h9) rfl dX12_feed_74 ?_
  refine lv_iload hx hb dX12_feed_77 (lv_at hl 0 rfl) ?_
  refine lv_iconst (v := 4) hx hb dX12_feed_79 (by decide) ?_
  refine lv_idiv hx hb dX12_feed_80 (by decide) ?_
  refine lv_topi (fun x_120 ex_120 => ?_)
  obtain rfl : x_120 = 2 := ex_120.trans (by decide)
  refine va_iald hx hb hKN.1 hP 1 1 rfl rfl (by unfold vp_in; decide) dX12_feed_81 ?_
  refine lv_topi (fun x_121 ex_121 => ?_)
  refine lv_bipush (v := 24) hx hb dX12_feed_82 (by decide) ?_
  refine lv_bipush (v := 8) hx hb dX12_feed_84 (by decide) ?_
  refine lv_iload hx hb dX12_feed_86 (lv_at hl 0 rfl) ?_
  refine lv_iconst (v := 4) hx hb dX12_feed_88 (by decide) ?_
  refine lv_irem hx hb dX12_feed_89 (by decide) ?_
  refine lv_topi (fun x_122 ex_122 => ?_)
  obtain rfl : x_122 = 3 := ex_122.trans (by decide)
  refine lv_imul hx hb dX12_feed_90 ?_
  refine lv_topi (fun x_123 ex_123 => ?_)
  obtain rfl : x_123 = 24 := ex_123.trans (by decide)
  refine lv_isub hx hb dX12_feed_91 ?_
  refine lv_topi (fun x_124 ex_124 => ?_)
  obtain rfl : x_124 = 0 := ex_124.trans (by decide)
  refine lv_ishr hx hb dX12_feed_92 ?_
  refine lv_topi (fun x_125 ex_125 => ?_)
  obtain ⟨x_126, ex_126⟩ : ∃ y, x_125.toInt8.toInt32 = y := ⟨_, rfl⟩
  refine lv_i2b (v := x_126) hx hb dX12_feed_93 ex_126 ?_
  refine va_bast hx hb hKN.1 hP hD hS 2 0 rfl rfl (by unfold vp_in; decide) dX12_feed_94 (fun H locs hP hD hS => ?_)
  have hP : va_P D vwCl [(h0, .inr (12, [.int 0, .ref m_world, .ref m_images, .ref m_hasImage, .ref m_tape, .int 0, .ref m_five, .int 0, .int 0, .int 0, .int 0, .int 0, .int 0, .int (-1), .ref m_fresh, .int 0, .int 0, .int 0, .int 0, .int 0, .int 0, .ref m_sums, .ref m_pairs, .ref m_goesWith, .ref m_said, .int 0, .int 0, .ref m_firstOrder, .int 0, .ref m_tiredBy, .int 0, .ref m_many, .ref m_width, .ref m_numbers, .ref m_moving])), (m_five, .inl (cA 1, 5, .inl f_7)), (m_tape, .inl (cA 0, 800, .inl (upd f_117 11 (vp_nar .byte x_126))))] H := hP
  have hD : va_D A [(h0, .inr (12, [.int 0, .ref m_world, .ref m_images, .ref m_hasImage, .ref m_tape, .int 0, .ref m_five, .int 0, .int 0, .int 0, .int 0, .int 0, .int 0, .int (-1), .ref m_fresh, .int 0, .int 0, .int 0, .int 0, .int 0, .int 0, .ref m_sums, .ref m_pairs, .ref m_goesWith, .ref m_said, .int 0, .int 0, .ref m_firstOrder, .int 0, .ref m_tiredBy, .int 0, .ref m_many, .ref m_width, .ref m_numbers, .ref m_moving])), (m_five, .inl (cA 1, 5, .inl f_7)), (m_tape, .inl (cA 0, 800, .inl (upd f_117 11 (vp_nar .byte x_126))))] := hD
  generalize ef_127 : (upd f_117 11 (vp_nar .byte x_126)) = f_127 at hP hD
  refine lv_iinc (v := 12) (lv' := [(6, .int 12), (0, .ref h0), (1, .int p0), (2, .int p1), (3, .int p2), (4, .int p3), (5, .int p4)]) hx hb dX12_feed_95 hl (k := 0) rfl (by decide) (by decide) rfl (fun ls hl => ?_)
  refine lv_goto (tgt := 55) hx hb dX12_feed_98 (by decide) ?_
  refine lv_iload hx hb dX12_feed_55 (lv_at hl 0 rfl) ?_
  refine lv_bipush (v := 20) hx hb dX12_feed_57 (by decide) ?_
  refine lv_icmp_ge (tgt := 101) hx hb dX12_feed_59 (by decide) (fun c_128 => absurd c_128 (by decide)) (fun c_128 => ?_)
  refine lv_aload_n hx hb dX12_feed_62 rfl (lv_at hl 1 rfl) ?_
  refine va_get (D := D) (ci := 12) (v := .ref m_tape) (C := RX12) (T := TX12) (N := 35) hx hb hts inX12 hown hKN.1 hP 0 rfl rfl 4 (by decide) (hts _ tw_1423) (fun _ h9 => h9) rfl dX12_feed_63 ?_
  refine lv_aload_n hx hb dX12_feed_66 rfl (lv_at hl 1 rfl) ?_
  refine va_get (D := D) (ci := 12) (v := .int 0) (C := RX12) (T := TX12) (N := 35) hx hb hts inX12 hown hKN.1 hP 0 rfl rfl 5 (by decide) (hts _ tw_1424) (fun _ h9 => h9) rfl dX12_feed_67 ?_
  refine lv_iload hx hb dX12_feed_70 (lv_at hl 0 rfl) ?_
  refine lv_iadd hx hb dX12_feed_72 ?_
  refine lv_topi (fun x_129 ex_129 => ?_)
  obtain rfl : x_129 = 12 := ex_129.trans (by decide)
  refine lv_aload_n hx hb dX12_feed_73 rfl (lv_at hl 1 rfl) ?_
  refine va_get (D := D) (ci := 12) (v := .ref m_five) (C := RX12) (T := TX12) (N := 35) hx hb hts inX12 hown hKN.1 hP 0 rfl rfl 6 (by decide) (hts _ tw_1425) (fun _ h9 => h9) rfl dX12_feed_74 ?_
  refine lv_iload hx hb dX12_feed_77 (lv_at hl 0 rfl) ?_
  refine lv_iconst (v := 4) hx hb dX12_feed_79 (by decide) ?_
  refine lv_idiv hx hb dX12_feed_80 (by decide) ?_
  refine lv_topi (fun x_130 ex_130 => ?_)
  obtain rfl : x_130 = 3 := ex_130.trans (by decide)
  refine va_iald hx hb hKN.1 hP 1 1 rfl rfl (by unfold vp_in; decide) dX12_feed_81 ?_
  refine lv_topi (fun x_131 ex_131 => ?_)
  refine lv_bipush (v := 24) hx hb dX12_feed_82 (by decide) ?_
  refine lv_bipush (v := 8) hx hb dX12_feed_84 (by decide) ?_
  refine lv_iload hx hb dX12_feed_86 (lv_at hl 0 rfl) ?_
  refine lv_iconst (v := 4) hx hb dX12_feed_88 (by decide) ?_
  refine lv_irem hx hb dX12_feed_89 (by decide) ?_
  refine lv_topi (fun x_132 ex_132 => ?_)
  obtain rfl : x_132 = 0 := ex_132.trans (by decide)
  refine lv_imul hx hb dX12_feed_90 ?_
  refine lv_topi (fun x_133 ex_133 => ?_)
  obtain rfl : x_133 = 0 := ex_133.trans (by decide)
  refine lv_isub hx hb dX12_feed_91 ?_
  refine lv_topi (fun x_134 ex_134 => ?_)
  obtain rfl : x_134 = 24 := ex_134.trans (by decide)
  refine lv_ishr hx hb dX12_feed_92 ?_
  refine lv_topi (fun x_135 ex_135 => ?_)
  obtain ⟨x_136, ex_136⟩ : ∃ y, x_135.toInt8.toInt32 = y := ⟨_, rfl⟩
  refine lv_i2b (v := x_136) hx hb dX12_feed_93 ex_136 ?_
  refine va_bast hx hb hKN.1 hP hD hS 2 0 rfl rfl (by unfold vp_in; decide) dX12_feed_94 (fun H locs hP hD hS => ?_)
  have hP : va_P D vwCl [(h0, .inr (12, [.int 0, .ref m_world, .ref m_images, .ref m_hasImage, .ref m_tape, .int 0, .ref m_five, .int 0, .int 0, .int 0, .int 0, .int 0, .int 0, .int (-1), .ref m_fresh, .int 0, .int 0, .int 0, .int 0, .int 0, .int 0, .ref m_sums, .ref m_pairs, .ref m_goesWith, .ref m_said, .int 0, .int 0, .ref m_firstOrder, .int 0, .ref m_tiredBy, .int 0, .ref m_many, .ref m_width, .ref m_numbers, .ref m_moving])), (m_five, .inl (cA 1, 5, .inl f_7)), (m_tape, .inl (cA 0, 800, .inl (upd f_127 12 (vp_nar .byte x_136))))] H := hP
  have hD : va_D A [(h0, .inr (12, [.int 0, .ref m_world, .ref m_images, .ref m_hasImage, .ref m_tape, .int 0, .ref m_five, .int 0, .int 0, .int 0, .int 0, .int 0, .int 0, .int (-1), .ref m_fresh, .int 0, .int 0, .int 0, .int 0, .int 0, .int 0, .ref m_sums, .ref m_pairs, .ref m_goesWith, .ref m_said, .int 0, .int 0, .ref m_firstOrder, .int 0, .ref m_tiredBy, .int 0, .ref m_many, .ref m_width, .ref m_numbers, .ref m_moving])), (m_five, .inl (cA 1, 5, .inl f_7)), (m_tape, .inl (cA 0, 800, .inl (upd f_127 12 (vp_nar .byte x_136))))] := hD
  generalize ef_137 : (upd f_127 12 (vp_nar .byte x_136)) = f_137 at hP hD
  refine lv_iinc (v := 13) (lv' := [(6, .int 13), (0, .ref h0), (1, .int p0), (2, .int p1), (3, .int p2), (4, .int p3), (5, .int p4)]) hx hb dX12_feed_95 hl (k := 0) rfl (by decide) (by decide) rfl (fun ls hl => ?_)
  refine lv_goto (tgt := 55) hx hb dX12_feed_98 (by decide) ?_
  refine lv_iload hx hb dX12_feed_55 (lv_at hl 0 rfl) ?_
  refine lv_bipush (v := 20) hx hb dX12_feed_57 (by decide) ?_
  refine lv_icmp_ge (tgt := 101) hx hb dX12_feed_59 (by decide) (fun c_138 => absurd c_138 (by decide)) (fun c_138 => ?_)
  refine lv_aload_n hx hb dX12_feed_62 rfl (lv_at hl 1 rfl) ?_
  refine va_get (D := D) (ci := 12) (v := .ref m_tape) (C := RX12) (T := TX12) (N := 35) hx hb hts inX12 hown hKN.1 hP 0 rfl rfl 4 (by decide) (hts _ tw_1423) (fun _ h9 => h9) rfl dX12_feed_63 ?_
  refine lv_aload_n hx hb dX12_feed_66 rfl (lv_at hl 1 rfl) ?_
  refine va_get (D := D) (ci := 12) (v := .int 0) (C := RX12) (T := TX12) (N := 35) hx hb hts inX12 hown hKN.1 hP 0 rfl rfl 5 (by decide) (hts _ tw_1424) (fun _ h9 => h9) rfl dX12_feed_67 ?_
  refine lv_iload hx hb dX12_feed_70 (lv_at hl 0 rfl) ?_
  refine lv_iadd hx hb dX12_feed_72 ?_
  refine lv_topi (fun x_139 ex_139 => ?_)
  obtain rfl : x_139 = 13 := ex_139.trans (by decide)
  refine lv_aload_n hx hb dX12_feed_73 rfl (lv_at hl 1 rfl) ?_
  refine va_get (D := D) (ci := 12) (v := .ref m_five) (C := RX12) (T := TX12) (N := 35) hx hb hts inX12 hown hKN.1 hP 0 rfl rfl 6 (by decide) (hts _ tw_1425) (fun _ h9 => h9) rfl dX12_feed_74 ?_
  refine lv_iload hx hb dX12_feed_77 (lv_at hl 0 rfl) ?_
  refine lv_iconst (v := 4) hx hb dX12_feed_79 (by decide) ?_
  refine lv_idiv hx hb dX12_feed_80 (by decide) ?_
  refine lv_topi (fun x_140 ex_140 => ?_)
  obtain rfl : x_140 = 3 := ex_140.trans (by decide)
  refine va_iald hx hb hKN.1 hP 1 1 rfl rfl (by unfold vp_in; decide) dX12_feed_81 ?_
  refine lv_topi (fun x_141 ex_141 => ?_)
  refine lv_bipush (v := 24) hx hb dX12_feed_82 (by decide) ?_
  refine lv_bipush (v := 8) hx hb dX12_feed_84 (by decide) ?_
  refine lv_iload hx hb dX12_feed_86 (lv_at hl 0 rfl) ?_
  refine lv_iconst (v := 4) hx hb dX12_feed_88 (by decide) ?_
  refine lv_irem hx hb dX12_feed_89 (by decide) ?_
  refine lv_topi (fun x_142 ex_142 => ?_)
  obtain rfl : x_142 = 1 := ex_142.trans (by decide)
  refine lv_imul hx hb dX12_feed_90 ?_
  refine lv_topi (fun x_143 ex_143 => ?_)
  obtain rfl : x_143 = 8 := ex_143.trans (by decide)
  refine lv_isub hx hb dX12_feed_91 ?_
  refine lv_topi (fun x_144 ex_144 => ?_)
  obtain rfl : x_144 = 16 := ex_144.trans (by decide)
  refine lv_ishr hx hb dX12_feed_92 ?_
  refine lv_topi (fun x_145 ex_145 => ?_)
  obtain ⟨x_146, ex_146⟩ : ∃ y, x_145.toInt8.toInt32 = y := ⟨_, rfl⟩
  refine lv_i2b (v := x_146) hx hb dX12_feed_93 ex_146 ?_
  refine va_bast hx hb hKN.1 hP hD hS 2 0 rfl rfl (by unfold vp_in; decide) dX12_feed_94 (fun H locs hP hD hS => ?_)
  have hP : va_P D vwCl [(h0, .inr (12, [.int 0, .ref m_world, .ref m_images, .ref m_hasImage, .ref m_tape, .int 0, .ref m_five, .int 0, .int 0, .int 0, .int 0, .int 0, .int 0, .int (-1), .ref m_fresh, .int 0, .int 0, .int 0, .int 0, .int 0, .int 0, .ref m_sums, .ref m_pairs, .ref m_goesWith, .ref m_said, .int 0, .int 0, .ref m_firstOrder, .int 0, .ref m_tiredBy, .int 0, .ref m_many, .ref m_width, .ref m_numbers, .ref m_moving])), (m_five, .inl (cA 1, 5, .inl f_7)), (m_tape, .inl (cA 0, 800, .inl (upd f_137 13 (vp_nar .byte x_146))))] H := hP
  have hD : va_D A [(h0, .inr (12, [.int 0, .ref m_world, .ref m_images, .ref m_hasImage, .ref m_tape, .int 0, .ref m_five, .int 0, .int 0, .int 0, .int 0, .int 0, .int 0, .int (-1), .ref m_fresh, .int 0, .int 0, .int 0, .int 0, .int 0, .int 0, .ref m_sums, .ref m_pairs, .ref m_goesWith, .ref m_said, .int 0, .int 0, .ref m_firstOrder, .int 0, .ref m_tiredBy, .int 0, .ref m_many, .ref m_width, .ref m_numbers, .ref m_moving])), (m_five, .inl (cA 1, 5, .inl f_7)), (m_tape, .inl (cA 0, 800, .inl (upd f_137 13 (vp_nar .byte x_146))))] := hD
  generalize ef_147 : (upd f_137 13 (vp_nar .byte x_146)) = f_147 at hP hD
  refine lv_iinc (v := 14) (lv' := [(6, .int 14), (0, .ref h0), (1, .int p0), (2, .int p1), (3, .int p2), (4, .int p3), (5, .int p4)]) hx hb dX12_feed_95 hl (k := 0) rfl (by decide) (by decide) rfl (fun ls hl => ?_)
  refine lv_goto (tgt := 55) hx hb dX12_feed_98 (by decide) ?_
  refine lv_iload hx hb dX12_feed_55 (lv_at hl 0 rfl) ?_
  refine lv_bipush (v := 20) hx hb dX12_feed_57 (by decide) ?_
  refine lv_icmp_ge (tgt := 101) hx hb dX12_feed_59 (by decide) (fun c_148 => absurd c_148 (by decide)) (fun c_148 => ?_)
  refine lv_aload_n hx hb dX12_feed_62 rfl (lv_at hl 1 rfl) ?_
  refine va_get (D := D) (ci := 12) (v := .ref m_tape) (C := RX12) (T := TX12) (N := 35) hx hb hts inX12 hown hKN.1 hP 0 rfl rfl 4 (by decide) (hts _ tw_1423) (fun _ h9 => h9) rfl dX12_feed_63 ?_
  refine lv_aload_n hx hb dX12_feed_66 rfl (lv_at hl 1 rfl) ?_
  refine va_get (D := D) (ci := 12) (v := .int 0) (C := RX12) (T := TX12) (N := 35) hx hb hts inX12 hown hKN.1 hP 0 rfl rfl 5 (by decide) (hts _ tw_1424) (fun _ h9 => h9) rfl dX12_feed_67 ?_
  refine lv_iload hx hb dX12_feed_70 (lv_at hl 0 rfl) ?_
  refine lv_iadd hx hb dX12_feed_72 ?_
  refine lv_topi (fun x_149 ex_149 => ?_)
  obtain rfl : x_149 = 14 := ex_149.trans (by decide)
  refine lv_aload_n hx hb dX12_feed_73 rfl (lv_at hl 1 rfl) ?_
  refine va_get (D := D) (ci := 12) (v := .ref m_five) (C := RX12) (T := TX12) (N := 35) hx hb hts inX12 hown hKN.1 hP 0 rfl rfl 6 (by decide) (hts _ tw_1425) (fun _ h9 => h9) rfl dX12_feed_74 ?_
  refine lv_iload hx hb dX12_feed_77 (lv_at hl 0 rfl) ?_
  refine lv_iconst (v := 4) hx hb dX12_feed_79 (by decide) ?_
  refine lv_idiv hx hb dX12_feed_80 (by decide) ?_
  refine lv_topi (fun x_150 ex_150 => ?_)
  obtain rfl : x_150 = 3 := ex_150.trans (by decide)
  refine va_iald hx hb hKN.1 hP 1 1 rfl rfl (by unfold vp_in; decide) dX12_feed_81 ?_
  refine lv_topi (fun x_151 ex_151 => ?_)
  refine lv_bipush (v := 24) hx hb dX12_feed_82 (by decide) ?_
  refine lv_bipush (v := 8) hx hb dX12_feed_84 (by decide) ?_
  refine lv_iload hx hb dX12_feed_86 (lv_at hl 0 rfl) ?_
  refine lv_iconst (v := 4) hx hb dX12_feed_88 (by decide) ?_
  refine lv_irem hx hb dX12_feed_89 (by decide) ?_
  refine lv_topi (fun x_152 ex_152 => ?_)
  obtain rfl : x_152 = 2 := ex_152.trans (by decide)
  refine lv_imul hx hb dX12_feed_90 ?_
  refine lv_topi (fun x_153 ex_153 => ?_)
  obtain rfl : x_153 = 16 := ex_153.trans (by decide)
  refine lv_isub hx hb dX12_feed_91 ?_
  refine lv_topi (fun x_154 ex_154 => ?_)
  obtain rfl : x_154 = 8 := ex_154.trans (by decide)
  refine lv_ishr hx hb dX12_feed_92 ?_
  refine lv_topi (fun x_155 ex_155 => ?_)
  obtain ⟨x_156, ex_156⟩ : ∃ y, x_155.toInt8.toInt32 = y := ⟨_, rfl⟩
  refine lv_i2b (v := x_156) hx hb dX12_feed_93 ex_156 ?_
  refine va_bast hx hb hKN.1 hP hD hS 2 0 rfl rfl (by unfold vp_in; decide) dX12_feed_94 (fun H locs hP hD hS => ?_)
  have hP : va_P D vwCl [(h0, .inr (12, [.int 0, .ref m_world, .ref m_images, .ref m_hasImage, .ref m_tape, .int 0, .ref m_five, .int 0, .int 0, .int 0, .int 0, .int 0, .int 0, .int (-1), .ref m_fresh, .int 0, .int 0, .int 0, .int 0, .int 0, .int 0, .ref m_sums, .ref m_pairs, .ref m_goesWith, .ref m_said, .int 0, .int 0, .ref m_firstOrder, .int 0, .ref m_tiredBy, .int 0, .ref m_many, .ref m_width, .ref m_numbers, .ref m_moving])), (m_five, .inl (cA 1, 5, .inl f_7)), (m_tape, .inl (cA 0, 800, .inl (upd f_147 14 (vp_nar .byte x_156))))] H := hP
  have hD : va_D A [(h0, .inr (12, [.int 0, .ref m_world, .ref m_images, .ref m_hasImage, .ref m_tape, .int 0, .ref m_five, .int 0, .int 0, .int 0, .int 0, .int 0, .int 0, .int (-1), .ref m_fresh, .int 0, .int 0, .int 0, .int 0, .int 0, .int 0, .ref m_sums, .ref m_pairs, .ref m_goesWith, .ref m_said, .int 0, .int 0, .ref m_firstOrder, .int 0, .ref m_tiredBy, .int 0, .ref m_many, .ref m_width, .ref m_numbers, .ref m_moving])), (m_five, .inl (cA 1, 5, .inl f_7)), (m_tape, .inl (cA 0, 800, .inl (upd f_147 14 (vp_nar .byte x_156))))] := hD
  generalize ef_157 : (upd f_147 14 (vp_nar .byte x_156)) = f_157 at hP hD
  refine lv_iinc (v := 15) (lv' := [(6, .int 15), (0, .ref h0), (1, .int p0), (2, .int p1), (3, .int p2), (4, .int p3), (5, .int p4)]) hx hb dX12_feed_95 hl (k := 0) rfl (by decide) (by decide) rfl (fun ls hl => ?_)
  refine lv_goto (tgt := 55) hx hb dX12_feed_98 (by decide) ?_
  refine lv_iload hx hb dX12_feed_55 (lv_at hl 0 rfl) ?_
  refine lv_bipush (v := 20) hx hb dX12_feed_57 (by decide) ?_
  refine lv_icmp_ge (tgt := 101) hx hb dX12_feed_59 (by decide) (fun c_158 => absurd c_158 (by decide)) (fun c_158 => ?_)
  refine lv_aload_n hx hb dX12_feed_62 rfl (lv_at hl 1 rfl) ?_
  refine va_get (D := D) (ci := 12) (v := .ref m_tape) (C := RX12) (T := TX12) (N := 35) hx hb hts inX12 hown hKN.1 hP 0 rfl rfl 4 (by decide) (hts _ tw_1423) (fun _ h9 => h9) rfl dX12_feed_63 ?_
  refine lv_aload_n hx hb dX12_feed_66 rfl (lv_at hl 1 rfl) ?_
  refine va_get (D := D) (ci := 12) (v := .int 0) (C := RX12) (T := TX12) (N := 35) hx hb hts inX12 hown hKN.1 hP 0 rfl rfl 5 (by decide) (hts _ tw_1424) (fun _ h9 => h9) rfl dX12_feed_67 ?_
  refine lv_iload hx hb dX12_feed_70 (lv_at hl 0 rfl) ?_
  refine lv_iadd hx hb dX12_feed_72 ?_
  refine lv_topi (fun x_159 ex_159 => ?_)
  obtain rfl : x_159 = 15 := ex_159.trans (by decide)
  refine lv_aload_n hx hb dX12_feed_73 rfl (lv_at hl 1 rfl) ?_
  refine va_get (D := D) (ci := 12) (v := .ref m_five) (C := RX12) (T := TX12) (N := 35) hx hb hts inX12 hown hKN.1 hP 0 rfl rfl 6 (by decide) (hts _ tw_1425) (fun _ h9 => h9) rfl dX12_feed_74 ?_
  refine lv_iload hx hb dX12_feed_77 (lv_at hl 0 rfl) ?_
  refine lv_iconst (v := 4) hx hb dX12_feed_79 (by decide) ?_
  refine lv_idiv hx hb dX12_feed_80 (by decide) ?_
  refine lv_topi (fun x_160 ex_160 => ?_)
  obtain rfl : x_160 = 3 := ex_160.trans (by decide)
  refine va_iald hx hb hKN.1 hP 1 1 rfl rfl (by unfold vp_in; decide) dX12_feed_81 ?_
  refine lv_topi (fun x_161 ex_161 => ?_)
  refine lv_bipush (v := 24) hx hb dX12_feed_82 (by decide) ?_
  refine lv_bipush (v := 8) hx hb dX12_feed_84 (by decide) ?_
  refine lv_iload hx hb dX12_feed_86 (lv_at hl 0 rfl) ?_
  refine lv_iconst (v := 4) hx hb dX12_feed_88 (by decide) ?_
  refine lv_irem hx hb dX12_feed_89 (by decide) ?_
  refine lv_topi (fun x_162 ex_162 => ?_)
  obtain rfl : x_162 = 3 := ex_162.trans (by decide)
  refine lv_imul hx hb dX12_feed_90 ?_
  refine lv_topi (fun x_163 ex_163 => ?_)
  obtain rfl : x_163 = 24 := ex_163.trans (by decide)
  refine lv_isub hx hb dX12_feed_91 ?_
  refine lv_topi (fun x_164 ex_164 => ?_)
  obtain rfl : x_164 = 0 := ex_164.trans (by decide)
  refine lv_ishr hx hb dX12_feed_92 ?_
  refine lv_topi (fun x_165 ex_165 => ?_)
  obtain ⟨x_166, ex_166⟩ : ∃ y, x_165.toInt8.toInt32 = y := ⟨_, rfl⟩
  refine lv_i2b (v := x_166) hx hb dX12_feed_93 ex_166 ?_
  refine va_bast hx hb hKN.1 hP hD hS 2 0 rfl rfl (by unfold vp_in; decide) dX12_feed_94 (fun H locs hP hD hS => ?_)
  have hP : va_P D vwCl [(h0, .inr (12, [.int 0, .ref m_world, .ref m_images, .ref m_hasImage, .ref m_tape, .int 0, .ref m_five, .int 0, .int 0, .int 0, .int 0, .int 0, .int 0, .int (-1), .ref m_fresh, .int 0, .int 0, .int 0, .int 0, .int 0, .int 0, .ref m_sums, .ref m_pairs, .ref m_goesWith, .ref m_said, .int 0, .int 0, .ref m_firstOrder, .int 0, .ref m_tiredBy, .int 0, .ref m_many, .ref m_width, .ref m_numbers, .ref m_moving])), (m_five, .inl (cA 1, 5, .inl f_7)), (m_tape, .inl (cA 0, 800, .inl (upd f_157 15 (vp_nar .byte x_166))))] H := hP
  have hD : va_D A [(h0, .inr (12, [.int 0, .ref m_world, .ref m_images, .ref m_hasImage, .ref m_tape, .int 0, .ref m_five, .int 0, .int 0, .int 0, .int 0, .int 0, .int 0, .int (-1), .ref m_fresh, .int 0, .int 0, .int 0, .int 0, .int 0, .int 0, .ref m_sums, .ref m_pairs, .ref m_goesWith, .ref m_said, .int 0, .int 0, .ref m_firstOrder, .int 0, .ref m_tiredBy, .int 0, .ref m_many, .ref m_width, .ref m_numbers, .ref m_moving])), (m_five, .inl (cA 1, 5, .inl f_7)), (m_tape, .inl (cA 0, 800, .inl (upd f_157 15 (vp_nar .byte x_166))))] := hD
  generalize ef_167 : (upd f_157 15 (vp_nar .byte x_166)) = f_167 at hP hD
  refine lv_iinc (v := 16) (lv' := [(6, .int 16), (0, .ref h0), (1, .int p0), (2, .int p1), (3, .int p2), (4, .int p3), (5, .int p4)]) hx hb dX12_feed_95 hl (k := 0) rfl (by decide) (by decide) rfl (fun ls hl => ?_)
  refine lv_goto (tgt := 55) hx hb dX12_feed_98 (by decide) ?_
  refine lv_iload hx hb dX12_feed_55 (lv_at hl 0 rfl) ?_
  refine lv_bipush (v := 20) hx hb dX12_feed_57 (by decide) ?_
  refine lv_icmp_ge (tgt := 101) hx hb dX12_feed_59 (by decide) (fun c_168 => absurd c_168 (by decide)) (fun c_168 => ?_)
  refine lv_aload_n hx hb dX12_feed_62 rfl (lv_at hl 1 rfl) ?_
  refine va_get (D := D) (ci := 12) (v := .ref m_tape) (C := RX12) (T := TX12) (N := 35) hx hb hts inX12 hown hKN.1 hP 0 rfl rfl 4 (by decide) (hts _ tw_1423) (fun _ h9 => h9) rfl dX12_feed_63 ?_
  refine lv_aload_n hx hb dX12_feed_66 rfl (lv_at hl 1 rfl) ?_
  refine va_get (D := D) (ci := 12) (v := .int 0) (C := RX12) (T := TX12) (N := 35) hx hb hts inX12 hown hKN.1 hP 0 rfl rfl 5 (by decide) (hts _ tw_1424) (fun _ h9 => h9) rfl dX12_feed_67 ?_
  refine lv_iload hx hb dX12_feed_70 (lv_at hl 0 rfl) ?_
  refine lv_iadd hx hb dX12_feed_72 ?_
  refine lv_topi (fun x_169 ex_169 => ?_)
  obtain rfl : x_169 = 16 := ex_169.trans (by decide)
  refine lv_aload_n hx hb dX12_feed_73 rfl (lv_at hl 1 rfl) ?_
  refine va_get (D := D) (ci := 12) (v := .ref m_five) (C := RX12) (T := TX12) (N := 35) hx hb hts inX12 hown hKN.1 hP 0 rfl rfl 6 (by decide) (hts _ tw_1425) (fun _ h9 => h9) rfl dX12_feed_74 ?_
  refine lv_iload hx hb dX12_feed_77 (lv_at hl 0 rfl) ?_
  refine lv_iconst (v := 4) hx hb dX12_feed_79 (by decide) ?_
  refine lv_idiv hx hb dX12_feed_80 (by decide) ?_
  refine lv_topi (fun x_170 ex_170 => ?_)
  obtain rfl : x_170 = 4 := ex_170.trans (by decide)
  refine va_iald hx hb hKN.1 hP 1 1 rfl rfl (by unfold vp_in; decide) dX12_feed_81 ?_
  refine lv_topi (fun x_171 ex_171 => ?_)
  refine lv_bipush (v := 24) hx hb dX12_feed_82 (by decide) ?_
  refine lv_bipush (v := 8) hx hb dX12_feed_84 (by decide) ?_
  refine lv_iload hx hb dX12_feed_86 (lv_at hl 0 rfl) ?_
  refine lv_iconst (v := 4) hx hb dX12_feed_88 (by decide) ?_
  refine lv_irem hx hb dX12_feed_89 (by decide) ?_
  refine lv_topi (fun x_172 ex_172 => ?_)
  obtain rfl : x_172 = 0 := ex_172.trans (by decide)
  refine lv_imul hx hb dX12_feed_90 ?_
  refine lv_topi (fun x_173 ex_173 => ?_)
  obtain rfl : x_173 = 0 := ex_173.trans (by decide)
  refine lv_isub hx hb dX12_feed_91 ?_
  refine lv_topi (fun x_174 ex_174 => ?_)
  obtain rfl : x_174 = 24 := ex_174.trans (by decide)
  refine lv_ishr hx hb dX12_feed_92 ?_
  refine lv_topi (fun x_175 ex_175 => ?_)
  obtain ⟨x_176, ex_176⟩ : ∃ y, x_175.toInt8.toInt32 = y := ⟨_, rfl⟩
  refine lv_i2b (v := x_176) hx hb dX12_feed_93 ex_176 ?_
  refine va_bast hx hb hKN.1 hP hD hS 2 0 rfl rfl (by unfold vp_in; decide) dX12_feed_94 (fun H locs hP hD hS => ?_)
  have hP : va_P D vwCl [(h0, .inr (12, [.int 0, .ref m_world, .ref m_images, .ref m_hasImage, .ref m_tape, .int 0, .ref m_five, .int 0, .int 0, .int 0, .int 0, .int 0, .int 0, .int (-1), .ref m_fresh, .int 0, .int 0, .int 0, .int 0, .int 0, .int 0, .ref m_sums, .ref m_pairs, .ref m_goesWith, .ref m_said, .int 0, .int 0, .ref m_firstOrder, .int 0, .ref m_tiredBy, .int 0, .ref m_many, .ref m_width, .ref m_numbers, .ref m_moving])), (m_five, .inl (cA 1, 5, .inl f_7)), (m_tape, .inl (cA 0, 800, .inl (upd f_167 16 (vp_nar .byte x_176))))] H := hP
  have hD : va_D A [(h0, .inr (12, [.int 0, .ref m_world, .ref m_images, .ref m_hasImage, .ref m_tape, .int 0, .ref m_five, .int 0, .int 0, .int 0, .int 0, .int 0, .int 0, .int (-1), .ref m_fresh, .int 0, .int 0, .int 0, .int 0, .int 0, .int 0, .ref m_sums, .ref m_pairs, .ref m_goesWith, .ref m_said, .int 0, .int 0, .ref m_firstOrder, .int 0, .ref m_tiredBy, .int 0, .ref m_many, .ref m_width, .ref m_numbers, .ref m_moving])), (m_five, .inl (cA 1, 5, .inl f_7)), (m_tape, .inl (cA 0, 800, .inl (upd f_167 16 (vp_nar .byte x_176))))] := hD
  generalize ef_177 : (upd f_167 16 (vp_nar .byte x_176)) = f_177 at hP hD
  refine lv_iinc (v := 17) (lv' := [(6, .int 17), (0, .ref h0), (1, .int p0), (2, .int p1), (3, .int p2), (4, .int p3), (5, .int p4)]) hx hb dX12_feed_95 hl (k := 0) rfl (by decide) (by decide) rfl (fun ls hl => ?_)
  refine lv_goto (tgt := 55) hx hb dX12_feed_98 (by decide) ?_
  refine lv_iload hx hb dX12_feed_55 (lv_at hl 0 rfl) ?_
  refine lv_bipush (v := 20) hx hb dX12_feed_57 (by decide) ?_
  refine lv_icmp_ge (tgt := 101) hx hb dX12_feed_59 (by decide) (fun c_178 => absurd c_178 (by decide)) (fun c_178 => ?_)
  refine lv_aload_n hx hb dX12_feed_62 rfl (lv_at hl 1 rfl) ?_
  refine va_get (D := D) (ci := 12) (v := .ref m_tape) (C := RX12) (T := TX12) (N := 35) hx hb hts inX12 hown hKN.1 hP 0 rfl rfl 4 (by decide) (hts _ tw_1423) (fun _ h9 => h9) rfl dX12_feed_63 ?_
  refine lv_aload_n hx hb dX12_feed_66 rfl (lv_at hl 1 rfl) ?_
  refine va_get (D := D) (ci := 12) (v := .int 0) (C := RX12) (T := TX12) (N := 35) hx hb hts inX12 hown hKN.1 hP 0 rfl rfl 5 (by decide) (hts _ tw_1424) (fun _ h9 => h9) rfl dX12_feed_67 ?_
  refine lv_iload hx hb dX12_feed_70 (lv_at hl 0 rfl) ?_
  refine lv_iadd hx hb dX12_feed_72 ?_
  refine lv_topi (fun x_179 ex_179 => ?_)
  obtain rfl : x_179 = 17 := ex_179.trans (by decide)
  refine lv_aload_n hx hb dX12_feed_73 rfl (lv_at hl 1 rfl) ?_
  refine va_get (D := D) (ci := 12) (v := .ref m_five) (C := RX12) (T := TX12) (N := 35) hx hb hts inX12 hown hKN.1 hP 0 rfl rfl 6 (by decide) (hts _ tw_1425) (fun _ h9 => h9) rfl dX12_feed_74 ?_
  refine lv_iload hx hb dX12_feed_77 (lv_at hl 0 rfl) ?_
  refine lv_iconst (v := 4) hx hb dX12_feed_79 (by decide) ?_
  refine lv_idiv hx hb dX12_feed_80 (by decide) ?_
  refine lv_topi (fun x_180 ex_180 => ?_)
  obtain rfl : x_180 = 4 := ex_180.trans (by decide)
  refine va_iald hx hb hKN.1 hP 1 1 rfl rfl (by unfold vp_in; decide) dX12_feed_81 ?_
  refine lv_topi (fun x_181 ex_181 => ?_)
  refine lv_bipush (v := 24) hx hb dX12_feed_82 (by decide) ?_
  refine lv_bipush (v := 8) hx hb dX12_feed_84 (by decide) ?_
  refine lv_iload hx hb dX12_feed_86 (lv_at hl 0 rfl) ?_
  refine lv_iconst (v := 4) hx hb dX12_feed_88 (by decide) ?_
  refine lv_irem hx hb dX12_feed_89 (by decide) ?_
  refine lv_topi (fun x_182 ex_182 => ?_)
  obtain rfl : x_182 = 1 := ex_182.trans (by decide)
  refine lv_imul hx hb dX12_feed_90 ?_
  refine lv_topi (fun x_183 ex_183 => ?_)
  obtain rfl : x_183 = 8 := ex_183.trans (by decide)
  refine lv_isub hx hb dX12_feed_91 ?_
  refine lv_topi (fun x_184 ex_184 => ?_)
  obtain rfl : x_184 = 16 := ex_184.trans (by decide)
  refine lv_ishr hx hb dX12_feed_92 ?_
  refine lv_topi (fun x_185 ex_185 => ?_)
  obtain ⟨x_186, ex_186⟩ : ∃ y, x_185.toInt8.toInt32 = y := ⟨_, rfl⟩
  refine lv_i2b (v := x_186) hx hb dX12_feed_93 ex_186 ?_
  refine va_bast hx hb hKN.1 hP hD hS 2 0 rfl rfl (by unfold vp_in; decide) dX12_feed_94 (fun H locs hP hD hS => ?_)
  have hP : va_P D vwCl [(h0, .inr (12, [.int 0, .ref m_world, .ref m_images, .ref m_hasImage, .ref m_tape, .int 0, .ref m_five, .int 0, .int 0, .int 0, .int 0, .int 0, .int 0, .int (-1), .ref m_fresh, .int 0, .int 0, .int 0, .int 0, .int 0, .int 0, .ref m_sums, .ref m_pairs, .ref m_goesWith, .ref m_said, .int 0, .int 0, .ref m_firstOrder, .int 0, .ref m_tiredBy, .int 0, .ref m_many, .ref m_width, .ref m_numbers, .ref m_moving])), (m_five, .inl (cA 1, 5, .inl f_7)), (m_tape, .inl (cA 0, 800, .inl (upd f_177 17 (vp_nar .byte x_186))))] H := hP
  have hD : va_D A [(h0, .inr (12, [.int 0, .ref m_world, .ref m_images, .ref m_hasImage, .ref m_tape, .int 0, .ref m_five, .int 0, .int 0, .int 0, .int 0, .int 0, .int 0, .int (-1), .ref m_fresh, .int 0, .int 0, .int 0, .int 0, .int 0, .int 0, .ref m_sums, .ref m_pairs, .ref m_goesWith, .ref m_said, .int 0, .int 0, .ref m_firstOrder, .int 0, .ref m_tiredBy, .int 0, .ref m_many, .ref m_width, .ref m_numbers, .ref m_moving])), (m_five, .inl (cA 1, 5, .inl f_7)), (m_tape, .inl (cA 0, 800, .inl (upd f_177 17 (vp_nar .byte x_186))))] := hD
  generalize ef_187 : (upd f_177 17 (vp_nar .byte x_186)) = f_187 at hP hD
  refine lv_iinc (v := 18) (lv' := [(6, .int 18), (0, .ref h0), (1, .int p0), (2, .int p1), (3, .int p2), (4, .int p3), (5, .int p4)]) hx hb dX12_feed_95 hl (k := 0) rfl (by decide) (by decide) rfl (fun ls hl => ?_)
  refine lv_goto (tgt := 55) hx hb dX12_feed_98 (by decide) ?_
  refine lv_iload hx hb dX12_feed_55 (lv_at hl 0 rfl) ?_
  refine lv_bipush (v := 20) hx hb dX12_feed_57 (by decide) ?_
  refine lv_icmp_ge (tgt := 101) hx hb dX12_feed_59 (by decide) (fun c_188 => absurd c_188 (by decide)) (fun c_188 => ?_)
  refine lv_aload_n hx hb dX12_feed_62 rfl (lv_at hl 1 rfl) ?_
  refine va_get (D := D) (ci := 12) (v := .ref m_tape) (C := RX12) (T := TX12) (N := 35) hx hb hts inX12 hown hKN.1 hP 0 rfl rfl 4 (by decide) (hts _ tw_1423) (fun _ h9 => h9) rfl dX12_feed_63 ?_
  refine lv_aload_n hx hb dX12_feed_66 rfl (lv_at hl 1 rfl) ?_
  refine va_get (D := D) (ci := 12) (v := .int 0) (C := RX12) (T := TX12) (N := 35) hx hb hts inX12 hown hKN.1 hP 0 rfl rfl 5 (by decide) (hts _ tw_1424) (fun _ h9 => h9) rfl dX12_feed_67 ?_
  refine lv_iload hx hb dX12_feed_70 (lv_at hl 0 rfl) ?_
  refine lv_iadd hx hb dX12_feed_72 ?_
  refine lv_topi (fun x_189 ex_189 => ?_)
  obtain rfl : x_189 = 18 := ex_189.trans (by decide)
  refine lv_aload_n hx hb dX12_feed_73 rfl (lv_at hl 1 rfl) ?_
  refine va_get (D := D) (ci := 12) (v := .ref m_five) (C := RX12) (T := TX12) (N := 35) hx hb hts inX12 hown hKN.1 hP 0 rfl rfl 6 (by decide) (hts _ tw_1425) (fun _ h9 => h9) rfl dX12_feed_74 ?_
  refine lv_iload hx hb dX12_feed_77 (lv_at hl 0 rfl) ?_
  refine lv_iconst (v := 4) hx hb dX12_feed_79 (by decide) ?_
  refine lv_idiv hx hb dX12_feed_80 (by decide) ?_
  refine lv_topi (fun x_190 ex_190 => ?_)
  obtain rfl : x_190 = 4 := ex_190.trans (by decide)
  refine va_iald hx hb hKN.1 hP 1 1 rfl rfl (by unfold vp_in; decide) dX12_feed_81 ?_
  refine lv_topi (fun x_191 ex_191 => ?_)
  refine lv_bipush (v := 24) hx hb dX12_feed_82 (by decide) ?_
  refine lv_bipush (v := 8) hx hb dX12_feed_84 (by decide) ?_
  refine lv_iload hx hb dX12_feed_86 (lv_at hl 0 rfl) ?_
  refine lv_iconst (v := 4) hx hb dX12_feed_88 (by decide) ?_
  refine lv_irem hx hb dX12_feed_89 (by decide) ?_
  refine lv_topi (fun x_192 ex_192 => ?_)
  obtain rfl : x_192 = 2 := ex_192.trans (by decide)
  refine lv_imul hx hb dX12_feed_90 ?_
  refine lv_topi (fun x_193 ex_193 => ?_)
  obtain rfl : x_193 = 16 := ex_193.trans (by decide)
  refine lv_isub hx hb dX12_feed_91 ?_
  refine lv_topi (fun x_194 ex_194 => ?_)
  obtain rfl : x_194 = 8 := ex_194.trans (by decide)
  refine lv_ishr hx hb dX12_feed_92 ?_
  refine lv_topi (fun x_195 ex_195 => ?_)
  obtain ⟨x_196, ex_196⟩ : ∃ y, x_195.toInt8.toInt32 = y := ⟨_, rfl⟩
  refine lv_i2b (v := x_196) hx hb dX12_feed_93 ex_196 ?_
  refine va_bast hx hb hKN.1 hP hD hS 2 0 rfl rfl (by unfold vp_in; decide) dX12_feed_94 (fun H locs hP hD hS => ?_)
  have hP : va_P D vwCl [(h0, .inr (12, [.int 0, .ref m_world, .ref m_images, .ref m_hasImage, .ref m_tape, .int 0, .ref m_five, .int 0, .int 0, .int 0, .int 0, .int 0, .int 0, .int (-1), .ref m_fresh, .int 0, .int 0, .int 0, .int 0, .int 0, .int 0, .ref m_sums, .ref m_pairs, .ref m_goesWith, .ref m_said, .int 0, .int 0, .ref m_firstOrder, .int 0, .ref m_tiredBy, .int 0, .ref m_many, .ref m_width, .ref m_numbers, .ref m_moving])), (m_five, .inl (cA 1, 5, .inl f_7)), (m_tape, .inl (cA 0, 800, .inl (upd f_187 18 (vp_nar .byte x_196))))] H := hP
  have hD : va_D A [(h0, .inr (12, [.int 0, .ref m_world, .ref m_images, .ref m_hasImage, .ref m_tape, .int 0, .ref m_five, .int 0, .int 0, .int 0, .int 0, .int 0, .int 0, .int (-1), .ref m_fresh, .int 0, .int 0, .int 0, .int 0, .int 0, .int 0, .ref m_sums, .ref m_pairs, .ref m_goesWith, .ref m_said, .int 0, .int 0, .ref m_firstOrder, .int 0, .ref m_tiredBy, .int 0, .ref m_many, .ref m_width, .ref m_numbers, .ref m_moving])), (m_five, .inl (cA 1, 5, .inl f_7)), (m_tape, .inl (cA 0, 800, .inl (upd f_187 18 (vp_nar .byte x_196))))] := hD
  generalize ef_197 : (upd f_187 18 (vp_nar .byte x_196)) = f_197 at hP hD
  refine lv_iinc (v := 19) (lv' := [(6, .int 19), (0, .ref h0), (1, .int p0), (2, .int p1), (3, .int p2), (4, .int p3), (5, .int p4)]) hx hb dX12_feed_95 hl (k := 0) rfl (by decide) (by decide) rfl (fun ls hl => ?_)
  refine lv_goto (tgt := 55) hx hb dX12_feed_98 (by decide) ?_
  refine lv_iload hx hb dX12_feed_55 (lv_at hl 0 rfl) ?_
  refine lv_bipush (v := 20) hx hb dX12_feed_57 (by decide) ?_
  refine lv_icmp_ge (tgt := 101) hx hb dX12_feed_59 (by decide) (fun c_198 => absurd c_198 (by decide)) (fun c_198 => ?_)
  refine lv_aload_n hx hb dX12_feed_62 rfl (lv_at hl 1 rfl) ?_
  refine va_get (D := D) (ci := 12) (v := .ref m_tape) (C := RX12) (T := TX12) (N := 35) hx hb hts inX12 hown hKN.1 hP 0 rfl rfl 4 (by decide) (hts _ tw_1423) (fun _ h9 => h9) rfl dX12_feed_63 ?_
  refine lv_aload_n hx hb dX12_feed_66 rfl (lv_at hl 1 rfl) ?_
  refine va_get (D := D) (ci := 12) (v := .int 0) (C := RX12) (T := TX12) (N := 35) hx hb hts inX12 hown hKN.1 hP 0 rfl rfl 5 (by decide) (hts _ tw_1424) (fun _ h9 => h9) rfl dX12_feed_67 ?_
  refine lv_iload hx hb dX12_feed_70 (lv_at hl 0 rfl) ?_
  refine lv_iadd hx hb dX12_feed_72 ?_
  refine lv_topi (fun x_199 ex_199 => ?_)
  obtain rfl : x_199 = 19 := ex_199.trans (by decide)
  refine lv_aload_n hx hb dX12_feed_73 rfl (lv_at hl 1 rfl) ?_
  refine va_get (D := D) (ci := 12) (v := .ref m_five) (C := RX12) (T := TX12) (N := 35) hx hb hts inX12 hown hKN.1 hP 0 rfl rfl 6 (by decide) (hts _ tw_1425) (fun _ h9 => h9) rfl dX12_feed_74 ?_
  refine lv_iload hx hb dX12_feed_77 (lv_at hl 0 rfl) ?_
  refine lv_iconst (v := 4) hx hb dX12_feed_79 (by decide) ?_
  refine lv_idiv hx hb dX12_feed_80 (by decide) ?_
  refine lv_topi (fun x_200 ex_200 => ?_)
  obtain rfl : x_200 = 4 := ex_200.trans (by decide)
  refine va_iald hx hb hKN.1 hP 1 1 rfl rfl (by unfold vp_in; decide) dX12_feed_81 ?_
  refine lv_topi (fun x_201 ex_201 => ?_)
  refine lv_bipush (v := 24) hx hb dX12_feed_82 (by decide) ?_
  refine lv_bipush (v := 8) hx hb dX12_feed_84 (by decide) ?_
  refine lv_iload hx hb dX12_feed_86 (lv_at hl 0 rfl) ?_
  refine lv_iconst (v := 4) hx hb dX12_feed_88 (by decide) ?_
  refine lv_irem hx hb dX12_feed_89 (by decide) ?_
  refine lv_topi (fun x_202 ex_202 => ?_)
  obtain rfl : x_202 = 3 := ex_202.trans (by decide)
  refine lv_imul hx hb dX12_feed_90 ?_
  refine lv_topi (fun x_203 ex_203 => ?_)
  obtain rfl : x_203 = 24 := ex_203.trans (by decide)
  refine lv_isub hx hb dX12_feed_91 ?_
  refine lv_topi (fun x_204 ex_204 => ?_)
  obtain rfl : x_204 = 0 := ex_204.trans (by decide)
  refine lv_ishr hx hb dX12_feed_92 ?_
  refine lv_topi (fun x_205 ex_205 => ?_)
  obtain ⟨x_206, ex_206⟩ : ∃ y, x_205.toInt8.toInt32 = y := ⟨_, rfl⟩
  refine lv_i2b (v := x_206) hx hb dX12_feed_93 ex_206 ?_
  refine va_bast hx hb hKN.1 hP hD hS 2 0 rfl rfl (by unfold vp_in; decide) dX12_feed_94 (fun H locs hP hD hS => ?_)
  have hP : va_P D vwCl [(h0, .inr (12, [.int 0, .ref m_world, .ref m_images, .ref m_hasImage, .ref m_tape, .int 0, .ref m_five, .int 0, .int 0, .int 0, .int 0, .int 0, .int 0, .int (-1), .ref m_fresh, .int 0, .int 0, .int 0, .int 0, .int 0, .int 0, .ref m_sums, .ref m_pairs, .ref m_goesWith, .ref m_said, .int 0, .int 0, .ref m_firstOrder, .int 0, .ref m_tiredBy, .int 0, .ref m_many, .ref m_width, .ref m_numbers, .ref m_moving])), (m_five, .inl (cA 1, 5, .inl f_7)), (m_tape, .inl (cA 0, 800, .inl (upd f_197 19 (vp_nar .byte x_206))))] H := hP
  have hD : va_D A [(h0, .inr (12, [.int 0, .ref m_world, .ref m_images, .ref m_hasImage, .ref m_tape, .int 0, .ref m_five, .int 0, .int 0, .int 0, .int 0, .int 0, .int 0, .int (-1), .ref m_fresh, .int 0, .int 0, .int 0, .int 0, .int 0, .int 0, .ref m_sums, .ref m_pairs, .ref m_goesWith, .ref m_said, .int 0, .int 0, .ref m_firstOrder, .int 0, .ref m_tiredBy, .int 0, .ref m_many, .ref m_width, .ref m_numbers, .ref m_moving])), (m_five, .inl (cA 1, 5, .inl f_7)), (m_tape, .inl (cA 0, 800, .inl (upd f_197 19 (vp_nar .byte x_206))))] := hD
  generalize ef_207 : (upd f_197 19 (vp_nar .byte x_206)) = f_207 at hP hD
  refine lv_iinc (v := 20) (lv' := [(6, .int 20), (0, .ref h0), (1, .int p0), (2, .int p1), (3, .int p2), (4, .int p3), (5, .int p4)]) hx hb dX12_feed_95 hl (k := 0) rfl (by decide) (by decide) rfl (fun ls hl => ?_)
  refine lv_goto (tgt := 55) hx hb dX12_feed_98 (by decide) ?_
  refine lv_iload hx hb dX12_feed_55 (lv_at hl 0 rfl) ?_
  refine lv_bipush (v := 20) hx hb dX12_feed_57 (by decide) ?_
  refine lv_icmp_ge (tgt := 101) hx hb dX12_feed_59 (by decide) (fun c_208 => ?_) (fun c_208 => absurd (by decide) c_208)
  refine lv_aload_n hx hb dX12_feed_101 rfl (lv_at hl 1 rfl) ?_
  refine lv_dup hx hb dX12_feed_102 rfl ?_
  refine va_get (D := D) (ci := 12) (v := .int 0) (C := RX12) (T := TX12) (N := 35) hx hb hts inX12 hown hKN.1 hP 0 rfl rfl 5 (by decide) (hts _ tw_1424) (fun _ h9 => h9) rfl dX12_feed_103 ?_
  refine lv_bipush (v := 20) hx hb dX12_feed_106 (by decide) ?_
  refine lv_iadd hx hb dX12_feed_108 ?_
  refine lv_topi (fun x_209 ex_209 => ?_)
  obtain rfl : x_209 = 20 := ex_209.trans (by decide)
  refine va_put (D := D) (ci := 12) (v := .int 20) (ty := .int) (C := RX12) (T := TX12) (N := 35) hx hb hts inX12 tyX12 tyX12_ok nmX12 hown hKN.1 hP hD hS 0 rfl rfl 5 (by decide) (hts _ tw_1424) (fun _ h9 => h9) rfl (by decide +kernel) rfl rfl (Nat.le_of_ble_eq_true rfl) dX12_feed_109 (fun H locs hP hD hS => ?_)
  have hP : va_P D vwCl [(h0, .inr (12, [.int 0, .ref m_world, .ref m_images, .ref m_hasImage, .ref m_tape, .int 20, .ref m_five, .int 0, .int 0, .int 0, .int 0, .int 0, .int 0, .int (-1), .ref m_fresh, .int 0, .int 0, .int 0, .int 0, .int 0, .int 0, .ref m_sums, .ref m_pairs, .ref m_goesWith, .ref m_said, .int 0, .int 0, .ref m_firstOrder, .int 0, .ref m_tiredBy, .int 0, .ref m_many, .ref m_width, .ref m_numbers, .ref m_moving])), (m_five, .inl (cA 1, 5, .inl f_7)), (m_tape, .inl (cA 0, 800, .inl f_207))] H := hP
  have hD : va_D A [(h0, .inr (12, [.int 0, .ref m_world, .ref m_images, .ref m_hasImage, .ref m_tape, .int 20, .ref m_five, .int 0, .int 0, .int 0, .int 0, .int 0, .int 0, .int (-1), .ref m_fresh, .int 0, .int 0, .int 0, .int 0, .int 0, .int 0, .ref m_sums, .ref m_pairs, .ref m_goesWith, .ref m_said, .int 0, .int 0, .ref m_firstOrder, .int 0, .ref m_tiredBy, .int 0, .ref m_many, .ref m_width, .ref m_numbers, .ref m_moving])), (m_five, .inl (cA 1, 5, .inl f_7)), (m_tape, .inl (cA 0, 800, .inl f_207))] := hD
  refine lv_aload_n hx hb dX12_feed_112 rfl (lv_at hl 1 rfl) ?_
  refine va_get (D := D) (ci := 12) (v := .int 20) (C := RX12) (T := TX12) (N := 35) hx hb hts inX12 hown hKN.1 hP 0 rfl rfl 5 (by decide) (hts _ tw_1424) (fun _ h9 => h9) rfl dX12_feed_113 ?_
  have hP9 := hP.sub (ws' := []) [] rfl
  have hD9 := hD.sub (ws' := []) [] (by decide) rfl
  exact W.iret (v := 20) hx hb hr (fun t ht hW => ⟨⟨20, ((fun _ => 0), (fun _ => 0), (fun _ _ => 0), (fun _ _ => 0)), rfl, rfl, by rw [ht]; exact hP9, hD9⟩, hS.F ht⟩) hS.2.2 dX12_feed_116
set_option maxHeartbeats 4000000 in
set_option maxRecDepth 100000 in
theorem k_X12_end (l : Launch) (D : va_G) (cA : Nat → ClassId) (sz : Nat) (h0 : Nat) (m_world : Nat) (m_images : Nat) (m_hasImage : Nat) (m_tape : Nat) (m_five : Nat) (m_fresh : Nat) (m_sums : Nat) (m_pairs : Nat) (m_goesWith : Nat) (m_said : Nat) (m_firstOrder : Nat) (m_tiredBy : Nat) (m_many : Nat) (m_width : Nat) (m_numbers : Nat) (m_moving : Nat) (p0 : Int32) : Met l yX12_end (Cond.code yX12_end cX12_end 2 (some .int) :: TB) (rmd 1 0 0) (PM D cA sz [(h0, .inr (12, [.int 0, .ref m_world, .ref m_images, .ref m_hasImage, .ref m_tape, .int 0, .ref m_five, .int 0, .int 0, .int 0, .int 0, .int 0, .int 0, .int (-1), .ref m_fresh, .int 0, .int 0, .int 0, .int 0, .int 0, .int 0, .ref m_sums, .ref m_pairs, .ref m_goesWith, .ref m_said, .int 0, .int 0, .ref m_firstOrder, .int 0, .ref m_tiredBy, .int 0, .ref m_many, .ref m_width, .ref m_numbers, .ref m_moving]))] [.ref h0, .int p0]) (va_Qi (fun r (_ : SU) => ((p0 : Int32).toInt = 0) ∧ r = 0 ∨ ((p0 : Int32).toInt ≠ 0) ∧ r = (-1)) (fun u t => va_P D vwCl [] t.heap ∧ va_D (va_A [(h0, .inr (12, [.int 0, .ref m_world, .ref m_images, .ref m_hasImage, .ref m_tape, .int 0, .ref m_five, .int 0, .int 0, .int 0, .int 0, .int 0, .int 0, .int (-1), .ref m_fresh, .int 0, .int 0, .int 0, .int 0, .int 0, .int 0, .ref m_sums, .ref m_pairs, .ref m_goesWith, .ref m_said, .int 0, .int 0, .ref m_firstOrder, .int 0, .ref m_tiredBy, .int 0, .ref m_many, .ref m_width, .ref m_numbers, .ref m_moving]))] sz) []) (va_A [(h0, .inr (12, [.int 0, .ref m_world, .ref m_images, .ref m_hasImage, .ref m_tape, .int 0, .ref m_five, .int 0, .int 0, .int 0, .int 0, .int 0, .int 0, .int (-1), .ref m_fresh, .int 0, .int 0, .int 0, .int 0, .int 0, .int 0, .ref m_sums, .ref m_pairs, .ref m_goesWith, .ref m_said, .int 0, .int 0, .ref m_firstOrder, .int 0, .ref m_tiredBy, .int 0, .ref m_many, .ref m_width, .ref m_numbers, .ref m_moving]))] sz)) 0 0 (va_A [(h0, .inr (12, [.int 0, .ref m_world, .ref m_images, .ref m_hasImage, .ref m_tape, .int 0, .ref m_five, .int 0, .int 0, .int 0, .int 0, .int 0, .int 0, .int (-1), .ref m_fresh, .int 0, .int 0, .int 0, .int 0, .int 0, .int 0, .ref m_sums, .ref m_pairs, .ref m_goesWith, .ref m_said, .int 0, .int 0, .ref m_firstOrder, .int 0, .ref m_tiredBy, .int 0, .ref m_many, .ref m_width, .ref m_numbers, .ref m_moving]))] sz) := by
  refine Met.ofW (cc := cX12_end) (maxL := 2) (ret := (some .int)) (by decide) rfl ?_
  intro p e s m args below meth c s₁ B hml hv
  obtain ⟨rfl, hsz, hP, hKN, hD0⟩ := hv
  have hx := B.exec
  have hb := B.bytes
  have hr := B.returns
  have hts : ∀ w ∈ TB, w.before _ s = true := fun w h => atoms_spec B.pre w (List.mem_cons_of_mem _ h)
  have hown : s.vm.findClass RX12 = some m.cls := findClass_of_methodNamed B.named
  have hlocks := B.notSynchronized
  subst hsz
  have hD := hD0.self (sz := s.heap.size)
  generalize hAe : va_A [(h0, .inr (12, [.int 0, .ref m_world, .ref m_images, .ref m_hasImage, .ref m_tape, .int 0, .ref m_five, .int 0, .int 0, .int 0, .int 0, .int 0, .int 0, .int (-1), .ref m_fresh, .int 0, .int 0, .int 0, .int 0, .int 0, .int 0, .ref m_sums, .ref m_pairs, .ref m_goesWith, .ref m_said, .int 0, .int 0, .ref m_firstOrder, .int 0, .ref m_tiredBy, .int 0, .ref m_many, .ref m_width, .ref m_numbers, .ref m_moving]))] s.heap.size = A at hD ⊢
  have hA : ∀ q : Nat, s.heap.size ≤ q → A q := fun q h => by rw [← hAe]; exact Or.inr h
  have hS : va_S A s.heap s.heap [] := va_S.rf
  have hl := lv_entry ([.ref h0, .int p0]) (n := 2) (Nat.le_of_ble_eq_true rfl)
  rw [lg_entry_eq]
  generalize (lg_sl ([.ref h0, .int p0]) ++ List.replicate (2 - (lg_sl ([.ref h0, .int p0])).length) Slot.unset).toArray = ls at hl ⊢
  have hl : lv_has ls 2 [(0, .ref h0), (1, .int p0)] := hl
  refine lv_iload_n hx hb dX12_end_0 rfl (lv_at hl 1 rfl) ?_
  obtain ⟨x_1, ex_1⟩ : ∃ y, p0.toInt64 = y := ⟨_, rfl⟩
  refine lv_i2l (v := x_1) hx hb dX12_end_1 ex_1 ?_
  have k_2 := tt_i2l ex_1
  refine lv_lconst (v := 0) hx hb dX12_end_2 (by decide) ?_
  refine lv_aload_n hx hb dX12_end_3 rfl (lv_at hl 0 rfl) ?_
  refine va_get (D := D) (ci := 12) (v := .int 0) (C := RX12) (T := TX12) (N := 35) hx hb hts inX12 hown hKN.1 hP 0 rfl rfl 5 (by decide) (hts _ tw_1424) (fun _ h9 => h9) rfl dX12_end_4 ?_
  refine lv_i2l (v := 0) hx hb dX12_end_7 (by decide) ?_
  refine cpSi (rest := []) ⟨hx, hb, hml, hown, hts⟩ hKN (hP.sub (ws' := []) [] rfl) (k_X12_in l D cA x_1 0 0) (tb_S tw_1530 tw_1531 tw_114 tw_1532) hdX12_in ⟨rfl, rfl, Nat.le_of_ble_eq_true rfl, Nat.le_of_ble_eq_true rfl⟩ ⟨Nat.le_of_ble_eq_true rfl, Nat.le_of_ble_eq_true rfl⟩ rfl hl.1 rfl (Nat.le_of_ble_eq_true rfl) dX12_end_8 (fun r_3 hr_3 => ?_)
  rcases hr_3 with ⟨k_3_0, rfl⟩ | ⟨k_3_1, rfl⟩
  · skip
    obtain rfl : p0 = 0 := Int32.toInt_inj.mp ((by have zj_0 : (0 : Int64).toInt = 0 := (by decide); omega : p0.toInt = 0).trans (by decide))
    refine lv_if_ne (tgt := 16) hx hb dX12_end_11 (by decide) (fun c_4 => ?_) (fun c_4 => absurd c_4 (by decide))
    refine lv_aload_n hx hb dX12_end_16 rfl (lv_at hl 0 rfl) ?_
    refine lv_iload_n hx hb dX12_end_17 rfl (lv_at hl 1 rfl) ?_
    refine va_put (D := D) (ci := 12) (v := .int 0) (ty := .int) (C := RX12) (T := TX12) (N := 35) hx hb hts inX12 tyX12 tyX12_ok nmX12 hown hKN.1 hP hD hS 0 rfl rfl 5 (by decide) (hts _ tw_1424) (fun _ h9 => h9) rfl (by decide +kernel) rfl rfl (Nat.le_of_ble_eq_true rfl) dX12_end_18 (fun H locs hP hD hS => ?_)
    have hP : va_P D vwCl [(h0, .inr (12, [.int 0, .ref m_world, .ref m_images, .ref m_hasImage, .ref m_tape, .int 0, .ref m_five, .int 0, .int 0, .int 0, .int 0, .int 0, .int 0, .int (-1), .ref m_fresh, .int 0, .int 0, .int 0, .int 0, .int 0, .int 0, .ref m_sums, .ref m_pairs, .ref m_goesWith, .ref m_said, .int 0, .int 0, .ref m_firstOrder, .int 0, .ref m_tiredBy, .int 0, .ref m_many, .ref m_width, .ref m_numbers, .ref m_moving]))] H := hP
    have hD : va_D A [(h0, .inr (12, [.int 0, .ref m_world, .ref m_images, .ref m_hasImage, .ref m_tape, .int 0, .ref m_five, .int 0, .int 0, .int 0, .int 0, .int 0, .int 0, .int (-1), .ref m_fresh, .int 0, .int 0, .int 0, .int 0, .int 0, .int 0, .ref m_sums, .ref m_pairs, .ref m_goesWith, .ref m_said, .int 0, .int 0, .ref m_firstOrder, .int 0, .ref m_tiredBy, .int 0, .ref m_many, .ref m_width, .ref m_numbers, .ref m_moving]))] := hD
    refine lv_iload_n hx hb dX12_end_21 rfl (lv_at hl 1 rfl) ?_
    have hP9 := hP.sub (ws' := []) [] rfl
    have hD9 := hD.sub (ws' := []) [] (by decide) rfl
    exact W.iret (v := 0) hx hb hr (fun t ht hW => ⟨⟨0, ((fun _ => 0), (fun _ => 0), (fun _ _ => 0), (fun _ _ => 0)), rfl, (Or.inl ⟨(by have zi_0 : (0 : Int32).toInt = 0 := (by decide); have zj_0 : (0 : Int64).toInt = 0 := (by decide); omega), rfl⟩), by rw [ht]; exact hP9, hD9⟩, hS.F ht⟩) hS.2.2 dX12_end_22
  · skip
    refine lv_if_ne (tgt := 16) hx hb dX12_end_11 (by decide) (fun c_5 => absurd (by decide) c_5) (fun c_5 => ?_)
    refine lv_iconst (v := (-1)) hx hb dX12_end_14 (by decide) ?_
    have hP9 := hP.sub (ws' := []) [] rfl
    have hD9 := hD.sub (ws' := []) [] (by decide) rfl
    exact W.iret (v := (-1)) hx hb hr (fun t ht hW => ⟨⟨(-1), ((fun _ => 0), (fun _ => 0), (fun _ _ => 0), (fun _ _ => 0)), rfl, (Or.inr ⟨(by have zj_0 : (0 : Int64).toInt = 0 := (by decide); omega), rfl⟩), by rw [ht]; exact hP9, hD9⟩, hS.F ht⟩) hS.2.2 dX12_end_15
set_option maxHeartbeats 4000000 in
set_option maxRecDepth 100000 in
theorem k_X12_see (l : Launch) (D : va_G) (cA : Nat → ClassId) (h0 : Nat) (m_world : Nat) (m_images : Nat) (m_hasImage : Nat) (m_tape : Nat) (m_five : Nat) (m_fresh : Nat) (m_sums : Nat) (m_pairs : Nat) (m_goesWith : Nat) (m_said : Nat) (m_firstOrder : Nat) (m_tiredBy : Nat) (m_many : Nat) (m_width : Nat) (m_numbers : Nat) (m_moving : Nat) : Met l yX12_see (Cond.code yX12_see cX12_see 2 (some .int) :: TB) (rmd 0 0 0) (PP D cA [(h0, .inr (12, [.int 0, .ref m_world, .ref m_images, .ref m_hasImage, .ref m_tape, .int 0, .ref m_five, .int 0, .int 0, .int 0, .int 0, .int 0, .int 0, .int (-1), .ref m_fresh, .int 0, .int 0, .int 0, .int 0, .int 0, .int 0, .ref m_sums, .ref m_pairs, .ref m_goesWith, .ref m_said, .int 0, .int 0, .ref m_firstOrder, .int 0, .ref m_tiredBy, .int 0, .ref m_many, .ref m_width, .ref m_numbers, .ref m_moving]))] [.ref h0, .int 0]) (vp_Si (fun r => r = (-1))) 0 0 (fun _ => False) := by
  refine Met.ofW (cc := cX12_see) (maxL := 2) (ret := (some .int)) (by decide) rfl ?_
  intro p e s m args below meth c s₁ B hml hv
  obtain ⟨rfl, hP, hKN⟩ := hv
  have hx := B.exec
  have hb := B.bytes
  have hr := B.returns
  have hts : ∀ w ∈ TB, w.before _ s = true := fun w h => atoms_spec B.pre w (List.mem_cons_of_mem _ h)
  have hown : s.vm.findClass RX12 = some m.cls := findClass_of_methodNamed B.named
  have hlocks := B.notSynchronized
  have hl := lv_entry ([.ref h0, .int 0]) (n := 2) (Nat.le_of_ble_eq_true rfl)
  rw [lg_entry_eq]
  generalize (lg_sl ([.ref h0, .int 0]) ++ List.replicate (2 - (lg_sl ([.ref h0, .int 0])).length) Slot.unset).toArray = ls at hl ⊢
  have hl : lv_has ls 2 [(0, .ref h0), (1, .int 0)] := hl
  refine lv_iload_n hx hb dX12_see_0 rfl (lv_at hl 1 rfl) ?_
  refine lv_aload_n hx hb dX12_see_1 rfl (lv_at hl 0 rfl) ?_
  refine va_get (D := D) (ci := 12) (v := .int 0) (C := RX12) (T := TX12) (N := 35) hx hb hts inX12 hown hKN.1 hP 0 rfl rfl 7 (by decide) (hts _ tw_1426) (fun _ h9 => h9) rfl dX12_see_2 ?_
  refine lv_icmp_ge (tgt := 21) hx hb dX12_see_5 (by decide) (fun c_1 => ?_) (fun c_1 => absurd (by decide) c_1)
  refine lv_iconst (v := (-1)) hx hb dX12_see_21 (by decide) ?_
  exact W.iret (v := (-1)) hx hb hr (fun t ht hW => ⟨(-1), rfl, rfl, ht⟩) (fun _ h => by cases h) dX12_see_22
set_option maxHeartbeats 4000000 in
set_option maxRecDepth 100000 in
theorem k_X12_good (l : Launch) (D : va_G) (cA : Nat → ClassId) (h0 : Nat) (m_world : Nat) (m_images : Nat) (m_hasImage : Nat) (m_tape : Nat) (m_five : Nat) (m_fresh : Nat) (m_sums : Nat) (m_pairs : Nat) (m_goesWith : Nat) (m_said : Nat) (m_firstOrder : Nat) (m_tiredBy : Nat) (m_many : Nat) (m_width : Nat) (m_numbers : Nat) (m_moving : Nat) : Met l yX12_good (Cond.code yX12_good cX12_good 1 (some .boolean) :: TB) (rmd 0 0 0) (PP D cA [(h0, .inr (12, [.int 0, .ref m_world, .ref m_images, .ref m_hasImage, .ref m_tape, .int 0, .ref m_five, .int 0, .int 0, .int 0, .int 0, .int 0, .int 0, .int (-1), .ref m_fresh, .int 0, .int 0, .int 0, .int 0, .int 0, .int 0, .ref m_sums, .ref m_pairs, .ref m_goesWith, .ref m_said, .int 0, .int 0, .ref m_firstOrder, .int 0, .ref m_tiredBy, .int 0, .ref m_many, .ref m_width, .ref m_numbers, .ref m_moving]))] [.ref h0]) (vp_Si (fun r => r = 1)) 0 0 (fun _ => False) := by
  refine Met.ofW (cc := cX12_good) (maxL := 1) (ret := (some .boolean)) (by decide) rfl ?_
  intro p e s m args below meth c s₁ B hml hv
  obtain ⟨rfl, hP, hKN⟩ := hv
  have hx := B.exec
  have hb := B.bytes
  have hr := B.returns
  have hts : ∀ w ∈ TB, w.before _ s = true := fun w h => atoms_spec B.pre w (List.mem_cons_of_mem _ h)
  have hown : s.vm.findClass RX12 = some m.cls := findClass_of_methodNamed B.named
  have hlocks := B.notSynchronized
  have hl := lv_entry ([.ref h0]) (n := 1) (Nat.le_of_ble_eq_true rfl)
  rw [lg_entry_eq]
  generalize (lg_sl ([.ref h0]) ++ List.replicate (1 - (lg_sl ([.ref h0])).length) Slot.unset).toArray = ls at hl ⊢
  have hl : lv_has ls 1 [(0, .ref h0)] := hl
  refine lv_aload_n hx hb dX12_good_0 rfl (lv_at hl 0 rfl) ?_
  refine va_get (D := D) (ci := 12) (v := .int 0) (C := RX12) (T := TX12) (N := 35) hx hb hts inX12 hown hKN.1 hP 0 rfl rfl 12 (by decide) (hts _ tw_1431) (fun _ h9 => h9) rfl dX12_good_1 ?_
  refine lv_if_ne (tgt := 11) hx hb dX12_good_4 (by decide) (fun c_1 => absurd (by decide) c_1) (fun c_1 => ?_)
  refine lv_iconst (v := 1) hx hb dX12_good_7 (by decide) ?_
  refine lv_goto (tgt := 12) hx hb dX12_good_8 (by decide) ?_
  exact W.zret (v := 1) hx hb hr (by decide) (fun t ht hW => ⟨1, rfl, rfl, ht⟩) (fun _ h => by cases h) dX12_good_12
set_option maxHeartbeats 4000000 in
set_option maxRecDepth 100000 in
theorem k_X12_advance (l : Launch) (D : va_G) (cA : Nat → ClassId) (sz : Nat) (h0 : Nat) (m_world : Nat) (m_images : Nat) (m_hasImage : Nat) (m_tape : Nat) (m_five : Nat) (m_fresh : Nat) (m_sums : Nat) (m_pairs : Nat) (m_goesWith : Nat) (m_said : Nat) (m_firstOrder : Nat) (m_tiredBy : Nat) (m_many : Nat) (m_width : Nat) (m_numbers : Nat) (m_moving : Nat) : Met l yX12_advance (Cond.code yX12_advance cX12_advance 2 none :: TB) (rmd 1 0 0) (PM D cA sz [(h0, .inr (12, [.int 0, .ref m_world, .ref m_images, .ref m_hasImage, .ref m_tape, .int 0, .ref m_five, .int 0, .int 0, .int 0, .int 0, .int 0, .int 0, .int (-1), .ref m_fresh, .int 0, .int 0, .int 0, .int 0, .int 0, .int 0, .ref m_sums, .ref m_pairs, .ref m_goesWith, .ref m_said, .int 0, .int 0, .ref m_firstOrder, .int 0, .ref m_tiredBy, .int 0, .ref m_many, .ref m_width, .ref m_numbers, .ref m_moving]))] [.ref h0]) (va_Qv (fun _ : SU => True) (fun u t => va_P D vwCl [(h0, .inr (12, [.int 0, .ref m_world, .ref m_images, .ref m_hasImage, .ref m_tape, .int 0, .ref m_five, .int 0, .int 0, .int 0, .int 0, .int 0, .int 0, .int (-1), .ref m_fresh, .int 0, .int 0, .int 0, .int 0, .int 0, .int 0, .ref m_sums, .ref m_pairs, .ref m_goesWith, .ref m_said, .int 0, .int 0, .ref m_firstOrder, .int 0, .ref m_tiredBy, .int 0, .ref m_many, .ref m_width, .ref m_numbers, .ref m_moving]))] t.heap ∧ va_D (va_A [(h0, .inr (12, [.int 0, .ref m_world, .ref m_images, .ref m_hasImage, .ref m_tape, .int 0, .ref m_five, .int 0, .int 0, .int 0, .int 0, .int 0, .int 0, .int (-1), .ref m_fresh, .int 0, .int 0, .int 0, .int 0, .int 0, .int 0, .ref m_sums, .ref m_pairs, .ref m_goesWith, .ref m_said, .int 0, .int 0, .ref m_firstOrder, .int 0, .ref m_tiredBy, .int 0, .ref m_many, .ref m_width, .ref m_numbers, .ref m_moving]))] sz) [(h0, .inr (12, [.int 0, .ref m_world, .ref m_images, .ref m_hasImage, .ref m_tape, .int 0, .ref m_five, .int 0, .int 0, .int 0, .int 0, .int 0, .int 0, .int (-1), .ref m_fresh, .int 0, .int 0, .int 0, .int 0, .int 0, .int 0, .ref m_sums, .ref m_pairs, .ref m_goesWith, .ref m_said, .int 0, .int 0, .ref m_firstOrder, .int 0, .ref m_tiredBy, .int 0, .ref m_many, .ref m_width, .ref m_numbers, .ref m_moving]))]) (va_A [(h0, .inr (12, [.int 0, .ref m_world, .ref m_images, .ref m_hasImage, .ref m_tape, .int 0, .ref m_five, .int 0, .int 0, .int 0, .int 0, .int 0, .int 0, .int (-1), .ref m_fresh, .int 0, .int 0, .int 0, .int 0, .int 0, .int 0, .ref m_sums, .ref m_pairs, .ref m_goesWith, .ref m_said, .int 0, .int 0, .ref m_firstOrder, .int 0, .ref m_tiredBy, .int 0, .ref m_many, .ref m_width, .ref m_numbers, .ref m_moving]))] sz)) 0 0 (va_A [(h0, .inr (12, [.int 0, .ref m_world, .ref m_images, .ref m_hasImage, .ref m_tape, .int 0, .ref m_five, .int 0, .int 0, .int 0, .int 0, .int 0, .int 0, .int (-1), .ref m_fresh, .int 0, .int 0, .int 0, .int 0, .int 0, .int 0, .ref m_sums, .ref m_pairs, .ref m_goesWith, .ref m_said, .int 0, .int 0, .ref m_firstOrder, .int 0, .ref m_tiredBy, .int 0, .ref m_many, .ref m_width, .ref m_numbers, .ref m_moving]))] sz) := by
  refine Met.ofW (cc := cX12_advance) (maxL := 2) (ret := none) (by decide) rfl ?_
  intro p e s m args below meth c s₁ B hml hv
  obtain ⟨rfl, hsz, hP, hKN, hD0⟩ := hv
  have hx := B.exec
  have hb := B.bytes
  have hr := B.returns
  have hts : ∀ w ∈ TB, w.before _ s = true := fun w h => atoms_spec B.pre w (List.mem_cons_of_mem _ h)
  have hown : s.vm.findClass RX12 = some m.cls := findClass_of_methodNamed B.named
  have hlocks := B.notSynchronized
  subst hsz
  have hD := hD0.self (sz := s.heap.size)
  generalize hAe : va_A [(h0, .inr (12, [.int 0, .ref m_world, .ref m_images, .ref m_hasImage, .ref m_tape, .int 0, .ref m_five, .int 0, .int 0, .int 0, .int 0, .int 0, .int 0, .int (-1), .ref m_fresh, .int 0, .int 0, .int 0, .int 0, .int 0, .int 0, .ref m_sums, .ref m_pairs, .ref m_goesWith, .ref m_said, .int 0, .int 0, .ref m_firstOrder, .int 0, .ref m_tiredBy, .int 0, .ref m_many, .ref m_width, .ref m_numbers, .ref m_moving]))] s.heap.size = A at hD ⊢
  have hA : ∀ q : Nat, s.heap.size ≤ q → A q := fun q h => by rw [← hAe]; exact Or.inr h
  have hS : va_S A s.heap s.heap [] := va_S.rf
  have hl := lv_entry ([.ref h0]) (n := 2) (Nat.le_of_ble_eq_true rfl)
  rw [lg_entry_eq]
  generalize (lg_sl ([.ref h0]) ++ List.replicate (2 - (lg_sl ([.ref h0])).length) Slot.unset).toArray = ls at hl ⊢
  have hl : lv_has ls 2 [(0, .ref h0)] := hl
  refine lv_aload_n hx hb dX12_advance_0 rfl (lv_at hl 0 rfl) ?_
  refine lv_aload_n hx hb dX12_advance_1 rfl (lv_at hl 0 rfl) ?_
  refine va_get (D := D) (ci := 12) (v := .int 0) (C := RX12) (T := TX12) (N := 35) hx hb hts inX12 hown hKN.1 hP 0 rfl rfl 8 (by decide) (hts _ tw_1427) (fun _ h9 => h9) rfl dX12_advance_2 ?_
  refine cpVi (rest := []) ⟨hx, hb, hml, hown, hts⟩ hKN (hP.sub (ws' := [(h0, .inr (12, [.int 0, .ref m_world, .ref m_images, .ref m_hasImage, .ref m_tape, .int 0, .ref m_five, .int 0, .int 0, .int 0, .int 0, .int 0, .int 0, .int (-1), .ref m_fresh, .int 0, .int 0, .int 0, .int 0, .int 0, .int 0, .ref m_sums, .ref m_pairs, .ref m_goesWith, .ref m_said, .int 0, .int 0, .ref m_firstOrder, .int 0, .ref m_tiredBy, .int 0, .ref m_many, .ref m_width, .ref m_numbers, .ref m_moving]))]) [0] rfl) (k_X12_see l D cA h0 m_world m_images m_hasImage m_tape m_five m_fresh m_sums m_pairs m_goesWith m_said m_firstOrder m_tiredBy m_many m_width m_numbers m_moving) (tb_V tw_1557 tw_1559 tw_36 tw_114 tw_1560) hdX12_see ⟨rfl, rfl, Nat.le_of_ble_eq_true rfl, Nat.le_of_ble_eq_true rfl⟩ ⟨Nat.le_of_ble_eq_true rfl, Nat.le_of_ble_eq_true rfl⟩ rfl rfl rfl hl.1 rfl (Nat.le_of_ble_eq_true rfl) dX12_advance_5 (fun r_1 hr_1 => ?_)
  obtain rfl : r_1 = (-1) := hr_1
  refine lv_bipush (v := 32) hx hb dX12_advance_8 (by decide) ?_
  refine lv_icmp_eq (tgt := 26) hx hb dX12_advance_10 (by decide) (fun c_2 => absurd c_2 (by decide)) (fun c_2 => ?_)
  refine lv_aload_n hx hb dX12_advance_13 rfl (lv_at hl 0 rfl) ?_
  refine lv_aload_n hx hb dX12_advance_14 rfl (lv_at hl 0 rfl) ?_
  refine va_get (D := D) (ci := 12) (v := .int 0) (C := RX12) (T := TX12) (N := 35) hx hb hts inX12 hown hKN.1 hP 0 rfl rfl 8 (by decide) (hts _ tw_1427) (fun _ h9 => h9) rfl dX12_advance_15 ?_
  refine cpVi (rest := []) ⟨hx, hb, hml, hown, hts⟩ hKN (hP.sub (ws' := [(h0, .inr (12, [.int 0, .ref m_world, .ref m_images, .ref m_hasImage, .ref m_tape, .int 0, .ref m_five, .int 0, .int 0, .int 0, .int 0, .int 0, .int 0, .int (-1), .ref m_fresh, .int 0, .int 0, .int 0, .int 0, .int 0, .int 0, .ref m_sums, .ref m_pairs, .ref m_goesWith, .ref m_said, .int 0, .int 0, .ref m_firstOrder, .int 0, .ref m_tiredBy, .int 0, .ref m_many, .ref m_width, .ref m_numbers, .ref m_moving]))]) [0] rfl) (k_X12_see l D cA h0 m_world m_images m_hasImage m_tape m_five m_fresh m_sums m_pairs m_goesWith m_said m_firstOrder m_tiredBy m_many m_width m_numbers m_moving) (tb_V tw_1557 tw_1559 tw_36 tw_114 tw_1560) hdX12_see ⟨rfl, rfl, Nat.le_of_ble_eq_true rfl, Nat.le_of_ble_eq_true rfl⟩ ⟨Nat.le_of_ble_eq_true rfl, Nat.le_of_ble_eq_true rfl⟩ rfl rfl rfl hl.1 rfl (Nat.le_of_ble_eq_true rfl) dX12_advance_18 (fun r_3 hr_3 => ?_)
  obtain rfl : r_3 = (-1) := hr_3
  refine lv_bipush (v := 10) hx hb dX12_advance_21 (by decide) ?_
  refine lv_icmp_ne (tgt := 39) hx hb dX12_advance_23 (by decide) (fun c_4 => ?_) (fun c_4 => absurd c_4 (by decide))
  refine lv_aload_n hx hb dX12_advance_39 rfl (lv_at hl 0 rfl) ?_
  refine lv_aload_n hx hb dX12_advance_40 rfl (lv_at hl 0 rfl) ?_
  refine va_get (D := D) (ci := 12) (v := .int 0) (C := RX12) (T := TX12) (N := 35) hx hb hts inX12 hown hKN.1 hP 0 rfl rfl 8 (by decide) (hts _ tw_1427) (fun _ h9 => h9) rfl dX12_advance_41 ?_
  refine va_put (D := D) (ci := 12) (v := .int 0) (ty := .int) (C := RX12) (T := TX12) (N := 35) hx hb hts inX12 tyX12 tyX12_ok nmX12 hown hKN.1 hP hD hS 0 rfl rfl 9 (by decide) (hts _ tw_1428) (fun _ h9 => h9) rfl (by decide +kernel) rfl rfl (Nat.le_of_ble_eq_true rfl) dX12_advance_44 (fun H locs hP hD hS => ?_)
  have hP : va_P D vwCl [(h0, .inr (12, [.int 0, .ref m_world, .ref m_images, .ref m_hasImage, .ref m_tape, .int 0, .ref m_five, .int 0, .int 0, .int 0, .int 0, .int 0, .int 0, .int (-1), .ref m_fresh, .int 0, .int 0, .int 0, .int 0, .int 0, .int 0, .ref m_sums, .ref m_pairs, .ref m_goesWith, .ref m_said, .int 0, .int 0, .ref m_firstOrder, .int 0, .ref m_tiredBy, .int 0, .ref m_many, .ref m_width, .ref m_numbers, .ref m_moving]))] H := hP
  have hD : va_D A [(h0, .inr (12, [.int 0, .ref m_world, .ref m_images, .ref m_hasImage, .ref m_tape, .int 0, .ref m_five, .int 0, .int 0, .int 0, .int 0, .int 0, .int 0, .int (-1), .ref m_fresh, .int 0, .int 0, .int 0, .int 0, .int 0, .int 0, .ref m_sums, .ref m_pairs, .ref m_goesWith, .ref m_said, .int 0, .int 0, .ref m_firstOrder, .int 0, .ref m_tiredBy, .int 0, .ref m_many, .ref m_width, .ref m_numbers, .ref m_moving]))] := hD
  refine lv_aload_n hx hb dX12_advance_47 rfl (lv_at hl 0 rfl) ?_
  refine lv_aload_n hx hb dX12_advance_48 rfl (lv_at hl 0 rfl) ?_
  refine va_get (D := D) (ci := 12) (v := .int 0) (C := RX12) (T := TX12) (N := 35) hx hb hts inX12 hown hKN.1 hP 0 rfl rfl 8 (by decide) (hts _ tw_1427) (fun _ h9 => h9) rfl dX12_advance_49 ?_
  refine cpVi (rest := []) ⟨hx, hb, hml, hown, hts⟩ hKN (hP.sub (ws' := [(h0, .inr (12, [.int 0, .ref m_world, .ref m_images, .ref m_hasImage, .ref m_tape, .int 0, .ref m_five, .int 0, .int 0, .int 0, .int 0, .int 0, .int 0, .int (-1), .ref m_fresh, .int 0, .int 0, .int 0, .int 0, .int 0, .int 0, .ref m_sums, .ref m_pairs, .ref m_goesWith, .ref m_said, .int 0, .int 0, .ref m_firstOrder, .int 0, .ref m_tiredBy, .int 0, .ref m_many, .ref m_width, .ref m_numbers, .ref m_moving]))]) [0] rfl) (k_X12_see l D cA h0 m_world m_images m_hasImage m_tape m_five m_fresh m_sums m_pairs m_goesWith m_said m_firstOrder m_tiredBy m_many m_width m_numbers m_moving) (tb_V tw_1557 tw_1559 tw_36 tw_114 tw_1560) hdX12_see ⟨rfl, rfl, Nat.le_of_ble_eq_true rfl, Nat.le_of_ble_eq_true rfl⟩ ⟨Nat.le_of_ble_eq_true rfl, Nat.le_of_ble_eq_true rfl⟩ rfl rfl rfl hl.1 rfl (Nat.le_of_ble_eq_true rfl) dX12_advance_52 (fun r_5 hr_5 => ?_)
  obtain rfl : r_5 = (-1) := hr_5
  refine lv_istore_n (lv' := [(1, .int (-1)), (0, .ref h0)]) hx hb dX12_advance_55 rfl hl (by decide) rfl (fun ls hl => ?_)
  refine lv_iload_n hx hb dX12_advance_56 rfl (lv_at hl 0 rfl) ?_
  refine lv_iconst (v := (-1)) hx hb dX12_advance_57 (by decide) ?_
  refine lv_icmp_ne (tgt := 69) hx hb dX12_advance_58 (by decide) (fun c_6 => absurd (by decide) c_6) (fun c_6 => ?_)
  refine lv_aload_n hx hb dX12_advance_61 rfl (lv_at hl 1 rfl) ?_
  refine lv_iconst (v := 0) hx hb dX12_advance_62 (by decide) ?_
  refine va_put (D := D) (ci := 12) (v := .int 0) (ty := .int) (C := RX12) (T := TX12) (N := 35) hx hb hts inX12 tyX12 tyX12_ok nmX12 hown hKN.1 hP hD hS 0 rfl rfl 10 (by decide) (hts _ tw_1429) (fun _ h9 => h9) rfl (by decide +kernel) rfl rfl (Nat.le_of_ble_eq_true rfl) dX12_advance_63 (fun H locs hP hD hS => ?_)
  have hP : va_P D vwCl [(h0, .inr (12, [.int 0, .ref m_world, .ref m_images, .ref m_hasImage, .ref m_tape, .int 0, .ref m_five, .int 0, .int 0, .int 0, .int 0, .int 0, .int 0, .int (-1), .ref m_fresh, .int 0, .int 0, .int 0, .int 0, .int 0, .int 0, .ref m_sums, .ref m_pairs, .ref m_goesWith, .ref m_said, .int 0, .int 0, .ref m_firstOrder, .int 0, .ref m_tiredBy, .int 0, .ref m_many, .ref m_width, .ref m_numbers, .ref m_moving]))] H := hP
  have hD : va_D A [(h0, .inr (12, [.int 0, .ref m_world, .ref m_images, .ref m_hasImage, .ref m_tape, .int 0, .ref m_five, .int 0, .int 0, .int 0, .int 0, .int 0, .int 0, .int (-1), .ref m_fresh, .int 0, .int 0, .int 0, .int 0, .int 0, .int 0, .ref m_sums, .ref m_pairs, .ref m_goesWith, .ref m_said, .int 0, .int 0, .ref m_firstOrder, .int 0, .ref m_tiredBy, .int 0, .ref m_many, .ref m_width, .ref m_numbers, .ref m_moving]))] := hD
  refine lv_goto (tgt := 239) hx hb dX12_advance_66 (by decide) ?_
  have hP9 := hP.sub (ws' := [(h0, .inr (12, [.int 0, .ref m_world, .ref m_images, .ref m_hasImage, .ref m_tape, .int 0, .ref m_five, .int 0, .int 0, .int 0, .int 0, .int 0, .int 0, .int (-1), .ref m_fresh, .int 0, .int 0, .int 0, .int 0, .int 0, .int 0, .ref m_sums, .ref m_pairs, .ref m_goesWith, .ref m_said, .int 0, .int 0, .ref m_firstOrder, .int 0, .ref m_tiredBy, .int 0, .ref m_many, .ref m_width, .ref m_numbers, .ref m_moving]))]) [0] rfl
  have hD9 := hD.sub (ws' := [(h0, .inr (12, [.int 0, .ref m_world, .ref m_images, .ref m_hasImage, .ref m_tape, .int 0, .ref m_five, .int 0, .int 0, .int 0, .int 0, .int 0, .int 0, .int (-1), .ref m_fresh, .int 0, .int 0, .int 0, .int 0, .int 0, .int 0, .ref m_sums, .ref m_pairs, .ref m_goesWith, .ref m_said, .int 0, .int 0, .ref m_firstOrder, .int 0, .ref m_tiredBy, .int 0, .ref m_many, .ref m_width, .ref m_numbers, .ref m_moving]))]) [0] (by decide) rfl
  exact W.vret hx hb hr (fun t ht hW => ⟨⟨((fun _ => 0), (fun _ => 0), (fun _ _ => 0), (fun _ _ => 0)), rfl, trivial, by rw [ht]; exact hP9, hD9⟩, hS.F ht⟩) hS.2.2 dX12_advance_239
set_option maxHeartbeats 4000000 in
set_option maxRecDepth 100000 in
theorem k_X12_gorge (l : Launch) (D : va_G) (cA : Nat → ClassId) (sz : Nat) (h0 : Nat) (m_world : Nat) (m_images : Nat) (m_hasImage : Nat) (m_tape : Nat) (m_five : Nat) (m_fresh : Nat) (m_sums : Nat) (m_pairs : Nat) (m_goesWith : Nat) (m_said : Nat) (m_firstOrder : Nat) (m_tiredBy : Nat) (m_many : Nat) (m_width : Nat) (m_numbers : Nat) (m_moving : Nat) : Met l yX12_gorge (Cond.code yX12_gorge cX12_gorge 2 (some .int) :: TB) (rmd 2 0 0) (PM D cA sz [(h0, .inr (12, [.int 0, .ref m_world, .ref m_images, .ref m_hasImage, .ref m_tape, .int 0, .ref m_five, .int 0, .int 0, .int 0, .int 0, .int 0, .int 0, .int (-1), .ref m_fresh, .int 0, .int 0, .int 0, .int 0, .int 0, .int 0, .ref m_sums, .ref m_pairs, .ref m_goesWith, .ref m_said, .int 0, .int 0, .ref m_firstOrder, .int 0, .ref m_tiredBy, .int 0, .ref m_many, .ref m_width, .ref m_numbers, .ref m_moving])), (m_world, .inl (cA 1, 122, .inl (fun _ => 0))), (m_fresh, .inl (cA 1, 122, .inl (fun _ => 0)))] [.ref h0]) (va_Qi (fun r (_ : SU) => r = 0) (fun u t => va_P D vwCl [] t.heap ∧ va_D (va_A [(h0, .inr (12, [.int 0, .ref m_world, .ref m_images, .ref m_hasImage, .ref m_tape, .int 0, .ref m_five, .int 0, .int 0, .int 0, .int 0, .int 0, .int 0, .int (-1), .ref m_fresh, .int 0, .int 0, .int 0, .int 0, .int 0, .int 0, .ref m_sums, .ref m_pairs, .ref m_goesWith, .ref m_said, .int 0, .int 0, .ref m_firstOrder, .int 0, .ref m_tiredBy, .int 0, .ref m_many, .ref m_width, .ref m_numbers, .ref m_moving])), (m_world, .inl (cA 1, 122, .inl (fun _ => 0))), (m_fresh, .inl (cA 1, 122, .inl (fun _ => 0)))] sz) []) (va_A [(h0, .inr (12, [.int 0, .ref m_world, .ref m_images, .ref m_hasImage, .ref m_tape, .int 0, .ref m_five, .int 0, .int 0, .int 0, .int 0, .int 0, .int 0, .int (-1), .ref m_fresh, .int 0, .int 0, .int 0, .int 0, .int 0, .int 0, .ref m_sums, .ref m_pairs, .ref m_goesWith, .ref m_said, .int 0, .int 0, .ref m_firstOrder, .int 0, .ref m_tiredBy, .int 0, .ref m_many, .ref m_width, .ref m_numbers, .ref m_moving])), (m_world, .inl (cA 1, 122, .inl (fun _ => 0))), (m_fresh, .inl (cA 1, 122, .inl (fun _ => 0)))] sz)) 0 0 (va_A [(h0, .inr (12, [.int 0, .ref m_world, .ref m_images, .ref m_hasImage, .ref m_tape, .int 0, .ref m_five, .int 0, .int 0, .int 0, .int 0, .int 0, .int 0, .int (-1), .ref m_fresh, .int 0, .int 0, .int 0, .int 0, .int 0, .int 0, .ref m_sums, .ref m_pairs, .ref m_goesWith, .ref m_said, .int 0, .int 0, .ref m_firstOrder, .int 0, .ref m_tiredBy, .int 0, .ref m_many, .ref m_width, .ref m_numbers, .ref m_moving])), (m_world, .inl (cA 1, 122, .inl (fun _ => 0))), (m_fresh, .inl (cA 1, 122, .inl (fun _ => 0)))] sz) := by
  refine Met.ofW (cc := cX12_gorge) (maxL := 2) (ret := (some .int)) (by decide) rfl ?_
  intro p e s m args below meth c s₁ B hml hv
  obtain ⟨rfl, hsz, hP, hKN, hD0⟩ := hv
  have hx := B.exec
  have hb := B.bytes
  have hr := B.returns
  have hts : ∀ w ∈ TB, w.before _ s = true := fun w h => atoms_spec B.pre w (List.mem_cons_of_mem _ h)
  have hown : s.vm.findClass RX12 = some m.cls := findClass_of_methodNamed B.named
  have hlocks := B.notSynchronized
  subst hsz
  have hD := hD0.self (sz := s.heap.size)
  generalize hAe : va_A [(h0, .inr (12, [.int 0, .ref m_world, .ref m_images, .ref m_hasImage, .ref m_tape, .int 0, .ref m_five, .int 0, .int 0, .int 0, .int 0, .int 0, .int 0, .int (-1), .ref m_fresh, .int 0, .int 0, .int 0, .int 0, .int 0, .int 0, .ref m_sums, .ref m_pairs, .ref m_goesWith, .ref m_said, .int 0, .int 0, .ref m_firstOrder, .int 0, .ref m_tiredBy, .int 0, .ref m_many, .ref m_width, .ref m_numbers, .ref m_moving])), (m_world, .inl (cA 1, 122, .inl (fun _ => 0))), (m_fresh, .inl (cA 1, 122, .inl (fun _ => 0)))] s.heap.size = A at hD ⊢
  have hA : ∀ q : Nat, s.heap.size ≤ q → A q := fun q h => by rw [← hAe]; exact Or.inr h
  have hS : va_S A s.heap s.heap [] := va_S.rf
  have hl := lv_entry ([.ref h0]) (n := 2) (Nat.le_of_ble_eq_true rfl)
  rw [lg_entry_eq]
  generalize (lg_sl ([.ref h0]) ++ List.replicate (2 - (lg_sl ([.ref h0])).length) Slot.unset).toArray = ls at hl ⊢
  have hl : lv_has ls 2 [(0, .ref h0)] := hl
  refine lv_aload_n hx hb dX12_gorge_0 rfl (lv_at hl 0 rfl) ?_
  refine lv_aload_n hx hb dX12_gorge_1 rfl (lv_at hl 0 rfl) ?_
  refine va_get (D := D) (ci := 12) (v := .int 0) (C := RX12) (T := TX12) (N := 35) hx hb hts inX12 hown hKN.1 hP 0 rfl rfl 5 (by decide) (hts _ tw_1424) (fun _ h9 => h9) rfl dX12_gorge_2 ?_
  refine va_put (D := D) (ci := 12) (v := .int 0) (ty := .int) (C := RX12) (T := TX12) (N := 35) hx hb hts inX12 tyX12 tyX12_ok nmX12 hown hKN.1 hP hD hS 0 rfl rfl 7 (by decide) (hts _ tw_1426) (fun _ h9 => h9) rfl (by decide +kernel) rfl rfl (Nat.le_of_ble_eq_true rfl) dX12_gorge_5 (fun H locs hP hD hS => ?_)
  have hP : va_P D vwCl [(h0, .inr (12, [.int 0, .ref m_world, .ref m_images, .ref m_hasImage, .ref m_tape, .int 0, .ref m_five, .int 0, .int 0, .int 0, .int 0, .int 0, .int 0, .int (-1), .ref m_fresh, .int 0, .int 0, .int 0, .int 0, .int 0, .int 0, .ref m_sums, .ref m_pairs, .ref m_goesWith, .ref m_said, .int 0, .int 0, .ref m_firstOrder, .int 0, .ref m_tiredBy, .int 0, .ref m_many, .ref m_width, .ref m_numbers, .ref m_moving])), (m_world, .inl (cA 1, 122, .inl (fun _ => 0))), (m_fresh, .inl (cA 1, 122, .inl (fun _ => 0)))] H := hP
  have hD : va_D A [(h0, .inr (12, [.int 0, .ref m_world, .ref m_images, .ref m_hasImage, .ref m_tape, .int 0, .ref m_five, .int 0, .int 0, .int 0, .int 0, .int 0, .int 0, .int (-1), .ref m_fresh, .int 0, .int 0, .int 0, .int 0, .int 0, .int 0, .ref m_sums, .ref m_pairs, .ref m_goesWith, .ref m_said, .int 0, .int 0, .ref m_firstOrder, .int 0, .ref m_tiredBy, .int 0, .ref m_many, .ref m_width, .ref m_numbers, .ref m_moving])), (m_world, .inl (cA 1, 122, .inl (fun _ => 0))), (m_fresh, .inl (cA 1, 122, .inl (fun _ => 0)))] := hD
  refine lv_aload_n hx hb dX12_gorge_8 rfl (lv_at hl 0 rfl) ?_
  refine lv_iconst (v := 0) hx hb dX12_gorge_9 (by decide) ?_
  refine va_put (D := D) (ci := 12) (v := .int 0) (ty := .int) (C := RX12) (T := TX12) (N := 35) hx hb hts inX12 tyX12 tyX12_ok nmX12 hown hKN.1 hP hD hS 0 rfl rfl 5 (by decide) (hts _ tw_1424) (fun _ h9 => h9) rfl (by decide +kernel) rfl rfl (Nat.le_of_ble_eq_true rfl) dX12_gorge_10 (fun H locs hP hD hS => ?_)
  have hP : va_P D vwCl [(h0, .inr (12, [.int 0, .ref m_world, .ref m_images, .ref m_hasImage, .ref m_tape, .int 0, .ref m_five, .int 0, .int 0, .int 0, .int 0, .int 0, .int 0, .int (-1), .ref m_fresh, .int 0, .int 0, .int 0, .int 0, .int 0, .int 0, .ref m_sums, .ref m_pairs, .ref m_goesWith, .ref m_said, .int 0, .int 0, .ref m_firstOrder, .int 0, .ref m_tiredBy, .int 0, .ref m_many, .ref m_width, .ref m_numbers, .ref m_moving])), (m_world, .inl (cA 1, 122, .inl (fun _ => 0))), (m_fresh, .inl (cA 1, 122, .inl (fun _ => 0)))] H := hP
  have hD : va_D A [(h0, .inr (12, [.int 0, .ref m_world, .ref m_images, .ref m_hasImage, .ref m_tape, .int 0, .ref m_five, .int 0, .int 0, .int 0, .int 0, .int 0, .int 0, .int (-1), .ref m_fresh, .int 0, .int 0, .int 0, .int 0, .int 0, .int 0, .ref m_sums, .ref m_pairs, .ref m_goesWith, .ref m_said, .int 0, .int 0, .ref m_firstOrder, .int 0, .ref m_tiredBy, .int 0, .ref m_many, .ref m_width, .ref m_numbers, .ref m_moving])), (m_world, .inl (cA 1, 122, .inl (fun _ => 0))), (m_fresh, .inl (cA 1, 122, .inl (fun _ => 0)))] := hD
  refine lv_aload_n hx hb dX12_gorge_13 rfl (lv_at hl 0 rfl) ?_
  refine lv_iconst (v := 0) hx hb dX12_gorge_14 (by decide) ?_
  refine va_put (D := D) (ci := 12) (v := .int 0) (ty := .int) (C := RX12) (T := TX12) (N := 35) hx hb hts inX12 tyX12 tyX12_ok nmX12 hown hKN.1 hP hD hS 0 rfl rfl 8 (by decide) (hts _ tw_1427) (fun _ h9 => h9) rfl (by decide +kernel) rfl rfl (Nat.le_of_ble_eq_true rfl) dX12_gorge_15 (fun H locs hP hD hS => ?_)
  have hP : va_P D vwCl [(h0, .inr (12, [.int 0, .ref m_world, .ref m_images, .ref m_hasImage, .ref m_tape, .int 0, .ref m_five, .int 0, .int 0, .int 0, .int 0, .int 0, .int 0, .int (-1), .ref m_fresh, .int 0, .int 0, .int 0, .int 0, .int 0, .int 0, .ref m_sums, .ref m_pairs, .ref m_goesWith, .ref m_said, .int 0, .int 0, .ref m_firstOrder, .int 0, .ref m_tiredBy, .int 0, .ref m_many, .ref m_width, .ref m_numbers, .ref m_moving])), (m_world, .inl (cA 1, 122, .inl (fun _ => 0))), (m_fresh, .inl (cA 1, 122, .inl (fun _ => 0)))] H := hP
  have hD : va_D A [(h0, .inr (12, [.int 0, .ref m_world, .ref m_images, .ref m_hasImage, .ref m_tape, .int 0, .ref m_five, .int 0, .int 0, .int 0, .int 0, .int 0, .int 0, .int (-1), .ref m_fresh, .int 0, .int 0, .int 0, .int 0, .int 0, .int 0, .ref m_sums, .ref m_pairs, .ref m_goesWith, .ref m_said, .int 0, .int 0, .ref m_firstOrder, .int 0, .ref m_tiredBy, .int 0, .ref m_many, .ref m_width, .ref m_numbers, .ref m_moving])), (m_world, .inl (cA 1, 122, .inl (fun _ => 0))), (m_fresh, .inl (cA 1, 122, .inl (fun _ => 0)))] := hD
  refine lv_aload_n hx hb dX12_gorge_18 rfl (lv_at hl 0 rfl) ?_
  refine lv_iconst (v := 0) hx hb dX12_gorge_19 (by decide) ?_
  refine va_put (D := D) (ci := 12) (v := .int 0) (ty := .int) (C := RX12) (T := TX12) (N := 35) hx hb hts inX12 tyX12 tyX12_ok nmX12 hown hKN.1 hP hD hS 0 rfl rfl 12 (by decide) (hts _ tw_1431) (fun _ h9 => h9) rfl (by decide +kernel) rfl rfl (Nat.le_of_ble_eq_true rfl) dX12_gorge_20 (fun H locs hP hD hS => ?_)
  have hP : va_P D vwCl [(h0, .inr (12, [.int 0, .ref m_world, .ref m_images, .ref m_hasImage, .ref m_tape, .int 0, .ref m_five, .int 0, .int 0, .int 0, .int 0, .int 0, .int 0, .int (-1), .ref m_fresh, .int 0, .int 0, .int 0, .int 0, .int 0, .int 0, .ref m_sums, .ref m_pairs, .ref m_goesWith, .ref m_said, .int 0, .int 0, .ref m_firstOrder, .int 0, .ref m_tiredBy, .int 0, .ref m_many, .ref m_width, .ref m_numbers, .ref m_moving])), (m_world, .inl (cA 1, 122, .inl (fun _ => 0))), (m_fresh, .inl (cA 1, 122, .inl (fun _ => 0)))] H := hP
  have hD : va_D A [(h0, .inr (12, [.int 0, .ref m_world, .ref m_images, .ref m_hasImage, .ref m_tape, .int 0, .ref m_five, .int 0, .int 0, .int 0, .int 0, .int 0, .int 0, .int (-1), .ref m_fresh, .int 0, .int 0, .int 0, .int 0, .int 0, .int 0, .ref m_sums, .ref m_pairs, .ref m_goesWith, .ref m_said, .int 0, .int 0, .ref m_firstOrder, .int 0, .ref m_tiredBy, .int 0, .ref m_many, .ref m_width, .ref m_numbers, .ref m_moving])), (m_world, .inl (cA 1, 122, .inl (fun _ => 0))), (m_fresh, .inl (cA 1, 122, .inl (fun _ => 0)))] := hD
  refine lv_aload_n hx hb dX12_gorge_23 rfl (lv_at hl 0 rfl) ?_
  refine lv_iconst (v := (-1)) hx hb dX12_gorge_24 (by decide) ?_
  refine va_put (D := D) (ci := 12) (v := .int (-1)) (ty := .int) (C := RX12) (T := TX12) (N := 35) hx hb hts inX12 tyX12 tyX12_ok nmX12 hown hKN.1 hP hD hS 0 rfl rfl 13 (by decide) (hts _ tw_1432) (fun _ h9 => h9) rfl (by decide +kernel) rfl rfl (Nat.le_of_ble_eq_true rfl) dX12_gorge_25 (fun H locs hP hD hS => ?_)
  have hP : va_P D vwCl [(h0, .inr (12, [.int 0, .ref m_world, .ref m_images, .ref m_hasImage, .ref m_tape, .int 0, .ref m_five, .int 0, .int 0, .int 0, .int 0, .int 0, .int 0, .int (-1), .ref m_fresh, .int 0, .int 0, .int 0, .int 0, .int 0, .int 0, .ref m_sums, .ref m_pairs, .ref m_goesWith, .ref m_said, .int 0, .int 0, .ref m_firstOrder, .int 0, .ref m_tiredBy, .int 0, .ref m_many, .ref m_width, .ref m_numbers, .ref m_moving])), (m_world, .inl (cA 1, 122, .inl (fun _ => 0))), (m_fresh, .inl (cA 1, 122, .inl (fun _ => 0)))] H := hP
  have hD : va_D A [(h0, .inr (12, [.int 0, .ref m_world, .ref m_images, .ref m_hasImage, .ref m_tape, .int 0, .ref m_five, .int 0, .int 0, .int 0, .int 0, .int 0, .int 0, .int (-1), .ref m_fresh, .int 0, .int 0, .int 0, .int 0, .int 0, .int 0, .ref m_sums, .ref m_pairs, .ref m_goesWith, .ref m_said, .int 0, .int 0, .ref m_firstOrder, .int 0, .ref m_tiredBy, .int 0, .ref m_many, .ref m_width, .ref m_numbers, .ref m_moving])), (m_world, .inl (cA 1, 122, .inl (fun _ => 0))), (m_fresh, .inl (cA 1, 122, .inl (fun _ => 0)))] := hD
  refine lv_iconst (v := 0) hx hb dX12_gorge_28 (by decide) ?_
  refine lv_istore_n (lv' := [(1, .int 0), (0, .ref h0)]) hx hb dX12_gorge_29 rfl hl (by decide) rfl (fun ls hl => ?_)
  refine loopW (σ := Int32) (fun _ => []) (fun i1_1 H locs ls => (0 ≤ i1_1.toInt) ∧ (i1_1.toInt ≤ 122) ∧ va_P D vwCl [(h0, .inr (12, [.int 0, .ref m_world, .ref m_images, .ref m_hasImage, .ref m_tape, .int 0, .ref m_five, .int 0, .int 0, .int 0, .int 0, .int 0, .int 0, .int (-1), .ref m_fresh, .int 0, .int 0, .int 0, .int 0, .int 0, .int 0, .ref m_sums, .ref m_pairs, .ref m_goesWith, .ref m_said, .int 0, .int 0, .ref m_firstOrder, .int 0, .ref m_tiredBy, .int 0, .ref m_many, .ref m_width, .ref m_numbers, .ref m_moving])), (m_world, .inl (cA 1, 122, .inl (fun _ => 0))), (m_fresh, .inl (cA 1, 122, .inl (fun _ => 0)))] H ∧ va_D A [(h0, .inr (12, [.int 0, .ref m_world, .ref m_images, .ref m_hasImage, .ref m_tape, .int 0, .ref m_five, .int 0, .int 0, .int 0, .int 0, .int 0, .int 0, .int (-1), .ref m_fresh, .int 0, .int 0, .int 0, .int 0, .int 0, .int 0, .ref m_sums, .ref m_pairs, .ref m_goesWith, .ref m_said, .int 0, .int 0, .ref m_firstOrder, .int 0, .ref m_tiredBy, .int 0, .ref m_many, .ref m_width, .ref m_numbers, .ref m_moving])), (m_world, .inl (cA 1, 122, .inl (fun _ => 0))), (m_fresh, .inl (cA 1, 122, .inl (fun _ => 0)))] ∧ va_S A s.heap H locs ∧ lv_has ls 2 [(1, .int i1_1), (0, .ref h0)]) (fun i1_1 => (122 - i1_1.toInt).toNat) ?_ (0) ⟨(by have zi_0 : (0 : Int32).toInt = 0 := (by decide); omega), (by have zi_0 : (0 : Int32).toInt = 0 := (by decide); omega), hP, hD, hS, hl⟩
  intro x_1 H locs ls hI ih
  obtain ⟨i1_1, rfl⟩ : ∃ z, z = x_1 := ⟨_, rfl⟩
  obtain ⟨k0_1, k1_1, hP, hD, hS, hl⟩ := hI
  have hP : va_P D vwCl [(h0, .inr (12, [.int 0, .ref m_world, .ref m_images, .ref m_hasImage, .ref m_tape, .int 0, .ref m_five, .int 0, .int 0, .int 0, .int 0, .int 0, .int 0, .int (-1), .ref m_fresh, .int 0, .int 0, .int 0, .int 0, .int 0, .int 0, .ref m_sums, .ref m_pairs, .ref m_goesWith, .ref m_said, .int 0, .int 0, .ref m_firstOrder, .int 0, .ref m_tiredBy, .int 0, .ref m_many, .ref m_width, .ref m_numbers, .ref m_moving])), (m_world, .inl (cA 1, 122, .inl (fun _ => 0))), (m_fresh, .inl (cA 1, 122, .inl (fun _ => 0)))] H := hP
  have hD : va_D A [(h0, .inr (12, [.int 0, .ref m_world, .ref m_images, .ref m_hasImage, .ref m_tape, .int 0, .ref m_five, .int 0, .int 0, .int 0, .int 0, .int 0, .int 0, .int (-1), .ref m_fresh, .int 0, .int 0, .int 0, .int 0, .int 0, .int 0, .ref m_sums, .ref m_pairs, .ref m_goesWith, .ref m_said, .int 0, .int 0, .ref m_firstOrder, .int 0, .ref m_tiredBy, .int 0, .ref m_many, .ref m_width, .ref m_numbers, .ref m_moving])), (m_world, .inl (cA 1, 122, .inl (fun _ => 0))), (m_fresh, .inl (cA 1, 122, .inl (fun _ => 0)))] := hD
  have hl : lv_has ls 2 [(1, .int i1_1), (0, .ref h0)] := hl
  refine lv_iload_n hx hb dX12_gorge_30 rfl (lv_at hl 0 rfl) ?_
  refine lv_bipush (v := 122) hx hb dX12_gorge_31 (by decide) ?_
  refine lv_icmp_ge (tgt := 49) hx hb dX12_gorge_33 (by decide) (fun c_2 => ?_) (fun c_2 => ?_)
  · skip
    have k_3 := tt_le c_2
    refine lv_aload_n hx hb dX12_gorge_49 rfl (lv_at hl 1 rfl) ?_
    refine cmVv (rest := []) (wsC := [(h0, .inr (12, [.int 0, .ref m_world, .ref m_images, .ref m_hasImage, .ref m_tape, .int 0, .ref m_five, .int 0, .int 0, .int 0, .int 0, .int 0, .int 0, .int (-1), .ref m_fresh, .int 0, .int 0, .int 0, .int 0, .int 0, .int 0, .ref m_sums, .ref m_pairs, .ref m_goesWith, .ref m_said, .int 0, .int 0, .ref m_firstOrder, .int 0, .ref m_tiredBy, .int 0, .ref m_many, .ref m_width, .ref m_numbers, .ref m_moving]))]) (wr := [(m_world, .inl (cA 1, 122, .inl (fun _ => 0))), (m_fresh, .inl (cA 1, 122, .inl (fun _ => 0)))]) ⟨hx, hb, hml, hown, hts⟩ hKN hP hD hS hA [0] [1, 2] rfl rfl (by decide) (by decide) (by decide) (k_X12_advance l D cA _ h0 m_world m_images m_hasImage m_tape m_five m_fresh m_sums m_pairs m_goesWith m_said m_firstOrder m_tiredBy m_many m_width m_numbers m_moving) (tb_V tw_1553 tw_1555 tw_35 tw_114 tw_1556) hdX12_advance ⟨rfl, rfl, Nat.le_of_ble_eq_true rfl, Nat.le_of_ble_eq_true rfl⟩ ⟨Nat.le_of_ble_eq_true rfl, Nat.le_of_ble_eq_true rfl⟩ rfl rfl rfl hl.1 rfl (Nat.le_of_ble_eq_true rfl) dX12_gorge_50 (fun u_4 H locs hr_4 hP hD hS => ?_)
    have hP : va_P D vwCl [(m_world, .inl (cA 1, 122, .inl (fun _ => 0))), (m_fresh, .inl (cA 1, 122, .inl (fun _ => 0))), (h0, .inr (12, [.int 0, .ref m_world, .ref m_images, .ref m_hasImage, .ref m_tape, .int 0, .ref m_five, .int 0, .int 0, .int 0, .int 0, .int 0, .int 0, .int (-1), .ref m_fresh, .int 0, .int 0, .int 0, .int 0, .int 0, .int 0, .ref m_sums, .ref m_pairs, .ref m_goesWith, .ref m_said, .int 0, .int 0, .ref m_firstOrder, .int 0, .ref m_tiredBy, .int 0, .ref m_many, .ref m_width, .ref m_numbers, .ref m_moving]))] H := hP
    have hD : va_D A [(m_world, .inl (cA 1, 122, .inl (fun _ => 0))), (m_fresh, .inl (cA 1, 122, .inl (fun _ => 0))), (h0, .inr (12, [.int 0, .ref m_world, .ref m_images, .ref m_hasImage, .ref m_tape, .int 0, .ref m_five, .int 0, .int 0, .int 0, .int 0, .int 0, .int 0, .int (-1), .ref m_fresh, .int 0, .int 0, .int 0, .int 0, .int 0, .int 0, .ref m_sums, .ref m_pairs, .ref m_goesWith, .ref m_said, .int 0, .int 0, .ref m_firstOrder, .int 0, .ref m_tiredBy, .int 0, .ref m_many, .ref m_width, .ref m_numbers, .ref m_moving]))] := hD
    refine lv_aload_n hx hb dX12_gorge_53 rfl (lv_at hl 1 rfl) ?_
    refine cpVi (rest := []) ⟨hx, hb, hml, hown, hts⟩ hKN (hP.sub (ws' := [(h0, .inr (12, [.int 0, .ref m_world, .ref m_images, .ref m_hasImage, .ref m_tape, .int 0, .ref m_five, .int 0, .int 0, .int 0, .int 0, .int 0, .int 0, .int (-1), .ref m_fresh, .int 0, .int 0, .int 0, .int 0, .int 0, .int 0, .ref m_sums, .ref m_pairs, .ref m_goesWith, .ref m_said, .int 0, .int 0, .ref m_firstOrder, .int 0, .ref m_tiredBy, .int 0, .ref m_many, .ref m_width, .ref m_numbers, .ref m_moving]))]) [2] rfl) (k_X12_good l D cA h0 m_world m_images m_hasImage m_tape m_five m_fresh m_sums m_pairs m_goesWith m_said m_firstOrder m_tiredBy m_many m_width m_numbers m_moving) (tb_V tw_1567 tw_1569 tw_37 tw_114 tw_1570) hdX12_good ⟨rfl, rfl, Nat.le_of_ble_eq_true rfl, Nat.le_of_ble_eq_true rfl⟩ ⟨Nat.le_of_ble_eq_true rfl, Nat.le_of_ble_eq_true rfl⟩ rfl rfl rfl hl.1 rfl (Nat.le_of_ble_eq_true rfl) dX12_gorge_54 (fun r_5 hr_5 => ?_)
    obtain rfl : r_5 = 1 := hr_5
    refine lv_if_eq (tgt := 74) hx hb dX12_gorge_57 (by decide) (fun c_6 => absurd c_6 (by decide)) (fun c_6 => ?_)
    refine lv_aload_n hx hb dX12_gorge_60 rfl (lv_at hl 1 rfl) ?_
    refine va_get (D := D) (ci := 12) (v := .int 0) (C := RX12) (T := TX12) (N := 35) hx hb hts inX12 hown hKN.1 hP 2 rfl rfl 10 (by decide) (hts _ tw_1429) (fun _ h9 => h9) rfl dX12_gorge_61 ?_
    refine lv_if_eq (tgt := 74) hx hb dX12_gorge_64 (by decide) (fun c_7 => ?_) (fun c_7 => absurd (by decide) c_7)
    refine lv_aload_n hx hb dX12_gorge_74 rfl (lv_at hl 1 rfl) ?_
    refine cpVi (rest := []) ⟨hx, hb, hml, hown, hts⟩ hKN (hP.sub (ws' := [(h0, .inr (12, [.int 0, .ref m_world, .ref m_images, .ref m_hasImage, .ref m_tape, .int 0, .ref m_five, .int 0, .int 0, .int 0, .int 0, .int 0, .int 0, .int (-1), .ref m_fresh, .int 0, .int 0, .int 0, .int 0, .int 0, .int 0, .ref m_sums, .ref m_pairs, .ref m_goesWith, .ref m_said, .int 0, .int 0, .ref m_firstOrder, .int 0, .ref m_tiredBy, .int 0, .ref m_many, .ref m_width, .ref m_numbers, .ref m_moving]))]) [2] rfl) (k_X12_good l D cA h0 m_world m_images m_hasImage m_tape m_five m_fresh m_sums m_pairs m_goesWith m_said m_firstOrder m_tiredBy m_many m_width m_numbers m_moving) (tb_V tw_1567 tw_1569 tw_37 tw_114 tw_1570) hdX12_good ⟨rfl, rfl, Nat.le_of_ble_eq_true rfl, Nat.le_of_ble_eq_true rfl⟩ ⟨Nat.le_of_ble_eq_true rfl, Nat.le_of_ble_eq_true rfl⟩ rfl rfl rfl hl.1 rfl (Nat.le_of_ble_eq_true rfl) dX12_gorge_75 (fun r_8 hr_8 => ?_)
    obtain rfl : r_8 = 1 := hr_8
    refine lv_if_ne (tgt := 84) hx hb dX12_gorge_78 (by decide) (fun c_9 => ?_) (fun c_9 => absurd c_9 (by decide))
    refine lv_iconst (v := 0) hx hb dX12_gorge_84 (by decide) ?_
    refine lv_istore_n (lv' := [(1, .int 0), (0, .ref h0)]) hx hb dX12_gorge_85 rfl hl (by decide) rfl (fun ls hl => ?_)
    refine loopW (σ := Int32) (fun _ => []) (fun i1_10 H locs ls => (0 ≤ i1_10.toInt) ∧ (i1_10.toInt ≤ 122) ∧ va_P D vwCl [(m_world, .inl (cA 1, 122, .inl (fun _ => 0))), (m_fresh, .inl (cA 1, 122, .inl (fun _ => 0))), (h0, .inr (12, [.int 0, .ref m_world, .ref m_images, .ref m_hasImage, .ref m_tape, .int 0, .ref m_five, .int 0, .int 0, .int 0, .int 0, .int 0, .int 0, .int (-1), .ref m_fresh, .int 0, .int 0, .int 0, .int 0, .int 0, .int 0, .ref m_sums, .ref m_pairs, .ref m_goesWith, .ref m_said, .int 0, .int 0, .ref m_firstOrder, .int 0, .ref m_tiredBy, .int 0, .ref m_many, .ref m_width, .ref m_numbers, .ref m_moving]))] H ∧ va_D A [(m_world, .inl (cA 1, 122, .inl (fun _ => 0))), (m_fresh, .inl (cA 1, 122, .inl (fun _ => 0))), (h0, .inr (12, [.int 0, .ref m_world, .ref m_images, .ref m_hasImage, .ref m_tape, .int 0, .ref m_five, .int 0, .int 0, .int 0, .int 0, .int 0, .int 0, .int (-1), .ref m_fresh, .int 0, .int 0, .int 0, .int 0, .int 0, .int 0, .ref m_sums, .ref m_pairs, .ref m_goesWith, .ref m_said, .int 0, .int 0, .ref m_firstOrder, .int 0, .ref m_tiredBy, .int 0, .ref m_many, .ref m_width, .ref m_numbers, .ref m_moving]))] ∧ va_S A s.heap H locs ∧ lv_has ls 2 [(1, .int i1_10), (0, .ref h0)]) (fun i1_10 => (122 - i1_10.toInt).toNat) ?_ (0) ⟨(by have zi_0 : (0 : Int32).toInt = 0 := (by decide); have zi_122 : (122 : Int32).toInt = 122 := (by decide); omega), (by have zi_0 : (0 : Int32).toInt = 0 := (by decide); have zi_122 : (122 : Int32).toInt = 122 := (by decide); omega), hP, hD, hS, hl⟩
    intro x_10 H locs ls hI ih
    obtain ⟨i1_10, rfl⟩ : ∃ z, z = x_10 := ⟨_, rfl⟩
    obtain ⟨k0_10, k1_10, hP, hD, hS, hl⟩ := hI
    have hP : va_P D vwCl [(m_world, .inl (cA 1, 122, .inl (fun _ => 0))), (m_fresh, .inl (cA 1, 122, .inl (fun _ => 0))), (h0, .inr (12, [.int 0, .ref m_world, .ref m_images, .ref m_hasImage, .ref m_tape, .int 0, .ref m_five, .int 0, .int 0, .int 0, .int 0, .int 0, .int 0, .int (-1), .ref m_fresh, .int 0, .int 0, .int 0, .int 0, .int 0, .int 0, .ref m_sums, .ref m_pairs, .ref m_goesWith, .ref m_said, .int 0, .int 0, .ref m_firstOrder, .int 0, .ref m_tiredBy, .int 0, .ref m_many, .ref m_width, .ref m_numbers, .ref m_moving]))] H := hP
    have hD : va_D A [(m_world, .inl (cA 1, 122, .inl (fun _ => 0))), (m_fresh, .inl (cA 1, 122, .inl (fun _ => 0))), (h0, .inr (12, [.int 0, .ref m_world, .ref m_images, .ref m_hasImage, .ref m_tape, .int 0, .ref m_five, .int 0, .int 0, .int 0, .int 0, .int 0, .int 0, .int (-1), .ref m_fresh, .int 0, .int 0, .int 0, .int 0, .int 0, .int 0, .ref m_sums, .ref m_pairs, .ref m_goesWith, .ref m_said, .int 0, .int 0, .ref m_firstOrder, .int 0, .ref m_tiredBy, .int 0, .ref m_many, .ref m_width, .ref m_numbers, .ref m_moving]))] := hD
    have hl : lv_has ls 2 [(1, .int i1_10), (0, .ref h0)] := hl
    refine lv_iload_n hx hb dX12_gorge_86 rfl (lv_at hl 0 rfl) ?_
    refine lv_bipush (v := 122) hx hb dX12_gorge_87 (by decide) ?_
    refine lv_icmp_ge (tgt := 110) hx hb dX12_gorge_89 (by decide) (fun c_11 => ?_) (fun c_11 => ?_)
    · skip
      have k_12 := tt_le c_11
      refine lv_aload_n hx hb dX12_gorge_110 rfl (lv_at hl 1 rfl) ?_
      refine va_get (D := D) (ci := 12) (v := .ref m_world) (C := RX12) (T := TX12) (N := 35) hx hb hts inX12 hown hKN.1 hP 2 rfl rfl 1 (by decide) (hts _ tw_1420) (fun _ h9 => h9) rfl dX12_gorge_111 ?_
      refine lv_bipush (v := 8) hx hb dX12_gorge_114 (by decide) ?_
      refine va_iald hx hb hKN.1 hP 0 1 rfl rfl (by unfold vp_in; decide) dX12_gorge_116 ?_
      refine lv_topi (fun x_13 ex_13 => ?_)
      obtain rfl : x_13 = 0 := ex_13
      have hP9 := hP.sub (ws' := []) [] rfl
      have hD9 := hD.sub (ws' := []) [] (by decide) rfl
      exact W.iret (v := 0) hx hb hr (fun t ht hW => ⟨⟨0, ((fun _ => 0), (fun _ => 0), (fun _ _ => 0), (fun _ _ => 0)), rfl, rfl, by rw [ht]; exact hP9, hD9⟩, hS.F ht⟩) hS.2.2 dX12_gorge_117
    · skip
      have k_14 := tt_nle c_11
      refine lv_aload_n hx hb dX12_gorge_92 rfl (lv_at hl 1 rfl) ?_
      refine va_get (D := D) (ci := 12) (v := .ref m_world) (C := RX12) (T := TX12) (N := 35) hx hb hts inX12 hown hKN.1 hP 2 rfl rfl 1 (by decide) (hts _ tw_1420) (fun _ h9 => h9) rfl dX12_gorge_93 ?_
      refine lv_iload_n hx hb dX12_gorge_96 rfl (lv_at hl 0 rfl) ?_
      refine lv_aload_n hx hb dX12_gorge_97 rfl (lv_at hl 1 rfl) ?_
      refine va_get (D := D) (ci := 12) (v := .ref m_fresh) (C := RX12) (T := TX12) (N := 35) hx hb hts inX12 hown hKN.1 hP 2 rfl rfl 14 (by decide) (hts _ tw_1433) (fun _ h9 => h9) rfl dX12_gorge_98 ?_
      refine lv_iload_n hx hb dX12_gorge_101 rfl (lv_at hl 0 rfl) ?_
      refine va_iald hx hb hKN.1 hP 1 1 rfl rfl (vp_in_iff.mpr ⟨by have zi_122 : (122 : Int32).toInt = 122 := (by decide); omega, by have zi_122 : (122 : Int32).toInt = 122 := (by decide); omega⟩) dX12_gorge_102 ?_
      refine lv_topi (fun x_15 ex_15 => ?_)
      obtain rfl : x_15 = 0 := ex_15
      refine va_iast hx hb hKN.1 hP hD hS 0 1 rfl rfl (vp_in_iff.mpr ⟨by have zi_122 : (122 : Int32).toInt = 122 := (by decide); omega, by have zi_122 : (122 : Int32).toInt = 122 := (by decide); omega⟩) dX12_gorge_103 (fun H locs hP hD hS => ?_)
      have hP : va_P D vwCl [(m_world, .inl (cA 1, 122, .inl (upd (fun _ => 0) i1_10.toNatClampNeg 0))), (m_fresh, .inl (cA 1, 122, .inl (fun _ => 0))), (h0, .inr (12, [.int 0, .ref m_world, .ref m_images, .ref m_hasImage, .ref m_tape, .int 0, .ref m_five, .int 0, .int 0, .int 0, .int 0, .int 0, .int 0, .int (-1), .ref m_fresh, .int 0, .int 0, .int 0, .int 0, .int 0, .int 0, .ref m_sums, .ref m_pairs, .ref m_goesWith, .ref m_said, .int 0, .int 0, .ref m_firstOrder, .int 0, .ref m_tiredBy, .int 0, .ref m_many, .ref m_width, .ref m_numbers, .ref m_moving]))] H := hP
      have hD : va_D A [(m_world, .inl (cA 1, 122, .inl (upd (fun _ => 0) i1_10.toNatClampNeg 0))), (m_fresh, .inl (cA 1, 122, .inl (fun _ => 0))), (h0, .inr (12, [.int 0, .ref m_world, .ref m_images, .ref m_hasImage, .ref m_tape, .int 0, .ref m_five, .int 0, .int 0, .int 0, .int 0, .int 0, .int 0, .int (-1), .ref m_fresh, .int 0, .int 0, .int 0, .int 0, .int 0, .int 0, .ref m_sums, .ref m_pairs, .ref m_goesWith, .ref m_said, .int 0, .int 0, .ref m_firstOrder, .int 0, .ref m_tiredBy, .int 0, .ref m_many, .ref m_width, .ref m_numbers, .ref m_moving]))] := hD
      rw [upd_c] at hP hD
      obtain ⟨x_16, ex_16⟩ : ∃ y : Int32, i1_10 + Int32.ofInt 1 = y := ⟨_, rfl⟩
      have k_17 := tt_add (b := 1) ex_16.symm (by have zi_1 : (1 : Int32).toInt = 1 := (by decide); have zi_122 : (122 : Int32).toInt = 122 := (by decide); omega) (by have zi_1 : (1 : Int32).toInt = 1 := (by decide); have zi_122 : (122 : Int32).toInt = 122 := (by decide); omega)
      refine lv_iinc (v := x_16) (lv' := [(1, .int x_16), (0, .ref h0)]) hx hb dX12_gorge_104 hl (k := 0) rfl ex_16 (by decide) rfl (fun ls hl => ?_)
      refine lv_goto (tgt := 86) hx hb dX12_gorge_107 (by decide) ?_
      exact ih (x_16) _ _ _ ⟨(by have zi_1 : (1 : Int32).toInt = 1 := (by decide); have zi_122 : (122 : Int32).toInt = 122 := (by decide); omega), (by have zi_1 : (1 : Int32).toInt = 1 := (by decide); have zi_122 : (122 : Int32).toInt = 122 := (by decide); omega), hP.sub [0, 1, 2] rfl, hD.sub [0, 1, 2] (by decide) rfl, hS, lv_sub hl [0, 1] rfl⟩ (by show (122 - x_16.toInt).toNat < (122 - i1_10.toInt).toNat; have zi_1 : (1 : Int32).toInt = 1 := (by decide); have zi_122 : (122 : Int32).toInt = 122 := (by decide); omega)
  · skip
    have k_18 := tt_nle c_2
    refine lv_aload_n hx hb dX12_gorge_36 rfl (lv_at hl 1 rfl) ?_
    refine va_get (D := D) (ci := 12) (v := .ref m_fresh) (C := RX12) (T := TX12) (N := 35) hx hb hts inX12 hown hKN.1 hP 0 rfl rfl 14 (by decide) (hts _ tw_1433) (fun _ h9 => h9) rfl dX12_gorge_37 ?_
    refine lv_iload_n hx hb dX12_gorge_40 rfl (lv_at hl 0 rfl) ?_
    refine lv_iconst (v := 0) hx hb dX12_gorge_41 (by decide) ?_
    refine va_iast hx hb hKN.1 hP hD hS 2 1 rfl rfl (vp_in_iff.mpr ⟨by have zi_122 : (122 : Int32).toInt = 122 := (by decide); omega, by have zi_122 : (122 : Int32).toInt = 122 := (by decide); omega⟩) dX12_gorge_42 (fun H locs hP hD hS => ?_)
    have hP : va_P D vwCl [(h0, .inr (12, [.int 0, .ref m_world, .ref m_images, .ref m_hasImage, .ref m_tape, .int 0, .ref m_five, .int 0, .int 0, .int 0, .int 0, .int 0, .int 0, .int (-1), .ref m_fresh, .int 0, .int 0, .int 0, .int 0, .int 0, .int 0, .ref m_sums, .ref m_pairs, .ref m_goesWith, .ref m_said, .int 0, .int 0, .ref m_firstOrder, .int 0, .ref m_tiredBy, .int 0, .ref m_many, .ref m_width, .ref m_numbers, .ref m_moving])), (m_world, .inl (cA 1, 122, .inl (fun _ => 0))), (m_fresh, .inl (cA 1, 122, .inl (upd (fun _ => 0) i1_1.toNatClampNeg 0)))] H := hP
    have hD : va_D A [(h0, .inr (12, [.int 0, .ref m_world, .ref m_images, .ref m_hasImage, .ref m_tape, .int 0, .ref m_five, .int 0, .int 0, .int 0, .int 0, .int 0, .int 0, .int (-1), .ref m_fresh, .int 0, .int 0, .int 0, .int 0, .int 0, .int 0, .ref m_sums, .ref m_pairs, .ref m_goesWith, .ref m_said, .int 0, .int 0, .ref m_firstOrder, .int 0, .ref m_tiredBy, .int 0, .ref m_many, .ref m_width, .ref m_numbers, .ref m_moving])), (m_world, .inl (cA 1, 122, .inl (fun _ => 0))), (m_fresh, .inl (cA 1, 122, .inl (upd (fun _ => 0) i1_1.toNatClampNeg 0)))] := hD
    rw [upd_c] at hP hD
    obtain ⟨x_19, ex_19⟩ : ∃ y : Int32, i1_1 + Int32.ofInt 1 = y := ⟨_, rfl⟩
    have k_20 := tt_add (b := 1) ex_19.symm (by have zi_1 : (1 : Int32).toInt = 1 := (by decide); have zi_122 : (122 : Int32).toInt = 122 := (by decide); omega) (by have zi_1 : (1 : Int32).toInt = 1 := (by decide); have zi_122 : (122 : Int32).toInt = 122 := (by decide); omega)
    refine lv_iinc (v := x_19) (lv' := [(1, .int x_19), (0, .ref h0)]) hx hb dX12_gorge_43 hl (k := 0) rfl ex_19 (by decide) rfl (fun ls hl => ?_)
    refine lv_goto (tgt := 30) hx hb dX12_gorge_46 (by decide) ?_
    exact ih (x_19) _ _ _ ⟨(by have zi_1 : (1 : Int32).toInt = 1 := (by decide); have zi_122 : (122 : Int32).toInt = 122 := (by decide); omega), (by have zi_1 : (1 : Int32).toInt = 1 := (by decide); have zi_122 : (122 : Int32).toInt = 122 := (by decide); omega), hP.sub [0, 1, 2] rfl, hD.sub [0, 1, 2] (by decide) rfl, hS, lv_sub hl [0, 1] rfl⟩ (by show (122 - x_19.toInt).toNat < (122 - i1_1.toInt).toNat; have zi_1 : (1 : Int32).toInt = 1 := (by decide); have zi_122 : (122 : Int32).toInt = 122 := (by decide); omega)
set_option maxHeartbeats 4000000 in
set_option maxRecDepth 100000 in
theorem k_X12_image (l : Launch) (D : va_G) (cA : Nat → ClassId) (sz : Nat) (h0 : Nat) (m_world : Nat) (m_images : Nat) (m_hasImage : Nat) (m_tape : Nat) (m_five : Nat) (m_fresh : Nat) (m_sums : Nat) (m_pairs : Nat) (m_goesWith : Nat) (m_said : Nat) (m_firstOrder : Nat) (m_tiredBy : Nat) (m_many : Nat) (m_width : Nat) (m_numbers : Nat) (m_moving : Nat) (p0 : Int32) : Met l yX12_image (Cond.code yX12_image cX12_image 3 (some .int) :: TB) (rmd 1 0 0) (PM D cA sz [(h0, .inr (12, [.int 0, .ref m_world, .ref m_images, .ref m_hasImage, .ref m_tape, .int 0, .ref m_five, .int 0, .int 0, .int 0, .int 0, .int 0, .int 0, .int (-1), .ref m_fresh, .int 0, .int 0, .int 0, .int 0, .int 0, .int 0, .ref m_sums, .ref m_pairs, .ref m_goesWith, .ref m_said, .int 0, .int 0, .ref m_firstOrder, .int 0, .ref m_tiredBy, .int 0, .ref m_many, .ref m_width, .ref m_numbers, .ref m_moving])), (m_world, .inl (cA 1, 122, .inl (fun _ => 0))), (m_images, .inl (cA 1, 366, .inl (fun _ => 0))), (m_hasImage, .inl (cA 3, 3, .inl (fun _ => 0)))] [.ref h0, .int p0]) (va_Qi (fun r (_ : SU) => (0 ≤ (p0 : Int32).toInt ∧ (p0 : Int32).toInt ≤ 2) ∧ r = 0 ∨ ((p0 : Int32).toInt < 0 ∨ 2 < (p0 : Int32).toInt) ∧ r = (-2)) (fun u t => va_P D vwCl [] t.heap ∧ va_D (va_A [(h0, .inr (12, [.int 0, .ref m_world, .ref m_images, .ref m_hasImage, .ref m_tape, .int 0, .ref m_five, .int 0, .int 0, .int 0, .int 0, .int 0, .int 0, .int (-1), .ref m_fresh, .int 0, .int 0, .int 0, .int 0, .int 0, .int 0, .ref m_sums, .ref m_pairs, .ref m_goesWith, .ref m_said, .int 0, .int 0, .ref m_firstOrder, .int 0, .ref m_tiredBy, .int 0, .ref m_many, .ref m_width, .ref m_numbers, .ref m_moving])), (m_world, .inl (cA 1, 122, .inl (fun _ => 0))), (m_images, .inl (cA 1, 366, .inl (fun _ => 0))), (m_hasImage, .inl (cA 3, 3, .inl (fun _ => 0)))] sz) []) (va_A [(h0, .inr (12, [.int 0, .ref m_world, .ref m_images, .ref m_hasImage, .ref m_tape, .int 0, .ref m_five, .int 0, .int 0, .int 0, .int 0, .int 0, .int 0, .int (-1), .ref m_fresh, .int 0, .int 0, .int 0, .int 0, .int 0, .int 0, .ref m_sums, .ref m_pairs, .ref m_goesWith, .ref m_said, .int 0, .int 0, .ref m_firstOrder, .int 0, .ref m_tiredBy, .int 0, .ref m_many, .ref m_width, .ref m_numbers, .ref m_moving])), (m_world, .inl (cA 1, 122, .inl (fun _ => 0))), (m_images, .inl (cA 1, 366, .inl (fun _ => 0))), (m_hasImage, .inl (cA 3, 3, .inl (fun _ => 0)))] sz)) 0 0 (va_A [(h0, .inr (12, [.int 0, .ref m_world, .ref m_images, .ref m_hasImage, .ref m_tape, .int 0, .ref m_five, .int 0, .int 0, .int 0, .int 0, .int 0, .int 0, .int (-1), .ref m_fresh, .int 0, .int 0, .int 0, .int 0, .int 0, .int 0, .ref m_sums, .ref m_pairs, .ref m_goesWith, .ref m_said, .int 0, .int 0, .ref m_firstOrder, .int 0, .ref m_tiredBy, .int 0, .ref m_many, .ref m_width, .ref m_numbers, .ref m_moving])), (m_world, .inl (cA 1, 122, .inl (fun _ => 0))), (m_images, .inl (cA 1, 366, .inl (fun _ => 0))), (m_hasImage, .inl (cA 3, 3, .inl (fun _ => 0)))] sz) := by
  refine Met.ofW (cc := cX12_image) (maxL := 3) (ret := (some .int)) (by decide) rfl ?_
  intro p e s m args below meth c s₁ B hml hv
  obtain ⟨rfl, hsz, hP, hKN, hD0⟩ := hv
  have hx := B.exec
  have hb := B.bytes
  have hr := B.returns
  have hts : ∀ w ∈ TB, w.before _ s = true := fun w h => atoms_spec B.pre w (List.mem_cons_of_mem _ h)
  have hown : s.vm.findClass RX12 = some m.cls := findClass_of_methodNamed B.named
  have hlocks := B.notSynchronized
  subst hsz
  have hD := hD0.self (sz := s.heap.size)
  generalize hAe : va_A [(h0, .inr (12, [.int 0, .ref m_world, .ref m_images, .ref m_hasImage, .ref m_tape, .int 0, .ref m_five, .int 0, .int 0, .int 0, .int 0, .int 0, .int 0, .int (-1), .ref m_fresh, .int 0, .int 0, .int 0, .int 0, .int 0, .int 0, .ref m_sums, .ref m_pairs, .ref m_goesWith, .ref m_said, .int 0, .int 0, .ref m_firstOrder, .int 0, .ref m_tiredBy, .int 0, .ref m_many, .ref m_width, .ref m_numbers, .ref m_moving])), (m_world, .inl (cA 1, 122, .inl (fun _ => 0))), (m_images, .inl (cA 1, 366, .inl (fun _ => 0))), (m_hasImage, .inl (cA 3, 3, .inl (fun _ => 0)))] s.heap.size = A at hD ⊢
  have hA : ∀ q : Nat, s.heap.size ≤ q → A q := fun q h => by rw [← hAe]; exact Or.inr h
  have hS : va_S A s.heap s.heap [] := va_S.rf
  have hl := lv_entry ([.ref h0, .int p0]) (n := 3) (Nat.le_of_ble_eq_true rfl)
  rw [lg_entry_eq]
  generalize (lg_sl ([.ref h0, .int p0]) ++ List.replicate (3 - (lg_sl ([.ref h0, .int p0])).length) Slot.unset).toArray = ls at hl ⊢
  have hl : lv_has ls 3 [(0, .ref h0), (1, .int p0)] := hl
  refine lv_iload_n hx hb dX12_image_0 rfl (lv_at hl 1 rfl) ?_
  obtain ⟨x_1, ex_1⟩ : ∃ y, p0.toInt64 = y := ⟨_, rfl⟩
  refine lv_i2l (v := x_1) hx hb dX12_image_1 ex_1 ?_
  have k_2 := tt_i2l ex_1
  refine lv_lconst (v := 0) hx hb dX12_image_2 (by decide) ?_
  refine lv_ldc2 (v := 2) hx hb hown (hts _ tw_1529) dX12_image_3 ?_
  refine cpSi (rest := []) ⟨hx, hb, hml, hown, hts⟩ hKN (hP.sub (ws' := []) [] rfl) (k_X12_in l D cA x_1 0 2) (tb_S tw_1530 tw_1531 tw_114 tw_1532) hdX12_in ⟨rfl, rfl, Nat.le_of_ble_eq_true rfl, Nat.le_of_ble_eq_true rfl⟩ ⟨Nat.le_of_ble_eq_true rfl, Nat.le_of_ble_eq_true rfl⟩ rfl hl.1 rfl (Nat.le_of_ble_eq_true rfl) dX12_image_6 (fun r_3 hr_3 => ?_)
  rcases hr_3 with ⟨k_3_0, rfl⟩ | ⟨k_3_1, rfl⟩
  · skip
    rcases rng3 (x := p0) (by have zj_0 : (0 : Int64).toInt = 0 := (by decide); have zj_2 : (2 : Int64).toInt = 2 := (by decide); omega) with rfl | rfl | rfl
    · skip
      refine lv_if_ne (tgt := 15) hx hb dX12_image_9 (by decide) (fun c_4 => ?_) (fun c_4 => absurd c_4 (by decide))
      refine lv_iconst (v := 0) hx hb dX12_image_15 (by decide) ?_
      refine lv_istore_n (lv' := [(2, .int 0), (0, .ref h0), (1, .int 0)]) hx hb dX12_image_16 rfl hl (by decide) rfl (fun ls hl => ?_)
      refine loopW (σ := Int32) (fun _ => []) (fun i2_5 H locs ls => (0 ≤ i2_5.toInt) ∧ (i2_5.toInt ≤ 122) ∧ va_P D vwCl [(h0, .inr (12, [.int 0, .ref m_world, .ref m_images, .ref m_hasImage, .ref m_tape, .int 0, .ref m_five, .int 0, .int 0, .int 0, .int 0, .int 0, .int 0, .int (-1), .ref m_fresh, .int 0, .int 0, .int 0, .int 0, .int 0, .int 0, .ref m_sums, .ref m_pairs, .ref m_goesWith, .ref m_said, .int 0, .int 0, .ref m_firstOrder, .int 0, .ref m_tiredBy, .int 0, .ref m_many, .ref m_width, .ref m_numbers, .ref m_moving])), (m_world, .inl (cA 1, 122, .inl (fun _ => 0))), (m_images, .inl (cA 1, 366, .inl (fun _ => 0))), (m_hasImage, .inl (cA 3, 3, .inl (fun _ => 0)))] H ∧ va_D A [(h0, .inr (12, [.int 0, .ref m_world, .ref m_images, .ref m_hasImage, .ref m_tape, .int 0, .ref m_five, .int 0, .int 0, .int 0, .int 0, .int 0, .int 0, .int (-1), .ref m_fresh, .int 0, .int 0, .int 0, .int 0, .int 0, .int 0, .ref m_sums, .ref m_pairs, .ref m_goesWith, .ref m_said, .int 0, .int 0, .ref m_firstOrder, .int 0, .ref m_tiredBy, .int 0, .ref m_many, .ref m_width, .ref m_numbers, .ref m_moving])), (m_world, .inl (cA 1, 122, .inl (fun _ => 0))), (m_images, .inl (cA 1, 366, .inl (fun _ => 0))), (m_hasImage, .inl (cA 3, 3, .inl (fun _ => 0)))] ∧ va_S A s.heap H locs ∧ lv_has ls 3 [(2, .int i2_5), (0, .ref h0), (1, .int 0)]) (fun i2_5 => (122 - i2_5.toInt).toNat) ?_ (0) ⟨(by have zi_0 : (0 : Int32).toInt = 0 := (by decide); have zj_0 : (0 : Int64).toInt = 0 := (by decide); have zj_2 : (2 : Int64).toInt = 2 := (by decide); omega), (by have zi_0 : (0 : Int32).toInt = 0 := (by decide); have zj_0 : (0 : Int64).toInt = 0 := (by decide); have zj_2 : (2 : Int64).toInt = 2 := (by decide); omega), hP, hD, hS, hl⟩
      intro x_5 H locs ls hI ih
      obtain ⟨i2_5, rfl⟩ : ∃ z, z = x_5 := ⟨_, rfl⟩
      obtain ⟨k0_5, k1_5, hP, hD, hS, hl⟩ := hI
      have hP : va_P D vwCl [(h0, .inr (12, [.int 0, .ref m_world, .ref m_images, .ref m_hasImage, .ref m_tape, .int 0, .ref m_five, .int 0, .int 0, .int 0, .int 0, .int 0, .int 0, .int (-1), .ref m_fresh, .int 0, .int 0, .int 0, .int 0, .int 0, .int 0, .ref m_sums, .ref m_pairs, .ref m_goesWith, .ref m_said, .int 0, .int 0, .ref m_firstOrder, .int 0, .ref m_tiredBy, .int 0, .ref m_many, .ref m_width, .ref m_numbers, .ref m_moving])), (m_world, .inl (cA 1, 122, .inl (fun _ => 0))), (m_images, .inl (cA 1, 366, .inl (fun _ => 0))), (m_hasImage, .inl (cA 3, 3, .inl (fun _ => 0)))] H := hP
      have hD : va_D A [(h0, .inr (12, [.int 0, .ref m_world, .ref m_images, .ref m_hasImage, .ref m_tape, .int 0, .ref m_five, .int 0, .int 0, .int 0, .int 0, .int 0, .int 0, .int (-1), .ref m_fresh, .int 0, .int 0, .int 0, .int 0, .int 0, .int 0, .ref m_sums, .ref m_pairs, .ref m_goesWith, .ref m_said, .int 0, .int 0, .ref m_firstOrder, .int 0, .ref m_tiredBy, .int 0, .ref m_many, .ref m_width, .ref m_numbers, .ref m_moving])), (m_world, .inl (cA 1, 122, .inl (fun _ => 0))), (m_images, .inl (cA 1, 366, .inl (fun _ => 0))), (m_hasImage, .inl (cA 3, 3, .inl (fun _ => 0)))] := hD
      have hl : lv_has ls 3 [(2, .int i2_5), (0, .ref h0), (1, .int 0)] := hl
      refine lv_iload_n hx hb dX12_image_17 rfl (lv_at hl 0 rfl) ?_
      refine lv_bipush (v := 122) hx hb dX12_image_18 (by decide) ?_
      refine lv_icmp_ge (tgt := 46) hx hb dX12_image_20 (by decide) (fun c_6 => ?_) (fun c_6 => ?_)
      · skip
        have k_7 := tt_le c_6
        refine lv_aload_n hx hb dX12_image_46 rfl (lv_at hl 1 rfl) ?_
        refine va_get (D := D) (ci := 12) (v := .ref m_hasImage) (C := RX12) (T := TX12) (N := 35) hx hb hts inX12 hown hKN.1 hP 0 rfl rfl 3 (by decide) (hts _ tw_1422) (fun _ h9 => h9) rfl dX12_image_47 ?_
        refine lv_iload_n hx hb dX12_image_50 rfl (lv_at hl 2 rfl) ?_
        refine lv_iconst (v := 1) hx hb dX12_image_51 (by decide) ?_
        refine va_zast hx hb hKN.1 hP hD hS 3 3 rfl rfl (by unfold vp_in; decide) dX12_image_52 (fun H locs hP hD hS => ?_)
        have hP : va_P D vwCl [(h0, .inr (12, [.int 0, .ref m_world, .ref m_images, .ref m_hasImage, .ref m_tape, .int 0, .ref m_five, .int 0, .int 0, .int 0, .int 0, .int 0, .int 0, .int (-1), .ref m_fresh, .int 0, .int 0, .int 0, .int 0, .int 0, .int 0, .ref m_sums, .ref m_pairs, .ref m_goesWith, .ref m_said, .int 0, .int 0, .ref m_firstOrder, .int 0, .ref m_tiredBy, .int 0, .ref m_many, .ref m_width, .ref m_numbers, .ref m_moving])), (m_world, .inl (cA 1, 122, .inl (fun _ => 0))), (m_images, .inl (cA 1, 366, .inl (fun _ => 0))), (m_hasImage, .inl (cA 3, 3, .inl (upd (fun _ => 0) 0 (vp_nar .boolean 1))))] H := hP
        have hD : va_D A [(h0, .inr (12, [.int 0, .ref m_world, .ref m_images, .ref m_hasImage, .ref m_tape, .int 0, .ref m_five, .int 0, .int 0, .int 0, .int 0, .int 0, .int 0, .int (-1), .ref m_fresh, .int 0, .int 0, .int 0, .int 0, .int 0, .int 0, .ref m_sums, .ref m_pairs, .ref m_goesWith, .ref m_said, .int 0, .int 0, .ref m_firstOrder, .int 0, .ref m_tiredBy, .int 0, .ref m_many, .ref m_width, .ref m_numbers, .ref m_moving])), (m_world, .inl (cA 1, 122, .inl (fun _ => 0))), (m_images, .inl (cA 1, 366, .inl (fun _ => 0))), (m_hasImage, .inl (cA 3, 3, .inl (upd (fun _ => 0) 0 (vp_nar .boolean 1))))] := hD
        generalize ef_8 : (upd (fun _ => 0) 0 (vp_nar .boolean 1)) = f_8 at hP hD
        refine lv_iconst (v := 0) hx hb dX12_image_53 (by decide) ?_
        have hP9 := hP.sub (ws' := []) [] rfl
        have hD9 := hD.sub (ws' := []) [] (by decide) rfl
        exact W.iret (v := 0) hx hb hr (fun t ht hW => ⟨⟨0, ((fun _ => 0), (fun _ => 0), (fun _ _ => 0), (fun _ _ => 0)), rfl, (Or.inl ⟨(by have zi_0 : (0 : Int32).toInt = 0 := (by decide); have zi_122 : (122 : Int32).toInt = 122 := (by decide); have zj_0 : (0 : Int64).toInt = 0 := (by decide); have zj_2 : (2 : Int64).toInt = 2 := (by decide); omega), rfl⟩), by rw [ht]; exact hP9, hD9⟩, hS.F ht⟩) hS.2.2 dX12_image_54
      · skip
        have k_9 := tt_nle c_6
        refine lv_aload_n hx hb dX12_image_23 rfl (lv_at hl 1 rfl) ?_
        refine va_get (D := D) (ci := 12) (v := .ref m_images) (C := RX12) (T := TX12) (N := 35) hx hb hts inX12 hown hKN.1 hP 0 rfl rfl 2 (by decide) (hts _ tw_1421) (fun _ h9 => h9) rfl dX12_image_24 ?_
        refine lv_bipush (v := 122) hx hb dX12_image_27 (by decide) ?_
        refine lv_iload_n hx hb dX12_image_29 rfl (lv_at hl 2 rfl) ?_
        refine lv_imul hx hb dX12_image_30 ?_
        refine lv_topi (fun x_10 ex_10 => ?_)
        obtain rfl : x_10 = 0 := ex_10.trans (by decide)
        refine lv_iload_n hx hb dX12_image_31 rfl (lv_at hl 0 rfl) ?_
        refine lv_iadd hx hb dX12_image_32 ?_
        refine lv_topi (fun x_11 ex_11 => ?_)
        have k_12 := tt_add ex_11 (by have zi_0 : (0 : Int32).toInt = 0 := (by decide); have zi_122 : (122 : Int32).toInt = 122 := (by decide); have zj_0 : (0 : Int64).toInt = 0 := (by decide); have zj_2 : (2 : Int64).toInt = 2 := (by decide); omega) (by have zi_0 : (0 : Int32).toInt = 0 := (by decide); have zi_122 : (122 : Int32).toInt = 122 := (by decide); have zj_0 : (0 : Int64).toInt = 0 := (by decide); have zj_2 : (2 : Int64).toInt = 2 := (by decide); omega)
        refine lv_aload_n hx hb dX12_image_33 rfl (lv_at hl 1 rfl) ?_
        refine va_get (D := D) (ci := 12) (v := .ref m_world) (C := RX12) (T := TX12) (N := 35) hx hb hts inX12 hown hKN.1 hP 0 rfl rfl 1 (by decide) (hts _ tw_1420) (fun _ h9 => h9) rfl dX12_image_34 ?_
        refine lv_iload_n hx hb dX12_image_37 rfl (lv_at hl 0 rfl) ?_
        refine va_iald hx hb hKN.1 hP 1 1 rfl rfl (vp_in_iff.mpr ⟨by have zi_0 : (0 : Int32).toInt = 0 := (by decide); have zi_122 : (122 : Int32).toInt = 122 := (by decide); have zj_0 : (0 : Int64).toInt = 0 := (by decide); have zj_2 : (2 : Int64).toInt = 2 := (by decide); omega, by have zi_0 : (0 : Int32).toInt = 0 := (by decide); have zi_122 : (122 : Int32).toInt = 122 := (by decide); have zj_0 : (0 : Int64).toInt = 0 := (by decide); have zj_2 : (2 : Int64).toInt = 2 := (by decide); omega⟩) dX12_image_38 ?_
        refine lv_topi (fun x_13 ex_13 => ?_)
        obtain rfl : x_13 = 0 := ex_13
        refine va_iast hx hb hKN.1 hP hD hS 2 1 rfl rfl (vp_in_iff.mpr ⟨by have zi_0 : (0 : Int32).toInt = 0 := (by decide); have zi_122 : (122 : Int32).toInt = 122 := (by decide); have zj_0 : (0 : Int64).toInt = 0 := (by decide); have zj_2 : (2 : Int64).toInt = 2 := (by decide); omega, by have zi_0 : (0 : Int32).toInt = 0 := (by decide); have zi_122 : (122 : Int32).toInt = 122 := (by decide); have zj_0 : (0 : Int64).toInt = 0 := (by decide); have zj_2 : (2 : Int64).toInt = 2 := (by decide); omega⟩) dX12_image_39 (fun H locs hP hD hS => ?_)
        have hP : va_P D vwCl [(h0, .inr (12, [.int 0, .ref m_world, .ref m_images, .ref m_hasImage, .ref m_tape, .int 0, .ref m_five, .int 0, .int 0, .int 0, .int 0, .int 0, .int 0, .int (-1), .ref m_fresh, .int 0, .int 0, .int 0, .int 0, .int 0, .int 0, .ref m_sums, .ref m_pairs, .ref m_goesWith, .ref m_said, .int 0, .int 0, .ref m_firstOrder, .int 0, .ref m_tiredBy, .int 0, .ref m_many, .ref m_width, .ref m_numbers, .ref m_moving])), (m_world, .inl (cA 1, 122, .inl (fun _ => 0))), (m_images, .inl (cA 1, 366, .inl (upd (fun _ => 0) x_11.toNatClampNeg 0))), (m_hasImage, .inl (cA 3, 3, .inl (fun _ => 0)))] H := hP
        have hD : va_D A [(h0, .inr (12, [.int 0, .ref m_world, .ref m_images, .ref m_hasImage, .ref m_tape, .int 0, .ref m_five, .int 0, .int 0, .int 0, .int 0, .int 0, .int 0, .int (-1), .ref m_fresh, .int 0, .int 0, .int 0, .int 0, .int 0, .int 0, .ref m_sums, .ref m_pairs, .ref m_goesWith, .ref m_said, .int 0, .int 0, .ref m_firstOrder, .int 0, .ref m_tiredBy, .int 0, .ref m_many, .ref m_width, .ref m_numbers, .ref m_moving])), (m_world, .inl (cA 1, 122, .inl (fun _ => 0))), (m_images, .inl (cA 1, 366, .inl (upd (fun _ => 0) x_11.toNatClampNeg 0))), (m_hasImage, .inl (cA 3, 3, .inl (fun _ => 0)))] := hD
        rw [upd_c] at hP hD
        obtain ⟨x_14, ex_14⟩ : ∃ y : Int32, i2_5 + Int32.ofInt 1 = y := ⟨_, rfl⟩
        have k_15 := tt_add (b := 1) ex_14.symm (by have zi_0 : (0 : Int32).toInt = 0 := (by decide); have zi_1 : (1 : Int32).toInt = 1 := (by decide); have zi_122 : (122 : Int32).toInt = 122 := (by decide); have zj_0 : (0 : Int64).toInt = 0 := (by decide); have zj_2 : (2 : Int64).toInt = 2 := (by decide); omega) (by have zi_0 : (0 : Int32).toInt = 0 := (by decide); have zi_1 : (1 : Int32).toInt = 1 := (by decide); have zi_122 : (122 : Int32).toInt = 122 := (by decide); have zj_0 : (0 : Int64).toInt = 0 := (by decide); have zj_2 : (2 : Int64).toInt = 2 := (by decide); omega)
        refine lv_iinc (v := x_14) (lv' := [(2, .int x_14), (0, .ref h0), (1, .int 0)]) hx hb dX12_image_40 hl (k := 0) rfl ex_14 (by decide) rfl (fun ls hl => ?_)
        refine lv_goto (tgt := 17) hx hb dX12_image_43 (by decide) ?_
        exact ih (x_14) _ _ _ ⟨(by have zi_0 : (0 : Int32).toInt = 0 := (by decide); have zi_1 : (1 : Int32).toInt = 1 := (by decide); have zi_122 : (122 : Int32).toInt = 122 := (by decide); have zj_0 : (0 : Int64).toInt = 0 := (by decide); have zj_2 : (2 : Int64).toInt = 2 := (by decide); omega), (by have zi_0 : (0 : Int32).toInt = 0 := (by decide); have zi_1 : (1 : Int32).toInt = 1 := (by decide); have zi_122 : (122 : Int32).toInt = 122 := (by decide); have zj_0 : (0 : Int64).toInt = 0 := (by decide); have zj_2 : (2 : Int64).toInt = 2 := (by decide); omega), hP.sub [0, 1, 2, 3] rfl, hD.sub [0, 1, 2, 3] (by decide) rfl, hS, lv_sub hl [0, 1, 2] rfl⟩ (by show (122 - x_14.toInt).toNat < (122 - i2_5.toInt).toNat; have zi_0 : (0 : Int32).toInt = 0 := (by decide); have zi_1 : (1 : Int32).toInt = 1 := (by decide); have zi_122 : (122 : Int32).toInt = 122 := (by decide); have zj_0 : (0 : Int64).toInt = 0 := (by decide); have zj_2 : (2 : Int64).toInt = 2 := (by decide); omega)
    · skip
      refine lv_if_ne (tgt := 15) hx hb dX12_image_9 (by decide) (fun c_16 => ?_) (fun c_16 => absurd c_16 (by decide))
      refine lv_iconst (v := 0) hx hb dX12_image_15 (by decide) ?_
      refine lv_istore_n (lv' := [(2, .int 0), (0, .ref h0), (1, .int 1)]) hx hb dX12_image_16 rfl hl (by decide) rfl (fun ls hl => ?_)
      refine loopW (σ := Int32) (fun _ => []) (fun i2_17 H locs ls => (0 ≤ i2_17.toInt) ∧ (i2_17.toInt ≤ 122) ∧ va_P D vwCl [(h0, .inr (12, [.int 0, .ref m_world, .ref m_images, .ref m_hasImage, .ref m_tape, .int 0, .ref m_five, .int 0, .int 0, .int 0, .int 0, .int 0, .int 0, .int (-1), .ref m_fresh, .int 0, .int 0, .int 0, .int 0, .int 0, .int 0, .ref m_sums, .ref m_pairs, .ref m_goesWith, .ref m_said, .int 0, .int 0, .ref m_firstOrder, .int 0, .ref m_tiredBy, .int 0, .ref m_many, .ref m_width, .ref m_numbers, .ref m_moving])), (m_world, .inl (cA 1, 122, .inl (fun _ => 0))), (m_images, .inl (cA 1, 366, .inl (fun _ => 0))), (m_hasImage, .inl (cA 3, 3, .inl (fun _ => 0)))] H ∧ va_D A [(h0, .inr (12, [.int 0, .ref m_world, .ref m_images, .ref m_hasImage, .ref m_tape, .int 0, .ref m_five, .int 0, .int 0, .int 0, .int 0, .int 0, .int 0, .int (-1), .ref m_fresh, .int 0, .int 0, .int 0, .int 0, .int 0, .int 0, .ref m_sums, .ref m_pairs, .ref m_goesWith, .ref m_said, .int 0, .int 0, .ref m_firstOrder, .int 0, .ref m_tiredBy, .int 0, .ref m_many, .ref m_width, .ref m_numbers, .ref m_moving])), (m_world, .inl (cA 1, 122, .inl (fun _ => 0))), (m_images, .inl (cA 1, 366, .inl (fun _ => 0))), (m_hasImage, .inl (cA 3, 3, .inl (fun _ => 0)))] ∧ va_S A s.heap H locs ∧ lv_has ls 3 [(2, .int i2_17), (0, .ref h0), (1, .int 1)]) (fun i2_17 => (122 - i2_17.toInt).toNat) ?_ (0) ⟨(by have zi_0 : (0 : Int32).toInt = 0 := (by decide); have zi_1 : (1 : Int32).toInt = 1 := (by decide); have zj_0 : (0 : Int64).toInt = 0 := (by decide); have zj_2 : (2 : Int64).toInt = 2 := (by decide); omega), (by have zi_0 : (0 : Int32).toInt = 0 := (by decide); have zi_1 : (1 : Int32).toInt = 1 := (by decide); have zj_0 : (0 : Int64).toInt = 0 := (by decide); have zj_2 : (2 : Int64).toInt = 2 := (by decide); omega), hP, hD, hS, hl⟩
      intro x_17 H locs ls hI ih
      obtain ⟨i2_17, rfl⟩ : ∃ z, z = x_17 := ⟨_, rfl⟩
      obtain ⟨k0_17, k1_17, hP, hD, hS, hl⟩ := hI
      have hP : va_P D vwCl [(h0, .inr (12, [.int 0, .ref m_world, .ref m_images, .ref m_hasImage, .ref m_tape, .int 0, .ref m_five, .int 0, .int 0, .int 0, .int 0, .int 0, .int 0, .int (-1), .ref m_fresh, .int 0, .int 0, .int 0, .int 0, .int 0, .int 0, .ref m_sums, .ref m_pairs, .ref m_goesWith, .ref m_said, .int 0, .int 0, .ref m_firstOrder, .int 0, .ref m_tiredBy, .int 0, .ref m_many, .ref m_width, .ref m_numbers, .ref m_moving])), (m_world, .inl (cA 1, 122, .inl (fun _ => 0))), (m_images, .inl (cA 1, 366, .inl (fun _ => 0))), (m_hasImage, .inl (cA 3, 3, .inl (fun _ => 0)))] H := hP
      have hD : va_D A [(h0, .inr (12, [.int 0, .ref m_world, .ref m_images, .ref m_hasImage, .ref m_tape, .int 0, .ref m_five, .int 0, .int 0, .int 0, .int 0, .int 0, .int 0, .int (-1), .ref m_fresh, .int 0, .int 0, .int 0, .int 0, .int 0, .int 0, .ref m_sums, .ref m_pairs, .ref m_goesWith, .ref m_said, .int 0, .int 0, .ref m_firstOrder, .int 0, .ref m_tiredBy, .int 0, .ref m_many, .ref m_width, .ref m_numbers, .ref m_moving])), (m_world, .inl (cA 1, 122, .inl (fun _ => 0))), (m_images, .inl (cA 1, 366, .inl (fun _ => 0))), (m_hasImage, .inl (cA 3, 3, .inl (fun _ => 0)))] := hD
      have hl : lv_has ls 3 [(2, .int i2_17), (0, .ref h0), (1, .int 1)] := hl
      refine lv_iload_n hx hb dX12_image_17 rfl (lv_at hl 0 rfl) ?_
      refine lv_bipush (v := 122) hx hb dX12_image_18 (by decide) ?_
      refine lv_icmp_ge (tgt := 46) hx hb dX12_image_20 (by decide) (fun c_18 => ?_) (fun c_18 => ?_)
      · skip
        have k_19 := tt_le c_18
        refine lv_aload_n hx hb dX12_image_46 rfl (lv_at hl 1 rfl) ?_
        refine va_get (D := D) (ci := 12) (v := .ref m_hasImage) (C := RX12) (T := TX12) (N := 35) hx hb hts inX12 hown hKN.1 hP 0 rfl rfl 3 (by decide) (hts _ tw_1422) (fun _ h9 => h9) rfl dX12_image_47 ?_
        refine lv_iload_n hx hb dX12_image_50 rfl (lv_at hl 2 rfl) ?_
        refine lv_iconst (v := 1) hx hb dX12_image_51 (by decide) ?_
        refine va_zast hx hb hKN.1 hP hD hS 3 3 rfl rfl (by unfold vp_in; decide) dX12_image_52 (fun H locs hP hD hS => ?_)
        have hP : va_P D vwCl [(h0, .inr (12, [.int 0, .ref m_world, .ref m_images, .ref m_hasImage, .ref m_tape, .int 0, .ref m_five, .int 0, .int 0, .int 0, .int 0, .int 0, .int 0, .int (-1), .ref m_fresh, .int 0, .int 0, .int 0, .int 0, .int 0, .int 0, .ref m_sums, .ref m_pairs, .ref m_goesWith, .ref m_said, .int 0, .int 0, .ref m_firstOrder, .int 0, .ref m_tiredBy, .int 0, .ref m_many, .ref m_width, .ref m_numbers, .ref m_moving])), (m_world, .inl (cA 1, 122, .inl (fun _ => 0))), (m_images, .inl (cA 1, 366, .inl (fun _ => 0))), (m_hasImage, .inl (cA 3, 3, .inl (upd (fun _ => 0) 1 (vp_nar .boolean 1))))] H := hP
        have hD : va_D A [(h0, .inr (12, [.int 0, .ref m_world, .ref m_images, .ref m_hasImage, .ref m_tape, .int 0, .ref m_five, .int 0, .int 0, .int 0, .int 0, .int 0, .int 0, .int (-1), .ref m_fresh, .int 0, .int 0, .int 0, .int 0, .int 0, .int 0, .ref m_sums, .ref m_pairs, .ref m_goesWith, .ref m_said, .int 0, .int 0, .ref m_firstOrder, .int 0, .ref m_tiredBy, .int 0, .ref m_many, .ref m_width, .ref m_numbers, .ref m_moving])), (m_world, .inl (cA 1, 122, .inl (fun _ => 0))), (m_images, .inl (cA 1, 366, .inl (fun _ => 0))), (m_hasImage, .inl (cA 3, 3, .inl (upd (fun _ => 0) 1 (vp_nar .boolean 1))))] := hD
        generalize ef_20 : (upd (fun _ => 0) 1 (vp_nar .boolean 1)) = f_20 at hP hD
        refine lv_iconst (v := 0) hx hb dX12_image_53 (by decide) ?_
        have hP9 := hP.sub (ws' := []) [] rfl
        have hD9 := hD.sub (ws' := []) [] (by decide) rfl
        exact W.iret (v := 0) hx hb hr (fun t ht hW => ⟨⟨0, ((fun _ => 0), (fun _ => 0), (fun _ _ => 0), (fun _ _ => 0)), rfl, (Or.inl ⟨(by have zi_1 : (1 : Int32).toInt = 1 := (by decide); have zi_122 : (122 : Int32).toInt = 122 := (by decide); have zj_0 : (0 : Int64).toInt = 0 := (by decide); have zj_2 : (2 : Int64).toInt = 2 := (by decide); omega), rfl⟩), by rw [ht]; exact hP9, hD9⟩, hS.F ht⟩) hS.2.2 dX12_image_54
      · skip
        have k_21 := tt_nle c_18
        refine lv_aload_n hx hb dX12_image_23 rfl (lv_at hl 1 rfl) ?_
        refine va_get (D := D) (ci := 12) (v := .ref m_images) (C := RX12) (T := TX12) (N := 35) hx hb hts inX12 hown hKN.1 hP 0 rfl rfl 2 (by decide) (hts _ tw_1421) (fun _ h9 => h9) rfl dX12_image_24 ?_
        refine lv_bipush (v := 122) hx hb dX12_image_27 (by decide) ?_
        refine lv_iload_n hx hb dX12_image_29 rfl (lv_at hl 2 rfl) ?_
        refine lv_imul hx hb dX12_image_30 ?_
        refine lv_topi (fun x_22 ex_22 => ?_)
        obtain rfl : x_22 = 122 := ex_22.trans (by decide)
        refine lv_iload_n hx hb dX12_image_31 rfl (lv_at hl 0 rfl) ?_
        refine lv_iadd hx hb dX12_image_32 ?_
        refine lv_topi (fun x_23 ex_23 => ?_)
        have k_24 := tt_add ex_23 (by have zi_1 : (1 : Int32).toInt = 1 := (by decide); have zi_122 : (122 : Int32).toInt = 122 := (by decide); have zj_0 : (0 : Int64).toInt = 0 := (by decide); have zj_2 : (2 : Int64).toInt = 2 := (by decide); omega) (by have zi_1 : (1 : Int32).toInt = 1 := (by decide); have zi_122 : (122 : Int32).toInt = 122 := (by decide); have zj_0 : (0 : Int64).toInt = 0 := (by decide); have zj_2 : (2 : Int64).toInt = 2 := (by decide); omega)
        refine lv_aload_n hx hb dX12_image_33 rfl (lv_at hl 1 rfl) ?_
        refine va_get (D := D) (ci := 12) (v := .ref m_world) (C := RX12) (T := TX12) (N := 35) hx hb hts inX12 hown hKN.1 hP 0 rfl rfl 1 (by decide) (hts _ tw_1420) (fun _ h9 => h9) rfl dX12_image_34 ?_
        refine lv_iload_n hx hb dX12_image_37 rfl (lv_at hl 0 rfl) ?_
        refine va_iald hx hb hKN.1 hP 1 1 rfl rfl (vp_in_iff.mpr ⟨by have zi_1 : (1 : Int32).toInt = 1 := (by decide); have zi_122 : (122 : Int32).toInt = 122 := (by decide); have zj_0 : (0 : Int64).toInt = 0 := (by decide); have zj_2 : (2 : Int64).toInt = 2 := (by decide); omega, by have zi_1 : (1 : Int32).toInt = 1 := (by decide); have zi_122 : (122 : Int32).toInt = 122 := (by decide); have zj_0 : (0 : Int64).toInt = 0 := (by decide); have zj_2 : (2 : Int64).toInt = 2 := (by decide); omega⟩) dX12_image_38 ?_
        refine lv_topi (fun x_25 ex_25 => ?_)
        obtain rfl : x_25 = 0 := ex_25
        refine va_iast hx hb hKN.1 hP hD hS 2 1 rfl rfl (vp_in_iff.mpr ⟨by have zi_1 : (1 : Int32).toInt = 1 := (by decide); have zi_122 : (122 : Int32).toInt = 122 := (by decide); have zj_0 : (0 : Int64).toInt = 0 := (by decide); have zj_2 : (2 : Int64).toInt = 2 := (by decide); omega, by have zi_1 : (1 : Int32).toInt = 1 := (by decide); have zi_122 : (122 : Int32).toInt = 122 := (by decide); have zj_0 : (0 : Int64).toInt = 0 := (by decide); have zj_2 : (2 : Int64).toInt = 2 := (by decide); omega⟩) dX12_image_39 (fun H locs hP hD hS => ?_)
        have hP : va_P D vwCl [(h0, .inr (12, [.int 0, .ref m_world, .ref m_images, .ref m_hasImage, .ref m_tape, .int 0, .ref m_five, .int 0, .int 0, .int 0, .int 0, .int 0, .int 0, .int (-1), .ref m_fresh, .int 0, .int 0, .int 0, .int 0, .int 0, .int 0, .ref m_sums, .ref m_pairs, .ref m_goesWith, .ref m_said, .int 0, .int 0, .ref m_firstOrder, .int 0, .ref m_tiredBy, .int 0, .ref m_many, .ref m_width, .ref m_numbers, .ref m_moving])), (m_world, .inl (cA 1, 122, .inl (fun _ => 0))), (m_images, .inl (cA 1, 366, .inl (upd (fun _ => 0) x_23.toNatClampNeg 0))), (m_hasImage, .inl (cA 3, 3, .inl (fun _ => 0)))] H := hP
        have hD : va_D A [(h0, .inr (12, [.int 0, .ref m_world, .ref m_images, .ref m_hasImage, .ref m_tape, .int 0, .ref m_five, .int 0, .int 0, .int 0, .int 0, .int 0, .int 0, .int (-1), .ref m_fresh, .int 0, .int 0, .int 0, .int 0, .int 0, .int 0, .ref m_sums, .ref m_pairs, .ref m_goesWith, .ref m_said, .int 0, .int 0, .ref m_firstOrder, .int 0, .ref m_tiredBy, .int 0, .ref m_many, .ref m_width, .ref m_numbers, .ref m_moving])), (m_world, .inl (cA 1, 122, .inl (fun _ => 0))), (m_images, .inl (cA 1, 366, .inl (upd (fun _ => 0) x_23.toNatClampNeg 0))), (m_hasImage, .inl (cA 3, 3, .inl (fun _ => 0)))] := hD
        rw [upd_c] at hP hD
        obtain ⟨x_26, ex_26⟩ : ∃ y : Int32, i2_17 + Int32.ofInt 1 = y := ⟨_, rfl⟩
        have k_27 := tt_add (b := 1) ex_26.symm (by have zi_1 : (1 : Int32).toInt = 1 := (by decide); have zi_122 : (122 : Int32).toInt = 122 := (by decide); have zj_0 : (0 : Int64).toInt = 0 := (by decide); have zj_2 : (2 : Int64).toInt = 2 := (by decide); omega) (by have zi_1 : (1 : Int32).toInt = 1 := (by decide); have zi_122 : (122 : Int32).toInt = 122 := (by decide); have zj_0 : (0 : Int64).toInt = 0 := (by decide); have zj_2 : (2 : Int64).toInt = 2 := (by decide); omega)
        refine lv_iinc (v := x_26) (lv' := [(2, .int x_26), (0, .ref h0), (1, .int 1)]) hx hb dX12_image_40 hl (k := 0) rfl ex_26 (by decide) rfl (fun ls hl => ?_)
        refine lv_goto (tgt := 17) hx hb dX12_image_43 (by decide) ?_
        exact ih (x_26) _ _ _ ⟨(by have zi_1 : (1 : Int32).toInt = 1 := (by decide); have zi_122 : (122 : Int32).toInt = 122 := (by decide); have zj_0 : (0 : Int64).toInt = 0 := (by decide); have zj_2 : (2 : Int64).toInt = 2 := (by decide); omega), (by have zi_1 : (1 : Int32).toInt = 1 := (by decide); have zi_122 : (122 : Int32).toInt = 122 := (by decide); have zj_0 : (0 : Int64).toInt = 0 := (by decide); have zj_2 : (2 : Int64).toInt = 2 := (by decide); omega), hP.sub [0, 1, 2, 3] rfl, hD.sub [0, 1, 2, 3] (by decide) rfl, hS, lv_sub hl [0, 1, 2] rfl⟩ (by show (122 - x_26.toInt).toNat < (122 - i2_17.toInt).toNat; have zi_1 : (1 : Int32).toInt = 1 := (by decide); have zi_122 : (122 : Int32).toInt = 122 := (by decide); have zj_0 : (0 : Int64).toInt = 0 := (by decide); have zj_2 : (2 : Int64).toInt = 2 := (by decide); omega)
    · skip
      refine lv_if_ne (tgt := 15) hx hb dX12_image_9 (by decide) (fun c_28 => ?_) (fun c_28 => absurd c_28 (by decide))
      refine lv_iconst (v := 0) hx hb dX12_image_15 (by decide) ?_
      refine lv_istore_n (lv' := [(2, .int 0), (0, .ref h0), (1, .int 2)]) hx hb dX12_image_16 rfl hl (by decide) rfl (fun ls hl => ?_)
      refine loopW (σ := Int32) (fun _ => []) (fun i2_29 H locs ls => (0 ≤ i2_29.toInt) ∧ (i2_29.toInt ≤ 122) ∧ va_P D vwCl [(h0, .inr (12, [.int 0, .ref m_world, .ref m_images, .ref m_hasImage, .ref m_tape, .int 0, .ref m_five, .int 0, .int 0, .int 0, .int 0, .int 0, .int 0, .int (-1), .ref m_fresh, .int 0, .int 0, .int 0, .int 0, .int 0, .int 0, .ref m_sums, .ref m_pairs, .ref m_goesWith, .ref m_said, .int 0, .int 0, .ref m_firstOrder, .int 0, .ref m_tiredBy, .int 0, .ref m_many, .ref m_width, .ref m_numbers, .ref m_moving])), (m_world, .inl (cA 1, 122, .inl (fun _ => 0))), (m_images, .inl (cA 1, 366, .inl (fun _ => 0))), (m_hasImage, .inl (cA 3, 3, .inl (fun _ => 0)))] H ∧ va_D A [(h0, .inr (12, [.int 0, .ref m_world, .ref m_images, .ref m_hasImage, .ref m_tape, .int 0, .ref m_five, .int 0, .int 0, .int 0, .int 0, .int 0, .int 0, .int (-1), .ref m_fresh, .int 0, .int 0, .int 0, .int 0, .int 0, .int 0, .ref m_sums, .ref m_pairs, .ref m_goesWith, .ref m_said, .int 0, .int 0, .ref m_firstOrder, .int 0, .ref m_tiredBy, .int 0, .ref m_many, .ref m_width, .ref m_numbers, .ref m_moving])), (m_world, .inl (cA 1, 122, .inl (fun _ => 0))), (m_images, .inl (cA 1, 366, .inl (fun _ => 0))), (m_hasImage, .inl (cA 3, 3, .inl (fun _ => 0)))] ∧ va_S A s.heap H locs ∧ lv_has ls 3 [(2, .int i2_29), (0, .ref h0), (1, .int 2)]) (fun i2_29 => (122 - i2_29.toInt).toNat) ?_ (0) ⟨(by have zi_0 : (0 : Int32).toInt = 0 := (by decide); have zi_2 : (2 : Int32).toInt = 2 := (by decide); have zj_0 : (0 : Int64).toInt = 0 := (by decide); have zj_2 : (2 : Int64).toInt = 2 := (by decide); omega), (by have zi_0 : (0 : Int32).toInt = 0 := (by decide); have zi_2 : (2 : Int32).toInt = 2 := (by decide); have zj_0 : (0 : Int64).toInt = 0 := (by decide); have zj_2 : (2 : Int64).toInt = 2 := (by decide); omega), hP, hD, hS, hl⟩
      intro x_29 H locs ls hI ih
      obtain ⟨i2_29, rfl⟩ : ∃ z, z = x_29 := ⟨_, rfl⟩
      obtain ⟨k0_29, k1_29, hP, hD, hS, hl⟩ := hI
      have hP : va_P D vwCl [(h0, .inr (12, [.int 0, .ref m_world, .ref m_images, .ref m_hasImage, .ref m_tape, .int 0, .ref m_five, .int 0, .int 0, .int 0, .int 0, .int 0, .int 0, .int (-1), .ref m_fresh, .int 0, .int 0, .int 0, .int 0, .int 0, .int 0, .ref m_sums, .ref m_pairs, .ref m_goesWith, .ref m_said, .int 0, .int 0, .ref m_firstOrder, .int 0, .ref m_tiredBy, .int 0, .ref m_many, .ref m_width, .ref m_numbers, .ref m_moving])), (m_world, .inl (cA 1, 122, .inl (fun _ => 0))), (m_images, .inl (cA 1, 366, .inl (fun _ => 0))), (m_hasImage, .inl (cA 3, 3, .inl (fun _ => 0)))] H := hP
      have hD : va_D A [(h0, .inr (12, [.int 0, .ref m_world, .ref m_images, .ref m_hasImage, .ref m_tape, .int 0, .ref m_five, .int 0, .int 0, .int 0, .int 0, .int 0, .int 0, .int (-1), .ref m_fresh, .int 0, .int 0, .int 0, .int 0, .int 0, .int 0, .ref m_sums, .ref m_pairs, .ref m_goesWith, .ref m_said, .int 0, .int 0, .ref m_firstOrder, .int 0, .ref m_tiredBy, .int 0, .ref m_many, .ref m_width, .ref m_numbers, .ref m_moving])), (m_world, .inl (cA 1, 122, .inl (fun _ => 0))), (m_images, .inl (cA 1, 366, .inl (fun _ => 0))), (m_hasImage, .inl (cA 3, 3, .inl (fun _ => 0)))] := hD
      have hl : lv_has ls 3 [(2, .int i2_29), (0, .ref h0), (1, .int 2)] := hl
      refine lv_iload_n hx hb dX12_image_17 rfl (lv_at hl 0 rfl) ?_
      refine lv_bipush (v := 122) hx hb dX12_image_18 (by decide) ?_
      refine lv_icmp_ge (tgt := 46) hx hb dX12_image_20 (by decide) (fun c_30 => ?_) (fun c_30 => ?_)
      · skip
        have k_31 := tt_le c_30
        refine lv_aload_n hx hb dX12_image_46 rfl (lv_at hl 1 rfl) ?_
        refine va_get (D := D) (ci := 12) (v := .ref m_hasImage) (C := RX12) (T := TX12) (N := 35) hx hb hts inX12 hown hKN.1 hP 0 rfl rfl 3 (by decide) (hts _ tw_1422) (fun _ h9 => h9) rfl dX12_image_47 ?_
        refine lv_iload_n hx hb dX12_image_50 rfl (lv_at hl 2 rfl) ?_
        refine lv_iconst (v := 1) hx hb dX12_image_51 (by decide) ?_
        refine va_zast hx hb hKN.1 hP hD hS 3 3 rfl rfl (by unfold vp_in; decide) dX12_image_52 (fun H locs hP hD hS => ?_)
        have hP : va_P D vwCl [(h0, .inr (12, [.int 0, .ref m_world, .ref m_images, .ref m_hasImage, .ref m_tape, .int 0, .ref m_five, .int 0, .int 0, .int 0, .int 0, .int 0, .int 0, .int (-1), .ref m_fresh, .int 0, .int 0, .int 0, .int 0, .int 0, .int 0, .ref m_sums, .ref m_pairs, .ref m_goesWith, .ref m_said, .int 0, .int 0, .ref m_firstOrder, .int 0, .ref m_tiredBy, .int 0, .ref m_many, .ref m_width, .ref m_numbers, .ref m_moving])), (m_world, .inl (cA 1, 122, .inl (fun _ => 0))), (m_images, .inl (cA 1, 366, .inl (fun _ => 0))), (m_hasImage, .inl (cA 3, 3, .inl (upd (fun _ => 0) 2 (vp_nar .boolean 1))))] H := hP
        have hD : va_D A [(h0, .inr (12, [.int 0, .ref m_world, .ref m_images, .ref m_hasImage, .ref m_tape, .int 0, .ref m_five, .int 0, .int 0, .int 0, .int 0, .int 0, .int 0, .int (-1), .ref m_fresh, .int 0, .int 0, .int 0, .int 0, .int 0, .int 0, .ref m_sums, .ref m_pairs, .ref m_goesWith, .ref m_said, .int 0, .int 0, .ref m_firstOrder, .int 0, .ref m_tiredBy, .int 0, .ref m_many, .ref m_width, .ref m_numbers, .ref m_moving])), (m_world, .inl (cA 1, 122, .inl (fun _ => 0))), (m_images, .inl (cA 1, 366, .inl (fun _ => 0))), (m_hasImage, .inl (cA 3, 3, .inl (upd (fun _ => 0) 2 (vp_nar .boolean 1))))] := hD
        generalize ef_32 : (upd (fun _ => 0) 2 (vp_nar .boolean 1)) = f_32 at hP hD
        refine lv_iconst (v := 0) hx hb dX12_image_53 (by decide) ?_
        have hP9 := hP.sub (ws' := []) [] rfl
        have hD9 := hD.sub (ws' := []) [] (by decide) rfl
        exact W.iret (v := 0) hx hb hr (fun t ht hW => ⟨⟨0, ((fun _ => 0), (fun _ => 0), (fun _ _ => 0), (fun _ _ => 0)), rfl, (Or.inl ⟨(by have zi_2 : (2 : Int32).toInt = 2 := (by decide); have zi_122 : (122 : Int32).toInt = 122 := (by decide); have zj_0 : (0 : Int64).toInt = 0 := (by decide); have zj_2 : (2 : Int64).toInt = 2 := (by decide); omega), rfl⟩), by rw [ht]; exact hP9, hD9⟩, hS.F ht⟩) hS.2.2 dX12_image_54
      · skip
        have k_33 := tt_nle c_30
        refine lv_aload_n hx hb dX12_image_23 rfl (lv_at hl 1 rfl) ?_
        refine va_get (D := D) (ci := 12) (v := .ref m_images) (C := RX12) (T := TX12) (N := 35) hx hb hts inX12 hown hKN.1 hP 0 rfl rfl 2 (by decide) (hts _ tw_1421) (fun _ h9 => h9) rfl dX12_image_24 ?_
        refine lv_bipush (v := 122) hx hb dX12_image_27 (by decide) ?_
        refine lv_iload_n hx hb dX12_image_29 rfl (lv_at hl 2 rfl) ?_
        refine lv_imul hx hb dX12_image_30 ?_
        refine lv_topi (fun x_34 ex_34 => ?_)
        obtain rfl : x_34 = 244 := ex_34.trans (by decide)
        refine lv_iload_n hx hb dX12_image_31 rfl (lv_at hl 0 rfl) ?_
        refine lv_iadd hx hb dX12_image_32 ?_
        refine lv_topi (fun x_35 ex_35 => ?_)
        have k_36 := tt_add ex_35 (by have zi_2 : (2 : Int32).toInt = 2 := (by decide); have zi_122 : (122 : Int32).toInt = 122 := (by decide); have zi_244 : (244 : Int32).toInt = 244 := (by decide); have zj_0 : (0 : Int64).toInt = 0 := (by decide); have zj_2 : (2 : Int64).toInt = 2 := (by decide); omega) (by have zi_2 : (2 : Int32).toInt = 2 := (by decide); have zi_122 : (122 : Int32).toInt = 122 := (by decide); have zi_244 : (244 : Int32).toInt = 244 := (by decide); have zj_0 : (0 : Int64).toInt = 0 := (by decide); have zj_2 : (2 : Int64).toInt = 2 := (by decide); omega)
        refine lv_aload_n hx hb dX12_image_33 rfl (lv_at hl 1 rfl) ?_
        refine va_get (D := D) (ci := 12) (v := .ref m_world) (C := RX12) (T := TX12) (N := 35) hx hb hts inX12 hown hKN.1 hP 0 rfl rfl 1 (by decide) (hts _ tw_1420) (fun _ h9 => h9) rfl dX12_image_34 ?_
        refine lv_iload_n hx hb dX12_image_37 rfl (lv_at hl 0 rfl) ?_
        refine va_iald hx hb hKN.1 hP 1 1 rfl rfl (vp_in_iff.mpr ⟨by have zi_2 : (2 : Int32).toInt = 2 := (by decide); have zi_122 : (122 : Int32).toInt = 122 := (by decide); have zi_244 : (244 : Int32).toInt = 244 := (by decide); have zj_0 : (0 : Int64).toInt = 0 := (by decide); have zj_2 : (2 : Int64).toInt = 2 := (by decide); omega, by have zi_2 : (2 : Int32).toInt = 2 := (by decide); have zi_122 : (122 : Int32).toInt = 122 := (by decide); have zi_244 : (244 : Int32).toInt = 244 := (by decide); have zj_0 : (0 : Int64).toInt = 0 := (by decide); have zj_2 : (2 : Int64).toInt = 2 := (by decide); omega⟩) dX12_image_38 ?_
        refine lv_topi (fun x_37 ex_37 => ?_)
        obtain rfl : x_37 = 0 := ex_37
        refine va_iast hx hb hKN.1 hP hD hS 2 1 rfl rfl (vp_in_iff.mpr ⟨by have zi_2 : (2 : Int32).toInt = 2 := (by decide); have zi_122 : (122 : Int32).toInt = 122 := (by decide); have zi_244 : (244 : Int32).toInt = 244 := (by decide); have zj_0 : (0 : Int64).toInt = 0 := (by decide); have zj_2 : (2 : Int64).toInt = 2 := (by decide); omega, by have zi_2 : (2 : Int32).toInt = 2 := (by decide); have zi_122 : (122 : Int32).toInt = 122 := (by decide); have zi_244 : (244 : Int32).toInt = 244 := (by decide); have zj_0 : (0 : Int64).toInt = 0 := (by decide); have zj_2 : (2 : Int64).toInt = 2 := (by decide); omega⟩) dX12_image_39 (fun H locs hP hD hS => ?_)
        have hP : va_P D vwCl [(h0, .inr (12, [.int 0, .ref m_world, .ref m_images, .ref m_hasImage, .ref m_tape, .int 0, .ref m_five, .int 0, .int 0, .int 0, .int 0, .int 0, .int 0, .int (-1), .ref m_fresh, .int 0, .int 0, .int 0, .int 0, .int 0, .int 0, .ref m_sums, .ref m_pairs, .ref m_goesWith, .ref m_said, .int 0, .int 0, .ref m_firstOrder, .int 0, .ref m_tiredBy, .int 0, .ref m_many, .ref m_width, .ref m_numbers, .ref m_moving])), (m_world, .inl (cA 1, 122, .inl (fun _ => 0))), (m_images, .inl (cA 1, 366, .inl (upd (fun _ => 0) x_35.toNatClampNeg 0))), (m_hasImage, .inl (cA 3, 3, .inl (fun _ => 0)))] H := hP
        have hD : va_D A [(h0, .inr (12, [.int 0, .ref m_world, .ref m_images, .ref m_hasImage, .ref m_tape, .int 0, .ref m_five, .int 0, .int 0, .int 0, .int 0, .int 0, .int 0, .int (-1), .ref m_fresh, .int 0, .int 0, .int 0, .int 0, .int 0, .int 0, .ref m_sums, .ref m_pairs, .ref m_goesWith, .ref m_said, .int 0, .int 0, .ref m_firstOrder, .int 0, .ref m_tiredBy, .int 0, .ref m_many, .ref m_width, .ref m_numbers, .ref m_moving])), (m_world, .inl (cA 1, 122, .inl (fun _ => 0))), (m_images, .inl (cA 1, 366, .inl (upd (fun _ => 0) x_35.toNatClampNeg 0))), (m_hasImage, .inl (cA 3, 3, .inl (fun _ => 0)))] := hD
        rw [upd_c] at hP hD
        obtain ⟨x_38, ex_38⟩ : ∃ y : Int32, i2_29 + Int32.ofInt 1 = y := ⟨_, rfl⟩
        have k_39 := tt_add (b := 1) ex_38.symm (by have zi_1 : (1 : Int32).toInt = 1 := (by decide); have zi_2 : (2 : Int32).toInt = 2 := (by decide); have zi_122 : (122 : Int32).toInt = 122 := (by decide); have zi_244 : (244 : Int32).toInt = 244 := (by decide); have zj_0 : (0 : Int64).toInt = 0 := (by decide); have zj_2 : (2 : Int64).toInt = 2 := (by decide); omega) (by have zi_1 : (1 : Int32).toInt = 1 := (by decide); have zi_2 : (2 : Int32).toInt = 2 := (by decide); have zi_122 : (122 : Int32).toInt = 122 := (by decide); have zi_244 : (244 : Int32).toInt = 244 := (by decide); have zj_0 : (0 : Int64).toInt = 0 := (by decide); have zj_2 : (2 : Int64).toInt = 2 := (by decide); omega)
        refine lv_iinc (v := x_38) (lv' := [(2, .int x_38), (0, .ref h0), (1, .int 2)]) hx hb dX12_image_40 hl (k := 0) rfl ex_38 (by decide) rfl (fun ls hl => ?_)
        refine lv_goto (tgt := 17) hx hb dX12_image_43 (by decide) ?_
        exact ih (x_38) _ _ _ ⟨(by have zi_1 : (1 : Int32).toInt = 1 := (by decide); have zi_2 : (2 : Int32).toInt = 2 := (by decide); have zi_122 : (122 : Int32).toInt = 122 := (by decide); have zi_244 : (244 : Int32).toInt = 244 := (by decide); have zj_0 : (0 : Int64).toInt = 0 := (by decide); have zj_2 : (2 : Int64).toInt = 2 := (by decide); omega), (by have zi_1 : (1 : Int32).toInt = 1 := (by decide); have zi_2 : (2 : Int32).toInt = 2 := (by decide); have zi_122 : (122 : Int32).toInt = 122 := (by decide); have zi_244 : (244 : Int32).toInt = 244 := (by decide); have zj_0 : (0 : Int64).toInt = 0 := (by decide); have zj_2 : (2 : Int64).toInt = 2 := (by decide); omega), hP.sub [0, 1, 2, 3] rfl, hD.sub [0, 1, 2, 3] (by decide) rfl, hS, lv_sub hl [0, 1, 2] rfl⟩ (by show (122 - x_38.toInt).toNat < (122 - i2_29.toInt).toNat; have zi_1 : (1 : Int32).toInt = 1 := (by decide); have zi_2 : (2 : Int32).toInt = 2 := (by decide); have zi_122 : (122 : Int32).toInt = 122 := (by decide); have zi_244 : (244 : Int32).toInt = 244 := (by decide); have zj_0 : (0 : Int64).toInt = 0 := (by decide); have zj_2 : (2 : Int64).toInt = 2 := (by decide); omega)
  · skip
    refine lv_if_ne (tgt := 15) hx hb dX12_image_9 (by decide) (fun c_40 => absurd (by decide) c_40) (fun c_40 => ?_)
    refine lv_bipush (v := (-2)) hx hb dX12_image_12 (by decide) ?_
    have hP9 := hP.sub (ws' := []) [] rfl
    have hD9 := hD.sub (ws' := []) [] (by decide) rfl
    exact W.iret (v := (-2)) hx hb hr (fun t ht hW => ⟨⟨(-2), ((fun _ => 0), (fun _ => 0), (fun _ _ => 0), (fun _ _ => 0)), rfl, (Or.inr ⟨(by have zj_0 : (0 : Int64).toInt = 0 := (by decide); have zj_2 : (2 : Int64).toInt = 2 := (by decide); omega), rfl⟩), by rw [ht]; exact hP9, hD9⟩, hS.F ht⟩) hS.2.2 dX12_image_14
set_option maxHeartbeats 4000000 in
set_option maxRecDepth 100000 in
theorem k_X12_row (l : Launch) (D : va_G) (cA : Nat → ClassId) (sz : Nat) (h0 : Nat) (m_world : Nat) (m_images : Nat) (m_hasImage : Nat) (m_tape : Nat) (m_five : Nat) (m_fresh : Nat) (m_sums : Nat) (m_pairs : Nat) (m_goesWith : Nat) (m_said : Nat) (m_firstOrder : Nat) (m_tiredBy : Nat) (m_many : Nat) (m_width : Nat) (m_numbers : Nat) (m_moving : Nat) (zf : Nat → Int32) (wf : Nat → Int32) (p0 : Int32) (p1 : Int32) (p2 : Int32) : Met l yX12_row (Cond.code yX12_row cX12_row 5 (some .int) :: TB) (rmd 2 0 0) (PM D cA sz [(h0, .inr (12, [.int 0, .ref m_world, .ref m_images, .ref m_hasImage, .ref m_tape, .int 0, .ref m_five, .int 0, .int 0, .int 0, .int 0, .int 0, .int 0, .int (-1), .ref m_fresh, .int 0, .int 0, .int 0, .int 0, .int 0, .int 0, .ref m_sums, .ref m_pairs, .ref m_goesWith, .ref m_said, .int 0, .int 0, .ref m_firstOrder, .int 0, .ref m_tiredBy, .int 0, .ref m_many, .ref m_width, .ref m_numbers, .ref m_moving])), (m_many, .inl (cA 1, 4, .inl zf)), (m_width, .inl (cA 1, 4, .inl wf)), (m_numbers, .inl (cA 2, 240, .inr (.inl (fun _ => 0))))] [.ref h0, .int p0, .int p1, .int p2]) (va_Qi (fun r (_ : SU) => (0 ≤ (p0 : Int32).toInt ∧ (p0 : Int32).toInt < 4 ∧ 0 ≤ (p1 : Int32).toInt ∧ (p1 : Int32).toInt ≤ 3 ∧ 0 ≤ (p2 : Int32).toInt ∧ (p2 : Int32).toInt ≤ 60) ∧ r = 0 ∨ ((p0 : Int32).toInt < 0 ∨ 4 ≤ (p0 : Int32).toInt ∨ (p1 : Int32).toInt < 0 ∨ 3 < (p1 : Int32).toInt ∨ 60 < (p2 : Int32).toInt) ∧ r = (-2) ∨ (0 ≤ (p0 : Int32).toInt ∧ (p0 : Int32).toInt < 4 ∧ 0 ≤ (p1 : Int32).toInt ∧ (p1 : Int32).toInt ≤ 3 ∧ (p2 : Int32).toInt < 0) ∧ r = (-3)) (fun u t => va_P D vwCl [] t.heap ∧ va_D (va_A [(h0, .inr (12, [.int 0, .ref m_world, .ref m_images, .ref m_hasImage, .ref m_tape, .int 0, .ref m_five, .int 0, .int 0, .int 0, .int 0, .int 0, .int 0, .int (-1), .ref m_fresh, .int 0, .int 0, .int 0, .int 0, .int 0, .int 0, .ref m_sums, .ref m_pairs, .ref m_goesWith, .ref m_said, .int 0, .int 0, .ref m_firstOrder, .int 0, .ref m_tiredBy, .int 0, .ref m_many, .ref m_width, .ref m_numbers, .ref m_moving])), (m_many, .inl (cA 1, 4, .inl zf)), (m_width, .inl (cA 1, 4, .inl wf)), (m_numbers, .inl (cA 2, 240, .inr (.inl (fun _ => 0))))] sz) []) (va_A [(h0, .inr (12, [.int 0, .ref m_world, .ref m_images, .ref m_hasImage, .ref m_tape, .int 0, .ref m_five, .int 0, .int 0, .int 0, .int 0, .int 0, .int 0, .int (-1), .ref m_fresh, .int 0, .int 0, .int 0, .int 0, .int 0, .int 0, .ref m_sums, .ref m_pairs, .ref m_goesWith, .ref m_said, .int 0, .int 0, .ref m_firstOrder, .int 0, .ref m_tiredBy, .int 0, .ref m_many, .ref m_width, .ref m_numbers, .ref m_moving])), (m_many, .inl (cA 1, 4, .inl zf)), (m_width, .inl (cA 1, 4, .inl wf)), (m_numbers, .inl (cA 2, 240, .inr (.inl (fun _ => 0))))] sz)) 0 0 (va_A [(h0, .inr (12, [.int 0, .ref m_world, .ref m_images, .ref m_hasImage, .ref m_tape, .int 0, .ref m_five, .int 0, .int 0, .int 0, .int 0, .int 0, .int 0, .int (-1), .ref m_fresh, .int 0, .int 0, .int 0, .int 0, .int 0, .int 0, .ref m_sums, .ref m_pairs, .ref m_goesWith, .ref m_said, .int 0, .int 0, .ref m_firstOrder, .int 0, .ref m_tiredBy, .int 0, .ref m_many, .ref m_width, .ref m_numbers, .ref m_moving])), (m_many, .inl (cA 1, 4, .inl zf)), (m_width, .inl (cA 1, 4, .inl wf)), (m_numbers, .inl (cA 2, 240, .inr (.inl (fun _ => 0))))] sz) := by
  refine Met.ofW (cc := cX12_row) (maxL := 5) (ret := (some .int)) (by decide) rfl ?_
  intro p e s m args below meth c s₁ B hml hv
  obtain ⟨rfl, hsz, hP, hKN, hD0⟩ := hv
  have hx := B.exec
  have hb := B.bytes
  have hr := B.returns
  have hts : ∀ w ∈ TB, w.before _ s = true := fun w h => atoms_spec B.pre w (List.mem_cons_of_mem _ h)
  have hown : s.vm.findClass RX12 = some m.cls := findClass_of_methodNamed B.named
  have hlocks := B.notSynchronized
  subst hsz
  have hD := hD0.self (sz := s.heap.size)
  generalize hAe : va_A [(h0, .inr (12, [.int 0, .ref m_world, .ref m_images, .ref m_hasImage, .ref m_tape, .int 0, .ref m_five, .int 0, .int 0, .int 0, .int 0, .int 0, .int 0, .int (-1), .ref m_fresh, .int 0, .int 0, .int 0, .int 0, .int 0, .int 0, .ref m_sums, .ref m_pairs, .ref m_goesWith, .ref m_said, .int 0, .int 0, .ref m_firstOrder, .int 0, .ref m_tiredBy, .int 0, .ref m_many, .ref m_width, .ref m_numbers, .ref m_moving])), (m_many, .inl (cA 1, 4, .inl zf)), (m_width, .inl (cA 1, 4, .inl wf)), (m_numbers, .inl (cA 2, 240, .inr (.inl (fun _ => 0))))] s.heap.size = A at hD ⊢
  have hA : ∀ q : Nat, s.heap.size ≤ q → A q := fun q h => by rw [← hAe]; exact Or.inr h
  have hS : va_S A s.heap s.heap [] := va_S.rf
  have hl := lv_entry ([.ref h0, .int p0, .int p1, .int p2]) (n := 5) (Nat.le_of_ble_eq_true rfl)
  rw [lg_entry_eq]
  generalize (lg_sl ([.ref h0, .int p0, .int p1, .int p2]) ++ List.replicate (5 - (lg_sl ([.ref h0, .int p0, .int p1, .int p2])).length) Slot.unset).toArray = ls at hl ⊢
  have hl : lv_has ls 5 [(0, .ref h0), (1, .int p0), (2, .int p1), (3, .int p2)] := hl
  refine lv_iload_n hx hb dX12_row_0 rfl (lv_at hl 1 rfl) ?_
  refine cpSi (rest := []) ⟨hx, hb, hml, hown, hts⟩ hKN (hP.sub (ws' := []) [] rfl) (k_X12_isSlot l D cA p0) (tb_S tw_1846 tw_1847 tw_114 tw_1848) hdX12_isSlot ⟨rfl, rfl, Nat.le_of_ble_eq_true rfl, Nat.le_of_ble_eq_true rfl⟩ ⟨Nat.le_of_ble_eq_true rfl, Nat.le_of_ble_eq_true rfl⟩ rfl hl.1 rfl (Nat.le_of_ble_eq_true rfl) dX12_row_1 (fun r_1 hr_1 => ?_)
  rcases hr_1 with ⟨k_1_0, rfl⟩ | ⟨k_1_1, rfl⟩
  · skip
    refine lv_if_eq (tgt := 25) hx hb dX12_row_4 (by decide) (fun c_2 => absurd c_2 (by decide)) (fun c_2 => ?_)
    refine lv_iload_n hx hb dX12_row_7 rfl (lv_at hl 2 rfl) ?_
    obtain ⟨x_3, ex_3⟩ : ∃ y, p1.toInt64 = y := ⟨_, rfl⟩
    refine lv_i2l (v := x_3) hx hb dX12_row_8 ex_3 ?_
    have k_4 := tt_i2l ex_3
    refine lv_lconst (v := 0) hx hb dX12_row_9 (by decide) ?_
    refine lv_ldc2 (v := 3) hx hb hown (hts _ tw_1849) dX12_row_10 ?_
    refine cpSi (rest := []) ⟨hx, hb, hml, hown, hts⟩ hKN (hP.sub (ws' := []) [] rfl) (k_X12_in l D cA x_3 0 3) (tb_S tw_1530 tw_1531 tw_114 tw_1532) hdX12_in ⟨rfl, rfl, Nat.le_of_ble_eq_true rfl, Nat.le_of_ble_eq_true rfl⟩ ⟨Nat.le_of_ble_eq_true rfl, Nat.le_of_ble_eq_true rfl⟩ rfl hl.1 rfl (Nat.le_of_ble_eq_true rfl) dX12_row_13 (fun r_5 hr_5 => ?_)
    rcases hr_5 with ⟨k_5_0, rfl⟩ | ⟨k_5_1, rfl⟩
    · skip
      refine lv_if_eq (tgt := 25) hx hb dX12_row_16 (by decide) (fun c_6 => absurd c_6 (by decide)) (fun c_6 => ?_)
      refine lv_iload_n hx hb dX12_row_19 rfl (lv_at hl 3 rfl) ?_
      refine lv_bipush (v := 60) hx hb dX12_row_20 (by decide) ?_
      refine lv_icmp_le (tgt := 28) hx hb dX12_row_22 (by decide) (fun c_7 => ?_) (fun c_7 => ?_)
      · skip
        have k_8 := tt_le c_7
        refine lv_iload_n hx hb dX12_row_28 rfl (lv_at hl 3 rfl) ?_
        refine lv_if_ge (tgt := 35) hx hb dX12_row_29 (by decide) (fun c_9 => ?_) (fun c_9 => ?_)
        · skip
          have k_10 := tt_le c_9
          refine lv_aload_n hx hb dX12_row_35 rfl (lv_at hl 0 rfl) ?_
          refine va_get (D := D) (ci := 12) (v := .ref m_many) (C := RX12) (T := TX12) (N := 35) hx hb hts inX12 hown hKN.1 hP 0 rfl rfl 31 (by decide) (hts _ tw_1450) (fun _ h9 => h9) rfl dX12_row_36 ?_
          refine lv_iload_n hx hb dX12_row_39 rfl (lv_at hl 1 rfl) ?_
          refine lv_iload_n hx hb dX12_row_40 rfl (lv_at hl 3 rfl) ?_
          refine va_iast hx hb hKN.1 hP hD hS 1 1 rfl rfl (vp_in_iff.mpr ⟨by have zi_0 : (0 : Int32).toInt = 0 := (by decide); have zi_60 : (60 : Int32).toInt = 60 := (by decide); have zj_0 : (0 : Int64).toInt = 0 := (by decide); have zj_3 : (3 : Int64).toInt = 3 := (by decide); omega, by have zi_0 : (0 : Int32).toInt = 0 := (by decide); have zi_60 : (60 : Int32).toInt = 60 := (by decide); have zj_0 : (0 : Int64).toInt = 0 := (by decide); have zj_3 : (3 : Int64).toInt = 3 := (by decide); omega⟩) dX12_row_41 (fun H locs hP hD hS => ?_)
          have hP : va_P D vwCl [(h0, .inr (12, [.int 0, .ref m_world, .ref m_images, .ref m_hasImage, .ref m_tape, .int 0, .ref m_five, .int 0, .int 0, .int 0, .int 0, .int 0, .int 0, .int (-1), .ref m_fresh, .int 0, .int 0, .int 0, .int 0, .int 0, .int 0, .ref m_sums, .ref m_pairs, .ref m_goesWith, .ref m_said, .int 0, .int 0, .ref m_firstOrder, .int 0, .ref m_tiredBy, .int 0, .ref m_many, .ref m_width, .ref m_numbers, .ref m_moving])), (m_many, .inl (cA 1, 4, .inl (upd zf p0.toNatClampNeg p2))), (m_width, .inl (cA 1, 4, .inl wf)), (m_numbers, .inl (cA 2, 240, .inr (.inl (fun _ => 0))))] H := hP
          have hD : va_D A [(h0, .inr (12, [.int 0, .ref m_world, .ref m_images, .ref m_hasImage, .ref m_tape, .int 0, .ref m_five, .int 0, .int 0, .int 0, .int 0, .int 0, .int 0, .int (-1), .ref m_fresh, .int 0, .int 0, .int 0, .int 0, .int 0, .int 0, .ref m_sums, .ref m_pairs, .ref m_goesWith, .ref m_said, .int 0, .int 0, .ref m_firstOrder, .int 0, .ref m_tiredBy, .int 0, .ref m_many, .ref m_width, .ref m_numbers, .ref m_moving])), (m_many, .inl (cA 1, 4, .inl (upd zf p0.toNatClampNeg p2))), (m_width, .inl (cA 1, 4, .inl wf)), (m_numbers, .inl (cA 2, 240, .inr (.inl (fun _ => 0))))] := hD
          generalize ef_11 : (upd zf p0.toNatClampNeg p2) = f_11 at hP hD
          refine lv_aload_n hx hb dX12_row_42 rfl (lv_at hl 0 rfl) ?_
          refine va_get (D := D) (ci := 12) (v := .ref m_width) (C := RX12) (T := TX12) (N := 35) hx hb hts inX12 hown hKN.1 hP 0 rfl rfl 32 (by decide) (hts _ tw_1451) (fun _ h9 => h9) rfl dX12_row_43 ?_
          refine lv_iload_n hx hb dX12_row_46 rfl (lv_at hl 1 rfl) ?_
          refine lv_iload_n hx hb dX12_row_47 rfl (lv_at hl 2 rfl) ?_
          refine va_iast hx hb hKN.1 hP hD hS 2 1 rfl rfl (vp_in_iff.mpr ⟨by have zi_0 : (0 : Int32).toInt = 0 := (by decide); have zi_60 : (60 : Int32).toInt = 60 := (by decide); have zj_0 : (0 : Int64).toInt = 0 := (by decide); have zj_3 : (3 : Int64).toInt = 3 := (by decide); omega, by have zi_0 : (0 : Int32).toInt = 0 := (by decide); have zi_60 : (60 : Int32).toInt = 60 := (by decide); have zj_0 : (0 : Int64).toInt = 0 := (by decide); have zj_3 : (3 : Int64).toInt = 3 := (by decide); omega⟩) dX12_row_48 (fun H locs hP hD hS => ?_)
          have hP : va_P D vwCl [(h0, .inr (12, [.int 0, .ref m_world, .ref m_images, .ref m_hasImage, .ref m_tape, .int 0, .ref m_five, .int 0, .int 0, .int 0, .int 0, .int 0, .int 0, .int (-1), .ref m_fresh, .int 0, .int 0, .int 0, .int 0, .int 0, .int 0, .ref m_sums, .ref m_pairs, .ref m_goesWith, .ref m_said, .int 0, .int 0, .ref m_firstOrder, .int 0, .ref m_tiredBy, .int 0, .ref m_many, .ref m_width, .ref m_numbers, .ref m_moving])), (m_many, .inl (cA 1, 4, .inl f_11)), (m_width, .inl (cA 1, 4, .inl (upd wf p0.toNatClampNeg p1))), (m_numbers, .inl (cA 2, 240, .inr (.inl (fun _ => 0))))] H := hP
          have hD : va_D A [(h0, .inr (12, [.int 0, .ref m_world, .ref m_images, .ref m_hasImage, .ref m_tape, .int 0, .ref m_five, .int 0, .int 0, .int 0, .int 0, .int 0, .int 0, .int (-1), .ref m_fresh, .int 0, .int 0, .int 0, .int 0, .int 0, .int 0, .ref m_sums, .ref m_pairs, .ref m_goesWith, .ref m_said, .int 0, .int 0, .ref m_firstOrder, .int 0, .ref m_tiredBy, .int 0, .ref m_many, .ref m_width, .ref m_numbers, .ref m_moving])), (m_many, .inl (cA 1, 4, .inl f_11)), (m_width, .inl (cA 1, 4, .inl (upd wf p0.toNatClampNeg p1))), (m_numbers, .inl (cA 2, 240, .inr (.inl (fun _ => 0))))] := hD
          generalize ef_12 : (upd wf p0.toNatClampNeg p1) = f_12 at hP hD
          refine lv_iconst (v := 0) hx hb dX12_row_49 (by decide) ?_
          refine lv_istore (lv' := [(4, .int 0), (0, .ref h0), (1, .int p0), (2, .int p1), (3, .int p2)]) hx hb dX12_row_50 hl (by decide) rfl (fun ls hl => ?_)
          refine loopW (σ := Int32) (fun _ => []) (fun i4_13 H locs ls => (0 ≤ i4_13.toInt) ∧ (i4_13.toInt ≤ 60) ∧ va_P D vwCl [(h0, .inr (12, [.int 0, .ref m_world, .ref m_images, .ref m_hasImage, .ref m_tape, .int 0, .ref m_five, .int 0, .int 0, .int 0, .int 0, .int 0, .int 0, .int (-1), .ref m_fresh, .int 0, .int 0, .int 0, .int 0, .int 0, .int 0, .ref m_sums, .ref m_pairs, .ref m_goesWith, .ref m_said, .int 0, .int 0, .ref m_firstOrder, .int 0, .ref m_tiredBy, .int 0, .ref m_many, .ref m_width, .ref m_numbers, .ref m_moving])), (m_many, .inl (cA 1, 4, .inl f_11)), (m_width, .inl (cA 1, 4, .inl f_12)), (m_numbers, .inl (cA 2, 240, .inr (.inl (fun _ => 0))))] H ∧ va_D A [(h0, .inr (12, [.int 0, .ref m_world, .ref m_images, .ref m_hasImage, .ref m_tape, .int 0, .ref m_five, .int 0, .int 0, .int 0, .int 0, .int 0, .int 0, .int (-1), .ref m_fresh, .int 0, .int 0, .int 0, .int 0, .int 0, .int 0, .ref m_sums, .ref m_pairs, .ref m_goesWith, .ref m_said, .int 0, .int 0, .ref m_firstOrder, .int 0, .ref m_tiredBy, .int 0, .ref m_many, .ref m_width, .ref m_numbers, .ref m_moving])), (m_many, .inl (cA 1, 4, .inl f_11)), (m_width, .inl (cA 1, 4, .inl f_12)), (m_numbers, .inl (cA 2, 240, .inr (.inl (fun _ => 0))))] ∧ va_S A s.heap H locs ∧ lv_has ls 5 [(4, .int i4_13), (0, .ref h0), (1, .int p0), (2, .int p1), (3, .int p2)]) (fun i4_13 => (60 - i4_13.toInt).toNat) ?_ (0) ⟨(by have zi_0 : (0 : Int32).toInt = 0 := (by decide); have zi_60 : (60 : Int32).toInt = 60 := (by decide); have zj_0 : (0 : Int64).toInt = 0 := (by decide); have zj_3 : (3 : Int64).toInt = 3 := (by decide); omega), (by have zi_0 : (0 : Int32).toInt = 0 := (by decide); have zi_60 : (60 : Int32).toInt = 60 := (by decide); have zj_0 : (0 : Int64).toInt = 0 := (by decide); have zj_3 : (3 : Int64).toInt = 3 := (by decide); omega), hP, hD, hS, hl⟩
          intro x_13 H locs ls hI ih
          obtain ⟨i4_13, rfl⟩ : ∃ z, z = x_13 := ⟨_, rfl⟩
          obtain ⟨k0_13, k1_13, hP, hD, hS, hl⟩ := hI
          have hP : va_P D vwCl [(h0, .inr (12, [.int 0, .ref m_world, .ref m_images, .ref m_hasImage, .ref m_tape, .int 0, .ref m_five, .int 0, .int 0, .int 0, .int 0, .int 0, .int 0, .int (-1), .ref m_fresh, .int 0, .int 0, .int 0, .int 0, .int 0, .int 0, .ref m_sums, .ref m_pairs, .ref m_goesWith, .ref m_said, .int 0, .int 0, .ref m_firstOrder, .int 0, .ref m_tiredBy, .int 0, .ref m_many, .ref m_width, .ref m_numbers, .ref m_moving])), (m_many, .inl (cA 1, 4, .inl f_11)), (m_width, .inl (cA 1, 4, .inl f_12)), (m_numbers, .inl (cA 2, 240, .inr (.inl (fun _ => 0))))] H := hP
          have hD : va_D A [(h0, .inr (12, [.int 0, .ref m_world, .ref m_images, .ref m_hasImage, .ref m_tape, .int 0, .ref m_five, .int 0, .int 0, .int 0, .int 0, .int 0, .int 0, .int (-1), .ref m_fresh, .int 0, .int 0, .int 0, .int 0, .int 0, .int 0, .ref m_sums, .ref m_pairs, .ref m_goesWith, .ref m_said, .int 0, .int 0, .ref m_firstOrder, .int 0, .ref m_tiredBy, .int 0, .ref m_many, .ref m_width, .ref m_numbers, .ref m_moving])), (m_many, .inl (cA 1, 4, .inl f_11)), (m_width, .inl (cA 1, 4, .inl f_12)), (m_numbers, .inl (cA 2, 240, .inr (.inl (fun _ => 0))))] := hD
          have hl : lv_has ls 5 [(4, .int i4_13), (0, .ref h0), (1, .int p0), (2, .int p1), (3, .int p2)] := hl
          refine lv_iload hx hb dX12_row_52 (lv_at hl 0 rfl) ?_
          refine lv_bipush (v := 60) hx hb dX12_row_54 (by decide) ?_
          refine lv_icmp_ge (tgt := 78) hx hb dX12_row_56 (by decide) (fun c_14 => ?_) (fun c_14 => ?_)
          · skip
            have k_15 := tt_le c_14
            refine lv_iconst (v := 0) hx hb dX12_row_78 (by decide) ?_
            have hP9 := hP.sub (ws' := []) [] rfl
            have hD9 := hD.sub (ws' := []) [] (by decide) rfl
            exact W.iret (v := 0) hx hb hr (fun t ht hW => ⟨⟨0, ((fun _ => 0), (fun _ => 0), (fun _ _ => 0), (fun _ _ => 0)), rfl, (Or.inl ⟨(by have zi_0 : (0 : Int32).toInt = 0 := (by decide); have zi_60 : (60 : Int32).toInt = 60 := (by decide); have zj_0 : (0 : Int64).toInt = 0 := (by decide); have zj_3 : (3 : Int64).toInt = 3 := (by decide); omega), rfl⟩), by rw [ht]; exact hP9, hD9⟩, hS.F ht⟩) hS.2.2 dX12_row_79
          · skip
            have k_16 := tt_nle c_14
            refine lv_aload_n hx hb dX12_row_59 rfl (lv_at hl 1 rfl) ?_
            refine va_get (D := D) (ci := 12) (v := .ref m_numbers) (C := RX12) (T := TX12) (N := 35) hx hb hts inX12 hown hKN.1 hP 0 rfl rfl 33 (by decide) (hts _ tw_1452) (fun _ h9 => h9) rfl dX12_row_60 ?_
            refine lv_bipush (v := 60) hx hb dX12_row_63 (by decide) ?_
            refine lv_iload_n hx hb dX12_row_65 rfl (lv_at hl 2 rfl) ?_
            refine lv_imul hx hb dX12_row_66 ?_
            refine lv_topi (fun x_17 ex_17 => ?_)
            have k_18 := tt_mulL (k := 60) ex_17 (by decide) (by have zi_0 : (0 : Int32).toInt = 0 := (by decide); have zi_60 : (60 : Int32).toInt = 60 := (by decide); have zj_0 : (0 : Int64).toInt = 0 := (by decide); have zj_3 : (3 : Int64).toInt = 3 := (by decide); omega) (by have zi_0 : (0 : Int32).toInt = 0 := (by decide); have zi_60 : (60 : Int32).toInt = 60 := (by decide); have zj_0 : (0 : Int64).toInt = 0 := (by decide); have zj_3 : (3 : Int64).toInt = 3 := (by decide); omega)
            refine lv_iload hx hb dX12_row_67 (lv_at hl 0 rfl) ?_
            refine lv_iadd hx hb dX12_row_69 ?_
            refine lv_topi (fun x_19 ex_19 => ?_)
            have k_20 := tt_add ex_19 (by have zi_0 : (0 : Int32).toInt = 0 := (by decide); have zi_60 : (60 : Int32).toInt = 60 := (by decide); have zj_0 : (0 : Int64).toInt = 0 := (by decide); have zj_3 : (3 : Int64).toInt = 3 := (by decide); omega) (by have zi_0 : (0 : Int32).toInt = 0 := (by decide); have zi_60 : (60 : Int32).toInt = 60 := (by decide); have zj_0 : (0 : Int64).toInt = 0 := (by decide); have zj_3 : (3 : Int64).toInt = 3 := (by decide); omega)
            refine lv_lconst (v := 0) hx hb dX12_row_70 (by decide) ?_
            refine va_last hx hb hKN.1 hP hD hS 3 2 rfl rfl (vp_in_iff.mpr ⟨by have zi_0 : (0 : Int32).toInt = 0 := (by decide); have zi_60 : (60 : Int32).toInt = 60 := (by decide); have zj_0 : (0 : Int64).toInt = 0 := (by decide); have zj_3 : (3 : Int64).toInt = 3 := (by decide); omega, by have zi_0 : (0 : Int32).toInt = 0 := (by decide); have zi_60 : (60 : Int32).toInt = 60 := (by decide); have zj_0 : (0 : Int64).toInt = 0 := (by decide); have zj_3 : (3 : Int64).toInt = 3 := (by decide); omega⟩) dX12_row_71 (fun H locs hP hD hS => ?_)
            have hP : va_P D vwCl [(h0, .inr (12, [.int 0, .ref m_world, .ref m_images, .ref m_hasImage, .ref m_tape, .int 0, .ref m_five, .int 0, .int 0, .int 0, .int 0, .int 0, .int 0, .int (-1), .ref m_fresh, .int 0, .int 0, .int 0, .int 0, .int 0, .int 0, .ref m_sums, .ref m_pairs, .ref m_goesWith, .ref m_said, .int 0, .int 0, .ref m_firstOrder, .int 0, .ref m_tiredBy, .int 0, .ref m_many, .ref m_width, .ref m_numbers, .ref m_moving])), (m_many, .inl (cA 1, 4, .inl f_11)), (m_width, .inl (cA 1, 4, .inl f_12)), (m_numbers, .inl (cA 2, 240, .inr (.inl (vp_updL (fun _ => 0) x_19.toNatClampNeg 0))))] H := hP
            have hD : va_D A [(h0, .inr (12, [.int 0, .ref m_world, .ref m_images, .ref m_hasImage, .ref m_tape, .int 0, .ref m_five, .int 0, .int 0, .int 0, .int 0, .int 0, .int 0, .int (-1), .ref m_fresh, .int 0, .int 0, .int 0, .int 0, .int 0, .int 0, .ref m_sums, .ref m_pairs, .ref m_goesWith, .ref m_said, .int 0, .int 0, .ref m_firstOrder, .int 0, .ref m_tiredBy, .int 0, .ref m_many, .ref m_width, .ref m_numbers, .ref m_moving])), (m_many, .inl (cA 1, 4, .inl f_11)), (m_width, .inl (cA 1, 4, .inl f_12)), (m_numbers, .inl (cA 2, 240, .inr (.inl (vp_updL (fun _ => 0) x_19.toNatClampNeg 0))))] := hD
            rw [updL_c] at hP hD
            obtain ⟨x_21, ex_21⟩ : ∃ y : Int32, i4_13 + Int32.ofInt 1 = y := ⟨_, rfl⟩
            have k_22 := tt_add (b := 1) ex_21.symm (by have zi_0 : (0 : Int32).toInt = 0 := (by decide); have zi_1 : (1 : Int32).toInt = 1 := (by decide); have zi_60 : (60 : Int32).toInt = 60 := (by decide); have zj_0 : (0 : Int64).toInt = 0 := (by decide); have zj_3 : (3 : Int64).toInt = 3 := (by decide); omega) (by have zi_0 : (0 : Int32).toInt = 0 := (by decide); have zi_1 : (1 : Int32).toInt = 1 := (by decide); have zi_60 : (60 : Int32).toInt = 60 := (by decide); have zj_0 : (0 : Int64).toInt = 0 := (by decide); have zj_3 : (3 : Int64).toInt = 3 := (by decide); omega)
            refine lv_iinc (v := x_21) (lv' := [(4, .int x_21), (0, .ref h0), (1, .int p0), (2, .int p1), (3, .int p2)]) hx hb dX12_row_72 hl (k := 0) rfl ex_21 (by decide) rfl (fun ls hl => ?_)
            refine lv_goto (tgt := 52) hx hb dX12_row_75 (by decide) ?_
            exact ih (x_21) _ _ _ ⟨(by have zi_0 : (0 : Int32).toInt = 0 := (by decide); have zi_1 : (1 : Int32).toInt = 1 := (by decide); have zi_60 : (60 : Int32).toInt = 60 := (by decide); have zj_0 : (0 : Int64).toInt = 0 := (by decide); have zj_3 : (3 : Int64).toInt = 3 := (by decide); omega), (by have zi_0 : (0 : Int32).toInt = 0 := (by decide); have zi_1 : (1 : Int32).toInt = 1 := (by decide); have zi_60 : (60 : Int32).toInt = 60 := (by decide); have zj_0 : (0 : Int64).toInt = 0 := (by decide); have zj_3 : (3 : Int64).toInt = 3 := (by decide); omega), hP.sub [0, 1, 2, 3] rfl, hD.sub [0, 1, 2, 3] (by decide) rfl, hS, lv_sub hl [0, 1, 2, 3, 4] rfl⟩ (by show (60 - x_21.toInt).toNat < (60 - i4_13.toInt).toNat; have zi_0 : (0 : Int32).toInt = 0 := (by decide); have zi_1 : (1 : Int32).toInt = 1 := (by decide); have zi_60 : (60 : Int32).toInt = 60 := (by decide); have zj_0 : (0 : Int64).toInt = 0 := (by decide); have zj_3 : (3 : Int64).toInt = 3 := (by decide); omega)
        · skip
          have k_23 := tt_nle c_9
          refine lv_bipush (v := (-3)) hx hb dX12_row_32 (by decide) ?_
          have hP9 := hP.sub (ws' := []) [] rfl
          have hD9 := hD.sub (ws' := []) [] (by decide) rfl
          exact W.iret (v := (-3)) hx hb hr (fun t ht hW => ⟨⟨(-3), ((fun _ => 0), (fun _ => 0), (fun _ _ => 0), (fun _ _ => 0)), rfl, (Or.inr (Or.inr ⟨(by have zi_0 : (0 : Int32).toInt = 0 := (by decide); have zi_60 : (60 : Int32).toInt = 60 := (by decide); have zj_0 : (0 : Int64).toInt = 0 := (by decide); have zj_3 : (3 : Int64).toInt = 3 := (by decide); omega), rfl⟩)), by rw [ht]; exact hP9, hD9⟩, hS.F ht⟩) hS.2.2 dX12_row_34
      · skip
        have k_24 := tt_nle c_7
        refine lv_bipush (v := (-2)) hx hb dX12_row_25 (by decide) ?_
        have hP9 := hP.sub (ws' := []) [] rfl
        have hD9 := hD.sub (ws' := []) [] (by decide) rfl
        exact W.iret (v := (-2)) hx hb hr (fun t ht hW => ⟨⟨(-2), ((fun _ => 0), (fun _ => 0), (fun _ _ => 0), (fun _ _ => 0)), rfl, (Or.inr (Or.inl ⟨(by have zi_60 : (60 : Int32).toInt = 60 := (by decide); have zj_0 : (0 : Int64).toInt = 0 := (by decide); have zj_3 : (3 : Int64).toInt = 3 := (by decide); omega), rfl⟩)), by rw [ht]; exact hP9, hD9⟩, hS.F ht⟩) hS.2.2 dX12_row_27
    · skip
      refine lv_if_eq (tgt := 25) hx hb dX12_row_16 (by decide) (fun c_25 => ?_) (fun c_25 => absurd (by decide) c_25)
      refine lv_bipush (v := (-2)) hx hb dX12_row_25 (by decide) ?_
      have hP9 := hP.sub (ws' := []) [] rfl
      have hD9 := hD.sub (ws' := []) [] (by decide) rfl
      exact W.iret (v := (-2)) hx hb hr (fun t ht hW => ⟨⟨(-2), ((fun _ => 0), (fun _ => 0), (fun _ _ => 0), (fun _ _ => 0)), rfl, (Or.inr (Or.inl ⟨(by have zj_0 : (0 : Int64).toInt = 0 := (by decide); have zj_3 : (3 : Int64).toInt = 3 := (by decide); omega), rfl⟩)), by rw [ht]; exact hP9, hD9⟩, hS.F ht⟩) hS.2.2 dX12_row_27
  · skip
    refine lv_if_eq (tgt := 25) hx hb dX12_row_4 (by decide) (fun c_26 => ?_) (fun c_26 => absurd (by decide) c_26)
    refine lv_bipush (v := (-2)) hx hb dX12_row_25 (by decide) ?_
    have hP9 := hP.sub (ws' := []) [] rfl
    have hD9 := hD.sub (ws' := []) [] (by decide) rfl
    exact W.iret (v := (-2)) hx hb hr (fun t ht hW => ⟨⟨(-2), ((fun _ => 0), (fun _ => 0), (fun _ _ => 0), (fun _ _ => 0)), rfl, (Or.inr (Or.inl ⟨(by omega), rfl⟩)), by rw [ht]; exact hP9, hD9⟩, hS.F ht⟩) hS.2.2 dX12_row_27

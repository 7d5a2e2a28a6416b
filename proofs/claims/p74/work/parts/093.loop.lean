set_option maxHeartbeats 16000000 in
set_option maxRecDepth 100000 in
theorem lawLoop {p : Program} {e : Env} {s : State} {m : MethodId} {below : List Frame} {meth : Method} {c : Code} (l : Launch) {b L : Nat} {xs : Nat → Int32} (hL : L ≤ 3072) (C0 : lw_At p s m meth c b L xs) {D : va_G} {cA : Nat → ClassId} (hKN : KN D cA s) {κ : KT} {A : Nat → Prop} (hA : ∀ q : Nat, s.heap.size ≤ q → A q) (hA2 : ∀ q : Nat, A q → s.heap.size ≤ q) (hbA : ¬ A b) (hKC : KC κ A s s.heap) {H : Heap} {locs : List Loc} {ls : Array Slot} {qx qm : Nat} (y : Int32 × SU × SU) (hI : LI D cA A s b qx qm y H locs ls) : W p l e room_1 s m #[Value.ref b] below meth c H locs 104 9712 (lw_Z below #[Value.ref b] s) (F0 m 18 ls []) := by
  refine loopW (σ := Int32 × SU × SU) (fun _ => []) (LI D cA A s b qx qm) (fun y => (3078 - y.1.toInt).toNat) ?_ y hI
  clear hI y
  intro y H locs ls hI ih
  obtain ⟨i0, u, v⟩ := y
  obtain ⟨hi, hI, hR, hP, hD, hS, hl⟩ := hI
  have hi : 0 ≤ i0.toInt ∧ i0.toInt ≤ 3078 := hi
  have hl : lv_has ls 4 [(3, .int i0), (2, .ref qm), (1, .ref qx), (0, .ref b)] := hl
  obtain ⟨hx, hb, hr, hml, hown, hts0, hX, hbl, hlocks, hgv⟩ := id C0
  have hb : c.code = cL_law := hb
  refine lv_iload_n hx hb dL_law_18 rfl (lv_at hl 0 rfl) ?_
  refine lv_aload_n hx hb dL_law_19 rfl (lv_at hl 3 rfl) ?_
  refine va_slen hx hb hX hbl hbA hS dL_law_20 ?_
  refine lv_bipush (v := 6) hx hb dL_law_21 (by decide) ?_
  refine lv_isub hx hb dL_law_23 ?_
  have kL : (Int32.ofNat L - 6).toInt = (L : Int) - 6 := ar_sub (nI_toInt (n := L) (by omega)) (by decide : (6 : Int32).toInt = 6) rfl (by omega) (by omega)
  refine lv_icmp_gt (tgt := 2275) hx hb dL_law_24 (by decide) (fun _ => ?_) (fun c1 => ?_)
  · refine lv_iconst (v := 1) hx hb dL_law_2275 (by decide) ?_
    refine va_forget (fun q h => hA2 _ (hS.2.2 q h)) ?_
    refine W.widen (k := 600000) (n := 7302250) (by decide) (by decide) ?_
    exact lw_ret hx hb hr hlocks dL_law_2276
  have hi2 : 0 ≤ i0.toInt ∧ i0.toInt + 6 ≤ (L : Int) := by rw [Int32.lt_iff_toInt_lt, kL] at c1; omega
  refine lv_aload_n hx hb dL_law_27 rfl (lv_at hl 3 rfl) ?_
  refine lv_iload_n hx hb dL_law_28 rfl (lv_at hl 0 rfl) ?_
  refine va_sld hx hb hX hbl hbA hS (L := L) (vp_in_iff.mpr ⟨by omega, by omega⟩) dL_law_29 ?_
  refine lv_bipush (v := 127) hx hb dL_law_30 (by decide) ?_
  refine lv_iand hx hb dL_law_32 ?_
  refine lv_topi (fun x9 ex9 => ?_)
  obtain ⟨j, hj, ej⟩ := pk_andE (xs i0.toNatClampNeg) (m := 127) 7 (by decide)
  have ej : x9 = nI j := ex9.trans ej
  clear ex9
  match j, hj, ej with
  | 0, _, ej =>
    obtain rfl : x9 = 0 := ej
    exact lv_tableIn (tgt := 340) hx hb dL_law_33 (by decide) (by decide) rfl (by decide) (lc_0 l hL C0 hKN hA hbA hKC hi2 u v hI hR hP hD hS hl ih)
  | 1, _, ej =>
    obtain rfl : x9 = 1 := ej
    exact lv_tableIn (tgt := 403) hx hb dL_law_33 (by decide) (by decide) rfl (by decide) (lc_1 l hL C0 hKN hA hbA hKC hi2 u v hI hR hP hD hS hl ih)
  | 2, _, ej =>
    obtain rfl : x9 = 2 := ej
    exact lv_tableIn (tgt := 426) hx hb dL_law_33 (by decide) (by decide) rfl (by decide) (lc_2 l hL C0 hKN hA hbA hKC hi2 u v hI hR hP hD hS hl ih)
  | 3, _, ej =>
    obtain rfl : x9 = 3 := ej
    exact lv_tableIn (tgt := 439) hx hb dL_law_33 (by decide) (by decide) rfl (by decide) (lc_3 l hL C0 hKN hA hbA hKC hi2 u v hI hR hP hD hS hl ih)
  | 4, _, ej =>
    obtain rfl : x9 = 4 := ej
    exact lv_tableIn (tgt := 462) hx hb dL_law_33 (by decide) (by decide) rfl (by decide) (lc_4 l hL C0 hKN hA hbA hKC hi2 u v hI hR hP hD hS hl ih)
  | 5, _, ej =>
    obtain rfl : x9 = 5 := ej
    exact lv_tableIn (tgt := 495) hx hb dL_law_33 (by decide) (by decide) rfl (by decide) (lc_5 l hL C0 hKN hA hbA hKC hi2 u v hI hR hP hD hS hl ih)
  | 6, _, ej =>
    obtain rfl : x9 = 6 := ej
    exact lv_tableIn (tgt := 528) hx hb dL_law_33 (by decide) (by decide) rfl (by decide) (lc_6 l hL C0 hKN hA hbA hKC hi2 u v hI hR hP hD hS hl ih)
  | 7, _, ej =>
    obtain rfl : x9 = 7 := ej
    exact lv_tableIn (tgt := 551) hx hb dL_law_33 (by decide) (by decide) rfl (by decide) (lc_7 l hL C0 hKN hA hbA hKC hi2 u v hI hR hP hD hS hl ih)
  | 8, _, ej =>
    obtain rfl : x9 = 8 := ej
    exact lv_tableIn (tgt := 584) hx hb dL_law_33 (by decide) (by decide) rfl (by decide) (lc_8 l hL C0 hKN hA hbA hKC hi2 u v hI hR hP hD hS hl ih)
  | 9, _, ej =>
    obtain rfl : x9 = 9 := ej
    exact lv_tableIn (tgt := 607) hx hb dL_law_33 (by decide) (by decide) rfl (by decide) (lc_9 l hL C0 hKN hA hbA hKC hi2 u v hI hR hP hD hS hl ih)
  | 10, _, ej =>
    obtain rfl : x9 = 10 := ej
    exact lv_tableIn (tgt := 630) hx hb dL_law_33 (by decide) (by decide) rfl (by decide) (lc_10 l hL C0 hKN hA hbA hKC hi2 u v hI hR hP hD hS hl ih)
  | 11, _, ej =>
    obtain rfl : x9 = 11 := ej
    exact lv_tableIn (tgt := 643) hx hb dL_law_33 (by decide) (by decide) rfl (by decide) (lc_11 l hL C0 hKN hA hbA hKC hi2 u v hI hR hP hD hS hl ih)
  | 12, _, ej =>
    obtain rfl : x9 = 12 := ej
    exact lv_tableIn (tgt := 656) hx hb dL_law_33 (by decide) (by decide) rfl (by decide) (lc_12 l hL C0 hKN hA hbA hKC hi2 u v hI hR hP hD hS hl ih)
  | 13, _, ej =>
    obtain rfl : x9 = 13 := ej
    exact lv_tableIn (tgt := 669) hx hb dL_law_33 (by decide) (by decide) rfl (by decide) (lc_13 l hL C0 hKN hA hbA hKC hi2 u v hI hR hP hD hS hl ih)
  | 14, _, ej =>
    obtain rfl : x9 = 14 := ej
    exact lv_tableIn (tgt := 692) hx hb dL_law_33 (by decide) (by decide) rfl (by decide) (lc_14 l hL C0 hKN hA hbA hKC hi2 u v hI hR hP hD hS hl ih)
  | 15, _, ej =>
    obtain rfl : x9 = 15 := ej
    exact lv_tableIn (tgt := 705) hx hb dL_law_33 (by decide) (by decide) rfl (by decide) (lc_15 l hL C0 hKN hA hbA hKC hi2 u v hI hR hP hD hS hl ih)
  | 16, _, ej =>
    obtain rfl : x9 = 16 := ej
    exact lv_tableIn (tgt := 728) hx hb dL_law_33 (by decide) (by decide) rfl (by decide) (lc_16 l hL C0 hKN hA hbA hKC hi2 u v hI hR hP hD hS hl ih)
  | 17, _, ej =>
    obtain rfl : x9 = 17 := ej
    exact lv_tableIn (tgt := 751) hx hb dL_law_33 (by decide) (by decide) rfl (by decide) (lc_17 l hL C0 hKN hA hbA hKC hi2 u v hI hR hP hD hS hl ih)
  | 18, _, ej =>
    obtain rfl : x9 = 18 := ej
    exact lv_tableIn (tgt := 784) hx hb dL_law_33 (by decide) (by decide) rfl (by decide) (lc_18 l hL C0 hKN hA hbA hKC hi2 u v hI hR hP hD hS hl ih)
  | 19, _, ej =>
    obtain rfl : x9 = 19 := ej
    exact lv_tableIn (tgt := 797) hx hb dL_law_33 (by decide) (by decide) rfl (by decide) (lc_19 l hL C0 hKN hA hbA hKC hi2 u v hI hR hP hD hS hl ih)
  | 20, _, ej =>
    obtain rfl : x9 = 20 := ej
    exact lv_tableIn (tgt := 820) hx hb dL_law_33 (by decide) (by decide) rfl (by decide) (lc_20 l hL C0 hKN hA hbA hKC hi2 u v hI hR hP hD hS hl ih)
  | 21, _, ej =>
    obtain rfl : x9 = 21 := ej
    exact lv_tableIn (tgt := 843) hx hb dL_law_33 (by decide) (by decide) rfl (by decide) (lc_21 l hL C0 hKN hA hbA hKC hi2 u v hI hR hP hD hS hl ih)
  | 22, _, ej =>
    obtain rfl : x9 = 22 := ej
    exact lv_tableIn (tgt := 866) hx hb dL_law_33 (by decide) (by decide) rfl (by decide) (lc_22 l hL C0 hKN hA hbA hKC hi2 u v hI hR hP hD hS hl ih)
  | 23, _, ej =>
    obtain rfl : x9 = 23 := ej
    exact lv_tableIn (tgt := 879) hx hb dL_law_33 (by decide) (by decide) rfl (by decide) (lc_23 l hL C0 hKN hA hbA hKC hi2 u v hI hR hP hD hS hl ih)
  | 24, _, ej =>
    obtain rfl : x9 = 24 := ej
    exact lv_tableIn (tgt := 902) hx hb dL_law_33 (by decide) (by decide) rfl (by decide) (lc_24 l hL C0 hKN hA hbA hKC hi2 u v hI hR hP hD hS hl ih)
  | 25, _, ej =>
    obtain rfl : x9 = 25 := ej
    exact lv_tableIn (tgt := 915) hx hb dL_law_33 (by decide) (by decide) rfl (by decide) (lc_25 l hL C0 hKN hA hbA hKC hi2 u v hI hR hP hD hS hl ih)
  | 26, _, ej =>
    obtain rfl : x9 = 26 := ej
    exact lv_tableIn (tgt := 928) hx hb dL_law_33 (by decide) (by decide) rfl (by decide) (lc_26 l hL C0 hKN hA hbA hKC hi2 u v hI hR hP hD hS hl ih)
  | 27, _, ej =>
    obtain rfl : x9 = 27 := ej
    exact lv_tableIn (tgt := 971) hx hb dL_law_33 (by decide) (by decide) rfl (by decide) (lc_27 l hL C0 hKN hA hbA hKC hi2 u v hI hR hP hD hS hl ih)
  | 28, _, ej =>
    obtain rfl : x9 = 28 := ej
    exact lv_tableIn (tgt := 1004) hx hb dL_law_33 (by decide) (by decide) rfl (by decide) (lc_28 l hL C0 hKN hA hbA hKC hi2 u v hI hR hP hD hS hl ih)
  | 29, _, ej =>
    obtain rfl : x9 = 29 := ej
    exact lv_tableIn (tgt := 1037) hx hb dL_law_33 (by decide) (by decide) rfl (by decide) (lc_29 l hL C0 hKN hA hbA hKC hi2 u v hI hR hP hD hS hl ih)
  | 30, _, ej =>
    obtain rfl : x9 = 30 := ej
    exact lv_tableIn (tgt := 1070) hx hb dL_law_33 (by decide) (by decide) rfl (by decide) (lc_30 l hL C0 hKN hA hbA hKC hi2 u v hI hR hP hD hS hl ih)
  | 31, _, ej =>
    obtain rfl : x9 = 31 := ej
    exact lv_tableIn (tgt := 1093) hx hb dL_law_33 (by decide) (by decide) rfl (by decide) (lc_31 l hL C0 hKN hA hbA hKC hi2 u v hI hR hP hD hS hl ih)
  | 32, _, ej =>
    obtain rfl : x9 = 32 := ej
    exact lv_tableIn (tgt := 1126) hx hb dL_law_33 (by decide) (by decide) rfl (by decide) (lc_32 l hL C0 hKN hA hbA hKC hi2 u v hI hR hP hD hS hl ih)
  | 33, _, ej =>
    obtain rfl : x9 = 33 := ej
    exact lv_tableIn (tgt := 1149) hx hb dL_law_33 (by decide) (by decide) rfl (by decide) (lc_33 l hL C0 hKN hA hbA hKC hi2 u v hI hR hP hD hS hl ih)
  | 34, _, ej =>
    obtain rfl : x9 = 34 := ej
    exact lv_tableIn (tgt := 1172) hx hb dL_law_33 (by decide) (by decide) rfl (by decide) (lc_34 l hL C0 hKN hA hbA hKC hi2 u v hI hR hP hD hS hl ih)
  | 35, _, ej =>
    obtain rfl : x9 = 35 := ej
    exact lv_tableIn (tgt := 1195) hx hb dL_law_33 (by decide) (by decide) rfl (by decide) (lc_35 l hL C0 hKN hA hbA hKC hi2 u v hI hR hP hD hS hl ih)
  | 36, _, ej =>
    obtain rfl : x9 = 36 := ej
    exact lv_tableIn (tgt := 1218) hx hb dL_law_33 (by decide) (by decide) rfl (by decide) (lc_36 l hL C0 hKN hA hbA hKC hi2 u v hI hR hP hD hS hl ih)
  | 37, _, ej =>
    obtain rfl : x9 = 37 := ej
    exact lv_tableIn (tgt := 1241) hx hb dL_law_33 (by decide) (by decide) rfl (by decide) (lc_37 l hL C0 hKN hA hbA hKC hi2 u v hI hR hP hD hS hl ih)
  | 38, _, ej =>
    obtain rfl : x9 = 38 := ej
    exact lv_tableIn (tgt := 1264) hx hb dL_law_33 (by decide) (by decide) rfl (by decide) (lc_38 l hL C0 hKN hA hbA hKC hi2 u v hI hR hP hD hS hl ih)
  | 39, _, ej =>
    obtain rfl : x9 = 39 := ej
    exact lv_tableIn (tgt := 1297) hx hb dL_law_33 (by decide) (by decide) rfl (by decide) (lc_39 l hL C0 hKN hA hbA hKC hi2 u v hI hR hP hD hS hl ih)
  | 40, _, ej =>
    obtain rfl : x9 = 40 := ej
    exact lv_tableIn (tgt := 1310) hx hb dL_law_33 (by decide) (by decide) rfl (by decide) (lc_40 l hL C0 hKN hA hbA hKC hi2 u v hI hR hP hD hS hl ih)
  | 41, _, ej =>
    obtain rfl : x9 = 41 := ej
    exact lv_tableIn (tgt := 1323) hx hb dL_law_33 (by decide) (by decide) rfl (by decide) (lc_41 l hL C0 hKN hA hbA hKC hi2 u v hI hR hP hD hS hl ih)
  | 42, _, ej =>
    obtain rfl : x9 = 42 := ej
    exact lv_tableIn (tgt := 1336) hx hb dL_law_33 (by decide) (by decide) rfl (by decide) (lc_42 l hL C0 hKN hA hbA hKC hi2 u v hI hR hP hD hS hl ih)
  | 43, _, ej =>
    obtain rfl : x9 = 43 := ej
    exact lv_tableIn (tgt := 1359) hx hb dL_law_33 (by decide) (by decide) rfl (by decide) (lc_43 l hL C0 hKN hA hbA hKC hi2 u v hI hR hP hD hS hl ih)
  | 44, _, ej =>
    obtain rfl : x9 = 44 := ej
    exact lv_tableIn (tgt := 1382) hx hb dL_law_33 (by decide) (by decide) rfl (by decide) (lc_44 l hL C0 hKN hA hbA hKC hi2 u v hI hR hP hD hS hl ih)
  | 45, _, ej =>
    obtain rfl : x9 = 45 := ej
    exact lv_tableIn (tgt := 1405) hx hb dL_law_33 (by decide) (by decide) rfl (by decide) (lc_45 l hL C0 hKN hA hbA hKC hi2 u v hI hR hP hD hS hl ih)
  | 46, _, ej =>
    obtain rfl : x9 = 46 := ej
    exact lv_tableIn (tgt := 1418) hx hb dL_law_33 (by decide) (by decide) rfl (by decide) (lc_46 l hL C0 hKN hA hbA hKC hi2 u v hI hR hP hD hS hl ih)
  | 47, _, ej =>
    obtain rfl : x9 = 47 := ej
    exact lv_tableIn (tgt := 1431) hx hb dL_law_33 (by decide) (by decide) rfl (by decide) (lc_47 l hL C0 hKN hA hbA hKC hi2 u v hI hR hP hD hS hl ih)
  | 48, _, ej =>
    obtain rfl : x9 = 48 := ej
    exact lv_tableIn (tgt := 1444) hx hb dL_law_33 (by decide) (by decide) rfl (by decide) (lc_48 l hL C0 hKN hA hbA hKC hi2 u v hI hR hP hD hS hl ih)
  | 49, _, ej =>
    obtain rfl : x9 = 49 := ej
    exact lv_tableIn (tgt := 1477) hx hb dL_law_33 (by decide) (by decide) rfl (by decide) (lc_49 l hL C0 hKN hA hbA hKC hi2 u v hI hR hP hD hS hl ih)
  | 50, _, ej =>
    obtain rfl : x9 = 50 := ej
    exact lv_tableIn (tgt := 1490) hx hb dL_law_33 (by decide) (by decide) rfl (by decide) (lc_50 l hL C0 hKN hA hbA hKC hi2 u v hI hR hP hD hS hl ih)
  | 51, _, ej =>
    obtain rfl : x9 = 51 := ej
    exact lv_tableIn (tgt := 1513) hx hb dL_law_33 (by decide) (by decide) rfl (by decide) (lc_51 l hL C0 hKN hA hbA hKC hi2 u v hI hR hP hD hS hl ih)
  | 52, _, ej =>
    obtain rfl : x9 = 52 := ej
    exact lv_tableIn (tgt := 1536) hx hb dL_law_33 (by decide) (by decide) rfl (by decide) (lc_52 l hL C0 hKN hA hbA hKC hi2 u v hI hR hP hD hS hl ih)
  | 53, _, ej =>
    obtain rfl : x9 = 53 := ej
    exact lv_tableIn (tgt := 1569) hx hb dL_law_33 (by decide) (by decide) rfl (by decide) (lc_53 l hL C0 hKN hA hbA hKC hi2 u v hI hR hP hD hS hl ih)
  | 54, _, ej =>
    obtain rfl : x9 = 54 := ej
    exact lv_tableIn (tgt := 1592) hx hb dL_law_33 (by decide) (by decide) rfl (by decide) (lc_54 l hL C0 hKN hA hbA hKC hi2 u v hI hR hP hD hS hl ih)
  | 55, _, ej =>
    obtain rfl : x9 = 55 := ej
    exact lv_tableIn (tgt := 1645) hx hb dL_law_33 (by decide) (by decide) rfl (by decide) (lc_55 l hL C0 hKN hA hbA hKC hi2 u v hI hR hP hD hS hl ih)
  | 56, _, ej =>
    obtain rfl : x9 = 56 := ej
    exact lv_tableIn (tgt := 1688) hx hb dL_law_33 (by decide) (by decide) rfl (by decide) (lc_56 l hL C0 hKN hA hbA hKC hi2 u v hI hR hP hD hS hl ih)
  | 57, _, ej =>
    obtain rfl : x9 = 57 := ej
    exact lv_tableIn (tgt := 1731) hx hb dL_law_33 (by decide) (by decide) rfl (by decide) (lc_57 l hL C0 hKN hA hbA hKC hi2 u v hI hR hP hD hS hl ih)
  | 58, _, ej =>
    obtain rfl : x9 = 58 := ej
    exact lv_tableIn (tgt := 1764) hx hb dL_law_33 (by decide) (by decide) rfl (by decide) (lc_58 l hL C0 hKN hA hbA hKC hi2 u v hI hR hP hD hS hl ih)
  | 59, _, ej =>
    obtain rfl : x9 = 59 := ej
    exact lv_tableIn (tgt := 1797) hx hb dL_law_33 (by decide) (by decide) rfl (by decide) (lc_59 l hL C0 hKN hA hbA hKC hi2 u v hI hR hP hD hS hl ih)
  | 60, _, ej =>
    obtain rfl : x9 = 60 := ej
    exact lv_tableIn (tgt := 1820) hx hb dL_law_33 (by decide) (by decide) rfl (by decide) (lc_60 l hL C0 hKN hA hbA hKC hi2 u v hI hR hP hD hS hl ih)
  | 61, _, ej =>
    obtain rfl : x9 = 61 := ej
    exact lv_tableIn (tgt := 1833) hx hb dL_law_33 (by decide) (by decide) rfl (by decide) (lc_61 l hL C0 hKN hA hbA hKC hi2 u v hI hR hP hD hS hl ih)
  | 62, _, ej =>
    obtain rfl : x9 = 62 := ej
    exact lv_tableIn (tgt := 1856) hx hb dL_law_33 (by decide) (by decide) rfl (by decide) (lc_62 l hL C0 hKN hA hbA hKC hi2 u v hI hR hP hD hS hl ih)
  | 63, _, ej =>
    obtain rfl : x9 = 63 := ej
    exact lv_tableIn (tgt := 1869) hx hb dL_law_33 (by decide) (by decide) rfl (by decide) (lc_63 l hL C0 hKN hA hbA hKC hi2 u v hI hR hP hD hS hl ih)
  | 64, _, ej =>
    obtain rfl : x9 = 64 := ej
    exact lv_tableIn (tgt := 1882) hx hb dL_law_33 (by decide) (by decide) rfl (by decide) (lc_64 l hL C0 hKN hA hbA hKC hi2 u v hI hR hP hD hS hl ih)
  | 65, _, ej =>
    obtain rfl : x9 = 65 := ej
    exact lv_tableIn (tgt := 1925) hx hb dL_law_33 (by decide) (by decide) rfl (by decide) (lc_65 l hL C0 hKN hA hbA hKC hi2 u v hI hR hP hD hS hl ih)
  | 66, _, ej =>
    obtain rfl : x9 = 66 := ej
    exact lv_tableIn (tgt := 1988) hx hb dL_law_33 (by decide) (by decide) rfl (by decide) (lc_66 l hL C0 hKN hA hbA hKC hi2 u v hI hR hP hD hS hl ih)
  | 67, _, ej =>
    obtain rfl : x9 = 67 := ej
    exact lv_tableIn (tgt := 2021) hx hb dL_law_33 (by decide) (by decide) rfl (by decide) (lc_67 l hL C0 hKN hA hbA hKC hi2 u v hI hR hP hD hS hl ih)
  | 68, _, ej =>
    obtain rfl : x9 = 68 := ej
    exact lv_tableIn (tgt := 2044) hx hb dL_law_33 (by decide) (by decide) rfl (by decide) (lc_68 l hL C0 hKN hA hbA hKC hi2 u v hI hR hP hD hS hl ih)
  | 69, _, ej =>
    obtain rfl : x9 = 69 := ej
    exact lv_tableIn (tgt := 2067) hx hb dL_law_33 (by decide) (by decide) rfl (by decide) (lc_69 l hL C0 hKN hA hbA hKC hi2 u v hI hR hP hD hS hl ih)
  | 70, _, ej =>
    obtain rfl : x9 = 70 := ej
    exact lv_tableIn (tgt := 2090) hx hb dL_law_33 (by decide) (by decide) rfl (by decide) (lc_70 l hL C0 hKN hA hbA hKC hi2 u v hI hR hP hD hS hl ih)
  | 71, _, ej =>
    obtain rfl : x9 = 71 := ej
    exact lv_tableIn (tgt := 2133) hx hb dL_law_33 (by decide) (by decide) rfl (by decide) (lc_71 l hL C0 hKN hA hbA hKC hi2 u v hI hR hP hD hS hl ih)
  | 72, _, ej =>
    obtain rfl : x9 = 72 := ej
    exact lv_tableIn (tgt := 2206) hx hb dL_law_33 (by decide) (by decide) rfl (by decide) (lc_72 l hL C0 hKN hA hbA hKC hi2 u v hI hR hP hD hS hl ih)
  | k + 73, hj, ej =>
    have hk : x9.toInt = ((k + 73 : Nat) : Int) := by rw [ej]; exact nI_toInt (by omega)
    refine lv_tableOut (tgt := 2269) hx hb dL_law_33 (Or.inr (by omega)) (by decide) ?_
    exact lcEnd l hL C0 hi2 u v hI hR hP hD hS hl ih

set_option maxHeartbeats 4000000 in
set_option maxRecDepth 100000 in
theorem ktab_0 {args : Array Value} {s : State} (hts0 : ∀ w ∈ lw_tbl, w.before args s = true) (hs : ∀ c ∈ flatC (Jvm.Cond.and given_1 narrow_1), c.before args s = true) : ∃ t : Nat, va_Z RX6 "AMOUNTS" "[I" (.ref t) (fun q : Nat => s.heap.size ≤ q) s s.heap ∧ va_T .int t 5 (fun j => .int (amo j)) (fun q : Nat => s.heap.size ≤ q) s s.heap :=
  ktab (by decide) (hts0 _ (List.mem_of_getElem? (i := 635) (by decide +kernel))) (hts0 _ (List.mem_of_getElem? (i := 103) (by decide +kernel))) (hs _ (List.mem_of_getElem? (i := 10) (by decide +kernel))) (hs _ (List.mem_of_getElem? (i := 11) (by decide +kernel))) (fun j hj => match j, hj with
    | 0, _ => hs _ (List.mem_of_getElem? (i := 12) (by decide +kernel))
    | 1, _ => hs _ (List.mem_of_getElem? (i := 13) (by decide +kernel))
    | 2, _ => hs _ (List.mem_of_getElem? (i := 14) (by decide +kernel))
    | 3, _ => hs _ (List.mem_of_getElem? (i := 15) (by decide +kernel))
    | 4, _ => hs _ (List.mem_of_getElem? (i := 16) (by decide +kernel))
    | j + 5, hj => absurd hj (by omega)) (fun a h => Nat.not_le.mpr h)
set_option maxHeartbeats 4000000 in
set_option maxRecDepth 100000 in
theorem ktab_1 {args : Array Value} {s : State} (hts0 : ∀ w ∈ lw_tbl, w.before args s = true) (hs : ∀ c ∈ flatC (Jvm.Cond.and given_1 narrow_1), c.before args s = true) : ∃ t : Nat, va_Z RX6 "LOWS" "[I" (.ref t) (fun q : Nat => s.heap.size ≤ q) s s.heap ∧ va_T .int t 15 (fun j => .int (lws j)) (fun q : Nat => s.heap.size ≤ q) s s.heap :=
  ktab (by decide) (hts0 _ (List.mem_of_getElem? (i := 676) (by decide +kernel))) (hts0 _ (List.mem_of_getElem? (i := 103) (by decide +kernel))) (hs _ (List.mem_of_getElem? (i := 18) (by decide +kernel))) (hs _ (List.mem_of_getElem? (i := 19) (by decide +kernel))) (fun j hj => match j, hj with
    | 0, _ => hs _ (List.mem_of_getElem? (i := 20) (by decide +kernel))
    | 1, _ => hs _ (List.mem_of_getElem? (i := 21) (by decide +kernel))
    | 2, _ => hs _ (List.mem_of_getElem? (i := 22) (by decide +kernel))
    | 3, _ => hs _ (List.mem_of_getElem? (i := 23) (by decide +kernel))
    | 4, _ => hs _ (List.mem_of_getElem? (i := 24) (by decide +kernel))
    | 5, _ => hs _ (List.mem_of_getElem? (i := 25) (by decide +kernel))
    | 6, _ => hs _ (List.mem_of_getElem? (i := 26) (by decide +kernel))
    | 7, _ => hs _ (List.mem_of_getElem? (i := 27) (by decide +kernel))
    | 8, _ => hs _ (List.mem_of_getElem? (i := 28) (by decide +kernel))
    | 9, _ => hs _ (List.mem_of_getElem? (i := 29) (by decide +kernel))
    | 10, _ => hs _ (List.mem_of_getElem? (i := 30) (by decide +kernel))
    | 11, _ => hs _ (List.mem_of_getElem? (i := 31) (by decide +kernel))
    | 12, _ => hs _ (List.mem_of_getElem? (i := 32) (by decide +kernel))
    | 13, _ => hs _ (List.mem_of_getElem? (i := 33) (by decide +kernel))
    | 14, _ => hs _ (List.mem_of_getElem? (i := 34) (by decide +kernel))
    | j + 15, hj => absurd hj (by omega)) (fun a h => Nat.not_le.mpr h)
set_option maxHeartbeats 4000000 in
set_option maxRecDepth 100000 in
theorem ktab_2 {args : Array Value} {s : State} (hts0 : ∀ w ∈ lw_tbl, w.before args s = true) (hs : ∀ c ∈ flatC (Jvm.Cond.and given_1 narrow_1), c.before args s = true) : ∃ t : Nat, va_Z RX6 "HIGHS" "[I" (.ref t) (fun q : Nat => s.heap.size ≤ q) s s.heap ∧ va_T .int t 15 (fun j => .int (hgs j)) (fun q : Nat => s.heap.size ≤ q) s s.heap :=
  ktab (by decide) (hts0 _ (List.mem_of_getElem? (i := 678) (by decide +kernel))) (hts0 _ (List.mem_of_getElem? (i := 103) (by decide +kernel))) (hs _ (List.mem_of_getElem? (i := 36) (by decide +kernel))) (hs _ (List.mem_of_getElem? (i := 37) (by decide +kernel))) (fun j hj => match j, hj with
    | 0, _ => hs _ (List.mem_of_getElem? (i := 38) (by decide +kernel))
    | 1, _ => hs _ (List.mem_of_getElem? (i := 39) (by decide +kernel))
    | 2, _ => hs _ (List.mem_of_getElem? (i := 40) (by decide +kernel))
    | 3, _ => hs _ (List.mem_of_getElem? (i := 41) (by decide +kernel))
    | 4, _ => hs _ (List.mem_of_getElem? (i := 42) (by decide +kernel))
    | 5, _ => hs _ (List.mem_of_getElem? (i := 43) (by decide +kernel))
    | 6, _ => hs _ (List.mem_of_getElem? (i := 44) (by decide +kernel))
    | 7, _ => hs _ (List.mem_of_getElem? (i := 45) (by decide +kernel))
    | 8, _ => hs _ (List.mem_of_getElem? (i := 46) (by decide +kernel))
    | 9, _ => hs _ (List.mem_of_getElem? (i := 47) (by decide +kernel))
    | 10, _ => hs _ (List.mem_of_getElem? (i := 48) (by decide +kernel))
    | 11, _ => hs _ (List.mem_of_getElem? (i := 49) (by decide +kernel))
    | 12, _ => hs _ (List.mem_of_getElem? (i := 50) (by decide +kernel))
    | 13, _ => hs _ (List.mem_of_getElem? (i := 51) (by decide +kernel))
    | 14, _ => hs _ (List.mem_of_getElem? (i := 52) (by decide +kernel))
    | j + 15, hj => absurd hj (by omega)) (fun a h => Nat.not_le.mpr h)
set_option maxHeartbeats 4000000 in
set_option maxRecDepth 100000 in
theorem kst_0 {args : Array Value} {s : State} (hts0 : ∀ w ∈ lw_tbl, w.before args s = true) (hs : ∀ c ∈ flatC (Jvm.Cond.and given_1 narrow_1), c.before args s = true) : ∃ q : Nat × Nat, (Term.string RX6 171).eval args s none [] s = some (.ref q.1) ∧ va_O "java/lang/String" q.1 (fun q : Nat => s.heap.size ≤ q) s s.heap ∧ va_OF "java/lang/String" "coder" "B" (.int 0) q.1 (fun q : Nat => s.heap.size ≤ q) s s.heap ∧ va_OF "java/lang/String" "value" "[B" (.ref q.2) q.1 (fun q : Nat => s.heap.size ≤ q) s s.heap ∧ va_T .byte q.2 (LEN 0) (fun j => .int (BYT 0 j)) (fun q : Nat => s.heap.size ≤ q) s s.heap :=
  kstr (by decide) (hs _ (List.mem_of_getElem? (i := 53) (by decide +kernel))) (hs _ (List.mem_of_getElem? (i := 54) (by decide +kernel))) (hs _ (List.mem_of_getElem? (i := 55) (by decide +kernel))) (hs _ (List.mem_of_getElem? (i := 56) (by decide +kernel))) (fun j hj => match j, hj with
    | 0, _ => hs _ (List.mem_of_getElem? (i := 57) (by decide +kernel))
    | 1, _ => hs _ (List.mem_of_getElem? (i := 58) (by decide +kernel))
    | 2, _ => hs _ (List.mem_of_getElem? (i := 59) (by decide +kernel))
    | 3, _ => hs _ (List.mem_of_getElem? (i := 60) (by decide +kernel))
    | 4, _ => hs _ (List.mem_of_getElem? (i := 61) (by decide +kernel))
    | j + 5, hj => absurd hj (by have h9 : LEN 0 = 5 := (by decide); omega)) (fun a h => Nat.not_le.mpr h)
set_option maxHeartbeats 4000000 in
set_option maxRecDepth 100000 in
theorem kst_1 {args : Array Value} {s : State} (hts0 : ∀ w ∈ lw_tbl, w.before args s = true) (hs : ∀ c ∈ flatC (Jvm.Cond.and given_1 narrow_1), c.before args s = true) : ∃ q : Nat × Nat, (Term.string RX6 173).eval args s none [] s = some (.ref q.1) ∧ va_O "java/lang/String" q.1 (fun q : Nat => s.heap.size ≤ q) s s.heap ∧ va_OF "java/lang/String" "coder" "B" (.int 0) q.1 (fun q : Nat => s.heap.size ≤ q) s s.heap ∧ va_OF "java/lang/String" "value" "[B" (.ref q.2) q.1 (fun q : Nat => s.heap.size ≤ q) s s.heap ∧ va_T .byte q.2 (LEN 1) (fun j => .int (BYT 1 j)) (fun q : Nat => s.heap.size ≤ q) s s.heap :=
  kstr (by decide) (hs _ (List.mem_of_getElem? (i := 62) (by decide +kernel))) (hs _ (List.mem_of_getElem? (i := 63) (by decide +kernel))) (hs _ (List.mem_of_getElem? (i := 64) (by decide +kernel))) (hs _ (List.mem_of_getElem? (i := 65) (by decide +kernel))) (fun j hj => match j, hj with
    | 0, _ => hs _ (List.mem_of_getElem? (i := 66) (by decide +kernel))
    | 1, _ => hs _ (List.mem_of_getElem? (i := 67) (by decide +kernel))
    | 2, _ => hs _ (List.mem_of_getElem? (i := 68) (by decide +kernel))
    | j + 3, hj => absurd hj (by have h9 : LEN 1 = 3 := (by decide); omega)) (fun a h => Nat.not_le.mpr h)
set_option maxHeartbeats 4000000 in
set_option maxRecDepth 100000 in
theorem kst_2 {args : Array Value} {s : State} (hts0 : ∀ w ∈ lw_tbl, w.before args s = true) (hs : ∀ c ∈ flatC (Jvm.Cond.and given_1 narrow_1), c.before args s = true) : ∃ q : Nat × Nat, (Term.string RX6 175).eval args s none [] s = some (.ref q.1) ∧ va_O "java/lang/String" q.1 (fun q : Nat => s.heap.size ≤ q) s s.heap ∧ va_OF "java/lang/String" "coder" "B" (.int 0) q.1 (fun q : Nat => s.heap.size ≤ q) s s.heap ∧ va_OF "java/lang/String" "value" "[B" (.ref q.2) q.1 (fun q : Nat => s.heap.size ≤ q) s s.heap ∧ va_T .byte q.2 (LEN 2) (fun j => .int (BYT 2 j)) (fun q : Nat => s.heap.size ≤ q) s s.heap :=
  kstr (by decide) (hs _ (List.mem_of_getElem? (i := 69) (by decide +kernel))) (hs _ (List.mem_of_getElem? (i := 70) (by decide +kernel))) (hs _ (List.mem_of_getElem? (i := 71) (by decide +kernel))) (hs _ (List.mem_of_getElem? (i := 72) (by decide +kernel))) (fun j hj => match j, hj with
    | 0, _ => hs _ (List.mem_of_getElem? (i := 73) (by decide +kernel))
    | 1, _ => hs _ (List.mem_of_getElem? (i := 74) (by decide +kernel))
    | 2, _ => hs _ (List.mem_of_getElem? (i := 75) (by decide +kernel))
    | 3, _ => hs _ (List.mem_of_getElem? (i := 76) (by decide +kernel))
    | 4, _ => hs _ (List.mem_of_getElem? (i := 77) (by decide +kernel))
    | 5, _ => hs _ (List.mem_of_getElem? (i := 78) (by decide +kernel))
    | j + 6, hj => absurd hj (by have h9 : LEN 2 = 6 := (by decide); omega)) (fun a h => Nat.not_le.mpr h)
set_option maxHeartbeats 4000000 in
set_option maxRecDepth 100000 in
theorem kst_3 {args : Array Value} {s : State} (hts0 : ∀ w ∈ lw_tbl, w.before args s = true) (hs : ∀ c ∈ flatC (Jvm.Cond.and given_1 narrow_1), c.before args s = true) : ∃ q : Nat × Nat, (Term.string RX6 177).eval args s none [] s = some (.ref q.1) ∧ va_O "java/lang/String" q.1 (fun q : Nat => s.heap.size ≤ q) s s.heap ∧ va_OF "java/lang/String" "coder" "B" (.int 0) q.1 (fun q : Nat => s.heap.size ≤ q) s s.heap ∧ va_OF "java/lang/String" "value" "[B" (.ref q.2) q.1 (fun q : Nat => s.heap.size ≤ q) s s.heap ∧ va_T .byte q.2 (LEN 3) (fun j => .int (BYT 3 j)) (fun q : Nat => s.heap.size ≤ q) s s.heap :=
  kstr (by decide) (hs _ (List.mem_of_getElem? (i := 79) (by decide +kernel))) (hs _ (List.mem_of_getElem? (i := 80) (by decide +kernel))) (hs _ (List.mem_of_getElem? (i := 81) (by decide +kernel))) (hs _ (List.mem_of_getElem? (i := 82) (by decide +kernel))) (fun j hj => match j, hj with
    | 0, _ => hs _ (List.mem_of_getElem? (i := 83) (by decide +kernel))
    | 1, _ => hs _ (List.mem_of_getElem? (i := 84) (by decide +kernel))
    | 2, _ => hs _ (List.mem_of_getElem? (i := 85) (by decide +kernel))
    | 3, _ => hs _ (List.mem_of_getElem? (i := 86) (by decide +kernel))
    | j + 4, hj => absurd hj (by have h9 : LEN 3 = 4 := (by decide); omega)) (fun a h => Nat.not_le.mpr h)
set_option maxHeartbeats 4000000 in
set_option maxRecDepth 100000 in
theorem kst_4 {args : Array Value} {s : State} (hts0 : ∀ w ∈ lw_tbl, w.before args s = true) (hs : ∀ c ∈ flatC (Jvm.Cond.and given_1 narrow_1), c.before args s = true) : ∃ q : Nat × Nat, (Term.string RX6 179).eval args s none [] s = some (.ref q.1) ∧ va_O "java/lang/String" q.1 (fun q : Nat => s.heap.size ≤ q) s s.heap ∧ va_OF "java/lang/String" "coder" "B" (.int 0) q.1 (fun q : Nat => s.heap.size ≤ q) s s.heap ∧ va_OF "java/lang/String" "value" "[B" (.ref q.2) q.1 (fun q : Nat => s.heap.size ≤ q) s s.heap ∧ va_T .byte q.2 (LEN 4) (fun j => .int (BYT 4 j)) (fun q : Nat => s.heap.size ≤ q) s s.heap :=
  kstr (by decide) (hs _ (List.mem_of_getElem? (i := 87) (by decide +kernel))) (hs _ (List.mem_of_getElem? (i := 88) (by decide +kernel))) (hs _ (List.mem_of_getElem? (i := 89) (by decide +kernel))) (hs _ (List.mem_of_getElem? (i := 90) (by decide +kernel))) (fun j hj => match j, hj with
    | 0, _ => hs _ (List.mem_of_getElem? (i := 91) (by decide +kernel))
    | 1, _ => hs _ (List.mem_of_getElem? (i := 92) (by decide +kernel))
    | 2, _ => hs _ (List.mem_of_getElem? (i := 93) (by decide +kernel))
    | j + 3, hj => absurd hj (by have h9 : LEN 4 = 3 := (by decide); omega)) (fun a h => Nat.not_le.mpr h)
set_option maxHeartbeats 4000000 in
set_option maxRecDepth 100000 in
theorem kst_5 {args : Array Value} {s : State} (hts0 : ∀ w ∈ lw_tbl, w.before args s = true) (hs : ∀ c ∈ flatC (Jvm.Cond.and given_1 narrow_1), c.before args s = true) : ∃ q : Nat × Nat, (Term.string RX6 146).eval args s none [] s = some (.ref q.1) ∧ va_O "java/lang/String" q.1 (fun q : Nat => s.heap.size ≤ q) s s.heap ∧ va_OF "java/lang/String" "coder" "B" (.int 0) q.1 (fun q : Nat => s.heap.size ≤ q) s s.heap ∧ va_OF "java/lang/String" "value" "[B" (.ref q.2) q.1 (fun q : Nat => s.heap.size ≤ q) s s.heap ∧ va_T .byte q.2 (LEN 5) (fun j => .int (BYT 5 j)) (fun q : Nat => s.heap.size ≤ q) s s.heap :=
  kstr (by decide) (hs _ (List.mem_of_getElem? (i := 94) (by decide +kernel))) (hs _ (List.mem_of_getElem? (i := 95) (by decide +kernel))) (hs _ (List.mem_of_getElem? (i := 96) (by decide +kernel))) (hs _ (List.mem_of_getElem? (i := 97) (by decide +kernel))) (fun j hj => match j, hj with
    | 0, _ => hs _ (List.mem_of_getElem? (i := 98) (by decide +kernel))
    | 1, _ => hs _ (List.mem_of_getElem? (i := 99) (by decide +kernel))
    | 2, _ => hs _ (List.mem_of_getElem? (i := 100) (by decide +kernel))
    | 3, _ => hs _ (List.mem_of_getElem? (i := 101) (by decide +kernel))
    | 4, _ => hs _ (List.mem_of_getElem? (i := 102) (by decide +kernel))
    | j + 5, hj => absurd hj (by have h9 : LEN 5 = 5 := (by decide); omega)) (fun a h => Nat.not_le.mpr h)
set_option maxHeartbeats 4000000 in
set_option maxRecDepth 100000 in
theorem kst_6 {args : Array Value} {s : State} (hts0 : ∀ w ∈ lw_tbl, w.before args s = true) (hs : ∀ c ∈ flatC (Jvm.Cond.and given_1 narrow_1), c.before args s = true) : ∃ q : Nat × Nat, (Term.string RX6 180).eval args s none [] s = some (.ref q.1) ∧ va_O "java/lang/String" q.1 (fun q : Nat => s.heap.size ≤ q) s s.heap ∧ va_OF "java/lang/String" "coder" "B" (.int 0) q.1 (fun q : Nat => s.heap.size ≤ q) s s.heap ∧ va_OF "java/lang/String" "value" "[B" (.ref q.2) q.1 (fun q : Nat => s.heap.size ≤ q) s s.heap ∧ va_T .byte q.2 (LEN 6) (fun j => .int (BYT 6 j)) (fun q : Nat => s.heap.size ≤ q) s s.heap :=
  kstr (by decide) (hs _ (List.mem_of_getElem? (i := 103) (by decide +kernel))) (hs _ (List.mem_of_getElem? (i := 104) (by decide +kernel))) (hs _ (List.mem_of_getElem? (i := 105) (by decide +kernel))) (hs _ (List.mem_of_getElem? (i := 106) (by decide +kernel))) (fun j hj => match j, hj with
    | 0, _ => hs _ (List.mem_of_getElem? (i := 107) (by decide +kernel))
    | 1, _ => hs _ (List.mem_of_getElem? (i := 108) (by decide +kernel))
    | 2, _ => hs _ (List.mem_of_getElem? (i := 109) (by decide +kernel))
    | 3, _ => hs _ (List.mem_of_getElem? (i := 110) (by decide +kernel))
    | j + 4, hj => absurd hj (by have h9 : LEN 6 = 4 := (by decide); omega)) (fun a h => Nat.not_le.mpr h)
set_option maxHeartbeats 4000000 in
set_option maxRecDepth 100000 in
theorem kst_7 {args : Array Value} {s : State} (hts0 : ∀ w ∈ lw_tbl, w.before args s = true) (hs : ∀ c ∈ flatC (Jvm.Cond.and given_1 narrow_1), c.before args s = true) : ∃ q : Nat × Nat, (Term.string RX6 181).eval args s none [] s = some (.ref q.1) ∧ va_O "java/lang/String" q.1 (fun q : Nat => s.heap.size ≤ q) s s.heap ∧ va_OF "java/lang/String" "coder" "B" (.int 0) q.1 (fun q : Nat => s.heap.size ≤ q) s s.heap ∧ va_OF "java/lang/String" "value" "[B" (.ref q.2) q.1 (fun q : Nat => s.heap.size ≤ q) s s.heap ∧ va_T .byte q.2 (LEN 7) (fun j => .int (BYT 7 j)) (fun q : Nat => s.heap.size ≤ q) s s.heap :=
  kstr (by decide) (hs _ (List.mem_of_getElem? (i := 111) (by decide +kernel))) (hs _ (List.mem_of_getElem? (i := 112) (by decide +kernel))) (hs _ (List.mem_of_getElem? (i := 113) (by decide +kernel))) (hs _ (List.mem_of_getElem? (i := 114) (by decide +kernel))) (fun j hj => match j, hj with
    | 0, _ => hs _ (List.mem_of_getElem? (i := 115) (by decide +kernel))
    | 1, _ => hs _ (List.mem_of_getElem? (i := 116) (by decide +kernel))
    | j + 2, hj => absurd hj (by have h9 : LEN 7 = 2 := (by decide); omega)) (fun a h => Nat.not_le.mpr h)
set_option maxHeartbeats 4000000 in
set_option maxRecDepth 100000 in
theorem kst_8 {args : Array Value} {s : State} (hts0 : ∀ w ∈ lw_tbl, w.before args s = true) (hs : ∀ c ∈ flatC (Jvm.Cond.and given_1 narrow_1), c.before args s = true) : ∃ q : Nat × Nat, (Term.string RX6 183).eval args s none [] s = some (.ref q.1) ∧ va_O "java/lang/String" q.1 (fun q : Nat => s.heap.size ≤ q) s s.heap ∧ va_OF "java/lang/String" "coder" "B" (.int 0) q.1 (fun q : Nat => s.heap.size ≤ q) s s.heap ∧ va_OF "java/lang/String" "value" "[B" (.ref q.2) q.1 (fun q : Nat => s.heap.size ≤ q) s s.heap ∧ va_T .byte q.2 (LEN 8) (fun j => .int (BYT 8 j)) (fun q : Nat => s.heap.size ≤ q) s s.heap :=
  kstr (by decide) (hs _ (List.mem_of_getElem? (i := 117) (by decide +kernel))) (hs _ (List.mem_of_getElem? (i := 118) (by decide +kernel))) (hs _ (List.mem_of_getElem? (i := 119) (by decide +kernel))) (hs _ (List.mem_of_getElem? (i := 120) (by decide +kernel))) (fun j hj => match j, hj with
    | 0, _ => hs _ (List.mem_of_getElem? (i := 121) (by decide +kernel))
    | 1, _ => hs _ (List.mem_of_getElem? (i := 122) (by decide +kernel))
    | 2, _ => hs _ (List.mem_of_getElem? (i := 123) (by decide +kernel))
    | 3, _ => hs _ (List.mem_of_getElem? (i := 124) (by decide +kernel))
    | j + 4, hj => absurd hj (by have h9 : LEN 8 = 4 := (by decide); omega)) (fun a h => Nat.not_le.mpr h)
set_option maxHeartbeats 4000000 in
set_option maxRecDepth 100000 in
theorem kst_9 {args : Array Value} {s : State} (hts0 : ∀ w ∈ lw_tbl, w.before args s = true) (hs : ∀ c ∈ flatC (Jvm.Cond.and given_1 narrow_1), c.before args s = true) : ∃ q : Nat × Nat, (Term.string RX6 185).eval args s none [] s = some (.ref q.1) ∧ va_O "java/lang/String" q.1 (fun q : Nat => s.heap.size ≤ q) s s.heap ∧ va_OF "java/lang/String" "coder" "B" (.int 0) q.1 (fun q : Nat => s.heap.size ≤ q) s s.heap ∧ va_OF "java/lang/String" "value" "[B" (.ref q.2) q.1 (fun q : Nat => s.heap.size ≤ q) s s.heap ∧ va_T .byte q.2 (LEN 9) (fun j => .int (BYT 9 j)) (fun q : Nat => s.heap.size ≤ q) s s.heap :=
  kstr (by decide) (hs _ (List.mem_of_getElem? (i := 125) (by decide +kernel))) (hs _ (List.mem_of_getElem? (i := 126) (by decide +kernel))) (hs _ (List.mem_of_getElem? (i := 127) (by decide +kernel))) (hs _ (List.mem_of_getElem? (i := 128) (by decide +kernel))) (fun j hj => match j, hj with
    | 0, _ => hs _ (List.mem_of_getElem? (i := 129) (by decide +kernel))
    | 1, _ => hs _ (List.mem_of_getElem? (i := 130) (by decide +kernel))
    | 2, _ => hs _ (List.mem_of_getElem? (i := 131) (by decide +kernel))
    | 3, _ => hs _ (List.mem_of_getElem? (i := 132) (by decide +kernel))
    | j + 4, hj => absurd hj (by have h9 : LEN 9 = 4 := (by decide); omega)) (fun a h => Nat.not_le.mpr h)
set_option maxHeartbeats 4000000 in
set_option maxRecDepth 100000 in
theorem kst_10 {args : Array Value} {s : State} (hts0 : ∀ w ∈ lw_tbl, w.before args s = true) (hs : ∀ c ∈ flatC (Jvm.Cond.and given_1 narrow_1), c.before args s = true) : ∃ q : Nat × Nat, (Term.string RX6 187).eval args s none [] s = some (.ref q.1) ∧ va_O "java/lang/String" q.1 (fun q : Nat => s.heap.size ≤ q) s s.heap ∧ va_OF "java/lang/String" "coder" "B" (.int 0) q.1 (fun q : Nat => s.heap.size ≤ q) s s.heap ∧ va_OF "java/lang/String" "value" "[B" (.ref q.2) q.1 (fun q : Nat => s.heap.size ≤ q) s s.heap ∧ va_T .byte q.2 (LEN 10) (fun j => .int (BYT 10 j)) (fun q : Nat => s.heap.size ≤ q) s s.heap :=
  kstr (by decide) (hs _ (List.mem_of_getElem? (i := 133) (by decide +kernel))) (hs _ (List.mem_of_getElem? (i := 134) (by decide +kernel))) (hs _ (List.mem_of_getElem? (i := 135) (by decide +kernel))) (hs _ (List.mem_of_getElem? (i := 136) (by decide +kernel))) (fun j hj => match j, hj with
    | 0, _ => hs _ (List.mem_of_getElem? (i := 137) (by decide +kernel))
    | 1, _ => hs _ (List.mem_of_getElem? (i := 138) (by decide +kernel))
    | 2, _ => hs _ (List.mem_of_getElem? (i := 139) (by decide +kernel))
    | 3, _ => hs _ (List.mem_of_getElem? (i := 140) (by decide +kernel))
    | j + 4, hj => absurd hj (by have h9 : LEN 10 = 4 := (by decide); omega)) (fun a h => Nat.not_le.mpr h)
set_option maxHeartbeats 4000000 in
set_option maxRecDepth 100000 in
theorem kst_11 {args : Array Value} {s : State} (hts0 : ∀ w ∈ lw_tbl, w.before args s = true) (hs : ∀ c ∈ flatC (Jvm.Cond.and given_1 narrow_1), c.before args s = true) : ∃ q : Nat × Nat, (Term.string RX6 189).eval args s none [] s = some (.ref q.1) ∧ va_O "java/lang/String" q.1 (fun q : Nat => s.heap.size ≤ q) s s.heap ∧ va_OF "java/lang/String" "coder" "B" (.int 0) q.1 (fun q : Nat => s.heap.size ≤ q) s s.heap ∧ va_OF "java/lang/String" "value" "[B" (.ref q.2) q.1 (fun q : Nat => s.heap.size ≤ q) s s.heap ∧ va_T .byte q.2 (LEN 11) (fun j => .int (BYT 11 j)) (fun q : Nat => s.heap.size ≤ q) s s.heap :=
  kstr (by decide) (hs _ (List.mem_of_getElem? (i := 141) (by decide +kernel))) (hs _ (List.mem_of_getElem? (i := 142) (by decide +kernel))) (hs _ (List.mem_of_getElem? (i := 143) (by decide +kernel))) (hs _ (List.mem_of_getElem? (i := 144) (by decide +kernel))) (fun j hj => match j, hj with
    | 0, _ => hs _ (List.mem_of_getElem? (i := 145) (by decide +kernel))
    | 1, _ => hs _ (List.mem_of_getElem? (i := 146) (by decide +kernel))
    | 2, _ => hs _ (List.mem_of_getElem? (i := 147) (by decide +kernel))
    | 3, _ => hs _ (List.mem_of_getElem? (i := 148) (by decide +kernel))
    | 4, _ => hs _ (List.mem_of_getElem? (i := 149) (by decide +kernel))
    | j + 5, hj => absurd hj (by have h9 : LEN 11 = 5 := (by decide); omega)) (fun a h => Nat.not_le.mpr h)
set_option maxHeartbeats 4000000 in
set_option maxRecDepth 100000 in
theorem kst_12 {args : Array Value} {s : State} (hts0 : ∀ w ∈ lw_tbl, w.before args s = true) (hs : ∀ c ∈ flatC (Jvm.Cond.and given_1 narrow_1), c.before args s = true) : ∃ q : Nat × Nat, (Term.string RX6 191).eval args s none [] s = some (.ref q.1) ∧ va_O "java/lang/String" q.1 (fun q : Nat => s.heap.size ≤ q) s s.heap ∧ va_OF "java/lang/String" "coder" "B" (.int 0) q.1 (fun q : Nat => s.heap.size ≤ q) s s.heap ∧ va_OF "java/lang/String" "value" "[B" (.ref q.2) q.1 (fun q : Nat => s.heap.size ≤ q) s s.heap ∧ va_T .byte q.2 (LEN 12) (fun j => .int (BYT 12 j)) (fun q : Nat => s.heap.size ≤ q) s s.heap :=
  kstr (by decide) (hs _ (List.mem_of_getElem? (i := 150) (by decide +kernel))) (hs _ (List.mem_of_getElem? (i := 151) (by decide +kernel))) (hs _ (List.mem_of_getElem? (i := 152) (by decide +kernel))) (hs _ (List.mem_of_getElem? (i := 153) (by decide +kernel))) (fun j hj => match j, hj with
    | 0, _ => hs _ (List.mem_of_getElem? (i := 154) (by decide +kernel))
    | 1, _ => hs _ (List.mem_of_getElem? (i := 155) (by decide +kernel))
    | 2, _ => hs _ (List.mem_of_getElem? (i := 156) (by decide +kernel))
    | 3, _ => hs _ (List.mem_of_getElem? (i := 157) (by decide +kernel))
    | j + 4, hj => absurd hj (by have h9 : LEN 12 = 4 := (by decide); omega)) (fun a h => Nat.not_le.mpr h)
set_option maxHeartbeats 4000000 in
set_option maxRecDepth 100000 in
theorem kst_13 {args : Array Value} {s : State} (hts0 : ∀ w ∈ lw_tbl, w.before args s = true) (hs : ∀ c ∈ flatC (Jvm.Cond.and given_1 narrow_1), c.before args s = true) : ∃ q : Nat × Nat, (Term.string RX6 193).eval args s none [] s = some (.ref q.1) ∧ va_O "java/lang/String" q.1 (fun q : Nat => s.heap.size ≤ q) s s.heap ∧ va_OF "java/lang/String" "coder" "B" (.int 0) q.1 (fun q : Nat => s.heap.size ≤ q) s s.heap ∧ va_OF "java/lang/String" "value" "[B" (.ref q.2) q.1 (fun q : Nat => s.heap.size ≤ q) s s.heap ∧ va_T .byte q.2 (LEN 13) (fun j => .int (BYT 13 j)) (fun q : Nat => s.heap.size ≤ q) s s.heap :=
  kstr (by decide) (hs _ (List.mem_of_getElem? (i := 158) (by decide +kernel))) (hs _ (List.mem_of_getElem? (i := 159) (by decide +kernel))) (hs _ (List.mem_of_getElem? (i := 160) (by decide +kernel))) (hs _ (List.mem_of_getElem? (i := 161) (by decide +kernel))) (fun j hj => match j, hj with
    | 0, _ => hs _ (List.mem_of_getElem? (i := 162) (by decide +kernel))
    | 1, _ => hs _ (List.mem_of_getElem? (i := 163) (by decide +kernel))
    | j + 2, hj => absurd hj (by have h9 : LEN 13 = 2 := (by decide); omega)) (fun a h => Nat.not_le.mpr h)
set_option maxHeartbeats 4000000 in
set_option maxRecDepth 100000 in
theorem kst_14 {args : Array Value} {s : State} (hts0 : ∀ w ∈ lw_tbl, w.before args s = true) (hs : ∀ c ∈ flatC (Jvm.Cond.and given_1 narrow_1), c.before args s = true) : ∃ q : Nat × Nat, (Term.string RX6 195).eval args s none [] s = some (.ref q.1) ∧ va_O "java/lang/String" q.1 (fun q : Nat => s.heap.size ≤ q) s s.heap ∧ va_OF "java/lang/String" "coder" "B" (.int 0) q.1 (fun q : Nat => s.heap.size ≤ q) s s.heap ∧ va_OF "java/lang/String" "value" "[B" (.ref q.2) q.1 (fun q : Nat => s.heap.size ≤ q) s s.heap ∧ va_T .byte q.2 (LEN 14) (fun j => .int (BYT 14 j)) (fun q : Nat => s.heap.size ≤ q) s s.heap :=
  kstr (by decide) (hs _ (List.mem_of_getElem? (i := 164) (by decide +kernel))) (hs _ (List.mem_of_getElem? (i := 165) (by decide +kernel))) (hs _ (List.mem_of_getElem? (i := 166) (by decide +kernel))) (hs _ (List.mem_of_getElem? (i := 167) (by decide +kernel))) (fun j hj => match j, hj with
    | 0, _ => hs _ (List.mem_of_getElem? (i := 168) (by decide +kernel))
    | 1, _ => hs _ (List.mem_of_getElem? (i := 169) (by decide +kernel))
    | 2, _ => hs _ (List.mem_of_getElem? (i := 170) (by decide +kernel))
    | j + 3, hj => absurd hj (by have h9 : LEN 14 = 3 := (by decide); omega)) (fun a h => Nat.not_le.mpr h)
set_option maxHeartbeats 4000000 in
set_option maxRecDepth 100000 in
theorem kst_15 {args : Array Value} {s : State} (hts0 : ∀ w ∈ lw_tbl, w.before args s = true) (hs : ∀ c ∈ flatC (Jvm.Cond.and given_1 narrow_1), c.before args s = true) : ∃ q : Nat × Nat, (Term.string RX12 186).eval args s none [] s = some (.ref q.1) ∧ va_O "java/lang/String" q.1 (fun q : Nat => s.heap.size ≤ q) s s.heap ∧ va_OF "java/lang/String" "coder" "B" (.int 0) q.1 (fun q : Nat => s.heap.size ≤ q) s s.heap ∧ va_OF "java/lang/String" "value" "[B" (.ref q.2) q.1 (fun q : Nat => s.heap.size ≤ q) s s.heap ∧ va_T .byte q.2 (LEN 15) (fun j => .int (BYT 15 j)) (fun q : Nat => s.heap.size ≤ q) s s.heap :=
  kstr (by decide) (hs _ (List.mem_of_getElem? (i := 171) (by decide +kernel))) (hs _ (List.mem_of_getElem? (i := 172) (by decide +kernel))) (hs _ (List.mem_of_getElem? (i := 173) (by decide +kernel))) (hs _ (List.mem_of_getElem? (i := 174) (by decide +kernel))) (fun j hj => match j, hj with
    | 0, _ => hs _ (List.mem_of_getElem? (i := 175) (by decide +kernel))
    | 1, _ => hs _ (List.mem_of_getElem? (i := 176) (by decide +kernel))
    | 2, _ => hs _ (List.mem_of_getElem? (i := 177) (by decide +kernel))
    | 3, _ => hs _ (List.mem_of_getElem? (i := 178) (by decide +kernel))
    | 4, _ => hs _ (List.mem_of_getElem? (i := 179) (by decide +kernel))
    | j + 5, hj => absurd hj (by have h9 : LEN 15 = 5 := (by decide); omega)) (fun a h => Nat.not_le.mpr h)
set_option maxHeartbeats 4000000 in
set_option maxRecDepth 100000 in
theorem kst_16 {args : Array Value} {s : State} (hts0 : ∀ w ∈ lw_tbl, w.before args s = true) (hs : ∀ c ∈ flatC (Jvm.Cond.and given_1 narrow_1), c.before args s = true) : ∃ q : Nat × Nat, (Term.string RX12 188).eval args s none [] s = some (.ref q.1) ∧ va_O "java/lang/String" q.1 (fun q : Nat => s.heap.size ≤ q) s s.heap ∧ va_OF "java/lang/String" "coder" "B" (.int 0) q.1 (fun q : Nat => s.heap.size ≤ q) s s.heap ∧ va_OF "java/lang/String" "value" "[B" (.ref q.2) q.1 (fun q : Nat => s.heap.size ≤ q) s s.heap ∧ va_T .byte q.2 (LEN 16) (fun j => .int (BYT 16 j)) (fun q : Nat => s.heap.size ≤ q) s s.heap :=
  kstr (by decide) (hs _ (List.mem_of_getElem? (i := 181) (by decide +kernel))) (hs _ (List.mem_of_getElem? (i := 182) (by decide +kernel))) (hs _ (List.mem_of_getElem? (i := 183) (by decide +kernel))) (hs _ (List.mem_of_getElem? (i := 184) (by decide +kernel))) (fun j hj => match j, hj with
    | 0, _ => hs _ (List.mem_of_getElem? (i := 185) (by decide +kernel))
    | 1, _ => hs _ (List.mem_of_getElem? (i := 186) (by decide +kernel))
    | 2, _ => hs _ (List.mem_of_getElem? (i := 187) (by decide +kernel))
    | j + 3, hj => absurd hj (by have h9 : LEN 16 = 3 := (by decide); omega)) (fun a h => Nat.not_le.mpr h)
set_option maxHeartbeats 4000000 in
set_option maxRecDepth 100000 in
theorem kst_17 {args : Array Value} {s : State} (hts0 : ∀ w ∈ lw_tbl, w.before args s = true) (hs : ∀ c ∈ flatC (Jvm.Cond.and given_1 narrow_1), c.before args s = true) : ∃ q : Nat × Nat, (Term.string RX12 190).eval args s none [] s = some (.ref q.1) ∧ va_O "java/lang/String" q.1 (fun q : Nat => s.heap.size ≤ q) s s.heap ∧ va_OF "java/lang/String" "coder" "B" (.int 0) q.1 (fun q : Nat => s.heap.size ≤ q) s s.heap ∧ va_OF "java/lang/String" "value" "[B" (.ref q.2) q.1 (fun q : Nat => s.heap.size ≤ q) s s.heap ∧ va_T .byte q.2 (LEN 17) (fun j => .int (BYT 17 j)) (fun q : Nat => s.heap.size ≤ q) s s.heap :=
  kstr (by decide) (hs _ (List.mem_of_getElem? (i := 189) (by decide +kernel))) (hs _ (List.mem_of_getElem? (i := 190) (by decide +kernel))) (hs _ (List.mem_of_getElem? (i := 191) (by decide +kernel))) (hs _ (List.mem_of_getElem? (i := 192) (by decide +kernel))) (fun j hj => match j, hj with
    | 0, _ => hs _ (List.mem_of_getElem? (i := 193) (by decide +kernel))
    | 1, _ => hs _ (List.mem_of_getElem? (i := 194) (by decide +kernel))
    | 2, _ => hs _ (List.mem_of_getElem? (i := 195) (by decide +kernel))
    | 3, _ => hs _ (List.mem_of_getElem? (i := 196) (by decide +kernel))
    | j + 4, hj => absurd hj (by have h9 : LEN 17 = 4 := (by decide); omega)) (fun a h => Nat.not_le.mpr h)
set_option maxHeartbeats 4000000 in
set_option maxRecDepth 100000 in
theorem kst_18 {args : Array Value} {s : State} (hts0 : ∀ w ∈ lw_tbl, w.before args s = true) (hs : ∀ c ∈ flatC (Jvm.Cond.and given_1 narrow_1), c.before args s = true) : ∃ q : Nat × Nat, (Term.string RX12 169).eval args s none [] s = some (.ref q.1) ∧ va_O "java/lang/String" q.1 (fun q : Nat => s.heap.size ≤ q) s s.heap ∧ va_OF "java/lang/String" "coder" "B" (.int 0) q.1 (fun q : Nat => s.heap.size ≤ q) s s.heap ∧ va_OF "java/lang/String" "value" "[B" (.ref q.2) q.1 (fun q : Nat => s.heap.size ≤ q) s s.heap ∧ va_T .byte q.2 (LEN 18) (fun j => .int (BYT 18 j)) (fun q : Nat => s.heap.size ≤ q) s s.heap :=
  kstr (by decide) (hs _ (List.mem_of_getElem? (i := 198) (by decide +kernel))) (hs _ (List.mem_of_getElem? (i := 199) (by decide +kernel))) (hs _ (List.mem_of_getElem? (i := 200) (by decide +kernel))) (hs _ (List.mem_of_getElem? (i := 201) (by decide +kernel))) (fun j hj => match j, hj with
    | 0, _ => hs _ (List.mem_of_getElem? (i := 202) (by decide +kernel))
    | 1, _ => hs _ (List.mem_of_getElem? (i := 203) (by decide +kernel))
    | 2, _ => hs _ (List.mem_of_getElem? (i := 204) (by decide +kernel))
    | j + 3, hj => absurd hj (by have h9 : LEN 18 = 3 := (by decide); omega)) (fun a h => Nat.not_le.mpr h)
set_option maxHeartbeats 4000000 in
set_option maxRecDepth 100000 in
theorem kst_19 {args : Array Value} {s : State} (hts0 : ∀ w ∈ lw_tbl, w.before args s = true) (hs : ∀ c ∈ flatC (Jvm.Cond.and given_1 narrow_1), c.before args s = true) : ∃ q : Nat × Nat, (Term.string RX12 171).eval args s none [] s = some (.ref q.1) ∧ va_O "java/lang/String" q.1 (fun q : Nat => s.heap.size ≤ q) s s.heap ∧ va_OF "java/lang/String" "coder" "B" (.int 0) q.1 (fun q : Nat => s.heap.size ≤ q) s s.heap ∧ va_OF "java/lang/String" "value" "[B" (.ref q.2) q.1 (fun q : Nat => s.heap.size ≤ q) s s.heap ∧ va_T .byte q.2 (LEN 19) (fun j => .int (BYT 19 j)) (fun q : Nat => s.heap.size ≤ q) s s.heap :=
  kstr (by decide) (hs _ (List.mem_of_getElem? (i := 206) (by decide +kernel))) (hs _ (List.mem_of_getElem? (i := 207) (by decide +kernel))) (hs _ (List.mem_of_getElem? (i := 208) (by decide +kernel))) (hs _ (List.mem_of_getElem? (i := 209) (by decide +kernel))) (fun j hj => match j, hj with
    | 0, _ => hs _ (List.mem_of_getElem? (i := 210) (by decide +kernel))
    | 1, _ => hs _ (List.mem_of_getElem? (i := 211) (by decide +kernel))
    | 2, _ => hs _ (List.mem_of_getElem? (i := 212) (by decide +kernel))
    | 3, _ => hs _ (List.mem_of_getElem? (i := 213) (by decide +kernel))
    | 4, _ => hs _ (List.mem_of_getElem? (i := 214) (by decide +kernel))
    | 5, _ => hs _ (List.mem_of_getElem? (i := 215) (by decide +kernel))
    | j + 6, hj => absurd hj (by have h9 : LEN 19 = 6 := (by decide); omega)) (fun a h => Nat.not_le.mpr h)
set_option maxHeartbeats 4000000 in
set_option maxRecDepth 100000 in
theorem kst_20 {args : Array Value} {s : State} (hts0 : ∀ w ∈ lw_tbl, w.before args s = true) (hs : ∀ c ∈ flatC (Jvm.Cond.and given_1 narrow_1), c.before args s = true) : ∃ q : Nat × Nat, (Term.string RX12 173).eval args s none [] s = some (.ref q.1) ∧ va_O "java/lang/String" q.1 (fun q : Nat => s.heap.size ≤ q) s s.heap ∧ va_OF "java/lang/String" "coder" "B" (.int 0) q.1 (fun q : Nat => s.heap.size ≤ q) s s.heap ∧ va_OF "java/lang/String" "value" "[B" (.ref q.2) q.1 (fun q : Nat => s.heap.size ≤ q) s s.heap ∧ va_T .byte q.2 (LEN 20) (fun j => .int (BYT 20 j)) (fun q : Nat => s.heap.size ≤ q) s s.heap :=
  kstr (by decide) (hs _ (List.mem_of_getElem? (i := 217) (by decide +kernel))) (hs _ (List.mem_of_getElem? (i := 218) (by decide +kernel))) (hs _ (List.mem_of_getElem? (i := 219) (by decide +kernel))) (hs _ (List.mem_of_getElem? (i := 220) (by decide +kernel))) (fun j hj => match j, hj with
    | 0, _ => hs _ (List.mem_of_getElem? (i := 221) (by decide +kernel))
    | 1, _ => hs _ (List.mem_of_getElem? (i := 222) (by decide +kernel))
    | 2, _ => hs _ (List.mem_of_getElem? (i := 223) (by decide +kernel))
    | 3, _ => hs _ (List.mem_of_getElem? (i := 224) (by decide +kernel))
    | j + 4, hj => absurd hj (by have h9 : LEN 20 = 4 := (by decide); omega)) (fun a h => Nat.not_le.mpr h)
set_option maxHeartbeats 4000000 in
set_option maxRecDepth 100000 in
theorem kst_21 {args : Array Value} {s : State} (hts0 : ∀ w ∈ lw_tbl, w.before args s = true) (hs : ∀ c ∈ flatC (Jvm.Cond.and given_1 narrow_1), c.before args s = true) : ∃ q : Nat × Nat, (Term.string RX12 175).eval args s none [] s = some (.ref q.1) ∧ va_O "java/lang/String" q.1 (fun q : Nat => s.heap.size ≤ q) s s.heap ∧ va_OF "java/lang/String" "coder" "B" (.int 0) q.1 (fun q : Nat => s.heap.size ≤ q) s s.heap ∧ va_OF "java/lang/String" "value" "[B" (.ref q.2) q.1 (fun q : Nat => s.heap.size ≤ q) s s.heap ∧ va_T .byte q.2 (LEN 21) (fun j => .int (BYT 21 j)) (fun q : Nat => s.heap.size ≤ q) s s.heap :=
  kstr (by decide) (hs _ (List.mem_of_getElem? (i := 226) (by decide +kernel))) (hs _ (List.mem_of_getElem? (i := 227) (by decide +kernel))) (hs _ (List.mem_of_getElem? (i := 228) (by decide +kernel))) (hs _ (List.mem_of_getElem? (i := 229) (by decide +kernel))) (fun j hj => match j, hj with
    | 0, _ => hs _ (List.mem_of_getElem? (i := 230) (by decide +kernel))
    | 1, _ => hs _ (List.mem_of_getElem? (i := 231) (by decide +kernel))
    | 2, _ => hs _ (List.mem_of_getElem? (i := 232) (by decide +kernel))
    | j + 3, hj => absurd hj (by have h9 : LEN 21 = 3 := (by decide); omega)) (fun a h => Nat.not_le.mpr h)
set_option maxHeartbeats 4000000 in
set_option maxRecDepth 100000 in
theorem kst_22 {args : Array Value} {s : State} (hts0 : ∀ w ∈ lw_tbl, w.before args s = true) (hs : ∀ c ∈ flatC (Jvm.Cond.and given_1 narrow_1), c.before args s = true) : ∃ q : Nat × Nat, (Term.string RX12 155).eval args s none [] s = some (.ref q.1) ∧ va_O "java/lang/String" q.1 (fun q : Nat => s.heap.size ≤ q) s s.heap ∧ va_OF "java/lang/String" "coder" "B" (.int 0) q.1 (fun q : Nat => s.heap.size ≤ q) s s.heap ∧ va_OF "java/lang/String" "value" "[B" (.ref q.2) q.1 (fun q : Nat => s.heap.size ≤ q) s s.heap ∧ va_T .byte q.2 (LEN 22) (fun j => .int (BYT 22 j)) (fun q : Nat => s.heap.size ≤ q) s s.heap :=
  kstr (by decide) (hs _ (List.mem_of_getElem? (i := 234) (by decide +kernel))) (hs _ (List.mem_of_getElem? (i := 235) (by decide +kernel))) (hs _ (List.mem_of_getElem? (i := 236) (by decide +kernel))) (hs _ (List.mem_of_getElem? (i := 237) (by decide +kernel))) (fun j hj => match j, hj with
    | 0, _ => hs _ (List.mem_of_getElem? (i := 238) (by decide +kernel))
    | 1, _ => hs _ (List.mem_of_getElem? (i := 239) (by decide +kernel))
    | j + 2, hj => absurd hj (by have h9 : LEN 22 = 2 := (by decide); omega)) (fun a h => Nat.not_le.mpr h)
set_option maxHeartbeats 4000000 in
set_option maxRecDepth 100000 in
theorem kst_23 {args : Array Value} {s : State} (hts0 : ∀ w ∈ lw_tbl, w.before args s = true) (hs : ∀ c ∈ flatC (Jvm.Cond.and given_1 narrow_1), c.before args s = true) : ∃ q : Nat × Nat, (Term.string RX12 161).eval args s none [] s = some (.ref q.1) ∧ va_O "java/lang/String" q.1 (fun q : Nat => s.heap.size ≤ q) s s.heap ∧ va_OF "java/lang/String" "coder" "B" (.int 0) q.1 (fun q : Nat => s.heap.size ≤ q) s s.heap ∧ va_OF "java/lang/String" "value" "[B" (.ref q.2) q.1 (fun q : Nat => s.heap.size ≤ q) s s.heap ∧ va_T .byte q.2 (LEN 23) (fun j => .int (BYT 23 j)) (fun q : Nat => s.heap.size ≤ q) s s.heap :=
  kstr (by decide) (hs _ (List.mem_of_getElem? (i := 241) (by decide +kernel))) (hs _ (List.mem_of_getElem? (i := 242) (by decide +kernel))) (hs _ (List.mem_of_getElem? (i := 243) (by decide +kernel))) (hs _ (List.mem_of_getElem? (i := 244) (by decide +kernel))) (fun j hj => match j, hj with
    | 0, _ => hs _ (List.mem_of_getElem? (i := 245) (by decide +kernel))
    | 1, _ => hs _ (List.mem_of_getElem? (i := 246) (by decide +kernel))
    | 2, _ => hs _ (List.mem_of_getElem? (i := 247) (by decide +kernel))
    | 3, _ => hs _ (List.mem_of_getElem? (i := 248) (by decide +kernel))
    | j + 4, hj => absurd hj (by have h9 : LEN 23 = 4 := (by decide); omega)) (fun a h => Nat.not_le.mpr h)
set_option maxHeartbeats 4000000 in
set_option maxRecDepth 100000 in
theorem kst_24 {args : Array Value} {s : State} (hts0 : ∀ w ∈ lw_tbl, w.before args s = true) (hs : ∀ c ∈ flatC (Jvm.Cond.and given_1 narrow_1), c.before args s = true) : ∃ q : Nat × Nat, (Term.string RX12 163).eval args s none [] s = some (.ref q.1) ∧ va_O "java/lang/String" q.1 (fun q : Nat => s.heap.size ≤ q) s s.heap ∧ va_OF "java/lang/String" "coder" "B" (.int 0) q.1 (fun q : Nat => s.heap.size ≤ q) s s.heap ∧ va_OF "java/lang/String" "value" "[B" (.ref q.2) q.1 (fun q : Nat => s.heap.size ≤ q) s s.heap ∧ va_T .byte q.2 (LEN 24) (fun j => .int (BYT 24 j)) (fun q : Nat => s.heap.size ≤ q) s s.heap :=
  kstr (by decide) (hs _ (List.mem_of_getElem? (i := 250) (by decide +kernel))) (hs _ (List.mem_of_getElem? (i := 251) (by decide +kernel))) (hs _ (List.mem_of_getElem? (i := 252) (by decide +kernel))) (hs _ (List.mem_of_getElem? (i := 253) (by decide +kernel))) (fun j hj => match j, hj with
    | 0, _ => hs _ (List.mem_of_getElem? (i := 254) (by decide +kernel))
    | 1, _ => hs _ (List.mem_of_getElem? (i := 255) (by decide +kernel))
    | 2, _ => hs _ (List.mem_of_getElem? (i := 256) (by decide +kernel))
    | 3, _ => hs _ (List.mem_of_getElem? (i := 257) (by decide +kernel))
    | j + 4, hj => absurd hj (by have h9 : LEN 24 = 4 := (by decide); omega)) (fun a h => Nat.not_le.mpr h)
set_option maxHeartbeats 4000000 in
set_option maxRecDepth 100000 in
theorem kst_25 {args : Array Value} {s : State} (hts0 : ∀ w ∈ lw_tbl, w.before args s = true) (hs : ∀ c ∈ flatC (Jvm.Cond.and given_1 narrow_1), c.before args s = true) : ∃ q : Nat × Nat, (Term.string RX12 165).eval args s none [] s = some (.ref q.1) ∧ va_O "java/lang/String" q.1 (fun q : Nat => s.heap.size ≤ q) s s.heap ∧ va_OF "java/lang/String" "coder" "B" (.int 0) q.1 (fun q : Nat => s.heap.size ≤ q) s s.heap ∧ va_OF "java/lang/String" "value" "[B" (.ref q.2) q.1 (fun q : Nat => s.heap.size ≤ q) s s.heap ∧ va_T .byte q.2 (LEN 25) (fun j => .int (BYT 25 j)) (fun q : Nat => s.heap.size ≤ q) s s.heap :=
  kstr (by decide) (hs _ (List.mem_of_getElem? (i := 259) (by decide +kernel))) (hs _ (List.mem_of_getElem? (i := 260) (by decide +kernel))) (hs _ (List.mem_of_getElem? (i := 261) (by decide +kernel))) (hs _ (List.mem_of_getElem? (i := 262) (by decide +kernel))) (fun j hj => match j, hj with
    | 0, _ => hs _ (List.mem_of_getElem? (i := 263) (by decide +kernel))
    | 1, _ => hs _ (List.mem_of_getElem? (i := 264) (by decide +kernel))
    | 2, _ => hs _ (List.mem_of_getElem? (i := 265) (by decide +kernel))
    | 3, _ => hs _ (List.mem_of_getElem? (i := 266) (by decide +kernel))
    | j + 4, hj => absurd hj (by have h9 : LEN 25 = 4 := (by decide); omega)) (fun a h => Nat.not_le.mpr h)
set_option maxHeartbeats 4000000 in
set_option maxRecDepth 100000 in
theorem kst_26 {args : Array Value} {s : State} (hts0 : ∀ w ∈ lw_tbl, w.before args s = true) (hs : ∀ c ∈ flatC (Jvm.Cond.and given_1 narrow_1), c.before args s = true) : ∃ q : Nat × Nat, (Term.string RX12 152).eval args s none [] s = some (.ref q.1) ∧ va_O "java/lang/String" q.1 (fun q : Nat => s.heap.size ≤ q) s s.heap ∧ va_OF "java/lang/String" "coder" "B" (.int 0) q.1 (fun q : Nat => s.heap.size ≤ q) s s.heap ∧ va_OF "java/lang/String" "value" "[B" (.ref q.2) q.1 (fun q : Nat => s.heap.size ≤ q) s s.heap ∧ va_T .byte q.2 (LEN 26) (fun j => .int (BYT 26 j)) (fun q : Nat => s.heap.size ≤ q) s s.heap :=
  kstr (by decide) (hs _ (List.mem_of_getElem? (i := 268) (by decide +kernel))) (hs _ (List.mem_of_getElem? (i := 269) (by decide +kernel))) (hs _ (List.mem_of_getElem? (i := 270) (by decide +kernel))) (hs _ (List.mem_of_getElem? (i := 271) (by decide +kernel))) (fun j hj => match j, hj with
    | 0, _ => hs _ (List.mem_of_getElem? (i := 272) (by decide +kernel))
    | 1, _ => hs _ (List.mem_of_getElem? (i := 273) (by decide +kernel))
    | 2, _ => hs _ (List.mem_of_getElem? (i := 274) (by decide +kernel))
    | 3, _ => hs _ (List.mem_of_getElem? (i := 275) (by decide +kernel))
    | 4, _ => hs _ (List.mem_of_getElem? (i := 276) (by decide +kernel))
    | j + 5, hj => absurd hj (by have h9 : LEN 26 = 5 := (by decide); omega)) (fun a h => Nat.not_le.mpr h)
set_option maxHeartbeats 4000000 in
set_option maxRecDepth 100000 in
theorem kst_27 {args : Array Value} {s : State} (hts0 : ∀ w ∈ lw_tbl, w.before args s = true) (hs : ∀ c ∈ flatC (Jvm.Cond.and given_1 narrow_1), c.before args s = true) : ∃ q : Nat × Nat, (Term.string RX12 153).eval args s none [] s = some (.ref q.1) ∧ va_O "java/lang/String" q.1 (fun q : Nat => s.heap.size ≤ q) s s.heap ∧ va_OF "java/lang/String" "coder" "B" (.int 0) q.1 (fun q : Nat => s.heap.size ≤ q) s s.heap ∧ va_OF "java/lang/String" "value" "[B" (.ref q.2) q.1 (fun q : Nat => s.heap.size ≤ q) s s.heap ∧ va_T .byte q.2 (LEN 27) (fun j => .int (BYT 27 j)) (fun q : Nat => s.heap.size ≤ q) s s.heap :=
  kstr (by decide) (hs _ (List.mem_of_getElem? (i := 278) (by decide +kernel))) (hs _ (List.mem_of_getElem? (i := 279) (by decide +kernel))) (hs _ (List.mem_of_getElem? (i := 280) (by decide +kernel))) (hs _ (List.mem_of_getElem? (i := 281) (by decide +kernel))) (fun j hj => match j, hj with
    | 0, _ => hs _ (List.mem_of_getElem? (i := 282) (by decide +kernel))
    | 1, _ => hs _ (List.mem_of_getElem? (i := 283) (by decide +kernel))
    | 2, _ => hs _ (List.mem_of_getElem? (i := 284) (by decide +kernel))
    | 3, _ => hs _ (List.mem_of_getElem? (i := 285) (by decide +kernel))
    | 4, _ => hs _ (List.mem_of_getElem? (i := 286) (by decide +kernel))
    | j + 5, hj => absurd hj (by have h9 : LEN 27 = 5 := (by decide); omega)) (fun a h => Nat.not_le.mpr h)
set_option maxHeartbeats 4000000 in
set_option maxRecDepth 100000 in
theorem kst_28 {args : Array Value} {s : State} (hts0 : ∀ w ∈ lw_tbl, w.before args s = true) (hs : ∀ c ∈ flatC (Jvm.Cond.and given_1 narrow_1), c.before args s = true) : ∃ q : Nat × Nat, (Term.string RX12 183).eval args s none [] s = some (.ref q.1) ∧ va_O "java/lang/String" q.1 (fun q : Nat => s.heap.size ≤ q) s s.heap ∧ va_OF "java/lang/String" "coder" "B" (.int 0) q.1 (fun q : Nat => s.heap.size ≤ q) s s.heap ∧ va_OF "java/lang/String" "value" "[B" (.ref q.2) q.1 (fun q : Nat => s.heap.size ≤ q) s s.heap ∧ va_T .byte q.2 (LEN 28) (fun j => .int (BYT 28 j)) (fun q : Nat => s.heap.size ≤ q) s s.heap :=
  kstr (by decide) (hs _ (List.mem_of_getElem? (i := 288) (by decide +kernel))) (hs _ (List.mem_of_getElem? (i := 289) (by decide +kernel))) (hs _ (List.mem_of_getElem? (i := 290) (by decide +kernel))) (hs _ (List.mem_of_getElem? (i := 291) (by decide +kernel))) (fun j hj => match j, hj with
    | 0, _ => hs _ (List.mem_of_getElem? (i := 292) (by decide +kernel))
    | 1, _ => hs _ (List.mem_of_getElem? (i := 293) (by decide +kernel))
    | 2, _ => hs _ (List.mem_of_getElem? (i := 294) (by decide +kernel))
    | 3, _ => hs _ (List.mem_of_getElem? (i := 295) (by decide +kernel))
    | j + 4, hj => absurd hj (by have h9 : LEN 28 = 4 := (by decide); omega)) (fun a h => Nat.not_le.mpr h)
set_option maxHeartbeats 4000000 in
set_option maxRecDepth 100000 in
theorem kst_29 {args : Array Value} {s : State} (hts0 : ∀ w ∈ lw_tbl, w.before args s = true) (hs : ∀ c ∈ flatC (Jvm.Cond.and given_1 narrow_1), c.before args s = true) : ∃ q : Nat × Nat, (Term.string RX12 184).eval args s none [] s = some (.ref q.1) ∧ va_O "java/lang/String" q.1 (fun q : Nat => s.heap.size ≤ q) s s.heap ∧ va_OF "java/lang/String" "coder" "B" (.int 0) q.1 (fun q : Nat => s.heap.size ≤ q) s s.heap ∧ va_OF "java/lang/String" "value" "[B" (.ref q.2) q.1 (fun q : Nat => s.heap.size ≤ q) s s.heap ∧ va_T .byte q.2 (LEN 29) (fun j => .int (BYT 29 j)) (fun q : Nat => s.heap.size ≤ q) s s.heap :=
  kstr (by decide) (hs _ (List.mem_of_getElem? (i := 297) (by decide +kernel))) (hs _ (List.mem_of_getElem? (i := 298) (by decide +kernel))) (hs _ (List.mem_of_getElem? (i := 299) (by decide +kernel))) (hs _ (List.mem_of_getElem? (i := 300) (by decide +kernel))) (fun j hj => match j, hj with
    | 0, _ => hs _ (List.mem_of_getElem? (i := 301) (by decide +kernel))
    | 1, _ => hs _ (List.mem_of_getElem? (i := 302) (by decide +kernel))
    | j + 2, hj => absurd hj (by have h9 : LEN 29 = 2 := (by decide); omega)) (fun a h => Nat.not_le.mpr h)
set_option maxHeartbeats 4000000 in
set_option maxRecDepth 100000 in
theorem lawKC {args : Array Value} {s : State} (hts0 : ∀ w ∈ lw_tbl, w.before args s = true) (hgv : (Jvm.Cond.and given_1 narrow_1).before args s = true) : ∃ κ : KT, KC κ (fun q : Nat => s.heap.size ≤ q) s s.heap := by
  have hs := flat_of_before _ hgv
  obtain ⟨t0, z0, T0⟩ := ktab_0 hts0 hs
  obtain ⟨t1, z1, T1⟩ := ktab_1 hts0 hs
  obtain ⟨t2, z2, T2⟩ := ktab_2 hts0 hs
  have h0 : ∀ i : Nat, ∃ q : Nat × Nat, i < 30 → (Term.string (SOWN i) (SIDX i)).eval args s none [] s = some (.ref q.1) ∧ va_O "java/lang/String" q.1 (fun q : Nat => s.heap.size ≤ q) s s.heap ∧ va_OF "java/lang/String" "coder" "B" (.int 0) q.1 (fun q : Nat => s.heap.size ≤ q) s s.heap ∧ va_OF "java/lang/String" "value" "[B" (.ref q.2) q.1 (fun q : Nat => s.heap.size ≤ q) s s.heap ∧ va_T .byte q.2 (LEN i) (fun j => .int (BYT i j)) (fun q : Nat => s.heap.size ≤ q) s s.heap := by
    intro i
    match i with
    | 0 => exact (kst_0 hts0 hs).elim fun q h => ⟨q, fun _ => h⟩
    | 1 => exact (kst_1 hts0 hs).elim fun q h => ⟨q, fun _ => h⟩
    | 2 => exact (kst_2 hts0 hs).elim fun q h => ⟨q, fun _ => h⟩
    | 3 => exact (kst_3 hts0 hs).elim fun q h => ⟨q, fun _ => h⟩
    | 4 => exact (kst_4 hts0 hs).elim fun q h => ⟨q, fun _ => h⟩
    | 5 => exact (kst_5 hts0 hs).elim fun q h => ⟨q, fun _ => h⟩
    | 6 => exact (kst_6 hts0 hs).elim fun q h => ⟨q, fun _ => h⟩
    | 7 => exact (kst_7 hts0 hs).elim fun q h => ⟨q, fun _ => h⟩
    | 8 => exact (kst_8 hts0 hs).elim fun q h => ⟨q, fun _ => h⟩
    | 9 => exact (kst_9 hts0 hs).elim fun q h => ⟨q, fun _ => h⟩
    | 10 => exact (kst_10 hts0 hs).elim fun q h => ⟨q, fun _ => h⟩
    | 11 => exact (kst_11 hts0 hs).elim fun q h => ⟨q, fun _ => h⟩
    | 12 => exact (kst_12 hts0 hs).elim fun q h => ⟨q, fun _ => h⟩
    | 13 => exact (kst_13 hts0 hs).elim fun q h => ⟨q, fun _ => h⟩
    | 14 => exact (kst_14 hts0 hs).elim fun q h => ⟨q, fun _ => h⟩
    | 15 => exact (kst_15 hts0 hs).elim fun q h => ⟨q, fun _ => h⟩
    | 16 => exact (kst_16 hts0 hs).elim fun q h => ⟨q, fun _ => h⟩
    | 17 => exact (kst_17 hts0 hs).elim fun q h => ⟨q, fun _ => h⟩
    | 18 => exact (kst_18 hts0 hs).elim fun q h => ⟨q, fun _ => h⟩
    | 19 => exact (kst_19 hts0 hs).elim fun q h => ⟨q, fun _ => h⟩
    | 20 => exact (kst_20 hts0 hs).elim fun q h => ⟨q, fun _ => h⟩
    | 21 => exact (kst_21 hts0 hs).elim fun q h => ⟨q, fun _ => h⟩
    | 22 => exact (kst_22 hts0 hs).elim fun q h => ⟨q, fun _ => h⟩
    | 23 => exact (kst_23 hts0 hs).elim fun q h => ⟨q, fun _ => h⟩
    | 24 => exact (kst_24 hts0 hs).elim fun q h => ⟨q, fun _ => h⟩
    | 25 => exact (kst_25 hts0 hs).elim fun q h => ⟨q, fun _ => h⟩
    | 26 => exact (kst_26 hts0 hs).elim fun q h => ⟨q, fun _ => h⟩
    | 27 => exact (kst_27 hts0 hs).elim fun q h => ⟨q, fun _ => h⟩
    | 28 => exact (kst_28 hts0 hs).elim fun q h => ⟨q, fun _ => h⟩
    | 29 => exact (kst_29 hts0 hs).elim fun q h => ⟨q, fun _ => h⟩
    | i + 30 => exact ⟨(0, 0), fun h => absurd h (by omega)⟩
  obtain ⟨ad, had⟩ := Classical.axiomOfChoice h0
  have hR : ∀ i : Nat, i < 30 → (Cond.stringRef (SOWN i) (SIDX i) (STX i)).before args s = true := by
    intro i hi
    match i, hi with
    | 0, _ => exact hts0 _ (List.mem_of_getElem? (i := 569) (by decide +kernel))
    | 1, _ => exact hts0 _ (List.mem_of_getElem? (i := 622) (by decide +kernel))
    | 2, _ => exact hts0 _ (List.mem_of_getElem? (i := 623) (by decide +kernel))
    | 3, _ => exact hts0 _ (List.mem_of_getElem? (i := 624) (by decide +kernel))
    | 4, _ => exact hts0 _ (List.mem_of_getElem? (i := 625) (by decide +kernel))
    | 5, _ => exact hts0 _ (List.mem_of_getElem? (i := 657) (by decide +kernel))
    | 6, _ => exact hts0 _ (List.mem_of_getElem? (i := 662) (by decide +kernel))
    | 7, _ => exact hts0 _ (List.mem_of_getElem? (i := 663) (by decide +kernel))
    | 8, _ => exact hts0 _ (List.mem_of_getElem? (i := 664) (by decide +kernel))
    | 9, _ => exact hts0 _ (List.mem_of_getElem? (i := 665) (by decide +kernel))
    | 10, _ => exact hts0 _ (List.mem_of_getElem? (i := 666) (by decide +kernel))
    | 11, _ => exact hts0 _ (List.mem_of_getElem? (i := 667) (by decide +kernel))
    | 12, _ => exact hts0 _ (List.mem_of_getElem? (i := 668) (by decide +kernel))
    | 13, _ => exact hts0 _ (List.mem_of_getElem? (i := 669) (by decide +kernel))
    | 14, _ => exact hts0 _ (List.mem_of_getElem? (i := 670) (by decide +kernel))
    | 15, _ => exact hts0 _ (List.mem_of_getElem? (i := 1575) (by decide +kernel))
    | 16, _ => exact hts0 _ (List.mem_of_getElem? (i := 1594) (by decide +kernel))
    | 17, _ => exact hts0 _ (List.mem_of_getElem? (i := 1603) (by decide +kernel))
    | 18, _ => exact hts0 _ (List.mem_of_getElem? (i := 1608) (by decide +kernel))
    | 19, _ => exact hts0 _ (List.mem_of_getElem? (i := 1609) (by decide +kernel))
    | 20, _ => exact hts0 _ (List.mem_of_getElem? (i := 1610) (by decide +kernel))
    | 21, _ => exact hts0 _ (List.mem_of_getElem? (i := 1611) (by decide +kernel))
    | 22, _ => exact hts0 _ (List.mem_of_getElem? (i := 1616) (by decide +kernel))
    | 23, _ => exact hts0 _ (List.mem_of_getElem? (i := 1617) (by decide +kernel))
    | 24, _ => exact hts0 _ (List.mem_of_getElem? (i := 1618) (by decide +kernel))
    | 25, _ => exact hts0 _ (List.mem_of_getElem? (i := 1623) (by decide +kernel))
    | 26, _ => exact hts0 _ (List.mem_of_getElem? (i := 1628) (by decide +kernel))
    | 27, _ => exact hts0 _ (List.mem_of_getElem? (i := 1629) (by decide +kernel))
    | 28, _ => exact hts0 _ (List.mem_of_getElem? (i := 1630) (by decide +kernel))
    | 29, _ => exact hts0 _ (List.mem_of_getElem? (i := 1631) (by decide +kernel))
    | i + 30, hi => exact absurd hi (by omega)
  refine ⟨(fun k => [t0, t1, t2].getD k 0, fun i => (ad i).1, fun i => (ad i).2), va_Zof (hts0 _ (List.mem_of_getElem? (i := 583) (by decide +kernel))) (hts0 _ (List.mem_of_getElem? (i := 116) (by decide +kernel))) (va_eqt (hs _ (List.mem_of_getElem? (i := 4) (by decide +kernel)))) (fun a h => Nat.not_le.mpr h), ?_, ⟨z0, T0⟩, ⟨z1, T1⟩, ⟨z2, T2⟩, fun i hi => (had i hi).2, fun i hi => vk_R.of (hR i hi) (had i hi).1⟩
  exact va_Zqof (hts0 _ (List.mem_of_getElem? (i := 599) (by decide +kernel))) (hts0 _ (List.mem_of_getElem? (i := 118) (by decide +kernel))) (hs _ (List.mem_of_getElem? (i := 5) (by decide +kernel))) (fun a h => Nat.not_le.mpr h)

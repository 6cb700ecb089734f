set_option maxHeartbeats 4000000 in
set_option maxRecDepth 100000 in
theorem w_hE {s : State} {args : Array Value} (hts : ∀ w ∈ lw_tbl, w.before args s = true) (hgv : (Jvm.Cond.and given_1 narrow_1).before args s = true) : xE (fun q : Nat => s.heap.size ≤ q) s s.heap := by
  have hs := flat_of_before _ hgv
  exact ⟨vx_Zqof (hts (.laysStatic Bundle.tN "UNASSIGNED_STACK" Bundle.steD) (List.mem_of_getElem? (i := 259) (by decide +kernel))) (hts (.initialized Bundle.tN) (List.mem_of_getElem? (i := 46) (by decide +kernel))) (hs (.isRef (.static Bundle.tN "UNASSIGNED_STACK" Bundle.steD)) (by decide +kernel)) (fun a h => Nat.not_le.mpr h), vx_Zqof (hts (.laysStatic Bundle.tN "SUPPRESSED_SENTINEL" Bundle.listD) (List.mem_of_getElem? (i := 261) (by decide +kernel))) (hts (.initialized Bundle.tN) (List.mem_of_getElem? (i := 46) (by decide +kernel))) (hs (.isRef (.static Bundle.tN "SUPPRESSED_SENTINEL" Bundle.listD)) (by decide +kernel)) (fun a h => Nat.not_le.mpr h)⟩
set_option maxHeartbeats 4000000 in
set_option maxRecDepth 100000 in
theorem w_hN {s : State} {args : Array Value} (hgv : (Jvm.Cond.and given_1 narrow_1).before args s = true) : yN s := by
  have hs := flat_of_before _ hgv
  intro q hq
  simp only [List.mem_cons, List.not_mem_nil, or_false] at hq
  rcases hq with rfl | rfl | rfl | rfl | rfl | rfl
  · exact va_Nc.of (hs (.not (.castable nIA nIS)) (by decide +kernel))
  · exact va_Nc.of (hs (.not (.castable nIA nIX)) (by decide +kernel))
  · exact va_Nc.of (hs (.not (.castable nIS nIA)) (by decide +kernel))
  · exact va_Nc.of (hs (.not (.castable nIS nIX)) (by decide +kernel))
  · exact va_Nc.of (hs (.not (.castable nIX nIA)) (by decide +kernel))
  · exact va_Nc.of (hs (.not (.castable nIX nIS)) (by decide +kernel))
set_option maxHeartbeats 4000000 in
set_option maxRecDepth 100000 in
theorem w_str {s : State} {args : Array Value} {k : Nat} {tx : String} (h1 : (Cond.stringRef RX2 k tx).before args s = true) (h2 : (Cond.exactly (.string RX2 k) "java/lang/String").before args s = true) : ∃ sa : Nat, vk_R RX2 k tx sa s := by
  obtain ⟨a, c, cell, kk, h3, -⟩ := Cond.exactly_spec h2
  exact ⟨a, vk_R.of h1 h3⟩
set_option maxHeartbeats 4000000 in
set_option maxRecDepth 100000 in
theorem w_hV {s : State} {args : Array Value} (hts : ∀ w ∈ lw_tbl, w.before args s = true) (hgv : (Jvm.Cond.and given_1 narrow_1).before args s = true) : xV s := by
  have hs := flat_of_before _ hgv
  refine ⟨⟨va_Nw.of rfl (hts (.declares (Bundle.initS "java/lang/RuntimeException")) (List.mem_of_getElem? (i := 236) (by decide +kernel))), va_Nw.of rfl (hts (.declares (Bundle.initS "java/lang/Exception")) (List.mem_of_getElem? (i := 238) (by decide +kernel))), va_Nw.of rfl (hts (.declares (Bundle.initS Bundle.tN)) (List.mem_of_getElem? (i := 240) (by decide +kernel))), va_Nw.of rfl (hts (.castable nIA nIA) (List.mem_of_getElem? (i := 302) (by decide +kernel))), va_Nw.of rfl (hts (.castable nIS nIS) (List.mem_of_getElem? (i := 331) (by decide +kernel))), va_Nw.of rfl (hts (.castable nIX nIX) (List.mem_of_getElem? (i := 234) (by decide +kernel)))⟩, fun q hq => ?_⟩
  simp only [xStr, List.mem_cons, List.not_mem_nil, or_false] at hq
  rcases hq with rfl | rfl | rfl | rfl | rfl | rfl | rfl | rfl | rfl | rfl | rfl | rfl | rfl | rfl | rfl | rfl | rfl
  · exact w_str (hts (.stringRef RX2 47 "kind is not 0 to 2") (List.mem_of_getElem? (i := 273) (by decide +kernel))) (hs (.exactly (.string RX2 47) "java/lang/String") (by decide +kernel))
  · exact w_str (hts (.stringRef RX2 212 "delay is not 0 to 12") (List.mem_of_getElem? (i := 364) (by decide +kernel))) (hs (.exactly (.string RX2 212) "java/lang/String") (by decide +kernel))
  · exact w_str (hts (.stringRef RX2 220 "there is no schedule") (List.mem_of_getElem? (i := 447) (by decide +kernel))) (hs (.exactly (.string RX2 220) "java/lang/String") (by decide +kernel))
  · exact w_str (hts (.stringRef RX2 104 "greatest is not 1 to 200") (List.mem_of_getElem? (i := 395) (by decide +kernel))) (hs (.exactly (.string RX2 104) "java/lang/String") (by decide +kernel))
  · exact w_str (hts (.stringRef RX2 214 "n is not 1 to 1000") (List.mem_of_getElem? (i := 574) (by decide +kernel))) (hs (.exactly (.string RX2 214) "java/lang/String") (by decide +kernel))
  · exact w_str (hts (.stringRef RX2 31 "units is not 1 to 3") (List.mem_of_getElem? (i := 309) (by decide +kernel))) (hs (.exactly (.string RX2 31) "java/lang/String") (by decide +kernel))
  · exact w_str (hts (.stringRef RX2 218 "no such operation") (List.mem_of_getElem? (i := 360) (by decide +kernel))) (hs (.exactly (.string RX2 218) "java/lang/String") (by decide +kernel))
  · exact w_str (hts (.stringRef RX2 222 "row is not 0 to the interval minus 1") (List.mem_of_getElem? (i := 508) (by decide +kernel))) (hs (.exactly (.string RX2 222) "java/lang/String") (by decide +kernel))
  · exact w_str (hts (.stringRef RX2 83 "no such dependence") (List.mem_of_getElem? (i := 378) (by decide +kernel))) (hs (.exactly (.string RX2 83) "java/lang/String") (by decide +kernel))
  · exact w_str (hts (.stringRef RX2 126 "time is not 0 to 1000") (List.mem_of_getElem? (i := 462) (by decide +kernel))) (hs (.exactly (.string RX2 126) "java/lang/String") (by decide +kernel))
  · exact w_str (hts (.stringRef RX2 70 "distance is not 0 to 3") (List.mem_of_getElem? (i := 365) (by decide +kernel))) (hs (.exactly (.string RX2 70) "java/lang/String") (by decide +kernel))
  · exact w_str (hts (.stringRef RX2 49 "busy is not 1 to 4") (List.mem_of_getElem? (i := 328) (by decide +kernel))) (hs (.exactly (.string RX2 49) "java/lang/String") (by decide +kernel))
  · exact w_str (hts (.stringRef RX2 96 "interval is not recurrenceBound() to 200") (List.mem_of_getElem? (i := 386) (by decide +kernel))) (hs (.exactly (.string RX2 96) "java/lang/String") (by decide +kernel))
  · exact w_str (hts (.stringRef RX2 75 "there are 40 dependences") (List.mem_of_getElem? (i := 366) (by decide +kernel))) (hs (.exactly (.string RX2 75) "java/lang/String") (by decide +kernel))
  · exact w_str (hts (.stringRef RX2 57 "there are 14 operations") (List.mem_of_getElem? (i := 338) (by decide +kernel))) (hs (.exactly (.string RX2 57) "java/lang/String") (by decide +kernel))
  · exact w_str (hts (.stringRef RX2 185 "no such index") (List.mem_of_getElem? (i := 606) (by decide +kernel))) (hs (.exactly (.string RX2 185) "java/lang/String") (by decide +kernel))
  · exact w_str (hts (.stringRef RX2 216 "cycle is negative") (List.mem_of_getElem? (i := 586) (by decide +kernel))) (hs (.exactly (.string RX2 216) "java/lang/String") (by decide +kernel))

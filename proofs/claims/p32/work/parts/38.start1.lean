set_option maxHeartbeats 4000000 in
set_option maxRecDepth 100000 in
theorem w_hE {s : State} {args : Array Value} (hts : ∀ w ∈ lw_tbl, w.before args s = true) (hgv : (Jvm.Cond.and given_1 narrow_1).before args s = true) : xE (fun q : Nat => s.heap.size ≤ q) s s.heap := by
  have hs := flat_of_before _ hgv
  exact ⟨vx_Zqof (hts (.laysStatic Bundle.tN "UNASSIGNED_STACK" Bundle.steD) (List.mem_of_getElem? (i := 152) (by decide +kernel))) (hts (.initialized Bundle.tN) (List.mem_of_getElem? (i := 18) (by decide +kernel))) (hs (.isRef (.static Bundle.tN "UNASSIGNED_STACK" Bundle.steD)) (by decide +kernel)) (fun a h => Nat.not_le.mpr h), vx_Zqof (hts (.laysStatic Bundle.tN "SUPPRESSED_SENTINEL" Bundle.listD) (List.mem_of_getElem? (i := 154) (by decide +kernel))) (hts (.initialized Bundle.tN) (List.mem_of_getElem? (i := 18) (by decide +kernel))) (hs (.isRef (.static Bundle.tN "SUPPRESSED_SENTINEL" Bundle.listD)) (by decide +kernel)) (fun a h => Nat.not_le.mpr h)⟩
set_option maxHeartbeats 4000000 in
set_option maxRecDepth 100000 in
theorem w_str {s : State} {args : Array Value} {k : Nat} {tx : String} (h1 : (Cond.stringRef RX2 k tx).before args s = true) (h2 : (Cond.exactly (.string RX2 k) "java/lang/String").before args s = true) : ∃ sa : Nat, vk_R RX2 k tx sa s := by
  obtain ⟨a, c, cell, kk, h3, -⟩ := Cond.exactly_spec h2
  exact ⟨a, vk_R.of h1 h3⟩
set_option maxHeartbeats 4000000 in
set_option maxRecDepth 100000 in
theorem w_hV {s : State} {args : Array Value} (hts : ∀ w ∈ lw_tbl, w.before args s = true) (hgv : (Jvm.Cond.and given_1 narrow_1).before args s = true) : xV s := by
  have hs := flat_of_before _ hgv
  refine ⟨⟨va_Nw.of rfl (hts (.declares (Bundle.initS "java/lang/RuntimeException")) (List.mem_of_getElem? (i := 129) (by decide +kernel))), va_Nw.of rfl (hts (.declares (Bundle.initS "java/lang/Exception")) (List.mem_of_getElem? (i := 131) (by decide +kernel))), va_Nw.of rfl (hts (.declares (Bundle.initS Bundle.tN)) (List.mem_of_getElem? (i := 133) (by decide +kernel))), va_Nw.of rfl (hts (.castable nIA nIA) (List.mem_of_getElem? (i := 127) (by decide +kernel))), va_Nw.of rfl (hts (.castable nIS nIS) (List.mem_of_getElem? (i := 293) (by decide +kernel))), va_Nw.of rfl (hts (.castable nIX nIX) (List.mem_of_getElem? (i := 273) (by decide +kernel)))⟩, fun q hq => ?_⟩
  simp only [xStr, List.mem_cons, List.not_mem_nil, or_false] at hq
  rcases hq with rfl | rfl | rfl | rfl | rfl | rfl | rfl | rfl | rfl | rfl | rfl | rfl | rfl
  · exact w_str (hts (.stringRef RX2 47 "kind is not 0 to 2") (List.mem_of_getElem? (i := 374) (by decide +kernel))) (hs (.exactly (.string RX2 47) "java/lang/String") (by decide +kernel))
  · exact w_str (hts (.stringRef RX2 212 "delay is not 0 to 12") (List.mem_of_getElem? (i := 393) (by decide +kernel))) (hs (.exactly (.string RX2 212) "java/lang/String") (by decide +kernel))
  · exact w_str (hts (.stringRef RX2 220 "there is no schedule") (List.mem_of_getElem? (i := 300) (by decide +kernel))) (hs (.exactly (.string RX2 220) "java/lang/String") (by decide +kernel))
  · exact w_str (hts (.stringRef RX2 104 "greatest is not 1 to 200") (List.mem_of_getElem? (i := 166) (by decide +kernel))) (hs (.exactly (.string RX2 104) "java/lang/String") (by decide +kernel))
  · exact w_str (hts (.stringRef RX2 214 "n is not 1 to 1000") (List.mem_of_getElem? (i := 339) (by decide +kernel))) (hs (.exactly (.string RX2 214) "java/lang/String") (by decide +kernel))
  · exact w_str (hts (.stringRef RX2 31 "units is not 1 to 3") (List.mem_of_getElem? (i := 375) (by decide +kernel))) (hs (.exactly (.string RX2 31) "java/lang/String") (by decide +kernel))
  · exact w_str (hts (.stringRef RX2 218 "no such operation") (List.mem_of_getElem? (i := 280) (by decide +kernel))) (hs (.exactly (.string RX2 218) "java/lang/String") (by decide +kernel))
  · exact w_str (hts (.stringRef RX2 126 "time is not 0 to 1000") (List.mem_of_getElem? (i := 311) (by decide +kernel))) (hs (.exactly (.string RX2 126) "java/lang/String") (by decide +kernel))
  · exact w_str (hts (.stringRef RX2 70 "distance is not 0 to 3") (List.mem_of_getElem? (i := 394) (by decide +kernel))) (hs (.exactly (.string RX2 70) "java/lang/String") (by decide +kernel))
  · exact w_str (hts (.stringRef RX2 49 "busy is not 1 to 4") (List.mem_of_getElem? (i := 380) (by decide +kernel))) (hs (.exactly (.string RX2 49) "java/lang/String") (by decide +kernel))
  · exact w_str (hts (.stringRef RX2 75 "there are 40 dependences") (List.mem_of_getElem? (i := 395) (by decide +kernel))) (hs (.exactly (.string RX2 75) "java/lang/String") (by decide +kernel))
  · exact w_str (hts (.stringRef RX2 57 "there are 14 operations") (List.mem_of_getElem? (i := 381) (by decide +kernel))) (hs (.exactly (.string RX2 57) "java/lang/String") (by decide +kernel))
  · exact w_str (hts (.stringRef RX2 216 "cycle is negative") (List.mem_of_getElem? (i := 348) (by decide +kernel))) (hs (.exactly (.string RX2 216) "java/lang/String") (by decide +kernel))
def LC (p : Program) (l : Launch) (s : State) (m : MethodId) (meth : Method) (c : Code) (b Lx : Nat) (xs : Nat → Int32) (D : va_G) (g : Nat → ClassId) : Prop := lw_At p s m meth c b Lx xs ∧ Lx ≤ 260 ∧ l.stackTraces = false ∧ va_K D vwCl (zT g) s ∧ xE (fun q : Nat => s.heap.size ≤ q) s s.heap ∧ xV s
theorem newN {n : Nat} (h : n < 100000000) : ¬ iI ((n : Nat) : Int) < 0 ∧ (iI ((n : Nat) : Int)).toNatClampNeg = n ∧ n * componentBytes .int ≤ 536870912 := by
  refine ⟨fun q => ?_, ?_, ?_⟩
  · rw [show (0 : Int32) = iI 0 from by decide] at q
    have := (iI_lt ⟨⟨by omega, by omega⟩, by decide, by decide⟩).mp q
    omega
  · rw [iI_cl ⟨by omega, by omega⟩]
    exact Int.toNat_natCast n
  · show n * 4 ≤ 536870912
    omega

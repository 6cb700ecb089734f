set_option maxHeartbeats 16000000 in
set_option maxRecDepth 100000 in
theorem law_514 {p : Program} {l : Launch} {e : Env} {s : State} {m : MethodId} {below : List Frame} {meth : Method} {c : Code} {b Lx : Nat} {xs : Nat → Int32} {D : va_G} {g : Nat → ClassId} (hC : LC p l s m meth c b Lx xs D g) {a : Nat → Nat} {L : LD} {att T : Nat} {hs tm : Nat → Int} {tk : Nat → Nat → Int} {lt : Nat → Int} {ou okk ob ol ot od : Nat} {uf lf tf : Nat → Nat} {G S C : Nat} {f9 : Nat → Int} (h4 : J4 L T tm tk tf) (h5 : J5 L T tm tf G S C) {H : Heap} {locs : List Loc} {ls : Array Slot} (hP : va_P D vwCl ([(od, .inl (g 0, (3 * (C + 1)), .inl (aI f9))), (ot, .inl (g 0, 6, .inl (aI (nZ tf)))), (ol, .inl (g 0, 40, .inl (aI (nZ lf)))), (ob, .inl (g 0, 6, .inl (aI (nZ (Lby L))))), (okk, .inl (g 0, 6, .inl (aI (nZ (Lkd L))))), (ou, .inl (g 0, 3, .inl (aI (nZ uf))))] ++ (wX a g L att T hs tm tk lt)) H) (hD : va_D (fun q : Nat => s.heap.size ≤ q) ([(od, .inl (g 0, (3 * (C + 1)), .inl (aI f9))), (ot, .inl (g 0, 6, .inl (aI (nZ tf)))), (ol, .inl (g 0, 40, .inl (aI (nZ lf)))), (ob, .inl (g 0, 6, .inl (aI (nZ (Lby L))))), (okk, .inl (g 0, 6, .inl (aI (nZ (Lkd L))))), (ou, .inl (g 0, 3, .inl (aI (nZ uf))))] ++ (wX a g L att T hs tm tk lt))) (hS : va_S (fun q : Nat => s.heap.size ≤ q) s.heap H locs) (hl : lv_has ls 16 [(0, .ref (b)), (1, .ref (a 0)), (2, .ref (ou)), (3, .ref (okk)), (4, .ref (ob)), (5, .ref (ol)), (6, .int (iI ((Ln L : Nat) : Int))), (7, .int (iI ((T : Nat) : Int))), (8, .ref (ot)), (9, .int (iI ((S : Nat) : Int))), (10, .int (iI ((S + 3 : Nat) : Int))), (11, .int (iI ((C : Nat) : Int))), (12, .ref (od))]) : W p l e room_1 s m #[Value.ref b] below meth c H locs 1100 28000 (lw_Z below #[Value.ref b] s) (F0 m 514 ls []) := by
  obtain ⟨⟨hx, hb, hr, hml, hown, hts0, hX, hbl, hlocks, hgv⟩, hLx, hl0, hK, hE, hV⟩ := id hC
  have hown : s.vm.findClass RL = some m.cls := hown
  have hts : ∀ w ∈ wsL_law, w.before #[Value.ref b] s = true := fun w h => hts0 w (wsL_law_in w h)
  have hA : ∀ q : Nat, s.heap.size ≤ q → (fun q : Nat => s.heap.size ≤ q) q := fun _ h => h
  have hbA : ¬ (fun q : Nat => s.heap.size ≤ q) b := Nat.not_le.mpr hbl
  have hw : wf L := h4.1.1
  have hn1 := h4.1.2.2.1
  have hn6 := h4.1.2.2.2.1
  have hm8 := h4.1.2.2.2.2.1
  have hT := h4.2.1
  have hok := h4.2.2.1
  have htm := h4.2.2.2.2.2.2.2
  have htj := h4.2.2.2.2.2.2.1
  have hEq := h4.2.2.2.2.1
  have hI := h4.2.2.2.2.2.1
  obtain ⟨hGe, hGj, hG, hS0, hSb, hS2, hCe, hCb⟩ := id h5
  have hS1 : 1 ≤ S := by rw [hS0]; exact Nat.le_add_left 1 _
  clear hS0
  refine z_ic hx hb dL_law_514 ?_
  refine lv_istore (lv' := [(14, .int (iI ((0 : Nat) : Int))), (0, .ref (b)), (1, .ref (a 0)), (2, .ref (ou)), (3, .ref (okk)), (4, .ref (ob)), (5, .ref (ol)), (6, .int (iI ((Ln L : Nat) : Int))), (7, .int (iI ((T : Nat) : Int))), (8, .ref (ot)), (9, .int (iI ((S : Nat) : Int))), (10, .int (iI ((S + 3 : Nat) : Int))), (11, .int (iI ((C : Nat) : Int))), (12, .ref (od))]) hx hb dL_law_515 hl (by decide) rfl (fun ls hl => ?_)
  refine z_ic hx hb dL_law_517 ?_
  refine lv_istore (lv' := [(15, .int (iI ((0 : Nat) : Int))), (14, .int (iI ((0 : Nat) : Int))), (0, .ref (b)), (1, .ref (a 0)), (2, .ref (ou)), (3, .ref (okk)), (4, .ref (ob)), (5, .ref (ol)), (6, .int (iI ((Ln L : Nat) : Int))), (7, .int (iI ((T : Nat) : Int))), (8, .ref (ot)), (9, .int (iI ((S : Nat) : Int))), (10, .int (iI ((S + 3 : Nat) : Int))), (11, .int (iI ((C : Nat) : Int))), (12, .ref (od))]) hx hb dL_law_518 hl (by decide) rfl (fun ls hl => ?_)
  have loop520 : ∀ (n520 : Nat) (x : Nat) (H : Heap) (locs : List Loc) (ls : Array Slot), C - x < n520 → (x ≤ C) → va_P D vwCl ([(od, .inl (g 0, (3 * (C + 1)), .inl (aI f9))), (ot, .inl (g 0, 6, .inl (aI (nZ tf)))), (ol, .inl (g 0, 40, .inl (aI (nZ lf)))), (ob, .inl (g 0, 6, .inl (aI (nZ (Lby L))))), (okk, .inl (g 0, 6, .inl (aI (nZ (Lkd L))))), (ou, .inl (g 0, 3, .inl (aI (nZ uf))))] ++ (wX a g L att T hs tm tk lt)) H → va_D (fun q : Nat => s.heap.size ≤ q) ([(od, .inl (g 0, (3 * (C + 1)), .inl (aI f9))), (ot, .inl (g 0, 6, .inl (aI (nZ tf)))), (ol, .inl (g 0, 40, .inl (aI (nZ lf)))), (ob, .inl (g 0, 6, .inl (aI (nZ (Lby L))))), (okk, .inl (g 0, 6, .inl (aI (nZ (Lkd L))))), (ou, .inl (g 0, 3, .inl (aI (nZ uf))))] ++ (wX a g L att T hs tm tk lt)) → va_S (fun q : Nat => s.heap.size ≤ q) s.heap H locs → lv_has ls 16 [(0, .ref (b)), (1, .ref (a 0)), (2, .ref (ou)), (3, .ref (okk)), (4, .ref (ob)), (5, .ref (ol)), (6, .int (iI ((Ln L : Nat) : Int))), (7, .int (iI ((T : Nat) : Int))), (8, .ref (ot)), (9, .int (iI ((S : Nat) : Int))), (10, .int (iI ((S + 3 : Nat) : Int))), (11, .int (iI ((C : Nat) : Int))), (12, .ref (od)), (14, .int (iI ((sumI (fun c => isn T tm (S + 3) c (Ln L)) x : Nat) : Int))), (15, .int (iI ((x : Nat) : Int)))] → W p l e room_1 s m #[Value.ref b] below meth c H locs (1100 + 3 * x) (28000 + 18 * x) (lw_Z below #[Value.ref b] s) (F0 m 520 ls []) := by
    intro n520
    induction n520 with
    | zero => exact fun _ H locs ls hn => absurd hn (Nat.not_lt_zero _)
    | succ n520 ih520 =>
      intro x H locs ls hn520 hx9 hP hD hS hl
      have hsb := sum_bd (f := fun c => isn T tm (S + 3) c (Ln L)) (x := x) (M := 6700) (fun c => Nat.le_trans (isn_le T tm (S + 3) c (Ln L)) (by omega)) (by omega)
      have hib := isn_le T tm (S + 3) x (Ln L)
      refine lv_iload hx hb dL_law_520 (lv_at hl 14 rfl) ?_
      refine lv_iload hx hb dL_law_522 (lv_at hl 11 rfl) ?_
      refine z_icge (a := ((x : Nat) : Int)) (b := ((C : Nat) : Int)) (tgt := 546) hx hb dL_law_524 (by decide) (by omega) (fun c_524 => ?_) (fun c_524 => ?_)
      · obtain rfl : C = x := by omega
        refine lv_iload hx hb dL_law_546 (lv_at hl 13 rfl) ?_
        refine lv_iload hx hb dL_law_548 (lv_at hl 6 rfl) ?_
        refine lv_iload hx hb dL_law_550 (lv_at hl 10 rfl) ?_
        refine z_mul (a := ((Ln L : Nat) : Int)) (b := ((S + 3 : Nat) : Int)) hx hb dL_law_552 ?_
        refine z_eqI (y := iI ((Ln L * (S + 3) : Nat) : Int)) (congrArg iI (Int.natCast_mul _ _).symm) ?_
        refine z_icne (a := ((sumI (fun c => isn T tm (S + 3) c (Ln L)) C : Nat) : Int)) (b := ((Ln L * (S + 3) : Nat) : Int)) (tgt := 571) hx hb dL_law_553 (by decide) (by have hm9 := mul_bd hn6 (show S + 3 ≤ 76 by omega); rw [← Int.natCast_mul] at hm9; omega) (fun c_553 => ?_) (fun c_553 => ?_)
        · exact absurd (by rw [J5_all h4 h5]) c_553
        · refine lv_aload_n hx hb dL_law_556 rfl (lv_at hl 1 rfl) ?_
          refine lv_iload hx hb dL_law_557 (lv_at hl 10 rfl) ?_
          refine lv_iload hx hb dL_law_559 (lv_at hl 11 rfl) ?_
          refine j_callQ (u := [(od, .inl (g 0, (3 * (C + 1)), .inl (aI f9))), (ot, .inl (g 0, 6, .inl (aI (nZ tf)))), (ol, .inl (g 0, 40, .inl (aI (nZ lf)))), (ob, .inl (g 0, 6, .inl (aI (nZ (Lby L))))), (okk, .inl (g 0, 6, .inl (aI (nZ (Lkd L))))), (ou, .inl (g 0, 3, .inl (aI (nZ uf))))]) (v := (wX a g L att T hs tm tk lt)) (k := 3) (fun E u9 h9 => by rcases h9.2 with h | h <;> omega) (vx_runV (As := [.int (iI ((S + 3 : Nat) : Int)), .int (iI ((C : Nat) : Int))]) (rest := []) ⟨hx, hb, hml, hown, hts⟩ (c_X2_issued l hl0 D g a L att T hs tm tk lt ((S + 3 : Nat) : Int) ((C : Nat) : Int) hw hok (by omega) (by omega) _) (cwV 2 hts gL_law_X2_issued rfl rfl rfl (by decide +kernel) ⟨Nat.le_of_ble_eq_true rfl, Nat.le_of_ble_eq_true rfl⟩) (x_preV 0 hK (wj_r hP) (wj_dr hD) hS hA hE hV rfl rfl) rfl rfl hl.1 rfl (lv_room (Nat.le_of_ble_eq_true rfl)) dL_law_561 ⟨show 1100 + 3 * C + 3 ≤ 600104 from by omega, show 28000 + 18 * C + 6 * 3 ≤ 7301314 from by omega⟩) hS hP hD hA (fun r w1 H locs hw1 hP hD hS => ?_)
          obtain ⟨_, rfl, rfl⟩ := hw1
          have hP : va_P D vwCl ([(od, .inl (g 0, (3 * (C + 1)), .inl (aI f9))), (ot, .inl (g 0, 6, .inl (aI (nZ tf)))), (ol, .inl (g 0, 40, .inl (aI (nZ lf)))), (ob, .inl (g 0, 6, .inl (aI (nZ (Lby L))))), (okk, .inl (g 0, 6, .inl (aI (nZ (Lkd L))))), (ou, .inl (g 0, 3, .inl (aI (nZ uf))))] ++ (wX a g L att T hs tm tk lt)) H := hP
          have hD : va_D (fun q : Nat => s.heap.size ≤ q) ([(od, .inl (g 0, (3 * (C + 1)), .inl (aI f9))), (ot, .inl (g 0, 6, .inl (aI (nZ tf)))), (ol, .inl (g 0, 40, .inl (aI (nZ lf)))), (ob, .inl (g 0, 6, .inl (aI (nZ (Lby L))))), (okk, .inl (g 0, 6, .inl (aI (nZ (Lkd L))))), (ou, .inl (g 0, 3, .inl (aI (nZ uf))))] ++ (wX a g L att T hs tm tk lt)) := hD
          refine z_eqI (y := (iI ((0 : Nat) : Int))) (congrArg iI (by show ((isn T tm (S + 3) C (Ln L) : Nat) : Int) = _; rw [J5_none h4 h5])) ?_
          refine z_ifne (a := 0) (tgt := 571) hx hb dL_law_564 (by decide) (by omega) (fun c_564 => ?_) (fun c_564 => ?_)
          · exact absurd c_564 (by decide)
          · refine z_ic hx hb dL_law_567 ?_
            refine lv_goto (tgt := 572) hx hb dL_law_568 (by decide) ?_
            refine z_eqI (y := 1) (by decide) ?_
            refine va_forget (fun q hq => hS.2.2 q hq) ?_
            refine W.widen (k := 600104) (n := 7301314) (by omega) (by omega) ?_
            exact lw_ret hx hb hr hlocks dL_law_572
      · refine lv_iload hx hb dL_law_527 (lv_at hl 13 rfl) ?_
        refine lv_aload_n hx hb dL_law_529 rfl (lv_at hl 1 rfl) ?_
        refine lv_iload hx hb dL_law_530 (lv_at hl 10 rfl) ?_
        refine lv_iload hx hb dL_law_532 (lv_at hl 14 rfl) ?_
        refine j_callQ (u := [(od, .inl (g 0, (3 * (C + 1)), .inl (aI f9))), (ot, .inl (g 0, 6, .inl (aI (nZ tf)))), (ol, .inl (g 0, 40, .inl (aI (nZ lf)))), (ob, .inl (g 0, 6, .inl (aI (nZ (Lby L))))), (okk, .inl (g 0, 6, .inl (aI (nZ (Lkd L))))), (ou, .inl (g 0, 3, .inl (aI (nZ uf))))]) (v := (wX a g L att T hs tm tk lt)) (k := 3) (fun E u9 h9 => by rcases h9.2 with h | h <;> omega) (vx_runV (As := [.int (iI ((S + 3 : Nat) : Int)), .int (iI ((x : Nat) : Int))]) (rest := [.int (iI ((sumI (fun c => isn T tm (S + 3) c (Ln L)) x : Nat) : Int))]) ⟨hx, hb, hml, hown, hts⟩ (c_X2_issued l hl0 D g a L att T hs tm tk lt ((S + 3 : Nat) : Int) ((x : Nat) : Int) hw hok (by omega) (by omega) _) (cwV 2 hts gL_law_X2_issued rfl rfl rfl (by decide +kernel) ⟨Nat.le_of_ble_eq_true rfl, Nat.le_of_ble_eq_true rfl⟩) (x_preV 0 hK (wj_r hP) (wj_dr hD) hS hA hE hV rfl rfl) rfl rfl hl.1 rfl (lv_room (Nat.le_of_ble_eq_true rfl)) dL_law_534 ⟨show 1100 + 3 * x + 3 ≤ 600104 from by omega, show 28000 + 18 * x + 6 * 3 ≤ 7301314 from by omega⟩) hS hP hD hA (fun r w1 H locs hw1 hP hD hS => ?_)
        obtain ⟨_, rfl, rfl⟩ := hw1
        have hP : va_P D vwCl ([(od, .inl (g 0, (3 * (C + 1)), .inl (aI f9))), (ot, .inl (g 0, 6, .inl (aI (nZ tf)))), (ol, .inl (g 0, 40, .inl (aI (nZ lf)))), (ob, .inl (g 0, 6, .inl (aI (nZ (Lby L))))), (okk, .inl (g 0, 6, .inl (aI (nZ (Lkd L))))), (ou, .inl (g 0, 3, .inl (aI (nZ uf))))] ++ (wX a g L att T hs tm tk lt)) H := hP
        have hD : va_D (fun q : Nat => s.heap.size ≤ q) ([(od, .inl (g 0, (3 * (C + 1)), .inl (aI f9))), (ot, .inl (g 0, 6, .inl (aI (nZ tf)))), (ol, .inl (g 0, 40, .inl (aI (nZ lf)))), (ob, .inl (g 0, 6, .inl (aI (nZ (Lby L))))), (okk, .inl (g 0, 6, .inl (aI (nZ (Lkd L))))), (ou, .inl (g 0, 3, .inl (aI (nZ uf))))] ++ (wX a g L att T hs tm tk lt)) := hD
        refine z_add (a := ((sumI (fun c => isn T tm (S + 3) c (Ln L)) x : Nat) : Int)) (b := ((isn T tm (S + 3) x (Ln L) : Nat) : Int)) hx hb dL_law_537 ?_
        refine z_eqI (y := iI ((sumI (fun c => isn T tm (S + 3) c (Ln L)) (x + 1) : Nat) : Int)) (congrArg iI (Int.natCast_add _ _).symm) ?_
        refine lv_istore (lv' := [(14, .int (iI ((sumI (fun c => isn T tm (S + 3) c (Ln L)) (x + 1) : Nat) : Int))), (0, .ref (b)), (1, .ref (a 0)), (2, .ref (ou)), (3, .ref (okk)), (4, .ref (ob)), (5, .ref (ol)), (6, .int (iI ((Ln L : Nat) : Int))), (7, .int (iI ((T : Nat) : Int))), (8, .ref (ot)), (9, .int (iI ((S : Nat) : Int))), (10, .int (iI ((S + 3 : Nat) : Int))), (11, .int (iI ((C : Nat) : Int))), (12, .ref (od)), (15, .int (iI ((x : Nat) : Int)))]) hx hb dL_law_538 hl (by decide) rfl (fun ls hl => ?_)
        refine z_iinc (a := ((x : Nat) : Int)) (b := ((x + 1 : Nat) : Int)) (lv' := [(15, .int (iI ((x + 1 : Nat) : Int))), (14, .int (iI ((sumI (fun c => isn T tm (S + 3) c (Ln L)) (x + 1) : Nat) : Int))), (0, .ref (b)), (1, .ref (a 0)), (2, .ref (ou)), (3, .ref (okk)), (4, .ref (ob)), (5, .ref (ol)), (6, .int (iI ((Ln L : Nat) : Int))), (7, .int (iI ((T : Nat) : Int))), (8, .ref (ot)), (9, .int (iI ((S : Nat) : Int))), (10, .int (iI ((S + 3 : Nat) : Int))), (11, .int (iI ((C : Nat) : Int))), (12, .ref (od))]) hx hb 14 dL_law_540 hl rfl rfl (by decide) rfl (fun ls hl => ?_)
        refine lv_goto (tgt := 520) hx hb dL_law_543 (by decide) ?_
        refine W.widen (k := 1100 + 3 * (x + 1)) (n := 28000 + 18 * (x + 1)) (by omega) (by omega) ?_
        exact ih520 (x + 1) _ _ _ (by omega) (by omega) hP hD hS (lv_sub hl [2, 3, 4, 5, 6, 7, 8, 9, 10, 11, 12, 13, 14, 1, 0] rfl)
  refine W.widen (k := 1100 + 3 * 0) (n := 28000 + 18 * 0) (by omega) (by omega) ?_
  exact loop520 ((C - 0) + 1) 0 _ _ _ (Nat.lt_succ_self _) (by omega) hP hD hS (lv_sub hl [2, 3, 4, 5, 6, 7, 8, 9, 10, 11, 12, 13, 14, 1, 0] rfl)
set_option maxHeartbeats 16000000 in
set_option maxRecDepth 100000 in
theorem law_464 {p : Program} {l : Launch} {e : Env} {s : State} {m : MethodId} {below : List Frame} {meth : Method} {c : Code} {b Lx : Nat} {xs : Nat → Int32} {D : va_G} {g : Nat → ClassId} (hC : LC p l s m meth c b Lx xs D g) {a : Nat → Nat} {L : LD} {att T : Nat} {hs tm : Nat → Int} {tk : Nat → Nat → Int} {lt : Nat → Int} {ou okk ob ol ot od : Nat} {uf lf tf : Nat → Nat} {G S C : Nat} {f9 : Nat → Int} (h4 : J4 L T tm tk tf) (h5 : J5 L T tm tf G S C) {H : Heap} {locs : List Loc} {ls : Array Slot} (hP : va_P D vwCl ([(od, .inl (g 0, (3 * (C + 1)), .inl (aI f9))), (ot, .inl (g 0, 6, .inl (aI (nZ tf)))), (ol, .inl (g 0, 40, .inl (aI (nZ lf)))), (ob, .inl (g 0, 6, .inl (aI (nZ (Lby L))))), (okk, .inl (g 0, 6, .inl (aI (nZ (Lkd L))))), (ou, .inl (g 0, 3, .inl (aI (nZ uf))))] ++ (wX a g L att T hs tm tk lt)) H) (hD : va_D (fun q : Nat => s.heap.size ≤ q) ([(od, .inl (g 0, (3 * (C + 1)), .inl (aI f9))), (ot, .inl (g 0, 6, .inl (aI (nZ tf)))), (ol, .inl (g 0, 40, .inl (aI (nZ lf)))), (ob, .inl (g 0, 6, .inl (aI (nZ (Lby L))))), (okk, .inl (g 0, 6, .inl (aI (nZ (Lkd L))))), (ou, .inl (g 0, 3, .inl (aI (nZ uf))))] ++ (wX a g L att T hs tm tk lt))) (hS : va_S (fun q : Nat => s.heap.size ≤ q) s.heap H locs) (hl : lv_has ls 16 [(0, .ref (b)), (1, .ref (a 0)), (2, .ref (ou)), (3, .ref (okk)), (4, .ref (ob)), (5, .ref (ol)), (6, .int (iI ((Ln L : Nat) : Int))), (7, .int (iI ((T : Nat) : Int))), (8, .ref (ot)), (9, .int (iI ((S : Nat) : Int))), (10, .int (iI ((S + 3 : Nat) : Int))), (11, .int (iI ((C : Nat) : Int))), (12, .ref (od))]) : W p l e room_1 s m #[Value.ref b] below meth c H locs 410 24000 (lw_Z below #[Value.ref b] s) (F0 m 464 ls []) := by
  obtain ⟨⟨hx, hb, hr, hml, hown, hts0, hX, hbl, hlocks, hgv⟩, hLx, hl0, hK, hE, hV⟩ := id hC
  have hown : s.vm.findClass RL = some m.cls := hown
  have hts : ∀ w ∈ wsL_law, w.before #[Value.ref b] s = true := fun w h => hts0 w (wsL_law_in w h)
  have hA : ∀ q : Nat, s.heap.size ≤ q → (fun q : Nat => s.heap.size ≤ q) q := fun _ h => h
  have hbA : ¬ (fun q : Nat => s.heap.size ≤ q) b := Nat.not_le.mpr hbl
  have hw : wf L := h4.1.1
  have hn1 := h4.1.2.2.1
  have hn6 := h4.1.2.2.2.1
  have hm8 := h4.1.2.2.2.2.1
  have hT := h4.2.1
  have hok := h4.2.2.1
  have htm := h4.2.2.2.2.2.2.2
  have htj := h4.2.2.2.2.2.2.1
  have hEq := h4.2.2.2.2.1
  have hI := h4.2.2.2.2.2.1
  obtain ⟨hGe, hGj, hG, hS0, hSb, hS2, hCe, hCb⟩ := id h5
  have hS1 : 1 ≤ S := by rw [hS0]; exact Nat.le_add_left 1 _
  clear hS0
  have hST2 : (S + 2) * T = S * T + 2 * T := Nat.add_mul S 2 T
  have hST : (S - 1) * T + T = S * T := by have h9 := Nat.succ_mul (S - 1) T; rw [show (S - 1).succ = S by omega] at h9; exact h9.symm
  refine z_ic hx hb dL_law_464 ?_
  refine lv_istore (lv' := [(13, .int (iI ((0 : Nat) : Int))), (0, .ref (b)), (1, .ref (a 0)), (2, .ref (ou)), (3, .ref (okk)), (4, .ref (ob)), (5, .ref (ol)), (6, .int (iI ((Ln L : Nat) : Int))), (7, .int (iI ((T : Nat) : Int))), (8, .ref (ot)), (9, .int (iI ((S : Nat) : Int))), (10, .int (iI ((S + 3 : Nat) : Int))), (11, .int (iI ((C : Nat) : Int))), (12, .ref (od))]) hx hb dL_law_465 hl (by decide) rfl (fun ls hl => ?_)
  refine lv_iload hx hb dL_law_467 (lv_at hl 10 rfl) ?_
  refine z_ic hx hb dL_law_469 ?_
  refine z_sub (a := ((S : Nat) : Int)) (b := 1) hx hb dL_law_470 ?_
  refine z_eqI (y := iI ((S - 1 : Nat) : Int)) (congrArg iI (by omega)) ?_
  refine lv_iload hx hb dL_law_471 (lv_at hl 8 rfl) ?_
  refine z_mul (a := ((S - 1 : Nat) : Int)) (b := ((T : Nat) : Int)) hx hb dL_law_473 ?_
  refine z_eqI (y := iI (((S - 1) * T : Nat) : Int)) (congrArg iI (Int.natCast_mul _ _).symm) ?_
  refine lv_istore (lv' := [(14, .int (iI (((S - 1) * T : Nat) : Int))), (13, .int (iI ((0 : Nat) : Int))), (0, .ref (b)), (1, .ref (a 0)), (2, .ref (ou)), (3, .ref (okk)), (4, .ref (ob)), (5, .ref (ol)), (6, .int (iI ((Ln L : Nat) : Int))), (7, .int (iI ((T : Nat) : Int))), (8, .ref (ot)), (9, .int (iI ((S : Nat) : Int))), (10, .int (iI ((S + 3 : Nat) : Int))), (11, .int (iI ((C : Nat) : Int))), (12, .ref (od))]) hx hb dL_law_474 hl (by decide) rfl (fun ls hl => ?_)
  have loop476 : ∀ (n476 : Nat) (x : Nat) (H : Heap) (locs : List Loc) (ls : Array Slot), T - x < n476 → (x ≤ T) → va_P D vwCl ([(od, .inl (g 0, (3 * (C + 1)), .inl (aI f9))), (ot, .inl (g 0, 6, .inl (aI (nZ tf)))), (ol, .inl (g 0, 40, .inl (aI (nZ lf)))), (ob, .inl (g 0, 6, .inl (aI (nZ (Lby L))))), (okk, .inl (g 0, 6, .inl (aI (nZ (Lkd L))))), (ou, .inl (g 0, 3, .inl (aI (nZ uf))))] ++ (wX a g L att T hs tm tk lt)) H → va_D (fun q : Nat => s.heap.size ≤ q) ([(od, .inl (g 0, (3 * (C + 1)), .inl (aI f9))), (ot, .inl (g 0, 6, .inl (aI (nZ tf)))), (ol, .inl (g 0, 40, .inl (aI (nZ lf)))), (ob, .inl (g 0, 6, .inl (aI (nZ (Lby L))))), (okk, .inl (g 0, 6, .inl (aI (nZ (Lkd L))))), (ou, .inl (g 0, 3, .inl (aI (nZ uf))))] ++ (wX a g L att T hs tm tk lt)) → va_S (fun q : Nat => s.heap.size ≤ q) s.heap H locs → lv_has ls 16 [(0, .ref (b)), (1, .ref (a 0)), (2, .ref (ou)), (3, .ref (okk)), (4, .ref (ob)), (5, .ref (ol)), (6, .int (iI ((Ln L : Nat) : Int))), (7, .int (iI ((T : Nat) : Int))), (8, .ref (ot)), (9, .int (iI ((S : Nat) : Int))), (10, .int (iI ((S + 3 : Nat) : Int))), (11, .int (iI ((C : Nat) : Int))), (12, .ref (od)), (13, .int (iI ((sumI (fun c => isn T tm (S + 3) ((S - 1) * T + c) (Ln L)) x : Nat) : Int))), (14, .int (iI (((S - 1) * T + x : Nat) : Int)))] → W p l e room_1 s m #[Value.ref b] below meth c H locs (410 + 3 * x) (24000 + 18 * x) (lw_Z below #[Value.ref b] s) (F0 m 476 ls []) := by
    intro n476
    induction n476 with
    | zero => exact fun _ H locs ls hn => absurd hn (Nat.not_lt_zero _)
    | succ n476 ih476 =>
      intro x H locs ls hn476 hx9 hP hD hS hl
      have hsb := sum_bd (f := fun c => isn T tm (S + 3) ((S - 1) * T + c) (Ln L)) (x := x) (M := 200) (fun c => Nat.le_trans (isn_le T tm (S + 3) _ (Ln L)) (by omega)) (by omega)
      have hib := isn_le T tm (S + 3) ((S - 1) * T + x) (Ln L)
      refine lv_iload hx hb dL_law_476 (lv_at hl 14 rfl) ?_
      refine lv_iload hx hb dL_law_478 (lv_at hl 9 rfl) ?_
      refine lv_iload hx hb dL_law_480 (lv_at hl 7 rfl) ?_
      refine z_mul (a := ((S : Nat) : Int)) (b := ((T : Nat) : Int)) hx hb dL_law_482 ?_
      refine z_eqI (y := iI ((S * T : Nat) : Int)) (congrArg iI (Int.natCast_mul _ _).symm) ?_
      refine z_icge (a := (((S - 1) * T + x : Nat) : Int)) (b := ((S * T : Nat) : Int)) (tgt := 505) hx hb dL_law_483 (by decide) (by omega) (fun c_483 => ?_) (fun c_483 => ?_)
      · obtain rfl : T = x := by omega
        refine lv_iload hx hb dL_law_505 (lv_at hl 13 rfl) ?_
        refine lv_iload hx hb dL_law_507 (lv_at hl 6 rfl) ?_
        refine z_iceq (a := ((sumI (fun c => isn T tm (S + 3) ((S - 1) * T + c) (Ln L)) T : Nat) : Int)) (b := ((Ln L : Nat) : Int)) (tgt := 514) hx hb dL_law_509 (by decide) (by omega) (fun c_509 => ?_) (fun c_509 => ?_)
        · refine W.widen (k := 1100) (n := 28000) (by omega) (by omega) ?_
          exact law_514 hC h4 h5 hP hD hS (lv_sub hl [0, 1, 2, 3, 4, 5, 6, 7, 8, 9, 10, 11, 12] rfl)
        · exact absurd (by rw [J5_win h4 h5]) c_509
      · refine lv_iload hx hb dL_law_486 (lv_at hl 13 rfl) ?_
        refine lv_aload_n hx hb dL_law_488 rfl (lv_at hl 1 rfl) ?_
        refine lv_iload hx hb dL_law_489 (lv_at hl 10 rfl) ?_
        refine lv_iload hx hb dL_law_491 (lv_at hl 14 rfl) ?_
        refine j_callQ (u := [(od, .inl (g 0, (3 * (C + 1)), .inl (aI f9))), (ot, .inl (g 0, 6, .inl (aI (nZ tf)))), (ol, .inl (g 0, 40, .inl (aI (nZ lf)))), (ob, .inl (g 0, 6, .inl (aI (nZ (Lby L))))), (okk, .inl (g 0, 6, .inl (aI (nZ (Lkd L))))), (ou, .inl (g 0, 3, .inl (aI (nZ uf))))]) (v := (wX a g L att T hs tm tk lt)) (k := 3) (fun E u9 h9 => by rcases h9.2 with h | h <;> omega) (vx_runV (As := [.int (iI ((S + 3 : Nat) : Int)), .int (iI (((S - 1) * T + x : Nat) : Int))]) (rest := [.int (iI ((sumI (fun c => isn T tm (S + 3) ((S - 1) * T + c) (Ln L)) x : Nat) : Int))]) ⟨hx, hb, hml, hown, hts⟩ (c_X2_issued l hl0 D g a L att T hs tm tk lt ((S + 3 : Nat) : Int) (((S - 1) * T + x : Nat) : Int) hw hok (by omega) (by omega) _) (cwV 2 hts gL_law_X2_issued rfl rfl rfl (by decide +kernel) ⟨Nat.le_of_ble_eq_true rfl, Nat.le_of_ble_eq_true rfl⟩) (x_preV 0 hK (wj_r hP) (wj_dr hD) hS hA hE hV rfl rfl) rfl rfl hl.1 rfl (lv_room (Nat.le_of_ble_eq_true rfl)) dL_law_493 ⟨show 410 + 3 * x + 3 ≤ 600104 from by omega, show 24000 + 18 * x + 6 * 3 ≤ 7301314 from by omega⟩) hS hP hD hA (fun r w1 H locs hw1 hP hD hS => ?_)
        obtain ⟨_, rfl, rfl⟩ := hw1
        have hP : va_P D vwCl ([(od, .inl (g 0, (3 * (C + 1)), .inl (aI f9))), (ot, .inl (g 0, 6, .inl (aI (nZ tf)))), (ol, .inl (g 0, 40, .inl (aI (nZ lf)))), (ob, .inl (g 0, 6, .inl (aI (nZ (Lby L))))), (okk, .inl (g 0, 6, .inl (aI (nZ (Lkd L))))), (ou, .inl (g 0, 3, .inl (aI (nZ uf))))] ++ (wX a g L att T hs tm tk lt)) H := hP
        have hD : va_D (fun q : Nat => s.heap.size ≤ q) ([(od, .inl (g 0, (3 * (C + 1)), .inl (aI f9))), (ot, .inl (g 0, 6, .inl (aI (nZ tf)))), (ol, .inl (g 0, 40, .inl (aI (nZ lf)))), (ob, .inl (g 0, 6, .inl (aI (nZ (Lby L))))), (okk, .inl (g 0, 6, .inl (aI (nZ (Lkd L))))), (ou, .inl (g 0, 3, .inl (aI (nZ uf))))] ++ (wX a g L att T hs tm tk lt)) := hD
        refine z_add (a := ((sumI (fun c => isn T tm (S + 3) ((S - 1) * T + c) (Ln L)) x : Nat) : Int)) (b := ((isn T tm (S + 3) ((S - 1) * T + x) (Ln L) : Nat) : Int)) hx hb dL_law_496 ?_
        refine z_eqI (y := iI ((sumI (fun c => isn T tm (S + 3) ((S - 1) * T + c) (Ln L)) (x + 1) : Nat) : Int)) (congrArg iI (Int.natCast_add _ _).symm) ?_
        refine lv_istore (lv' := [(13, .int (iI ((sumI (fun c => isn T tm (S + 3) ((S - 1) * T + c) (Ln L)) (x + 1) : Nat) : Int))), (0, .ref (b)), (1, .ref (a 0)), (2, .ref (ou)), (3, .ref (okk)), (4, .ref (ob)), (5, .ref (ol)), (6, .int (iI ((Ln L : Nat) : Int))), (7, .int (iI ((T : Nat) : Int))), (8, .ref (ot)), (9, .int (iI ((S : Nat) : Int))), (10, .int (iI ((S + 3 : Nat) : Int))), (11, .int (iI ((C : Nat) : Int))), (12, .ref (od)), (14, .int (iI (((S - 1) * T + x : Nat) : Int)))]) hx hb dL_law_497 hl (by decide) rfl (fun ls hl => ?_)
        refine z_iinc (a := (((S - 1) * T + x : Nat) : Int)) (b := (((S - 1) * T + x + 1 : Nat) : Int)) (lv' := [(14, .int (iI (((S - 1) * T + x + 1 : Nat) : Int))), (13, .int (iI ((sumI (fun c => isn T tm (S + 3) ((S - 1) * T + c) (Ln L)) (x + 1) : Nat) : Int))), (0, .ref (b)), (1, .ref (a 0)), (2, .ref (ou)), (3, .ref (okk)), (4, .ref (ob)), (5, .ref (ol)), (6, .int (iI ((Ln L : Nat) : Int))), (7, .int (iI ((T : Nat) : Int))), (8, .ref (ot)), (9, .int (iI ((S : Nat) : Int))), (10, .int (iI ((S + 3 : Nat) : Int))), (11, .int (iI ((C : Nat) : Int))), (12, .ref (od))]) hx hb 14 dL_law_499 hl rfl rfl (by decide) rfl (fun ls hl => ?_)
        refine lv_goto (tgt := 476) hx hb dL_law_502 (by decide) ?_
        refine W.widen (k := 410 + 3 * (x + 1)) (n := 24000 + 18 * (x + 1)) (by omega) (by omega) ?_
        exact ih476 (x + 1) _ _ _ (by omega) (by omega) hP hD hS (lv_sub hl [2, 3, 4, 5, 6, 7, 8, 9, 10, 11, 12, 13, 14, 1, 0] rfl)
  refine W.widen (k := 410 + 3 * 0) (n := 24000 + 18 * 0) (by omega) (by omega) ?_
  exact loop476 ((T - 0) + 1) 0 _ _ _ (Nat.lt_succ_self _) (by omega) hP hD hS (lv_sub hl [2, 3, 4, 5, 6, 7, 8, 9, 10, 11, 12, 13, 14, 1, 0] rfl)
set_option maxHeartbeats 16000000 in
set_option maxRecDepth 100000 in
theorem law_365 {p : Program} {l : Launch} {e : Env} {s : State} {m : MethodId} {below : List Frame} {meth : Method} {c : Code} {b Lx : Nat} {xs : Nat → Int32} {D : va_G} {g : Nat → ClassId} (hC : LC p l s m meth c b Lx xs D g) {a : Nat → Nat} {L : LD} {att T : Nat} {hs tm : Nat → Int} {tk : Nat → Nat → Int} {lt : Nat → Int} {ou okk ob ol ot od : Nat} {uf lf tf : Nat → Nat} {G S C : Nat} {f9 : Nat → Int} (h4 : J4 L T tm tk tf) (h5 : J5 L T tm tf G S C) (huf : ∀ k, k < 3 → uf k = Lu L k) (hlf : lf 0 = Lm L ∧ LK L lf) {H : Heap} {locs : List Loc} {ls : Array Slot} (hP : va_P D vwCl ([(od, .inl (g 0, (3 * (C + 1)), .inl (aI f9))), (ot, .inl (g 0, 6, .inl (aI (nZ tf)))), (ol, .inl (g 0, 40, .inl (aI (nZ lf)))), (ob, .inl (g 0, 6, .inl (aI (nZ (Lby L))))), (okk, .inl (g 0, 6, .inl (aI (nZ (Lkd L))))), (ou, .inl (g 0, 3, .inl (aI (nZ uf))))] ++ (wX a g L att T hs tm tk lt)) H) (hD : va_D (fun q : Nat => s.heap.size ≤ q) ([(od, .inl (g 0, (3 * (C + 1)), .inl (aI f9))), (ot, .inl (g 0, 6, .inl (aI (nZ tf)))), (ol, .inl (g 0, 40, .inl (aI (nZ lf)))), (ob, .inl (g 0, 6, .inl (aI (nZ (Lby L))))), (okk, .inl (g 0, 6, .inl (aI (nZ (Lkd L))))), (ou, .inl (g 0, 3, .inl (aI (nZ uf))))] ++ (wX a g L att T hs tm tk lt))) (hS : va_S (fun q : Nat => s.heap.size ≤ q) s.heap H locs) (hl : lv_has ls 16 [(0, .ref (b)), (1, .ref (a 0)), (2, .ref (ou)), (3, .ref (okk)), (4, .ref (ob)), (5, .ref (ol)), (6, .int (iI ((Ln L : Nat) : Int))), (7, .int (iI ((T : Nat) : Int))), (8, .ref (ot)), (9, .int (iI ((S : Nat) : Int))), (10, .int (iI ((S + 3 : Nat) : Int))), (11, .int (iI ((C : Nat) : Int))), (12, .ref (od))]) : W p l e room_1 s m #[Value.ref b] below meth c H locs 410 24000 (lw_Z below #[Value.ref b] s) (F0 m 365 ls []) := by
  obtain ⟨⟨hx, hb, hr, hml, hown, hts0, hX, hbl, hlocks, hgv⟩, hLx, hl0, hK, hE, hV⟩ := id hC
  have hown : s.vm.findClass RL = some m.cls := hown
  have hts : ∀ w ∈ wsL_law, w.before #[Value.ref b] s = true := fun w h => hts0 w (wsL_law_in w h)
  have hA : ∀ q : Nat, s.heap.size ≤ q → (fun q : Nat => s.heap.size ≤ q) q := fun _ h => h
  have hbA : ¬ (fun q : Nat => s.heap.size ≤ q) b := Nat.not_le.mpr hbl
  have hw : wf L := h4.1.1
  have hn1 := h4.1.2.2.1
  have hn6 := h4.1.2.2.2.1
  have hm8 := h4.1.2.2.2.2.1
  have hT := h4.2.1
  have hok := h4.2.2.1
  have htm := h4.2.2.2.2.2.2.2
  have htj := h4.2.2.2.2.2.2.1
  have hEq := h4.2.2.2.2.1
  have hI := h4.2.2.2.2.2.1
  obtain ⟨hGe, hGj, hG, hS0, hSb, hS2, hCe, hCb⟩ := id h5
  have hS1 : 1 ≤ S := by rw [hS0]; exact Nat.le_add_left 1 _
  clear hS0
  refine z_ic hx hb dL_law_365 ?_
  refine lv_istore (lv' := [(13, .int (iI ((0 : Nat) : Int))), (0, .ref (b)), (1, .ref (a 0)), (2, .ref (ou)), (3, .ref (okk)), (4, .ref (ob)), (5, .ref (ol)), (6, .int (iI ((Ln L : Nat) : Int))), (7, .int (iI ((T : Nat) : Int))), (8, .ref (ot)), (9, .int (iI ((S : Nat) : Int))), (10, .int (iI ((S + 3 : Nat) : Int))), (11, .int (iI ((C : Nat) : Int))), (12, .ref (od))]) hx hb dL_law_366 hl (by decide) rfl (fun ls hl => ?_)
  have loop368 : ∀ (n368 : Nat) (d : Nat) (H : Heap) (locs : List Loc) (ls : Array Slot), Lm L - d < n368 → (d ≤ Lm L) → va_P D vwCl ([(od, .inl (g 0, (3 * (C + 1)), .inl (aI f9))), (ot, .inl (g 0, 6, .inl (aI (nZ tf)))), (ol, .inl (g 0, 40, .inl (aI (nZ lf)))), (ob, .inl (g 0, 6, .inl (aI (nZ (Lby L))))), (okk, .inl (g 0, 6, .inl (aI (nZ (Lkd L))))), (ou, .inl (g 0, 3, .inl (aI (nZ uf))))] ++ (wX a g L att T hs tm tk lt)) H → va_D (fun q : Nat => s.heap.size ≤ q) ([(od, .inl (g 0, (3 * (C + 1)), .inl (aI f9))), (ot, .inl (g 0, 6, .inl (aI (nZ tf)))), (ol, .inl (g 0, 40, .inl (aI (nZ lf)))), (ob, .inl (g 0, 6, .inl (aI (nZ (Lby L))))), (okk, .inl (g 0, 6, .inl (aI (nZ (Lkd L))))), (ou, .inl (g 0, 3, .inl (aI (nZ uf))))] ++ (wX a g L att T hs tm tk lt)) → va_S (fun q : Nat => s.heap.size ≤ q) s.heap H locs → lv_has ls 16 [(0, .ref (b)), (1, .ref (a 0)), (2, .ref (ou)), (3, .ref (okk)), (4, .ref (ob)), (5, .ref (ol)), (6, .int (iI ((Ln L : Nat) : Int))), (7, .int (iI ((T : Nat) : Int))), (8, .ref (ot)), (9, .int (iI ((S : Nat) : Int))), (10, .int (iI ((S + 3 : Nat) : Int))), (11, .int (iI ((C : Nat) : Int))), (12, .ref (od)), (13, .int (iI ((d : Nat) : Int)))] → W p l e room_1 s m #[Value.ref b] below meth c H locs 410 24000 (lw_Z below #[Value.ref b] s) (F0 m 368 ls []) := by
    intro n368
    induction n368 with
    | zero => exact fun _ H locs ls hn => absurd hn (Nat.not_lt_zero _)
    | succ n368 ih368 =>
      intro d H locs ls hn368 hd9 hP hD hS hl
      have hdi9 := wf_di hw d
      refine lv_iload hx hb dL_law_368 (lv_at hl 13 rfl) ?_
      refine lv_aload hx hb dL_law_370 (lv_at hl 5 rfl) ?_
      refine z_ic hx hb dL_law_372 ?_
      refine z_ialdZ (f := lf) (z := 0) hx hb hK hP 2 0 rfl rfl (by omega) (by decide) dL_law_373 ?_
      refine z_eqI (y := (iI ((Lm L : Nat) : Int))) (congrArg iI (by rw [hlf.1])) ?_
      refine z_icge (a := ((d : Nat) : Int)) (b := ((Lm L : Nat) : Int)) (tgt := 464) hx hb dL_law_374 (by decide) (by omega) (fun c_374 => ?_) (fun c_374 => ?_)
      · refine W.widen (k := 410) (n := 24000) (by omega) (by omega) ?_
        exact law_464 hC h4 h5 hP hD hS (lv_sub hl [0, 1, 2, 3, 4, 5, 6, 7, 8, 9, 10, 11, 12] rfl)
      · refine z_ic hx hb dL_law_377 ?_
        refine z_ic hx hb dL_law_378 ?_
        refine lv_iload hx hb dL_law_379 (lv_at hl 13 rfl) ?_
        refine z_mul (a := 4) (b := ((d : Nat) : Int)) hx hb dL_law_381 ?_
        refine z_eqI (y := iI ((4 * d : Nat) : Int)) (congrArg iI (by omega)) ?_
        refine z_add (a := 1) (b := ((4 * d : Nat) : Int)) hx hb dL_law_382 ?_
        refine z_eqI (y := iI ((1 + 4 * d : Nat) : Int)) (congrArg iI (by omega)) ?_
        refine lv_istore (lv' := [(14, .int (iI ((1 + 4 * d : Nat) : Int))), (0, .ref (b)), (1, .ref (a 0)), (2, .ref (ou)), (3, .ref (okk)), (4, .ref (ob)), (5, .ref (ol)), (6, .int (iI ((Ln L : Nat) : Int))), (7, .int (iI ((T : Nat) : Int))), (8, .ref (ot)), (9, .int (iI ((S : Nat) : Int))), (10, .int (iI ((S + 3 : Nat) : Int))), (11, .int (iI ((C : Nat) : Int))), (12, .ref (od)), (13, .int (iI ((d : Nat) : Int)))]) hx hb dL_law_383 hl (by decide) rfl (fun ls hl => ?_)
        refine lv_aload hx hb dL_law_385 (lv_at hl 6 rfl) ?_
        refine lv_iload hx hb dL_law_387 (lv_at hl 0 rfl) ?_
        refine z_ic hx hb dL_law_389 ?_
        refine z_add (a := ((1 + 4 * d : Nat) : Int)) (b := 3) hx hb dL_law_390 ?_
        refine z_eqI (y := iI ((1 + 4 * d + 3 : Nat) : Int)) (congrArg iI (by omega)) ?_
        refine z_ialdZ (f := lf) (z := 1 + 4 * d + 3) hx hb hK hP 2 0 rfl rfl (by omega) (by decide) dL_law_391 ?_
        refine z_eqI (y := (iI ((Ldi L d : Nat) : Int))) (congrArg iI (by rw [(hlf.2 d (by omega)).2.2.2])) ?_
        refine lv_istore (lv' := [(15, .int (iI ((Ldi L d : Nat) : Int))), (14, .int (iI ((1 + 4 * d : Nat) : Int))), (0, .ref (b)), (1, .ref (a 0)), (2, .ref (ou)), (3, .ref (okk)), (4, .ref (ob)), (5, .ref (ol)), (6, .int (iI ((Ln L : Nat) : Int))), (7, .int (iI ((T : Nat) : Int))), (8, .ref (ot)), (9, .int (iI ((S : Nat) : Int))), (10, .int (iI ((S + 3 : Nat) : Int))), (11, .int (iI ((C : Nat) : Int))), (12, .ref (od)), (13, .int (iI ((d : Nat) : Int)))]) hx hb dL_law_392 hl (by decide) rfl (fun ls hl => ?_)
        have loop394 : ∀ (n394 : Nat) (j : Nat) (H : Heap) (locs : List Loc) (ls : Array Slot), S + 3 - j < n394 → (Ldi L d ≤ j) → (j ≤ S + 3) → va_P D vwCl ([(od, .inl (g 0, (3 * (C + 1)), .inl (aI f9))), (ot, .inl (g 0, 6, .inl (aI (nZ tf)))), (ol, .inl (g 0, 40, .inl (aI (nZ lf)))), (ob, .inl (g 0, 6, .inl (aI (nZ (Lby L))))), (okk, .inl (g 0, 6, .inl (aI (nZ (Lkd L))))), (ou, .inl (g 0, 3, .inl (aI (nZ uf))))] ++ (wX a g L att T hs tm tk lt)) H → va_D (fun q : Nat => s.heap.size ≤ q) ([(od, .inl (g 0, (3 * (C + 1)), .inl (aI f9))), (ot, .inl (g 0, 6, .inl (aI (nZ tf)))), (ol, .inl (g 0, 40, .inl (aI (nZ lf)))), (ob, .inl (g 0, 6, .inl (aI (nZ (Lby L))))), (okk, .inl (g 0, 6, .inl (aI (nZ (Lkd L))))), (ou, .inl (g 0, 3, .inl (aI (nZ uf))))] ++ (wX a g L att T hs tm tk lt)) → va_S (fun q : Nat => s.heap.size ≤ q) s.heap H locs → lv_has ls 16 [(0, .ref (b)), (1, .ref (a 0)), (2, .ref (ou)), (3, .ref (okk)), (4, .ref (ob)), (5, .ref (ol)), (6, .int (iI ((Ln L : Nat) : Int))), (7, .int (iI ((T : Nat) : Int))), (8, .ref (ot)), (9, .int (iI ((S : Nat) : Int))), (10, .int (iI ((S + 3 : Nat) : Int))), (11, .int (iI ((C : Nat) : Int))), (12, .ref (od)), (13, .int (iI ((d : Nat) : Int))), (14, .int (iI ((1 + 4 * d : Nat) : Int))), (15, .int (iI ((j : Nat) : Int)))] → W p l e room_1 s m #[Value.ref b] below meth c H locs 410 24000 (lw_Z below #[Value.ref b] s) (F0 m 394 ls []) := by
          intro n394
          induction n394 with
          | zero => exact fun _ H locs ls hn => absurd hn (Nat.not_lt_zero _)
          | succ n394 ih394 =>
            intro j H locs ls hn394 hj1 hj2 hP hD hS hl
            have hp1 := mul_nn j T
            have hp2 := mul_bd (show j ≤ 76 by omega) hT.2
            have hp3 := mul_nn T (Ldi L d)
            have hp4 := mul_bd hT.2 (wf_di hw d)
            have hp5 : (((j : Nat) : Int) - ((Ldi L d : Nat) : Int)) * ((T : Nat) : Int) = ((j : Nat) : Int) * ((T : Nat) : Int) - ((T : Nat) : Int) * ((Ldi L d : Nat) : Int) := by rw [Int.sub_mul, Int.mul_comm ((Ldi L d : Nat) : Int) ((T : Nat) : Int)]
            have ht1 := htm (Lsr L d)
            have ht2 := htm (Lds L d)
            have hdl := wf_dl hw d
            refine lv_iload hx hb dL_law_394 (lv_at hl 15 rfl) ?_
            refine lv_iload hx hb dL_law_396 (lv_at hl 10 rfl) ?_
            refine z_icge (a := ((j : Nat) : Int)) (b := ((S + 3 : Nat) : Int)) (tgt := 458) hx hb dL_law_398 (by decide) (by omega) (fun c_398 => ?_) (fun c_398 => ?_)
            · refine z_iinc (a := ((d : Nat) : Int)) (b := ((d + 1 : Nat) : Int)) (lv' := [(13, .int (iI ((d + 1 : Nat) : Int))), (0, .ref (b)), (1, .ref (a 0)), (2, .ref (ou)), (3, .ref (okk)), (4, .ref (ob)), (5, .ref (ol)), (6, .int (iI ((Ln L : Nat) : Int))), (7, .int (iI ((T : Nat) : Int))), (8, .ref (ot)), (9, .int (iI ((S : Nat) : Int))), (10, .int (iI ((S + 3 : Nat) : Int))), (11, .int (iI ((C : Nat) : Int))), (12, .ref (od)), (14, .int (iI ((1 + 4 * d : Nat) : Int))), (15, .int (iI ((j : Nat) : Int)))]) hx hb 13 dL_law_458 hl rfl rfl (by decide) rfl (fun ls hl => ?_)
              refine lv_goto (tgt := 368) hx hb dL_law_461 (by decide) ?_
              refine W.widen (k := 410) (n := 24000) (by omega) (by omega) ?_
              exact ih368 (d + 1) _ _ _ (by omega) (by omega) hP hD hS (lv_sub hl [1, 2, 3, 4, 5, 6, 7, 8, 9, 10, 11, 12, 13, 0] rfl)
            · refine lv_aload hx hb dL_law_401 (lv_at hl 8 rfl) ?_
              refine lv_aload hx hb dL_law_403 (lv_at hl 5 rfl) ?_
              refine lv_iload hx hb dL_law_405 (lv_at hl 14 rfl) ?_
              refine z_ic hx hb dL_law_407 ?_
              refine z_add (a := ((1 + 4 * d : Nat) : Int)) (b := 1) hx hb dL_law_408 ?_
              refine z_eqI (y := iI ((1 + 4 * d + 1 : Nat) : Int)) (congrArg iI (by omega)) ?_
              refine z_ialdZ (f := lf) (z := 1 + 4 * d + 1) hx hb hK hP 2 0 rfl rfl (by omega) (by decide) dL_law_409 ?_
              refine z_eqI (y := (iI ((Lds L d : Nat) : Int))) (congrArg iI (by rw [(hlf.2 d (by omega)).2.1])) ?_
              refine z_ialdZ (f := tf) (z := Lds L d) hx hb hK hP 1 0 rfl rfl (by have := wf_ed hw d (by omega); omega) (by decide) dL_law_410 ?_
              refine lv_iload hx hb dL_law_411 (lv_at hl 15 rfl) ?_
              refine lv_iload hx hb dL_law_413 (lv_at hl 7 rfl) ?_
              refine z_mul (a := ((j : Nat) : Int)) (b := ((T : Nat) : Int)) hx hb dL_law_415 ?_
              refine z_add (a := ((tf (Lds L d) : Nat) : Int)) (b := (((j : Nat) : Int) * ((T : Nat) : Int))) hx hb dL_law_416 ?_
              refine lv_aload hx hb dL_law_417 (lv_at hl 8 rfl) ?_
              refine lv_aload hx hb dL_law_419 (lv_at hl 5 rfl) ?_
              refine lv_iload hx hb dL_law_421 (lv_at hl 14 rfl) ?_
              refine z_ialdZ (f := lf) (z := 1 + 4 * d) hx hb hK hP 2 0 rfl rfl (by omega) (by decide) dL_law_423 ?_
              refine z_eqI (y := (iI ((Lsr L d : Nat) : Int))) (congrArg iI (by rw [(hlf.2 d (by omega)).1])) ?_
              refine z_ialdZ (f := tf) (z := Lsr L d) hx hb hK hP 1 0 rfl rfl (by have := wf_ed hw d (by omega); omega) (by decide) dL_law_424 ?_
              refine lv_iload hx hb dL_law_425 (lv_at hl 15 rfl) ?_
              refine lv_aload hx hb dL_law_427 (lv_at hl 5 rfl) ?_
              refine lv_iload hx hb dL_law_429 (lv_at hl 14 rfl) ?_
              refine z_ic hx hb dL_law_431 ?_
              refine z_add (a := ((1 + 4 * d : Nat) : Int)) (b := 3) hx hb dL_law_432 ?_
              refine z_eqI (y := iI ((1 + 4 * d + 3 : Nat) : Int)) (congrArg iI (by omega)) ?_
              refine z_ialdZ (f := lf) (z := 1 + 4 * d + 3) hx hb hK hP 2 0 rfl rfl (by omega) (by decide) dL_law_433 ?_
              refine z_eqI (y := (iI ((Ldi L d : Nat) : Int))) (congrArg iI (by rw [(hlf.2 d (by omega)).2.2.2])) ?_
              refine z_sub (a := ((j : Nat) : Int)) (b := ((Ldi L d : Nat) : Int)) hx hb dL_law_434 ?_
              refine lv_iload hx hb dL_law_435 (lv_at hl 7 rfl) ?_
              refine z_mul (a := (((j : Nat) : Int) - ((Ldi L d : Nat) : Int))) (b := ((T : Nat) : Int)) hx hb dL_law_437 ?_
              refine z_add (a := ((tf (Lsr L d) : Nat) : Int)) (b := ((((j : Nat) : Int) - ((Ldi L d : Nat) : Int)) * ((T : Nat) : Int))) hx hb dL_law_438 ?_
              refine lv_aload hx hb dL_law_439 (lv_at hl 5 rfl) ?_
              refine lv_iload hx hb dL_law_441 (lv_at hl 14 rfl) ?_
              refine z_ic hx hb dL_law_443 ?_
              refine z_add (a := ((1 + 4 * d : Nat) : Int)) (b := 2) hx hb dL_law_444 ?_
              refine z_eqI (y := iI ((1 + 4 * d + 2 : Nat) : Int)) (congrArg iI (by omega)) ?_
              refine z_ialdZ (f := lf) (z := 1 + 4 * d + 2) hx hb hK hP 2 0 rfl rfl (by omega) (by decide) dL_law_445 ?_
              refine z_eqI (y := (iI ((Ldl L d : Nat) : Int))) (congrArg iI (by rw [(hlf.2 d (by omega)).2.2.1])) ?_
              refine z_add (a := (((tf (Lsr L d) : Nat) : Int) + ((((j : Nat) : Int) - ((Ldi L d : Nat) : Int)) * ((T : Nat) : Int)))) (b := ((Ldl L d : Nat) : Int)) hx hb dL_law_446 ?_
              refine z_icge (a := (((tf (Lds L d) : Nat) : Int) + (((j : Nat) : Int) * ((T : Nat) : Int)))) (b := ((((tf (Lsr L d) : Nat) : Int) + ((((j : Nat) : Int) - ((Ldi L d : Nat) : Int)) * ((T : Nat) : Int))) + ((Ldl L d : Nat) : Int))) (tgt := 452) hx hb dL_law_447 (by decide) (by omega) (fun c_447 => ?_) (fun c_447 => ?_)
              · refine z_iinc (a := ((j : Nat) : Int)) (b := ((j + 1 : Nat) : Int)) (lv' := [(15, .int (iI ((j + 1 : Nat) : Int))), (0, .ref (b)), (1, .ref (a 0)), (2, .ref (ou)), (3, .ref (okk)), (4, .ref (ob)), (5, .ref (ol)), (6, .int (iI ((Ln L : Nat) : Int))), (7, .int (iI ((T : Nat) : Int))), (8, .ref (ot)), (9, .int (iI ((S : Nat) : Int))), (10, .int (iI ((S + 3 : Nat) : Int))), (11, .int (iI ((C : Nat) : Int))), (12, .ref (od)), (13, .int (iI ((d : Nat) : Int))), (14, .int (iI ((1 + 4 * d : Nat) : Int)))]) hx hb 15 dL_law_452 hl rfl rfl (by decide) rfl (fun ls hl => ?_)
                refine lv_goto (tgt := 394) hx hb dL_law_455 (by decide) ?_
                refine W.widen (k := 410) (n := 24000) (by omega) (by omega) ?_
                exact ih394 (j + 1) _ _ _ (by omega) (by omega) (by omega) hP hD hS (lv_sub hl [1, 2, 3, 4, 5, 6, 7, 8, 9, 10, 11, 12, 13, 14, 15, 0] rfl)
              · exact absurd (by have h9 := eq_all hEq (d := d) (j := j) (by omega) hj1; omega) c_447
        refine W.widen (k := 410) (n := 24000) (by omega) (by omega) ?_
        exact loop394 ((S + 3 - (Ldi L d)) + 1) (Ldi L d) _ _ _ (Nat.lt_succ_self _) (Nat.le_refl _) (by omega) hP hD hS (lv_sub hl [2, 3, 4, 5, 6, 7, 8, 9, 10, 11, 12, 13, 14, 15, 1, 0] rfl)
  refine W.widen (k := 410) (n := 24000) (by omega) (by omega) ?_
  exact loop368 ((Lm L - 0) + 1) 0 _ _ _ (Nat.lt_succ_self _) (by omega) hP hD hS (lv_sub hl [1, 2, 3, 4, 5, 6, 7, 8, 9, 10, 11, 12, 13, 0] rfl)
set_option maxHeartbeats 16000000 in
set_option maxRecDepth 100000 in
theorem law_315 {p : Program} {l : Launch} {e : Env} {s : State} {m : MethodId} {below : List Frame} {meth : Method} {c : Code} {b Lx : Nat} {xs : Nat → Int32} {D : va_G} {g : Nat → ClassId} (hC : LC p l s m meth c b Lx xs D g) {a : Nat → Nat} {L : LD} {att T : Nat} {hs tm : Nat → Int} {tk : Nat → Nat → Int} {lt : Nat → Int} {ou okk ob ol ot od : Nat} {uf lf tf : Nat → Nat} {G S C : Nat} (h4 : J4 L T tm tk tf) (h5 : J5 L T tm tf G S C) (huf : ∀ k, k < 3 → uf k = Lu L k) (hlf : lf 0 = Lm L ∧ LK L lf) {H : Heap} {locs : List Loc} {ls : Array Slot} (hP : va_P D vwCl ([(od, .inl (g 0, (3 * (C + 1)), .inl (aI (us L T tf (S + 3) 0 0)))), (ot, .inl (g 0, 6, .inl (aI (nZ tf)))), (ol, .inl (g 0, 40, .inl (aI (nZ lf)))), (ob, .inl (g 0, 6, .inl (aI (nZ (Lby L))))), (okk, .inl (g 0, 6, .inl (aI (nZ (Lkd L))))), (ou, .inl (g 0, 3, .inl (aI (nZ uf))))] ++ (wX a g L att T hs tm tk lt)) H) (hD : va_D (fun q : Nat => s.heap.size ≤ q) ([(od, .inl (g 0, (3 * (C + 1)), .inl (aI (us L T tf (S + 3) 0 0)))), (ot, .inl (g 0, 6, .inl (aI (nZ tf)))), (ol, .inl (g 0, 40, .inl (aI (nZ lf)))), (ob, .inl (g 0, 6, .inl (aI (nZ (Lby L))))), (okk, .inl (g 0, 6, .inl (aI (nZ (Lkd L))))), (ou, .inl (g 0, 3, .inl (aI (nZ uf))))] ++ (wX a g L att T hs tm tk lt))) (hS : va_S (fun q : Nat => s.heap.size ≤ q) s.heap H locs) (hl : lv_has ls 16 [(0, .ref (b)), (1, .ref (a 0)), (2, .ref (ou)), (3, .ref (okk)), (4, .ref (ob)), (5, .ref (ol)), (6, .int (iI ((Ln L : Nat) : Int))), (7, .int (iI ((T : Nat) : Int))), (8, .ref (ot)), (9, .int (iI ((S : Nat) : Int))), (10, .int (iI ((S + 3 : Nat) : Int))), (11, .int (iI ((C : Nat) : Int))), (12, .ref (od))]) : W p l e room_1 s m #[Value.ref b] below meth c H locs 410 24000 (lw_Z below #[Value.ref b] s) (F0 m 315 ls []) := by
  obtain ⟨⟨hx, hb, hr, hml, hown, hts0, hX, hbl, hlocks, hgv⟩, hLx, hl0, hK, hE, hV⟩ := id hC
  have hown : s.vm.findClass RL = some m.cls := hown
  have hts : ∀ w ∈ wsL_law, w.before #[Value.ref b] s = true := fun w h => hts0 w (wsL_law_in w h)
  have hA : ∀ q : Nat, s.heap.size ≤ q → (fun q : Nat => s.heap.size ≤ q) q := fun _ h => h
  have hbA : ¬ (fun q : Nat => s.heap.size ≤ q) b := Nat.not_le.mpr hbl
  have hw : wf L := h4.1.1
  have hn1 := h4.1.2.2.1
  have hn6 := h4.1.2.2.2.1
  have hm8 := h4.1.2.2.2.2.1
  have hT := h4.2.1
  have hok := h4.2.2.1
  have htm := h4.2.2.2.2.2.2.2
  have htj := h4.2.2.2.2.2.2.1
  have hEq := h4.2.2.2.2.1
  have hI := h4.2.2.2.2.2.1
  obtain ⟨hGe, hGj, hG, hS0, hSb, hS2, hCe, hCb⟩ := id h5
  have hS1 : 1 ≤ S := by rw [hS0]; exact Nat.le_add_left 1 _
  clear hS0
  refine z_ic hx hb dL_law_315 ?_
  refine lv_istore (lv' := [(13, .int (iI ((0 : Nat) : Int))), (0, .ref (b)), (1, .ref (a 0)), (2, .ref (ou)), (3, .ref (okk)), (4, .ref (ob)), (5, .ref (ol)), (6, .int (iI ((Ln L : Nat) : Int))), (7, .int (iI ((T : Nat) : Int))), (8, .ref (ot)), (9, .int (iI ((S : Nat) : Int))), (10, .int (iI ((S + 3 : Nat) : Int))), (11, .int (iI ((C : Nat) : Int))), (12, .ref (od))]) hx hb dL_law_316 hl (by decide) rfl (fun ls hl => ?_)
  have loop318 : ∀ (n318 : Nat) (cy : Nat) (H : Heap) (locs : List Loc) (ls : Array Slot), C + 1 - cy < n318 → (cy ≤ C + 1) → va_P D vwCl ([(od, .inl (g 0, (3 * (C + 1)), .inl (aI (us L T tf (S + 3) 0 0)))), (ot, .inl (g 0, 6, .inl (aI (nZ tf)))), (ol, .inl (g 0, 40, .inl (aI (nZ lf)))), (ob, .inl (g 0, 6, .inl (aI (nZ (Lby L))))), (okk, .inl (g 0, 6, .inl (aI (nZ (Lkd L))))), (ou, .inl (g 0, 3, .inl (aI (nZ uf))))] ++ (wX a g L att T hs tm tk lt)) H → va_D (fun q : Nat => s.heap.size ≤ q) ([(od, .inl (g 0, (3 * (C + 1)), .inl (aI (us L T tf (S + 3) 0 0)))), (ot, .inl (g 0, 6, .inl (aI (nZ tf)))), (ol, .inl (g 0, 40, .inl (aI (nZ lf)))), (ob, .inl (g 0, 6, .inl (aI (nZ (Lby L))))), (okk, .inl (g 0, 6, .inl (aI (nZ (Lkd L))))), (ou, .inl (g 0, 3, .inl (aI (nZ uf))))] ++ (wX a g L att T hs tm tk lt)) → va_S (fun q : Nat => s.heap.size ≤ q) s.heap H locs → lv_has ls 16 [(0, .ref (b)), (1, .ref (a 0)), (2, .ref (ou)), (3, .ref (okk)), (4, .ref (ob)), (5, .ref (ol)), (6, .int (iI ((Ln L : Nat) : Int))), (7, .int (iI ((T : Nat) : Int))), (8, .ref (ot)), (9, .int (iI ((S : Nat) : Int))), (10, .int (iI ((S + 3 : Nat) : Int))), (11, .int (iI ((C : Nat) : Int))), (12, .ref (od)), (13, .int (iI ((cy : Nat) : Int)))] → W p l e room_1 s m #[Value.ref b] below meth c H locs 410 24000 (lw_Z below #[Value.ref b] s) (F0 m 318 ls []) := by
    intro n318
    induction n318 with
    | zero => exact fun _ H locs ls hn => absurd hn (Nat.not_lt_zero _)
    | succ n318 ih318 =>
      intro cy H locs ls hn318 hcy hP hD hS hl
      refine lv_iload hx hb dL_law_318 (lv_at hl 13 rfl) ?_
      refine lv_iload hx hb dL_law_320 (lv_at hl 11 rfl) ?_
      refine z_icgt (a := ((cy : Nat) : Int)) (b := ((C : Nat) : Int)) (tgt := 365) hx hb dL_law_322 (by decide) (by omega) (fun c_322 => ?_) (fun c_322 => ?_)
      · refine W.widen (k := 410) (n := 24000) (by omega) (by omega) ?_
        exact law_365 hC h4 h5 huf hlf hP hD hS (lv_sub hl [0, 1, 2, 3, 4, 5, 6, 7, 8, 9, 10, 11, 12] rfl)
      · refine z_ic hx hb dL_law_325 ?_
        refine lv_istore (lv' := [(14, .int (iI ((0 : Nat) : Int))), (0, .ref (b)), (1, .ref (a 0)), (2, .ref (ou)), (3, .ref (okk)), (4, .ref (ob)), (5, .ref (ol)), (6, .int (iI ((Ln L : Nat) : Int))), (7, .int (iI ((T : Nat) : Int))), (8, .ref (ot)), (9, .int (iI ((S : Nat) : Int))), (10, .int (iI ((S + 3 : Nat) : Int))), (11, .int (iI ((C : Nat) : Int))), (12, .ref (od)), (13, .int (iI ((cy : Nat) : Int)))]) hx hb dL_law_326 hl (by decide) rfl (fun ls hl => ?_)
        have loop328 : ∀ (n328 : Nat) (kd : Nat) (H : Heap) (locs : List Loc) (ls : Array Slot), 3 - kd < n328 → (kd ≤ 3) → va_P D vwCl ([(od, .inl (g 0, (3 * (C + 1)), .inl (aI (us L T tf (S + 3) 0 0)))), (ot, .inl (g 0, 6, .inl (aI (nZ tf)))), (ol, .inl (g 0, 40, .inl (aI (nZ lf)))), (ob, .inl (g 0, 6, .inl (aI (nZ (Lby L))))), (okk, .inl (g 0, 6, .inl (aI (nZ (Lkd L))))), (ou, .inl (g 0, 3, .inl (aI (nZ uf))))] ++ (wX a g L att T hs tm tk lt)) H → va_D (fun q : Nat => s.heap.size ≤ q) ([(od, .inl (g 0, (3 * (C + 1)), .inl (aI (us L T tf (S + 3) 0 0)))), (ot, .inl (g 0, 6, .inl (aI (nZ tf)))), (ol, .inl (g 0, 40, .inl (aI (nZ lf)))), (ob, .inl (g 0, 6, .inl (aI (nZ (Lby L))))), (okk, .inl (g 0, 6, .inl (aI (nZ (Lkd L))))), (ou, .inl (g 0, 3, .inl (aI (nZ uf))))] ++ (wX a g L att T hs tm tk lt)) → va_S (fun q : Nat => s.heap.size ≤ q) s.heap H locs → lv_has ls 16 [(0, .ref (b)), (1, .ref (a 0)), (2, .ref (ou)), (3, .ref (okk)), (4, .ref (ob)), (5, .ref (ol)), (6, .int (iI ((Ln L : Nat) : Int))), (7, .int (iI ((T : Nat) : Int))), (8, .ref (ot)), (9, .int (iI ((S : Nat) : Int))), (10, .int (iI ((S + 3 : Nat) : Int))), (11, .int (iI ((C : Nat) : Int))), (12, .ref (od)), (13, .int (iI ((cy : Nat) : Int))), (14, .int (iI ((kd : Nat) : Int)))] → W p l e room_1 s m #[Value.ref b] below meth c H locs 410 24000 (lw_Z below #[Value.ref b] s) (F0 m 328 ls []) := by
          intro n328
          induction n328 with
          | zero => exact fun _ H locs ls hn => absurd hn (Nat.not_lt_zero _)
          | succ n328 ih328 =>
            intro kd H locs ls hn328 hkd hP hD hS hl
            have hub := us_bd hw T tf (S + 3) 0 0 (3 * cy + kd) (by omega) (by omega) (by omega)
            refine lv_iload hx hb dL_law_328 (lv_at hl 14 rfl) ?_
            refine z_ic hx hb dL_law_330 ?_
            refine z_icge (a := ((kd : Nat) : Int)) (b := 3) (tgt := 359) hx hb dL_law_331 (by decide) (by omega) (fun c_331 => ?_) (fun c_331 => ?_)
            · refine z_iinc (a := ((cy : Nat) : Int)) (b := ((cy + 1 : Nat) : Int)) (lv' := [(13, .int (iI ((cy + 1 : Nat) : Int))), (0, .ref (b)), (1, .ref (a 0)), (2, .ref (ou)), (3, .ref (okk)), (4, .ref (ob)), (5, .ref (ol)), (6, .int (iI ((Ln L : Nat) : Int))), (7, .int (iI ((T : Nat) : Int))), (8, .ref (ot)), (9, .int (iI ((S : Nat) : Int))), (10, .int (iI ((S + 3 : Nat) : Int))), (11, .int (iI ((C : Nat) : Int))), (12, .ref (od)), (14, .int (iI ((kd : Nat) : Int)))]) hx hb 13 dL_law_359 hl rfl rfl (by decide) rfl (fun ls hl => ?_)
              refine lv_goto (tgt := 318) hx hb dL_law_362 (by decide) ?_
              refine W.widen (k := 410) (n := 24000) (by omega) (by omega) ?_
              exact ih318 (cy + 1) _ _ _ (by omega) (by omega) hP hD hS (lv_sub hl [1, 2, 3, 4, 5, 6, 7, 8, 9, 10, 11, 12, 13, 0] rfl)
            · refine lv_aload hx hb dL_law_334 (lv_at hl 12 rfl) ?_
              refine z_ic hx hb dL_law_336 ?_
              refine lv_iload hx hb dL_law_337 (lv_at hl 13 rfl) ?_
              refine z_mul (a := 3) (b := ((cy : Nat) : Int)) hx hb dL_law_339 ?_
              refine z_eqI (y := iI ((3 * cy : Nat) : Int)) (congrArg iI (by omega)) ?_
              refine lv_iload hx hb dL_law_340 (lv_at hl 14 rfl) ?_
              refine z_add (a := ((3 * cy : Nat) : Int)) (b := ((kd : Nat) : Int)) hx hb dL_law_342 ?_
              refine z_eqI (y := iI ((3 * cy + kd : Nat) : Int)) (congrArg iI (by omega)) ?_
              refine z_ialdN (f := us L T tf (S + 3) 0 0) (z := 3 * cy + kd) hx hb hK hP 0 0 rfl rfl (by omega) (by omega) dL_law_343 ?_
              refine lv_aload_n hx hb dL_law_344 rfl (lv_at hl 2 rfl) ?_
              refine lv_iload hx hb dL_law_345 (lv_at hl 14 rfl) ?_
              refine z_ialdZ (f := uf) (z := kd) hx hb hK hP 5 0 rfl rfl (by omega) (by decide) dL_law_347 ?_
              refine z_icle (a := ((us L T tf (S + 3) 0 0) (3 * cy + kd))) (b := ((uf kd : Nat) : Int)) (tgt := 353) hx hb dL_law_348 (by decide) (by have h9 := huf kd (by omega); have h8 := wf_u hw kd (by omega); omega) (fun c_348 => ?_) (fun c_348 => ?_)
              · refine z_iinc (a := ((kd : Nat) : Int)) (b := ((kd + 1 : Nat) : Int)) (lv' := [(14, .int (iI ((kd + 1 : Nat) : Int))), (0, .ref (b)), (1, .ref (a 0)), (2, .ref (ou)), (3, .ref (okk)), (4, .ref (ob)), (5, .ref (ol)), (6, .int (iI ((Ln L : Nat) : Int))), (7, .int (iI ((T : Nat) : Int))), (8, .ref (ot)), (9, .int (iI ((S : Nat) : Int))), (10, .int (iI ((S + 3 : Nat) : Int))), (11, .int (iI ((C : Nat) : Int))), (12, .ref (od)), (13, .int (iI ((cy : Nat) : Int)))]) hx hb 14 dL_law_353 hl rfl rfl (by decide) rfl (fun ls hl => ?_)
                refine lv_goto (tgt := 328) hx hb dL_law_356 (by decide) ?_
                refine W.widen (k := 410) (n := 24000) (by omega) (by omega) ?_
                exact ih328 (kd + 1) _ _ _ (by omega) (by omega) hP hD hS (lv_sub hl [1, 2, 3, 4, 5, 6, 7, 8, 9, 10, 11, 12, 13, 14, 0] rfl)
              · exact absurd (by have h9 := us_le (it := S + 3) (cy := cy) (kd := kd) hw hT hI (by omega); rw [huf kd (by omega)]; exact h9) c_348
        refine W.widen (k := 410) (n := 24000) (by omega) (by omega) ?_
        exact loop328 ((3 - 0) + 1) 0 _ _ _ (Nat.lt_succ_self _) (by omega) hP hD hS (lv_sub hl [1, 2, 3, 4, 5, 6, 7, 8, 9, 10, 11, 12, 13, 14, 0] rfl)
  refine W.widen (k := 410) (n := 24000) (by omega) (by omega) ?_
  exact loop318 ((C + 1 - 0) + 1) 0 _ _ _ (Nat.lt_succ_self _) (by omega) hP hD hS (lv_sub hl [1, 2, 3, 4, 5, 6, 7, 8, 9, 10, 11, 12, 13, 0] rfl)
set_option maxHeartbeats 16000000 in
set_option maxRecDepth 100000 in
theorem law_236 {p : Program} {l : Launch} {e : Env} {s : State} {m : MethodId} {below : List Frame} {meth : Method} {c : Code} {b Lx : Nat} {xs : Nat → Int32} {D : va_G} {g : Nat → ClassId} (hC : LC p l s m meth c b Lx xs D g) {a : Nat → Nat} {L : LD} {att T : Nat} {hs tm : Nat → Int} {tk : Nat → Nat → Int} {lt : Nat → Int} {ou okk ob ol ot od : Nat} {uf lf tf : Nat → Nat} {G S C : Nat} (h4 : J4 L T tm tk tf) (h5 : J5 L T tm tf G S C) (huf : ∀ k, k < 3 → uf k = Lu L k) (hlf : lf 0 = Lm L ∧ LK L lf) {H : Heap} {locs : List Loc} {ls : Array Slot} (hP : va_P D vwCl ([(od, .inl (g 0, (3 * (C + 1)), .inl (aI (nZ (fun _ => 0))))), (ot, .inl (g 0, 6, .inl (aI (nZ tf)))), (ol, .inl (g 0, 40, .inl (aI (nZ lf)))), (ob, .inl (g 0, 6, .inl (aI (nZ (Lby L))))), (okk, .inl (g 0, 6, .inl (aI (nZ (Lkd L))))), (ou, .inl (g 0, 3, .inl (aI (nZ uf))))] ++ (wX a g L att T hs tm tk lt)) H) (hD : va_D (fun q : Nat => s.heap.size ≤ q) ([(od, .inl (g 0, (3 * (C + 1)), .inl (aI (nZ (fun _ => 0))))), (ot, .inl (g 0, 6, .inl (aI (nZ tf)))), (ol, .inl (g 0, 40, .inl (aI (nZ lf)))), (ob, .inl (g 0, 6, .inl (aI (nZ (Lby L))))), (okk, .inl (g 0, 6, .inl (aI (nZ (Lkd L))))), (ou, .inl (g 0, 3, .inl (aI (nZ uf))))] ++ (wX a g L att T hs tm tk lt))) (hS : va_S (fun q : Nat => s.heap.size ≤ q) s.heap H locs) (hl : lv_has ls 16 [(0, .ref (b)), (1, .ref (a 0)), (2, .ref (ou)), (3, .ref (okk)), (4, .ref (ob)), (5, .ref (ol)), (6, .int (iI ((Ln L : Nat) : Int))), (7, .int (iI ((T : Nat) : Int))), (8, .ref (ot)), (9, .int (iI ((S : Nat) : Int))), (10, .int (iI ((S + 3 : Nat) : Int))), (11, .int (iI ((C : Nat) : Int))), (12, .ref (od))]) : W p l e room_1 s m #[Value.ref b] below meth c H locs 410 24000 (lw_Z below #[Value.ref b] s) (F0 m 236 ls []) := by
  obtain ⟨⟨hx, hb, hr, hml, hown, hts0, hX, hbl, hlocks, hgv⟩, hLx, hl0, hK, hE, hV⟩ := id hC
  have hown : s.vm.findClass RL = some m.cls := hown
  have hts : ∀ w ∈ wsL_law, w.before #[Value.ref b] s = true := fun w h => hts0 w (wsL_law_in w h)
  have hA : ∀ q : Nat, s.heap.size ≤ q → (fun q : Nat => s.heap.size ≤ q) q := fun _ h => h
  have hbA : ¬ (fun q : Nat => s.heap.size ≤ q) b := Nat.not_le.mpr hbl
  have hw : wf L := h4.1.1
  have hn1 := h4.1.2.2.1
  have hn6 := h4.1.2.2.2.1
  have hm8 := h4.1.2.2.2.2.1
  have hT := h4.2.1
  have hok := h4.2.2.1
  have htm := h4.2.2.2.2.2.2.2
  have htj := h4.2.2.2.2.2.2.1
  have hEq := h4.2.2.2.2.1
  have hI := h4.2.2.2.2.2.1
  obtain ⟨hGe, hGj, hG, hS0, hSb, hS2, hCe, hCb⟩ := id h5
  have hS1 : 1 ≤ S := by rw [hS0]; exact Nat.le_add_left 1 _
  clear hS0
  refine z_ic hx hb dL_law_236 ?_
  refine lv_istore (lv' := [(13, .int (iI ((0 : Nat) : Int))), (0, .ref (b)), (1, .ref (a 0)), (2, .ref (ou)), (3, .ref (okk)), (4, .ref (ob)), (5, .ref (ol)), (6, .int (iI ((Ln L : Nat) : Int))), (7, .int (iI ((T : Nat) : Int))), (8, .ref (ot)), (9, .int (iI ((S : Nat) : Int))), (10, .int (iI ((S + 3 : Nat) : Int))), (11, .int (iI ((C : Nat) : Int))), (12, .ref (od))]) hx hb dL_law_237 hl (by decide) rfl (fun ls hl => ?_)
  have loop239 : ∀ (n239 : Nat) (k : Nat) (H : Heap) (locs : List Loc) (ls : Array Slot), S + 3 - k < n239 → (k ≤ S + 3) → va_P D vwCl ([(od, .inl (g 0, (3 * (C + 1)), .inl (aI (us L T tf k 0 0)))), (ot, .inl (g 0, 6, .inl (aI (nZ tf)))), (ol, .inl (g 0, 40, .inl (aI (nZ lf)))), (ob, .inl (g 0, 6, .inl (aI (nZ (Lby L))))), (okk, .inl (g 0, 6, .inl (aI (nZ (Lkd L))))), (ou, .inl (g 0, 3, .inl (aI (nZ uf))))] ++ (wX a g L att T hs tm tk lt)) H → va_D (fun q : Nat => s.heap.size ≤ q) ([(od, .inl (g 0, (3 * (C + 1)), .inl (aI (us L T tf k 0 0)))), (ot, .inl (g 0, 6, .inl (aI (nZ tf)))), (ol, .inl (g 0, 40, .inl (aI (nZ lf)))), (ob, .inl (g 0, 6, .inl (aI (nZ (Lby L))))), (okk, .inl (g 0, 6, .inl (aI (nZ (Lkd L))))), (ou, .inl (g 0, 3, .inl (aI (nZ uf))))] ++ (wX a g L att T hs tm tk lt)) → va_S (fun q : Nat => s.heap.size ≤ q) s.heap H locs → lv_has ls 16 [(0, .ref (b)), (1, .ref (a 0)), (2, .ref (ou)), (3, .ref (okk)), (4, .ref (ob)), (5, .ref (ol)), (6, .int (iI ((Ln L : Nat) : Int))), (7, .int (iI ((T : Nat) : Int))), (8, .ref (ot)), (9, .int (iI ((S : Nat) : Int))), (10, .int (iI ((S + 3 : Nat) : Int))), (11, .int (iI ((C : Nat) : Int))), (12, .ref (od)), (13, .int (iI ((k : Nat) : Int)))] → W p l e room_1 s m #[Value.ref b] below meth c H locs 410 24000 (lw_Z below #[Value.ref b] s) (F0 m 239 ls []) := by
    intro n239
    induction n239 with
    | zero => exact fun _ H locs ls hn => absurd hn (Nat.not_lt_zero _)
    | succ n239 ih239 =>
      intro k H locs ls hn239 hk hP hD hS hl
      refine lv_iload hx hb dL_law_239 (lv_at hl 13 rfl) ?_
      refine lv_iload hx hb dL_law_241 (lv_at hl 10 rfl) ?_
      refine z_icge (a := ((k : Nat) : Int)) (b := ((S + 3 : Nat) : Int)) (tgt := 315) hx hb dL_law_243 (by decide) (by omega) (fun c_243 => ?_) (fun c_243 => ?_)
      · obtain rfl : k = S + 3 := by omega
        refine W.widen (k := 410) (n := 24000) (by omega) (by omega) ?_
        exact law_315 hC h4 h5 huf hlf hP hD hS (lv_sub hl [0, 1, 2, 3, 4, 5, 6, 7, 8, 9, 10, 11, 12] rfl)
      · refine z_ic hx hb dL_law_246 ?_
        refine lv_istore (lv' := [(14, .int (iI ((0 : Nat) : Int))), (0, .ref (b)), (1, .ref (a 0)), (2, .ref (ou)), (3, .ref (okk)), (4, .ref (ob)), (5, .ref (ol)), (6, .int (iI ((Ln L : Nat) : Int))), (7, .int (iI ((T : Nat) : Int))), (8, .ref (ot)), (9, .int (iI ((S : Nat) : Int))), (10, .int (iI ((S + 3 : Nat) : Int))), (11, .int (iI ((C : Nat) : Int))), (12, .ref (od)), (13, .int (iI ((k : Nat) : Int)))]) hx hb dL_law_247 hl (by decide) rfl (fun ls hl => ?_)
        have loop249 : ∀ (n249 : Nat) (i : Nat) (H : Heap) (locs : List Loc) (ls : Array Slot), Ln L - i < n249 → (i ≤ Ln L) → va_P D vwCl ([(od, .inl (g 0, (3 * (C + 1)), .inl (aI (us L T tf k i 0)))), (ot, .inl (g 0, 6, .inl (aI (nZ tf)))), (ol, .inl (g 0, 40, .inl (aI (nZ lf)))), (ob, .inl (g 0, 6, .inl (aI (nZ (Lby L))))), (okk, .inl (g 0, 6, .inl (aI (nZ (Lkd L))))), (ou, .inl (g 0, 3, .inl (aI (nZ uf))))] ++ (wX a g L att T hs tm tk lt)) H → va_D (fun q : Nat => s.heap.size ≤ q) ([(od, .inl (g 0, (3 * (C + 1)), .inl (aI (us L T tf k i 0)))), (ot, .inl (g 0, 6, .inl (aI (nZ tf)))), (ol, .inl (g 0, 40, .inl (aI (nZ lf)))), (ob, .inl (g 0, 6, .inl (aI (nZ (Lby L))))), (okk, .inl (g 0, 6, .inl (aI (nZ (Lkd L))))), (ou, .inl (g 0, 3, .inl (aI (nZ uf))))] ++ (wX a g L att T hs tm tk lt)) → va_S (fun q : Nat => s.heap.size ≤ q) s.heap H locs → lv_has ls 16 [(0, .ref (b)), (1, .ref (a 0)), (2, .ref (ou)), (3, .ref (okk)), (4, .ref (ob)), (5, .ref (ol)), (6, .int (iI ((Ln L : Nat) : Int))), (7, .int (iI ((T : Nat) : Int))), (8, .ref (ot)), (9, .int (iI ((S : Nat) : Int))), (10, .int (iI ((S + 3 : Nat) : Int))), (11, .int (iI ((C : Nat) : Int))), (12, .ref (od)), (13, .int (iI ((k : Nat) : Int))), (14, .int (iI ((i : Nat) : Int)))] → W p l e room_1 s m #[Value.ref b] below meth c H locs 410 24000 (lw_Z below #[Value.ref b] s) (F0 m 249 ls []) := by
          intro n249
          induction n249 with
          | zero => exact fun _ H locs ls hn => absurd hn (Nat.not_lt_zero _)
          | succ n249 ih249 =>
            intro i H locs ls hn249 hi hP hD hS hl
            refine lv_iload hx hb dL_law_249 (lv_at hl 14 rfl) ?_
            refine lv_iload hx hb dL_law_251 (lv_at hl 6 rfl) ?_
            refine z_icge (a := ((i : Nat) : Int)) (b := ((Ln L : Nat) : Int)) (tgt := 309) hx hb dL_law_253 (by decide) (by omega) (fun c_253 => ?_) (fun c_253 => ?_)
            · obtain rfl : i = Ln L := by omega
              rw [us_k] at hP hD
              have hP : va_P D vwCl ([(od, .inl (g 0, (3 * (C + 1)), .inl (aI (us L T tf (k + 1) 0 0)))), (ot, .inl (g 0, 6, .inl (aI (nZ tf)))), (ol, .inl (g 0, 40, .inl (aI (nZ lf)))), (ob, .inl (g 0, 6, .inl (aI (nZ (Lby L))))), (okk, .inl (g 0, 6, .inl (aI (nZ (Lkd L))))), (ou, .inl (g 0, 3, .inl (aI (nZ uf))))] ++ (wX a g L att T hs tm tk lt)) H := hP
              have hD : va_D (fun q : Nat => s.heap.size ≤ q) ([(od, .inl (g 0, (3 * (C + 1)), .inl (aI (us L T tf (k + 1) 0 0)))), (ot, .inl (g 0, 6, .inl (aI (nZ tf)))), (ol, .inl (g 0, 40, .inl (aI (nZ lf)))), (ob, .inl (g 0, 6, .inl (aI (nZ (Lby L))))), (okk, .inl (g 0, 6, .inl (aI (nZ (Lkd L))))), (ou, .inl (g 0, 3, .inl (aI (nZ uf))))] ++ (wX a g L att T hs tm tk lt)) := hD
              refine z_iinc (a := ((k : Nat) : Int)) (b := ((k + 1 : Nat) : Int)) (lv' := [(13, .int (iI ((k + 1 : Nat) : Int))), (0, .ref (b)), (1, .ref (a 0)), (2, .ref (ou)), (3, .ref (okk)), (4, .ref (ob)), (5, .ref (ol)), (6, .int (iI ((Ln L : Nat) : Int))), (7, .int (iI ((T : Nat) : Int))), (8, .ref (ot)), (9, .int (iI ((S : Nat) : Int))), (10, .int (iI ((S + 3 : Nat) : Int))), (11, .int (iI ((C : Nat) : Int))), (12, .ref (od)), (14, .int (iI (((Ln L) : Nat) : Int)))]) hx hb 13 dL_law_309 hl rfl rfl (by decide) rfl (fun ls hl => ?_)
              refine lv_goto (tgt := 239) hx hb dL_law_312 (by decide) ?_
              refine W.widen (k := 410) (n := 24000) (by omega) (by omega) ?_
              exact ih239 (k + 1) _ _ _ (by omega) (by omega) hP hD hS (lv_sub hl [1, 2, 3, 4, 5, 6, 7, 8, 9, 10, 11, 12, 13, 0] rfl)
            · refine z_ic hx hb dL_law_256 ?_
              refine lv_istore (lv' := [(15, .int (iI ((0 : Nat) : Int))), (0, .ref (b)), (1, .ref (a 0)), (2, .ref (ou)), (3, .ref (okk)), (4, .ref (ob)), (5, .ref (ol)), (6, .int (iI ((Ln L : Nat) : Int))), (7, .int (iI ((T : Nat) : Int))), (8, .ref (ot)), (9, .int (iI ((S : Nat) : Int))), (10, .int (iI ((S + 3 : Nat) : Int))), (11, .int (iI ((C : Nat) : Int))), (12, .ref (od)), (13, .int (iI ((k : Nat) : Int))), (14, .int (iI ((i : Nat) : Int)))]) hx hb dL_law_257 hl (by decide) rfl (fun ls hl => ?_)
              have loop259 : ∀ (n259 : Nat) (q : Nat) (H : Heap) (locs : List Loc) (ls : Array Slot), Lby L i - q < n259 → (q ≤ Lby L i) → va_P D vwCl ([(od, .inl (g 0, (3 * (C + 1)), .inl (aI (us L T tf k i q)))), (ot, .inl (g 0, 6, .inl (aI (nZ tf)))), (ol, .inl (g 0, 40, .inl (aI (nZ lf)))), (ob, .inl (g 0, 6, .inl (aI (nZ (Lby L))))), (okk, .inl (g 0, 6, .inl (aI (nZ (Lkd L))))), (ou, .inl (g 0, 3, .inl (aI (nZ uf))))] ++ (wX a g L att T hs tm tk lt)) H → va_D (fun q : Nat => s.heap.size ≤ q) ([(od, .inl (g 0, (3 * (C + 1)), .inl (aI (us L T tf k i q)))), (ot, .inl (g 0, 6, .inl (aI (nZ tf)))), (ol, .inl (g 0, 40, .inl (aI (nZ lf)))), (ob, .inl (g 0, 6, .inl (aI (nZ (Lby L))))), (okk, .inl (g 0, 6, .inl (aI (nZ (Lkd L))))), (ou, .inl (g 0, 3, .inl (aI (nZ uf))))] ++ (wX a g L att T hs tm tk lt)) → va_S (fun q : Nat => s.heap.size ≤ q) s.heap H locs → lv_has ls 16 [(0, .ref (b)), (1, .ref (a 0)), (2, .ref (ou)), (3, .ref (okk)), (4, .ref (ob)), (5, .ref (ol)), (6, .int (iI ((Ln L : Nat) : Int))), (7, .int (iI ((T : Nat) : Int))), (8, .ref (ot)), (9, .int (iI ((S : Nat) : Int))), (10, .int (iI ((S + 3 : Nat) : Int))), (11, .int (iI ((C : Nat) : Int))), (12, .ref (od)), (13, .int (iI ((k : Nat) : Int))), (14, .int (iI ((i : Nat) : Int))), (15, .int (iI ((q : Nat) : Int)))] → W p l e room_1 s m #[Value.ref b] below meth c H locs 410 24000 (lw_Z below #[Value.ref b] s) (F0 m 259 ls []) := by
                intro n259
                induction n259 with
                | zero => exact fun _ H locs ls hn => absurd hn (Nat.not_lt_zero _)
                | succ n259 ih259 =>
                  intro q H locs ls hn259 hq hP hD hS hl
                  have hbq := h4.1.2.2.2.2.2 i
                  have hkd := wf_kd hw i
                  have hti := htm i
                  have hp2 := mul_bd (show k ≤ 76 by omega) hT.2
                  have hp3 : ((k * T : Nat) : Int) = ((k : Nat) : Int) * ((T : Nat) : Int) := Int.natCast_mul k T
                  refine lv_iload hx hb dL_law_259 (lv_at hl 15 rfl) ?_
                  refine lv_aload hx hb dL_law_261 (lv_at hl 4 rfl) ?_
                  refine lv_iload hx hb dL_law_263 (lv_at hl 14 rfl) ?_
                  refine z_ialdZ (f := Lby L) (z := i) hx hb hK hP 3 0 rfl rfl (by omega) (by decide) dL_law_265 ?_
                  refine z_icge (a := ((q : Nat) : Int)) (b := ((Lby L i : Nat) : Int)) (tgt := 303) hx hb dL_law_266 (by decide) (by omega) (fun c_266 => ?_) (fun c_266 => ?_)
                  · obtain rfl : q = Lby L i := by omega
                    rw [us_i] at hP hD
                    have hP : va_P D vwCl ([(od, .inl (g 0, (3 * (C + 1)), .inl (aI (us L T tf k (i + 1) 0)))), (ot, .inl (g 0, 6, .inl (aI (nZ tf)))), (ol, .inl (g 0, 40, .inl (aI (nZ lf)))), (ob, .inl (g 0, 6, .inl (aI (nZ (Lby L))))), (okk, .inl (g 0, 6, .inl (aI (nZ (Lkd L))))), (ou, .inl (g 0, 3, .inl (aI (nZ uf))))] ++ (wX a g L att T hs tm tk lt)) H := hP
                    have hD : va_D (fun q : Nat => s.heap.size ≤ q) ([(od, .inl (g 0, (3 * (C + 1)), .inl (aI (us L T tf k (i + 1) 0)))), (ot, .inl (g 0, 6, .inl (aI (nZ tf)))), (ol, .inl (g 0, 40, .inl (aI (nZ lf)))), (ob, .inl (g 0, 6, .inl (aI (nZ (Lby L))))), (okk, .inl (g 0, 6, .inl (aI (nZ (Lkd L))))), (ou, .inl (g 0, 3, .inl (aI (nZ uf))))] ++ (wX a g L att T hs tm tk lt)) := hD
                    refine z_iinc (a := ((i : Nat) : Int)) (b := ((i + 1 : Nat) : Int)) (lv' := [(14, .int (iI ((i + 1 : Nat) : Int))), (0, .ref (b)), (1, .ref (a 0)), (2, .ref (ou)), (3, .ref (okk)), (4, .ref (ob)), (5, .ref (ol)), (6, .int (iI ((Ln L : Nat) : Int))), (7, .int (iI ((T : Nat) : Int))), (8, .ref (ot)), (9, .int (iI ((S : Nat) : Int))), (10, .int (iI ((S + 3 : Nat) : Int))), (11, .int (iI ((C : Nat) : Int))), (12, .ref (od)), (13, .int (iI ((k : Nat) : Int))), (15, .int (iI (((Lby L i) : Nat) : Int)))]) hx hb 14 dL_law_303 hl rfl rfl (by decide) rfl (fun ls hl => ?_)
                    refine lv_goto (tgt := 249) hx hb dL_law_306 (by decide) ?_
                    refine W.widen (k := 410) (n := 24000) (by omega) (by omega) ?_
                    exact ih249 (i + 1) _ _ _ (by omega) (by omega) hP hD hS (lv_sub hl [1, 2, 3, 4, 5, 6, 7, 8, 9, 10, 11, 12, 13, 14, 0] rfl)
                  · refine lv_aload hx hb dL_law_269 (lv_at hl 12 rfl) ?_
                    refine z_ic hx hb dL_law_271 ?_
                    refine lv_aload hx hb dL_law_272 (lv_at hl 8 rfl) ?_
                    refine lv_iload hx hb dL_law_274 (lv_at hl 14 rfl) ?_
                    refine z_ialdZ (f := tf) (z := i) hx hb hK hP 1 0 rfl rfl (by omega) (by decide) dL_law_276 ?_
                    refine lv_iload hx hb dL_law_277 (lv_at hl 13 rfl) ?_
                    refine lv_iload hx hb dL_law_279 (lv_at hl 7 rfl) ?_
                    refine z_mul (a := ((k : Nat) : Int)) (b := ((T : Nat) : Int)) hx hb dL_law_281 ?_
                    refine z_eqI (y := iI ((k * T : Nat) : Int)) (congrArg iI (Int.natCast_mul _ _).symm) ?_
                    refine z_add (a := ((tf i : Nat) : Int)) (b := ((k * T : Nat) : Int)) hx hb dL_law_282 ?_
                    refine z_eqI (y := iI ((tf i + k * T : Nat) : Int)) (congrArg iI (by omega)) ?_
                    refine lv_iload hx hb dL_law_283 (lv_at hl 15 rfl) ?_
                    refine z_add (a := ((tf i + k * T : Nat) : Int)) (b := ((q : Nat) : Int)) hx hb dL_law_285 ?_
                    refine z_eqI (y := iI ((tf i + k * T + q : Nat) : Int)) (congrArg iI (by omega)) ?_
                    refine z_mul (a := 3) (b := ((tf i + k * T + q : Nat) : Int)) hx hb dL_law_286 ?_
                    refine z_eqI (y := iI ((3 * (tf i + k * T + q) : Nat) : Int)) (congrArg iI (by omega)) ?_
                    refine lv_aload_n hx hb dL_law_287 rfl (lv_at hl 3 rfl) ?_
                    refine lv_iload hx hb dL_law_288 (lv_at hl 14 rfl) ?_
                    refine z_ialdZ (f := Lkd L) (z := i) hx hb hK hP 4 0 rfl rfl (by omega) (by decide) dL_law_290 ?_
                    refine z_add (a := ((3 * (tf i + k * T + q) : Nat) : Int)) (b := ((Lkd L i : Nat) : Int)) hx hb dL_law_291 ?_
                    refine z_eqI (y := iI ((3 * (tf i + k * T + q) + Lkd L i : Nat) : Int)) (congrArg iI (by omega)) ?_
                    refine lv_dup2_11 hx hb dL_law_292 rfl rfl ?_
                    refine z_ialdN (f := us L T tf k i q) (z := 3 * (tf i + k * T + q) + Lkd L i) hx hb hK hP 0 0 rfl rfl (J5_x (hGj i (by omega)) (by omega) (by omega) hkd hCe) (by omega) dL_law_293 ?_
                    refine z_ic hx hb dL_law_294 ?_
                    refine z_add (a := (us L T tf k i q (3 * (tf i + k * T + q) + Lkd L i))) (b := 1) hx hb dL_law_295 ?_
                    refine z_iastN (f := us L T tf k i q) (z := 3 * (tf i + k * T + q) + Lkd L i) (v := ((us L T tf k i q (3 * (tf i + k * T + q) + Lkd L i)) + 1)) hx hb hK hP hD hS 0 0 rfl rfl (J5_x (hGj i (by omega)) (by omega) (by omega) hkd hCe) (by omega) dL_law_296 (fun H locs hP hD hS => ?_)
                    have hP : va_P D vwCl ([(od, .inl (g 0, (3 * (C + 1)), .inl (aI (upZ (us L T tf k i q) (3 * (tf i + k * T + q) + Lkd L i) ((us L T tf k i q (3 * (tf i + k * T + q) + Lkd L i)) + 1))))), (ot, .inl (g 0, 6, .inl (aI (nZ tf)))), (ol, .inl (g 0, 40, .inl (aI (nZ lf)))), (ob, .inl (g 0, 6, .inl (aI (nZ (Lby L))))), (okk, .inl (g 0, 6, .inl (aI (nZ (Lkd L))))), (ou, .inl (g 0, 3, .inl (aI (nZ uf))))] ++ (wX a g L att T hs tm tk lt)) H := hP
                    have hD : va_D (fun q : Nat => s.heap.size ≤ q) ([(od, .inl (g 0, (3 * (C + 1)), .inl (aI (upZ (us L T tf k i q) (3 * (tf i + k * T + q) + Lkd L i) ((us L T tf k i q (3 * (tf i + k * T + q) + Lkd L i)) + 1))))), (ot, .inl (g 0, 6, .inl (aI (nZ tf)))), (ol, .inl (g 0, 40, .inl (aI (nZ lf)))), (ob, .inl (g 0, 6, .inl (aI (nZ (Lby L))))), (okk, .inl (g 0, 6, .inl (aI (nZ (Lkd L))))), (ou, .inl (g 0, 3, .inl (aI (nZ uf))))] ++ (wX a g L att T hs tm tk lt)) := hD
                    rw [us_s] at hP hD
                    have hP : va_P D vwCl ([(od, .inl (g 0, (3 * (C + 1)), .inl (aI (us L T tf k i (q + 1))))), (ot, .inl (g 0, 6, .inl (aI (nZ tf)))), (ol, .inl (g 0, 40, .inl (aI (nZ lf)))), (ob, .inl (g 0, 6, .inl (aI (nZ (Lby L))))), (okk, .inl (g 0, 6, .inl (aI (nZ (Lkd L))))), (ou, .inl (g 0, 3, .inl (aI (nZ uf))))] ++ (wX a g L att T hs tm tk lt)) H := hP
                    have hD : va_D (fun q : Nat => s.heap.size ≤ q) ([(od, .inl (g 0, (3 * (C + 1)), .inl (aI (us L T tf k i (q + 1))))), (ot, .inl (g 0, 6, .inl (aI (nZ tf)))), (ol, .inl (g 0, 40, .inl (aI (nZ lf)))), (ob, .inl (g 0, 6, .inl (aI (nZ (Lby L))))), (okk, .inl (g 0, 6, .inl (aI (nZ (Lkd L))))), (ou, .inl (g 0, 3, .inl (aI (nZ uf))))] ++ (wX a g L att T hs tm tk lt)) := hD
                    refine z_iinc (a := ((q : Nat) : Int)) (b := ((q + 1 : Nat) : Int)) (lv' := [(15, .int (iI ((q + 1 : Nat) : Int))), (0, .ref (b)), (1, .ref (a 0)), (2, .ref (ou)), (3, .ref (okk)), (4, .ref (ob)), (5, .ref (ol)), (6, .int (iI ((Ln L : Nat) : Int))), (7, .int (iI ((T : Nat) : Int))), (8, .ref (ot)), (9, .int (iI ((S : Nat) : Int))), (10, .int (iI ((S + 3 : Nat) : Int))), (11, .int (iI ((C : Nat) : Int))), (12, .ref (od)), (13, .int (iI ((k : Nat) : Int))), (14, .int (iI ((i : Nat) : Int)))]) hx hb 15 dL_law_297 hl rfl rfl (by decide) rfl (fun ls hl => ?_)
                    refine lv_goto (tgt := 259) hx hb dL_law_300 (by decide) ?_
                    refine W.widen (k := 410) (n := 24000) (by omega) (by omega) ?_
                    exact ih259 (q + 1) _ _ _ (by omega) (by omega) hP hD hS (lv_sub hl [1, 2, 3, 4, 5, 6, 7, 8, 9, 10, 11, 12, 13, 14, 15, 0] rfl)
              refine W.widen (k := 410) (n := 24000) (by omega) (by omega) ?_
              exact loop259 ((Lby L i - 0) + 1) 0 _ _ _ (Nat.lt_succ_self _) (by omega) hP hD hS (lv_sub hl [1, 2, 3, 4, 5, 6, 7, 8, 9, 10, 11, 12, 13, 14, 15, 0] rfl)
        refine W.widen (k := 410) (n := 24000) (by omega) (by omega) ?_
        exact loop249 ((Ln L - 0) + 1) 0 _ _ _ (Nat.lt_succ_self _) (by omega) hP hD hS (lv_sub hl [1, 2, 3, 4, 5, 6, 7, 8, 9, 10, 11, 12, 13, 14, 0] rfl)
  have hP : va_P D vwCl ([(od, .inl (g 0, (3 * (C + 1)), .inl (aI (us L T tf 0 0 0)))), (ot, .inl (g 0, 6, .inl (aI (nZ tf)))), (ol, .inl (g 0, 40, .inl (aI (nZ lf)))), (ob, .inl (g 0, 6, .inl (aI (nZ (Lby L))))), (okk, .inl (g 0, 6, .inl (aI (nZ (Lkd L))))), (ou, .inl (g 0, 3, .inl (aI (nZ uf))))] ++ (wX a g L att T hs tm tk lt)) H := hP
  have hD : va_D (fun q : Nat => s.heap.size ≤ q) ([(od, .inl (g 0, (3 * (C + 1)), .inl (aI (us L T tf 0 0 0)))), (ot, .inl (g 0, 6, .inl (aI (nZ tf)))), (ol, .inl (g 0, 40, .inl (aI (nZ lf)))), (ob, .inl (g 0, 6, .inl (aI (nZ (Lby L))))), (okk, .inl (g 0, 6, .inl (aI (nZ (Lkd L))))), (ou, .inl (g 0, 3, .inl (aI (nZ uf))))] ++ (wX a g L att T hs tm tk lt)) := hD
  refine W.widen (k := 410) (n := 24000) (by omega) (by omega) ?_
  exact loop239 ((S + 3 - 0) + 1) 0 _ _ _ (Nat.lt_succ_self _) (by omega) hP hD hS (lv_sub hl [1, 2, 3, 4, 5, 6, 7, 8, 9, 10, 11, 12, 13, 0] rfl)
set_option maxHeartbeats 16000000 in
set_option maxRecDepth 100000 in
theorem law_204 {p : Program} {l : Launch} {e : Env} {s : State} {m : MethodId} {below : List Frame} {meth : Method} {c : Code} {b Lx : Nat} {xs : Nat → Int32} {D : va_G} {g : Nat → ClassId} (hC : LC p l s m meth c b Lx xs D g) {a : Nat → Nat} {L : LD} {att T : Nat} {hs tm : Nat → Int} {tk : Nat → Nat → Int} {lt : Nat → Int} {ou okk ob ol ot : Nat} {uf lf tf : Nat → Nat} (h4 : J4 L T tm tk tf) (huf : ∀ k, k < 3 → uf k = Lu L k) (hlf : lf 0 = Lm L ∧ LK L lf) {H : Heap} {locs : List Loc} {ls : Array Slot} (hP : va_P D vwCl ([(ot, .inl (g 0, 6, .inl (aI (nZ tf)))), (ol, .inl (g 0, 40, .inl (aI (nZ lf)))), (ob, .inl (g 0, 6, .inl (aI (nZ (Lby L))))), (okk, .inl (g 0, 6, .inl (aI (nZ (Lkd L))))), (ou, .inl (g 0, 3, .inl (aI (nZ uf))))] ++ (wX a g L att T hs tm tk lt)) H) (hD : va_D (fun q : Nat => s.heap.size ≤ q) ([(ot, .inl (g 0, 6, .inl (aI (nZ tf)))), (ol, .inl (g 0, 40, .inl (aI (nZ lf)))), (ob, .inl (g 0, 6, .inl (aI (nZ (Lby L))))), (okk, .inl (g 0, 6, .inl (aI (nZ (Lkd L))))), (ou, .inl (g 0, 3, .inl (aI (nZ uf))))] ++ (wX a g L att T hs tm tk lt))) (hS : va_S (fun q : Nat => s.heap.size ≤ q) s.heap H locs) (hl : lv_has ls 16 [(0, .ref (b)), (1, .ref (a 0)), (2, .ref (ou)), (3, .ref (okk)), (4, .ref (ob)), (5, .ref (ol)), (6, .int (iI ((Ln L : Nat) : Int))), (7, .int (iI ((T : Nat) : Int))), (8, .ref (ot))]) : W p l e room_1 s m #[Value.ref b] below meth c H locs 400 3000 (lw_Z below #[Value.ref b] s) (F0 m 204 ls []) := by
  obtain ⟨⟨hx, hb, hr, hml, hown, hts0, hX, hbl, hlocks, hgv⟩, hLx, hl0, hK, hE, hV⟩ := id hC
  have hown : s.vm.findClass RL = some m.cls := hown
  have hts : ∀ w ∈ wsL_law, w.before #[Value.ref b] s = true := fun w h => hts0 w (wsL_law_in w h)
  have hA : ∀ q : Nat, s.heap.size ≤ q → (fun q : Nat => s.heap.size ≤ q) q := fun _ h => h
  have hbA : ¬ (fun q : Nat => s.heap.size ≤ q) b := Nat.not_le.mpr hbl
  have hw : wf L := h4.1.1
  have hn1 := h4.1.2.2.1
  have hn6 := h4.1.2.2.2.1
  have hm8 := h4.1.2.2.2.2.1
  have hT := h4.2.1
  have hok := h4.2.2.1
  have htm := h4.2.2.2.2.2.2.2
  have htj := h4.2.2.2.2.2.2.1
  have hEq := h4.2.2.2.2.1
  have hI := h4.2.2.2.2.2.1
  obtain ⟨G, S, C, h5⟩ := J5_ex h4
  obtain ⟨hGe, hGj, hG, hS0, hSb, hS2, hCe, hCb⟩ := id h5
  have hS1 : 1 ≤ S := by rw [hS0]; exact Nat.le_add_left 1 _
  clear hS0
  refine lv_aload_n hx hb dL_law_204 rfl (lv_at hl 1 rfl) ?_
  refine j_callQ (u := [(ot, .inl (g 0, 6, .inl (aI (nZ tf)))), (ol, .inl (g 0, 40, .inl (aI (nZ lf)))), (ob, .inl (g 0, 6, .inl (aI (nZ (Lby L))))), (okk, .inl (g 0, 6, .inl (aI (nZ (Lkd L))))), (ou, .inl (g 0, 3, .inl (aI (nZ uf))))]) (v := (wX a g L att T hs tm tk lt)) (k := 1) (fun E u9 h9 => by have h8 := h9.2; omega) (vx_runV (As := []) (rest := []) ⟨hx, hb, hml, hown, hts⟩ (c_X2_stages l hl0 D g a L att T hs tm tk lt hw hok _) (cwV 0 hts gL_law_X2_stages rfl rfl rfl (by decide +kernel) ⟨Nat.le_of_ble_eq_true rfl, Nat.le_of_ble_eq_true rfl⟩) (x_preV 0 hK (wj_r hP) (wj_dr hD) hS hA hE hV rfl rfl) rfl rfl hl.1 rfl (lv_room (Nat.le_of_ble_eq_true rfl)) dL_law_205 ⟨show 400 + 1 ≤ 600104 from by omega, show 3000 + 6 * 1 ≤ 7301314 from by omega⟩) hS hP hD hA (fun r w1 H locs hw1 hP hD hS => ?_)
  obtain ⟨_, rfl, rfl⟩ := hw1
  have hP : va_P D vwCl ([(ot, .inl (g 0, 6, .inl (aI (nZ tf)))), (ol, .inl (g 0, 40, .inl (aI (nZ lf)))), (ob, .inl (g 0, 6, .inl (aI (nZ (Lby L))))), (okk, .inl (g 0, 6, .inl (aI (nZ (Lkd L))))), (ou, .inl (g 0, 3, .inl (aI (nZ uf))))] ++ (wX a g L att T hs tm tk lt)) H := hP
  have hD : va_D (fun q : Nat => s.heap.size ≤ q) ([(ot, .inl (g 0, 6, .inl (aI (nZ tf)))), (ol, .inl (g 0, 40, .inl (aI (nZ lf)))), (ob, .inl (g 0, 6, .inl (aI (nZ (Lby L))))), (okk, .inl (g 0, 6, .inl (aI (nZ (Lkd L))))), (ou, .inl (g 0, 3, .inl (aI (nZ uf))))] ++ (wX a g L att T hs tm tk lt)) := hD
  refine z_eqI (y := (iI ((S : Nat) : Int))) (congrArg iI (J5_S h4.1 h5)) ?_
  refine lv_istore (lv' := [(9, .int (iI ((S : Nat) : Int))), (0, .ref (b)), (1, .ref (a 0)), (2, .ref (ou)), (3, .ref (okk)), (4, .ref (ob)), (5, .ref (ol)), (6, .int (iI ((Ln L : Nat) : Int))), (7, .int (iI ((T : Nat) : Int))), (8, .ref (ot))]) hx hb dL_law_208 hl (by decide) rfl (fun ls hl => ?_)
  refine lv_iload hx hb dL_law_210 (lv_at hl 0 rfl) ?_
  refine z_ic hx hb dL_law_212 ?_
  refine z_add (a := ((S : Nat) : Int)) (b := 3) hx hb dL_law_213 ?_
  refine z_eqI (y := iI ((S + 3 : Nat) : Int)) (congrArg iI (by omega)) ?_
  refine lv_istore (lv' := [(10, .int (iI ((S + 3 : Nat) : Int))), (9, .int (iI ((S : Nat) : Int))), (0, .ref (b)), (1, .ref (a 0)), (2, .ref (ou)), (3, .ref (okk)), (4, .ref (ob)), (5, .ref (ol)), (6, .int (iI ((Ln L : Nat) : Int))), (7, .int (iI ((T : Nat) : Int))), (8, .ref (ot))]) hx hb dL_law_214 hl (by decide) rfl (fun ls hl => ?_)
  refine lv_aload_n hx hb dL_law_216 rfl (lv_at hl 3 rfl) ?_
  refine lv_iload hx hb dL_law_217 (lv_at hl 0 rfl) ?_
  refine j_callQ (u := [(ot, .inl (g 0, 6, .inl (aI (nZ tf)))), (ol, .inl (g 0, 40, .inl (aI (nZ lf)))), (ob, .inl (g 0, 6, .inl (aI (nZ (Lby L))))), (okk, .inl (g 0, 6, .inl (aI (nZ (Lkd L))))), (ou, .inl (g 0, 3, .inl (aI (nZ uf))))]) (v := (wX a g L att T hs tm tk lt)) (k := 2) (fun E u9 h9 => by rcases h9.2 with h | h <;> omega) (vx_runV (As := [.int (iI ((S + 3 : Nat) : Int))]) (rest := []) ⟨hx, hb, hml, hown, hts⟩ (c_X2_cycles l hl0 D g a L att T hs tm tk lt ((S + 3 : Nat) : Int) hw hok (by omega) _) (cwV 1 hts gL_law_X2_cycles rfl rfl rfl (by decide +kernel) ⟨Nat.le_of_ble_eq_true rfl, Nat.le_of_ble_eq_true rfl⟩) (x_preV 0 hK (wj_r hP) (wj_dr hD) hS hA hE hV rfl rfl) rfl rfl hl.1 rfl (lv_room (Nat.le_of_ble_eq_true rfl)) dL_law_219 ⟨show 400 + 1 + 2 ≤ 600104 from by omega, show 3000 + 6 * 1 + 6 * 2 ≤ 7301314 from by omega⟩) hS hP hD hA (fun r w1 H locs hw1 hP hD hS => ?_)
  obtain ⟨_, rfl, rfl⟩ := hw1
  have hP : va_P D vwCl ([(ot, .inl (g 0, 6, .inl (aI (nZ tf)))), (ol, .inl (g 0, 40, .inl (aI (nZ lf)))), (ob, .inl (g 0, 6, .inl (aI (nZ (Lby L))))), (okk, .inl (g 0, 6, .inl (aI (nZ (Lkd L))))), (ou, .inl (g 0, 3, .inl (aI (nZ uf))))] ++ (wX a g L att T hs tm tk lt)) H := hP
  have hD : va_D (fun q : Nat => s.heap.size ≤ q) ([(ot, .inl (g 0, 6, .inl (aI (nZ tf)))), (ol, .inl (g 0, 40, .inl (aI (nZ lf)))), (ob, .inl (g 0, 6, .inl (aI (nZ (Lby L))))), (okk, .inl (g 0, 6, .inl (aI (nZ (Lkd L))))), (ou, .inl (g 0, 3, .inl (aI (nZ uf))))] ++ (wX a g L att T hs tm tk lt)) := hD
  refine z_ic hx hb dL_law_222 ?_
  refine z_add (a := (if Ln L = 0 then 0 else gT tm (Ln L) + (((S + 3 : Nat) : Int) - 1) * (T : Int) + 1)) (b := 4) hx hb dL_law_223 ?_
  refine z_eqI (y := iI ((C : Nat) : Int)) (congrArg iI (J5_C h4.1 h5)) ?_
  refine lv_istore (lv' := [(11, .int (iI ((C : Nat) : Int))), (10, .int (iI ((S + 3 : Nat) : Int))), (9, .int (iI ((S : Nat) : Int))), (0, .ref (b)), (1, .ref (a 0)), (2, .ref (ou)), (3, .ref (okk)), (4, .ref (ob)), (5, .ref (ol)), (6, .int (iI ((Ln L : Nat) : Int))), (7, .int (iI ((T : Nat) : Int))), (8, .ref (ot))]) hx hb dL_law_224 hl (by decide) rfl (fun ls hl => ?_)
  refine z_ic hx hb dL_law_226 ?_
  refine lv_iload hx hb dL_law_227 (lv_at hl 0 rfl) ?_
  refine z_ic hx hb dL_law_229 ?_
  refine z_add (a := ((C : Nat) : Int)) (b := 1) hx hb dL_law_230 ?_
  refine z_eqI (y := iI ((C + 1 : Nat) : Int)) (congrArg iI (by omega)) ?_
  refine z_mul (a := 3) (b := ((C + 1 : Nat) : Int)) hx hb dL_law_231 ?_
  refine z_eqI (y := iI ((3 * (C + 1) : Nat) : Int)) (congrArg iI (by omega)) ?_
  refine z_newa2 (n := iI ((3 * (C + 1) : Nat) : Int)) (N' := (3 * (C + 1))) (a0 := ((3 * (C + 1)), .inl (aI (nZ (fun _ => 0))))) hx hb (hts (.arrayClass .int) (List.mem_of_getElem? (i := 3) rfl)) hK hP hD hS hA 0 rfl (aI0 (3 * (C + 1))) (newN (by omega)).1 (newN (by omega)).2.1 (newN (by omega)).2.2 (show 400 + 1 + 2 + 1 ≤ 600104 from by omega) (show 3000 + 6 * 1 + 6 * 2 + (3 * (C + 1)) ≤ 7301314 from by omega) dL_law_232 (fun od H hP hD hS => ?_)
  have hP : va_P D vwCl ([(od, .inl (g 0, (3 * (C + 1)), .inl (aI (nZ (fun _ => 0)))))] ++ ([(ot, .inl (g 0, 6, .inl (aI (nZ tf)))), (ol, .inl (g 0, 40, .inl (aI (nZ lf)))), (ob, .inl (g 0, 6, .inl (aI (nZ (Lby L))))), (okk, .inl (g 0, 6, .inl (aI (nZ (Lkd L))))), (ou, .inl (g 0, 3, .inl (aI (nZ uf))))] ++ (wX a g L att T hs tm tk lt))) H := wj_sp hP
  have hD : va_D (fun q : Nat => s.heap.size ≤ q) ([(od, .inl (g 0, (3 * (C + 1)), .inl (aI (nZ (fun _ => 0)))))] ++ ([(ot, .inl (g 0, 6, .inl (aI (nZ tf)))), (ol, .inl (g 0, 40, .inl (aI (nZ lf)))), (ob, .inl (g 0, 6, .inl (aI (nZ (Lby L))))), (okk, .inl (g 0, 6, .inl (aI (nZ (Lkd L))))), (ou, .inl (g 0, 3, .inl (aI (nZ uf))))] ++ (wX a g L att T hs tm tk lt))) := wj_sd hD
  have hP : va_P D vwCl ([(od, .inl (g 0, (3 * (C + 1)), .inl (aI (nZ (fun _ => 0))))), (ot, .inl (g 0, 6, .inl (aI (nZ tf)))), (ol, .inl (g 0, 40, .inl (aI (nZ lf)))), (ob, .inl (g 0, 6, .inl (aI (nZ (Lby L))))), (okk, .inl (g 0, 6, .inl (aI (nZ (Lkd L))))), (ou, .inl (g 0, 3, .inl (aI (nZ uf))))] ++ (wX a g L att T hs tm tk lt)) H := hP
  have hD : va_D (fun q : Nat => s.heap.size ≤ q) ([(od, .inl (g 0, (3 * (C + 1)), .inl (aI (nZ (fun _ => 0))))), (ot, .inl (g 0, 6, .inl (aI (nZ tf)))), (ol, .inl (g 0, 40, .inl (aI (nZ lf)))), (ob, .inl (g 0, 6, .inl (aI (nZ (Lby L))))), (okk, .inl (g 0, 6, .inl (aI (nZ (Lkd L))))), (ou, .inl (g 0, 3, .inl (aI (nZ uf))))] ++ (wX a g L att T hs tm tk lt)) := hD
  refine lv_astore (lv' := [(12, .ref (od)), (11, .int (iI ((C : Nat) : Int))), (10, .int (iI ((S + 3 : Nat) : Int))), (9, .int (iI ((S : Nat) : Int))), (0, .ref (b)), (1, .ref (a 0)), (2, .ref (ou)), (3, .ref (okk)), (4, .ref (ob)), (5, .ref (ol)), (6, .int (iI ((Ln L : Nat) : Int))), (7, .int (iI ((T : Nat) : Int))), (8, .ref (ot))]) hx hb dL_law_234 hl (by decide) rfl (fun ls hl => ?_)
  refine W.widen (k := 410) (n := 24000) (by omega) (by omega) ?_
  exact law_236 hC h4 h5 huf hlf hP hD hS (lv_sub hl [4, 5, 6, 7, 8, 9, 10, 11, 12, 3, 2, 1, 0] rfl)
set_option maxHeartbeats 16000000 in
set_option maxRecDepth 100000 in
theorem law_151 {p : Program} {l : Launch} {e : Env} {s : State} {m : MethodId} {below : List Frame} {meth : Method} {c : Code} {b Lx : Nat} {xs : Nat → Int32} {D : va_G} {g : Nat → ClassId} (hC : LC p l s m meth c b Lx xs D g) {a : Nat → Nat} {L : LD} {att T : Nat} {hs tm : Nat → Int} {tk : Nat → Nat → Int} {lt : Nat → Int} {ou okk ob ol : Nat} {uf lf : Nat → Nat} {tn : Nat → Nat} (h6 : w6 L) (hJ : JP L T tm tk tn) (huf : ∀ k, k < 3 → uf k = Lu L k) (hlf : lf 0 = Lm L ∧ LK L lf) {H : Heap} {locs : List Loc} {ls : Array Slot} (hP : va_P D vwCl ([(ol, .inl (g 0, 40, .inl (aI (nZ lf)))), (ob, .inl (g 0, 6, .inl (aI (nZ (Lby L))))), (okk, .inl (g 0, 6, .inl (aI (nZ (Lkd L))))), (ou, .inl (g 0, 3, .inl (aI (nZ uf))))] ++ (wX a g L att T hs tm tk lt)) H) (hD : va_D (fun q : Nat => s.heap.size ≤ q) ([(ol, .inl (g 0, 40, .inl (aI (nZ lf)))), (ob, .inl (g 0, 6, .inl (aI (nZ (Lby L))))), (okk, .inl (g 0, 6, .inl (aI (nZ (Lkd L))))), (ou, .inl (g 0, 3, .inl (aI (nZ uf))))] ++ (wX a g L att T hs tm tk lt))) (hS : va_S (fun q : Nat => s.heap.size ≤ q) s.heap H locs) (hl : lv_has ls 16 [(0, .ref (b)), (1, .ref (a 0)), (2, .ref (ou)), (3, .ref (okk)), (4, .ref (ob)), (5, .ref (ol)), (6, .int (iI ((Ln L : Nat) : Int))), (7, .int (iI ((T : Nat) : Int)))]) : W p l e room_1 s m #[Value.ref b] below meth c H locs 140 1600 (lw_Z below #[Value.ref b] s) (F0 m 151 ls []) := by
  obtain ⟨⟨hx, hb, hr, hml, hown, hts0, hX, hbl, hlocks, hgv⟩, hLx, hl0, hK, hE, hV⟩ := id hC
  have hown : s.vm.findClass RL = some m.cls := hown
  have hts : ∀ w ∈ wsL_law, w.before #[Value.ref b] s = true := fun w h => hts0 w (wsL_law_in w h)
  have hA : ∀ q : Nat, s.heap.size ≤ q → (fun q : Nat => s.heap.size ≤ q) q := fun _ h => h
  have hbA : ¬ (fun q : Nat => s.heap.size ≤ q) b := Nat.not_le.mpr hbl
  have hw : wf L := h6.1
  have hn1 := h6.2.2.1
  have hn6 := h6.2.2.2.1
  have hm8 := h6.2.2.2.2.1
  have hok := JP_ok hJ
  have hT := (JP_J hJ).1
  refine z_bip hx hb dL_law_151 (by decide) ?_
  refine z_newa2 (n := iI ((6 : Nat) : Int)) (N' := 6) (a0 := (6, .inl (aI (nZ (fun _ => 0))))) hx hb (hts (.arrayClass .int) (List.mem_of_getElem? (i := 3) rfl)) hK hP hD hS hA 0 rfl (aI0 6) (by decide) (by decide) (by decide) (show 140 + 1 ≤ 600104 from by omega) (show 1600 + 6 ≤ 7301314 from by omega) dL_law_153 (fun ot H hP hD hS => ?_)
  have hP : va_P D vwCl ([(ot, .inl (g 0, 6, .inl (aI (nZ (fun _ => 0)))))] ++ ([(ol, .inl (g 0, 40, .inl (aI (nZ lf)))), (ob, .inl (g 0, 6, .inl (aI (nZ (Lby L))))), (okk, .inl (g 0, 6, .inl (aI (nZ (Lkd L))))), (ou, .inl (g 0, 3, .inl (aI (nZ uf))))] ++ (wX a g L att T hs tm tk lt))) H := wj_sp hP
  have hD : va_D (fun q : Nat => s.heap.size ≤ q) ([(ot, .inl (g 0, 6, .inl (aI (nZ (fun _ => 0)))))] ++ ([(ol, .inl (g 0, 40, .inl (aI (nZ lf)))), (ob, .inl (g 0, 6, .inl (aI (nZ (Lby L))))), (okk, .inl (g 0, 6, .inl (aI (nZ (Lkd L))))), (ou, .inl (g 0, 3, .inl (aI (nZ uf))))] ++ (wX a g L att T hs tm tk lt))) := wj_sd hD
  have hP : va_P D vwCl ([(ot, .inl (g 0, 6, .inl (aI (nZ (fun _ => 0))))), (ol, .inl (g 0, 40, .inl (aI (nZ lf)))), (ob, .inl (g 0, 6, .inl (aI (nZ (Lby L))))), (okk, .inl (g 0, 6, .inl (aI (nZ (Lkd L))))), (ou, .inl (g 0, 3, .inl (aI (nZ uf))))] ++ (wX a g L att T hs tm tk lt)) H := hP
  have hD : va_D (fun q : Nat => s.heap.size ≤ q) ([(ot, .inl (g 0, 6, .inl (aI (nZ (fun _ => 0))))), (ol, .inl (g 0, 40, .inl (aI (nZ lf)))), (ob, .inl (g 0, 6, .inl (aI (nZ (Lby L))))), (okk, .inl (g 0, 6, .inl (aI (nZ (Lkd L))))), (ou, .inl (g 0, 3, .inl (aI (nZ uf))))] ++ (wX a g L att T hs tm tk lt)) := hD
  refine lv_astore (lv' := [(8, .ref (ot)), (0, .ref (b)), (1, .ref (a 0)), (2, .ref (ou)), (3, .ref (okk)), (4, .ref (ob)), (5, .ref (ol)), (6, .int (iI ((Ln L : Nat) : Int))), (7, .int (iI ((T : Nat) : Int)))]) hx hb dL_law_155 hl (by decide) rfl (fun ls hl => ?_)
  refine z_ic hx hb dL_law_157 ?_
  refine lv_istore (lv' := [(9, .int (iI ((0 : Nat) : Int))), (8, .ref (ot)), (0, .ref (b)), (1, .ref (a 0)), (2, .ref (ou)), (3, .ref (okk)), (4, .ref (ob)), (5, .ref (ol)), (6, .int (iI ((Ln L : Nat) : Int))), (7, .int (iI ((T : Nat) : Int)))]) hx hb dL_law_158 hl (by decide) rfl (fun ls hl => ?_)
  have loop160 : ∀ (n160 : Nat) (i : Nat) (tf : Nat → Nat) (H : Heap) (locs : List Loc) (ls : Array Slot), Ln L - i < n160 → (i ≤ Ln L) → (∀ j, j < i → tf j = tn j) → (∀ j, tf j ≤ 3000) → va_P D vwCl ([(ot, .inl (g 0, 6, .inl (aI (nZ tf)))), (ol, .inl (g 0, 40, .inl (aI (nZ lf)))), (ob, .inl (g 0, 6, .inl (aI (nZ (Lby L))))), (okk, .inl (g 0, 6, .inl (aI (nZ (Lkd L))))), (ou, .inl (g 0, 3, .inl (aI (nZ uf))))] ++ (wX a g L att T hs tm tk lt)) H → va_D (fun q : Nat => s.heap.size ≤ q) ([(ot, .inl (g 0, 6, .inl (aI (nZ tf)))), (ol, .inl (g 0, 40, .inl (aI (nZ lf)))), (ob, .inl (g 0, 6, .inl (aI (nZ (Lby L))))), (okk, .inl (g 0, 6, .inl (aI (nZ (Lkd L))))), (ou, .inl (g 0, 3, .inl (aI (nZ uf))))] ++ (wX a g L att T hs tm tk lt)) → va_S (fun q : Nat => s.heap.size ≤ q) s.heap H locs → lv_has ls 16 [(0, .ref (b)), (1, .ref (a 0)), (2, .ref (ou)), (3, .ref (okk)), (4, .ref (ob)), (5, .ref (ol)), (6, .int (iI ((Ln L : Nat) : Int))), (7, .int (iI ((T : Nat) : Int))), (8, .ref (ot)), (9, .int (iI ((i : Nat) : Int)))] → W p l e room_1 s m #[Value.ref b] below meth c H locs (141 + 2 * i) (1700 + 12 * i) (lw_Z below #[Value.ref b] s) (F0 m 160 ls []) := by
    intro n160
    induction n160 with
    | zero => exact fun _ _ H locs ls hn => absurd hn (Nat.not_lt_zero _)
    | succ n160 ih160 =>
      intro i tf H locs ls hn160 hi htf htb hP hD hS hl
      refine lv_iload hx hb dL_law_160 (lv_at hl 9 rfl) ?_
      refine lv_iload hx hb dL_law_162 (lv_at hl 6 rfl) ?_
      refine z_icge (a := ((i : Nat) : Int)) (b := ((Ln L : Nat) : Int)) (tgt := 184) hx hb dL_law_164 (by decide) (by omega) (fun c_164 => ?_) (fun c_164 => ?_)
      · have h4 := J4_of h6 hJ (fun j hj => htf j (by omega)) htb
        refine lv_iload hx hb dL_law_184 (lv_at hl 6 rfl) ?_
        refine lv_iload hx hb dL_law_186 (lv_at hl 7 rfl) ?_
        refine lv_aload hx hb dL_law_188 (lv_at hl 8 rfl) ?_
        refine lv_aload_n hx hb dL_law_190 rfl (lv_at hl 2 rfl) ?_
        refine lv_aload_n hx hb dL_law_191 rfl (lv_at hl 3 rfl) ?_
        refine lv_aload hx hb dL_law_192 (lv_at hl 4 rfl) ?_
        refine lv_aload hx hb dL_law_194 (lv_at hl 5 rfl) ?_
        refine j_callp (u := [(ot, .inl (g 0, 6, .inl (aI (nZ tf)))), (ol, .inl (g 0, 40, .inl (aI (nZ lf)))), (ob, .inl (g 0, 6, .inl (aI (nZ (Lby L))))), (okk, .inl (g 0, 6, .inl (aI (nZ (Lkd L))))), (ou, .inl (g 0, 3, .inl (aI (nZ uf))))]) (v := (wX a g L att T hs tm tk lt)) (k := 200) (px := yF) (fun _ _ h => h) (vx_runS (As := [.int (iI ((Ln L : Nat) : Int)), .int (iI ((T : Nat) : Int)), .ref (ot), .ref (ou), .ref (okk), .ref (ob), .ref (ol)]) (rest := []) ⟨hx, hb, hml, hown, hts⟩ (c_L_isValid l D g ot ol ob okk ou b Lx xs L T tk tf uf lf h6 hT h4.2.2.2.2.1 h4.2.2.2.2.2.1 h4.2.2.2.2.2.2.2 huf hlf _) (va_cwS 7 hts gL_law_L_isValid rfl rfl rfl (by decide +kernel) ⟨Nat.le_of_ble_eq_true rfl, Nat.le_of_ble_eq_true rfl⟩) (b_preS hK (wj_l hP) (wj_dl hD) hS hA hE hV hX hbl hbA) rfl rfl hl.1 rfl (lv_room (Nat.le_of_ble_eq_true rfl)) dL_law_196 ⟨show 141 + 2 * i + 200 ≤ 600104 from by omega, show 1700 + 12 * i + 6 * 200 ≤ 7301314 from by omega⟩) hS hP hD hA (fun r w1 H locs hw1 hP hD hS => ?_)
        obtain ⟨rfl, rfl⟩ := hw1
        have hP : va_P D vwCl ([(ot, .inl (g 0, 6, .inl (aI (nZ tf)))), (ol, .inl (g 0, 40, .inl (aI (nZ lf)))), (ob, .inl (g 0, 6, .inl (aI (nZ (Lby L))))), (okk, .inl (g 0, 6, .inl (aI (nZ (Lkd L))))), (ou, .inl (g 0, 3, .inl (aI (nZ uf))))] ++ (wX a g L att T hs tm tk lt)) H := hP
        have hD : va_D (fun q : Nat => s.heap.size ≤ q) ([(ot, .inl (g 0, 6, .inl (aI (nZ tf)))), (ol, .inl (g 0, 40, .inl (aI (nZ lf)))), (ob, .inl (g 0, 6, .inl (aI (nZ (Lby L))))), (okk, .inl (g 0, 6, .inl (aI (nZ (Lkd L))))), (ou, .inl (g 0, 3, .inl (aI (nZ uf))))] ++ (wX a g L att T hs tm tk lt)) := hD
        refine z_ifne (a := 1) (tgt := 204) hx hb dL_law_199 (by decide) (by omega) (fun c_199 => ?_) (fun c_199 => ?_)
        · refine W.widen (k := 400) (n := 3000) (by omega) (by omega) ?_
          exact law_204 hC h4 huf hlf hP hD hS (lv_sub hl [0, 1, 2, 3, 4, 5, 6, 7, 8] rfl)
        · exact absurd c_199 (by decide)
      · have htn := ((JP_J hJ).2.1.1 i (by omega)).2.1
        refine lv_aload hx hb dL_law_167 (lv_at hl 8 rfl) ?_
        refine lv_iload hx hb dL_law_169 (lv_at hl 9 rfl) ?_
        refine lv_aload_n hx hb dL_law_171 rfl (lv_at hl 1 rfl) ?_
        refine lv_iload hx hb dL_law_172 (lv_at hl 9 rfl) ?_
        refine j_callQ (u := [(ot, .inl (g 0, 6, .inl (aI (nZ tf)))), (ol, .inl (g 0, 40, .inl (aI (nZ lf)))), (ob, .inl (g 0, 6, .inl (aI (nZ (Lby L))))), (okk, .inl (g 0, 6, .inl (aI (nZ (Lkd L))))), (ou, .inl (g 0, 3, .inl (aI (nZ uf))))]) (v := (wX a g L att T hs tm tk lt)) (k := 2) (fun E u9 h9 => by rcases h9.2 with h | h <;> omega) (vx_runV (As := [.int (iI ((i : Nat) : Int))]) (rest := [.int (iI ((i : Nat) : Int)), .ref (ot)]) ⟨hx, hb, hml, hown, hts⟩ (c_X2_time l hl0 D g a L att T hs tm tk lt ((i : Nat) : Int) hw hok (by omega) _) (cwV 1 hts gL_law_X2_time rfl rfl rfl (by decide +kernel) ⟨Nat.le_of_ble_eq_true rfl, Nat.le_of_ble_eq_true rfl⟩) (x_preV 0 hK (wj_r hP) (wj_dr hD) hS hA hE hV rfl rfl) rfl rfl hl.1 rfl (lv_room (Nat.le_of_ble_eq_true rfl)) dL_law_174 ⟨show 141 + 2 * i + 2 ≤ 600104 from by omega, show 1700 + 12 * i + 6 * 2 ≤ 7301314 from by omega⟩) hS hP hD hA (fun r w1 H locs hw1 hP hD hS => ?_)
        obtain ⟨_, rfl, rfl⟩ := hw1
        have hP : va_P D vwCl ([(ot, .inl (g 0, 6, .inl (aI (nZ tf)))), (ol, .inl (g 0, 40, .inl (aI (nZ lf)))), (ob, .inl (g 0, 6, .inl (aI (nZ (Lby L))))), (okk, .inl (g 0, 6, .inl (aI (nZ (Lkd L))))), (ou, .inl (g 0, 3, .inl (aI (nZ uf))))] ++ (wX a g L att T hs tm tk lt)) H := hP
        have hD : va_D (fun q : Nat => s.heap.size ≤ q) ([(ot, .inl (g 0, 6, .inl (aI (nZ tf)))), (ol, .inl (g 0, 40, .inl (aI (nZ lf)))), (ob, .inl (g 0, 6, .inl (aI (nZ (Lby L))))), (okk, .inl (g 0, 6, .inl (aI (nZ (Lkd L))))), (ou, .inl (g 0, 3, .inl (aI (nZ uf))))] ++ (wX a g L att T hs tm tk lt)) := hD
        refine z_eqI (y := (iI ((tn i : Nat) : Int))) (congrArg iI ((JP_J hJ).2.1.1 i (by omega)).1) ?_
        refine z_iastZ (f := tf) (z := i) (v := tn i) hx hb hK hP hD hS 0 0 rfl rfl (by omega) (by decide) dL_law_177 (fun H locs hP hD hS => ?_)
        have hP : va_P D vwCl ([(ot, .inl (g 0, 6, .inl (aI (nZ (upN tf i (tn i)))))), (ol, .inl (g 0, 40, .inl (aI (nZ lf)))), (ob, .inl (g 0, 6, .inl (aI (nZ (Lby L))))), (okk, .inl (g 0, 6, .inl (aI (nZ (Lkd L))))), (ou, .inl (g 0, 3, .inl (aI (nZ uf))))] ++ (wX a g L att T hs tm tk lt)) H := hP
        have hD : va_D (fun q : Nat => s.heap.size ≤ q) ([(ot, .inl (g 0, 6, .inl (aI (nZ (upN tf i (tn i)))))), (ol, .inl (g 0, 40, .inl (aI (nZ lf)))), (ob, .inl (g 0, 6, .inl (aI (nZ (Lby L))))), (okk, .inl (g 0, 6, .inl (aI (nZ (Lkd L))))), (ou, .inl (g 0, 3, .inl (aI (nZ uf))))] ++ (wX a g L att T hs tm tk lt)) := hD
        refine z_iinc (a := ((i : Nat) : Int)) (b := ((i + 1 : Nat) : Int)) (lv' := [(9, .int (iI ((i + 1 : Nat) : Int))), (0, .ref (b)), (1, .ref (a 0)), (2, .ref (ou)), (3, .ref (okk)), (4, .ref (ob)), (5, .ref (ol)), (6, .int (iI ((Ln L : Nat) : Int))), (7, .int (iI ((T : Nat) : Int))), (8, .ref (ot))]) hx hb 9 dL_law_178 hl rfl rfl (by decide) rfl (fun ls hl => ?_)
        refine lv_goto (tgt := 160) hx hb dL_law_181 (by decide) ?_
        refine W.widen (k := 141 + 2 * (i + 1)) (n := 1700 + 12 * (i + 1)) (by omega) (by omega) ?_
        exact ih160 (i + 1) (upN tf i (tn i)) _ _ _ (by omega) (by omega) (fun j h => by by_cases e : j = i; { rw [e, upN_s] }; { rw [upN_n _ _ e]; exact htf j (by omega) }) (fun j => by by_cases e : j = i; { rw [e, upN_s]; exact htn }; { rw [upN_n _ _ e]; exact htb j }) hP hD hS (lv_sub hl [1, 2, 3, 4, 5, 6, 7, 8, 9, 0] rfl)
  refine W.widen (k := 141 + 2 * 0) (n := 1700 + 12 * 0) (by omega) (by omega) ?_
  exact loop160 ((Ln L - 0) + 1) 0 (fun _ => 0) _ _ _ (Nat.lt_succ_self _) (by omega) (fun j h => absurd h (Nat.not_lt_zero j)) (fun _ => Nat.zero_le _) hP hD hS (lv_sub hl [2, 3, 4, 5, 6, 7, 8, 9, 1, 0] rfl)
set_option maxHeartbeats 16000000 in
set_option maxRecDepth 100000 in
theorem law_43 {p : Program} {l : Launch} {e : Env} {s : State} {m : MethodId} {below : List Frame} {meth : Method} {c : Code} {b Lx : Nat} {xs : Nat → Int32} {D : va_G} {g : Nat → ClassId} (hC : LC p l s m meth c b Lx xs D g) {a : Nat → Nat} {L : LD} {hs tm : Nat → Int} {tk : Nat → Nat → Int} {lt : Nat → Int} {ou okk ob ol : Nat} {uf lf : Nat → Nat} (h6 : w6 L) (huf : ∀ k, k < 3 → uf k = Lu L k) (hlf : lf 0 = Lm L ∧ LK L lf) {H : Heap} {locs : List Loc} {ls : Array Slot} (hP : va_P D vwCl ([(ol, .inl (g 0, 40, .inl (aI (nZ lf)))), (ob, .inl (g 0, 6, .inl (aI (nZ (Lby L))))), (okk, .inl (g 0, 6, .inl (aI (nZ (Lkd L))))), (ou, .inl (g 0, 3, .inl (aI (nZ uf))))] ++ (wX a g L 0 0 hs tm tk lt)) H) (hD : va_D (fun q : Nat => s.heap.size ≤ q) ([(ol, .inl (g 0, 40, .inl (aI (nZ lf)))), (ob, .inl (g 0, 6, .inl (aI (nZ (Lby L))))), (okk, .inl (g 0, 6, .inl (aI (nZ (Lkd L))))), (ou, .inl (g 0, 3, .inl (aI (nZ uf))))] ++ (wX a g L 0 0 hs tm tk lt))) (hS : va_S (fun q : Nat => s.heap.size ≤ q) s.heap H locs) (hl : lv_has ls 16 [(0, .ref (b)), (1, .ref (a 0)), (2, .ref (ou)), (3, .ref (okk)), (4, .ref (ob)), (5, .ref (ol)), (6, .int (iI ((Ln L : Nat) : Int)))]) : W p l e room_1 s m #[Value.ref b] below meth c H locs 100 1300 (lw_Z below #[Value.ref b] s) (F0 m 43 ls []) := by
  obtain ⟨⟨hx, hb, hr, hml, hown, hts0, hX, hbl, hlocks, hgv⟩, hLx, hl0, hK, hE, hV⟩ := id hC
  have hown : s.vm.findClass RL = some m.cls := hown
  have hts : ∀ w ∈ wsL_law, w.before #[Value.ref b] s = true := fun w h => hts0 w (wsL_law_in w h)
  have hA : ∀ q : Nat, s.heap.size ≤ q → (fun q : Nat => s.heap.size ≤ q) q := fun _ h => h
  have hbA : ¬ (fun q : Nat => s.heap.size ≤ q) b := Nat.not_le.mpr hbl
  have hw : wf L := h6.1
  have hn1 := h6.2.2.1
  have hn6 := h6.2.2.2.1
  refine lv_iload hx hb dL_law_43 (lv_at hl 6 rfl) ?_
  refine z_ic hx hb dL_law_45 ?_
  refine z_icge (a := ((Ln L : Nat) : Int)) (b := 1) (tgt := 51) hx hb dL_law_46 (by decide) (by omega) (fun c_46 => ?_) (fun c_46 => ?_)
  · refine lv_aload_n hx hb dL_law_51 rfl (lv_at hl 1 rfl) ?_
    refine z_sip hx hb dL_law_52 (by decide) ?_
    refine j_callQ (u := [(ol, .inl (g 0, 40, .inl (aI (nZ lf)))), (ob, .inl (g 0, 6, .inl (aI (nZ (Lby L))))), (okk, .inl (g 0, 6, .inl (aI (nZ (Lkd L))))), (ou, .inl (g 0, 3, .inl (aI (nZ uf))))]) (v := (wX a g L 0 0 hs tm tk lt)) (k := 1) (fun E u9 h9 => by have h8 := h9.2; omega) (vx_runV (As := [.int (iI ((200 : Nat) : Int))]) (rest := []) ⟨hx, hb, hml, hown, hts⟩ (c_X2_schedule l hl0 D g a L 0 0 hs tm tk lt 200 hw (by omega) _) (cwV 1 hts gL_law_X2_schedule rfl rfl rfl (by decide +kernel) ⟨Nat.le_of_ble_eq_true rfl, Nat.le_of_ble_eq_true rfl⟩) (x_preV 0 hK (wj_r hP) (wj_dr hD) hS hA hE hV rfl rfl) rfl rfl hl.1 rfl (lv_room (Nat.le_of_ble_eq_true rfl)) dL_law_55 ⟨show 100 + 1 ≤ 600104 from by omega, show 1300 + 6 * 1 ≤ 7301314 from by omega⟩) hS hP hD hA (fun r w1 H locs hw1 hP hD hS => ?_)
    obtain ⟨_, hs2, tm2, tk2, att2, T2, rfl, hsch⟩ := hw1
    obtain ⟨rfl, tn, hJ⟩ := JP_sch h6 hsch
    have hT2 := (JP_J hJ).1
    have hP : va_P D vwCl ([(ol, .inl (g 0, 40, .inl (aI (nZ lf)))), (ob, .inl (g 0, 6, .inl (aI (nZ (Lby L))))), (okk, .inl (g 0, 6, .inl (aI (nZ (Lkd L))))), (ou, .inl (g 0, 3, .inl (aI (nZ uf))))] ++ (wX a g L att2 T2 hs2 tm2 tk2 lt)) H := hP
    have hD : va_D (fun q : Nat => s.heap.size ≤ q) ([(ol, .inl (g 0, 40, .inl (aI (nZ lf)))), (ob, .inl (g 0, 6, .inl (aI (nZ (Lby L))))), (okk, .inl (g 0, 6, .inl (aI (nZ (Lkd L))))), (ou, .inl (g 0, 3, .inl (aI (nZ uf))))] ++ (wX a g L att2 T2 hs2 tm2 tk2 lt)) := hD
    refine lv_istore (lv' := [(7, .int (iI ((T2 : Nat) : Int))), (0, .ref (b)), (1, .ref (a 0)), (2, .ref (ou)), (3, .ref (okk)), (4, .ref (ob)), (5, .ref (ol)), (6, .int (iI ((Ln L : Nat) : Int)))]) hx hb dL_law_58 hl (by decide) rfl (fun ls hl => ?_)
    refine lv_iload hx hb dL_law_60 (lv_at hl 0 rfl) ?_
    refine z_ifge (a := ((T2 : Nat) : Int)) (tgt := 67) hx hb dL_law_62 (by decide) (by omega) (fun c_62 => ?_) (fun c_62 => ?_)
    · refine z_ic hx hb dL_law_67 ?_
      refine lv_istore (lv' := [(8, .int (iI ((0 : Nat) : Int))), (7, .int (iI ((T2 : Nat) : Int))), (0, .ref (b)), (1, .ref (a 0)), (2, .ref (ou)), (3, .ref (okk)), (4, .ref (ob)), (5, .ref (ol)), (6, .int (iI ((Ln L : Nat) : Int)))]) hx hb dL_law_68 hl (by decide) rfl (fun ls hl => ?_)
      have loop70 : ∀ (n70 : Nat) (q : Nat) (tm3 : Nat → Int) (tk3 : Nat → Nat → Int) (H : Heap) (locs : List Loc) (ls : Array Slot), 6 - q < n70 → (q ≤ 6) → (∃ tn, JP L T2 tm3 tk3 tn) → va_P D vwCl ([(ol, .inl (g 0, 40, .inl (aI (nZ lf)))), (ob, .inl (g 0, 6, .inl (aI (nZ (Lby L))))), (okk, .inl (g 0, 6, .inl (aI (nZ (Lkd L))))), (ou, .inl (g 0, 3, .inl (aI (nZ uf))))] ++ (wX a g L att2 T2 hs2 tm3 tk3 lt)) H → va_D (fun q : Nat => s.heap.size ≤ q) ([(ol, .inl (g 0, 40, .inl (aI (nZ lf)))), (ob, .inl (g 0, 6, .inl (aI (nZ (Lby L))))), (okk, .inl (g 0, 6, .inl (aI (nZ (Lkd L))))), (ou, .inl (g 0, 3, .inl (aI (nZ uf))))] ++ (wX a g L att2 T2 hs2 tm3 tk3 lt)) → va_S (fun q : Nat => s.heap.size ≤ q) s.heap H locs → lv_has ls 16 [(0, .ref (b)), (1, .ref (a 0)), (2, .ref (ou)), (3, .ref (okk)), (4, .ref (ob)), (5, .ref (ol)), (6, .int (iI ((Ln L : Nat) : Int))), (7, .int (iI ((T2 : Nat) : Int))), (8, .int (iI ((q : Nat) : Int)))] → W p l e room_1 s m #[Value.ref b] below meth c H locs (101 + 5 * q) (1306 + 30 * q) (lw_Z below #[Value.ref b] s) (F0 m 70 ls []) := by
        intro n70
        induction n70 with
        | zero => exact fun _ _ _ H locs ls hn => absurd hn (Nat.not_lt_zero _)
        | succ n70 ih70 =>
          intro q tm3 tk3 H locs ls hn70 hq hJ3 hP hD hS hl
          obtain ⟨tn3, hJ4⟩ := hJ3
          have hok := JP_ok hJ4
          refine lv_iload hx hb dL_law_70 (lv_at hl 8 rfl) ?_
          refine z_bip hx hb dL_law_72 (by decide) ?_
          refine z_icge (a := ((q : Nat) : Int)) (b := 6) (tgt := 151) hx hb dL_law_74 (by decide) (by omega) (fun c_74 => ?_) (fun c_74 => ?_)
          · refine W.widen (k := 140) (n := 1600) (by omega) (by omega) ?_
            exact law_151 hC h6 hJ4 huf hlf hP hD hS (lv_sub hl [0, 1, 2, 3, 4, 5, 6, 7] rfl)
          · refine lv_aload_n hx hb dL_law_77 rfl (lv_at hl 0 rfl) ?_
            refine z_bip hx hb dL_law_78 (by decide) ?_
            refine lv_iload hx hb dL_law_80 (lv_at hl 8 rfl) ?_
            refine z_add (a := 17) (b := ((q : Nat) : Int)) hx hb dL_law_82 ?_
            refine z_eqI (y := iI ((17 + q : Nat) : Int)) (congrArg iI (by omega)) ?_
            refine j_call0 (vx_runS (As := [.ref (b), .int (iI ((17 + q : Nat) : Int))]) (rest := []) ⟨hx, hb, hml, hown, hts⟩ (c_L_cell l D g b Lx xs hLx (17 + q) (by omega) _) (va_cwS 2 hts gL_law_L_cell rfl rfl rfl (by decide +kernel) ⟨Nat.le_of_ble_eq_true rfl, Nat.le_of_ble_eq_true rfl⟩) (b_preS hK b_nilP b_nil hS hA hE hV hX hbl hbA) rfl rfl hl.1 rfl (lv_room (Nat.le_of_ble_eq_true rfl)) dL_law_83 ⟨show 101 + 5 * q + 0 ≤ 600104 from by omega, show 1306 + 30 * q + 6 * 0 ≤ 7301314 from by omega⟩) hS hP hD hA (fun _ _ h => h.2) (fun r_83 H locs hw1 hP hD hS => ?_)
            have q_83 := hw1.1
            refine lv_iload hx hb dL_law_86 (lv_at hl 6 rfl) ?_
            refine z_calli (va_runS (As := [.int (r_83), .int (iI ((Ln L : Nat) : Int))]) (rest := []) ⟨hx, hb, hml, hown, hts⟩ (c_L_below l D g ([(ol, .inl (g 0, 40, .inl (aI (nZ lf)))), (ob, .inl (g 0, 6, .inl (aI (nZ (Lby L))))), (okk, .inl (g 0, 6, .inl (aI (nZ (Lkd L))))), (ou, .inl (g 0, 3, .inl (aI (nZ uf))))] ++ (wX a g L att2 T2 hs2 tm3 tk3 lt)) r_83 (Ln L) (by omega) _) (va_cwS 2 hts gL_law_L_below rfl rfl rfl (by decide +kernel) ⟨Nat.le_of_ble_eq_true rfl, Nat.le_of_ble_eq_true rfl⟩) (z_preS hK hP hD) rfl rfl hl.1 rfl (lv_room (Nat.le_of_ble_eq_true rfl)) dL_law_88 ⟨show 101 + 5 * q + 0 ≤ 600104 from by omega, show 1306 + 30 * q + 0 ≤ 7301314 from by omega⟩) hS hD hA (fun r w1 H locs hw1 hP hD hS => ?_)
            obtain ⟨rfl, rfl⟩ := hw1
            obtain ⟨d_88, e_88⟩ : ∃ d : Nat, d = bel r_83 (Ln L) := ⟨_, rfl⟩
            have b_88 : d_88 < (Ln L) := by rw [e_88]; exact bel_lt _ (by omega)
            refine z_eqI (y := iI ((d_88 : Nat) : Int)) (by rw [e_88]) ?_
            refine lv_istore (lv' := [(9, .int (iI ((d_88 : Nat) : Int))), (0, .ref (b)), (1, .ref (a 0)), (2, .ref (ou)), (3, .ref (okk)), (4, .ref (ob)), (5, .ref (ol)), (6, .int (iI ((Ln L : Nat) : Int))), (7, .int (iI ((T2 : Nat) : Int))), (8, .int (iI ((q : Nat) : Int)))]) hx hb dL_law_91 hl (by decide) rfl (fun ls hl => ?_)
            refine lv_aload_n hx hb dL_law_93 rfl (lv_at hl 2 rfl) ?_
            refine lv_iload hx hb dL_law_94 (lv_at hl 0 rfl) ?_
            refine lv_aload_n hx hb dL_law_96 rfl (lv_at hl 1 rfl) ?_
            refine z_bip hx hb dL_law_97 (by decide) ?_
            refine lv_iload hx hb dL_law_99 (lv_at hl 9 rfl) ?_
            refine z_add (a := 17) (b := ((q : Nat) : Int)) hx hb dL_law_101 ?_
            refine z_eqI (y := iI ((17 + q : Nat) : Int)) (congrArg iI (by omega)) ?_
            refine j_call0 (vx_runS (As := [.ref (b), .int (iI ((17 + q : Nat) : Int))]) (rest := [.int (iI ((d_88 : Nat) : Int)), .ref (a 0)]) ⟨hx, hb, hml, hown, hts⟩ (c_L_cell l D g b Lx xs hLx (17 + q) (by omega) _) (va_cwS 2 hts gL_law_L_cell rfl rfl rfl (by decide +kernel) ⟨Nat.le_of_ble_eq_true rfl, Nat.le_of_ble_eq_true rfl⟩) (b_preS hK b_nilP b_nil hS hA hE hV hX hbl hbA) rfl rfl hl.1 rfl (lv_room (Nat.le_of_ble_eq_true rfl)) dL_law_102 ⟨show 101 + 5 * q + 0 ≤ 600104 from by omega, show 1306 + 30 * q + 6 * 0 ≤ 7301314 from by omega⟩) hS hP hD hA (fun _ _ h => h.2) (fun r_102 H locs hw1 hP hD hS => ?_)
            have q_102 := hw1.1
            refine z_ic hx hb dL_law_105 ?_
            refine lv_ishr hx hb dL_law_106 ?_
            refine lv_topi (fun y_106 hy_106 => ?_)
            refine z_bip hx hb dL_law_107 (by decide) ?_
            refine z_calli (va_runS (As := [.int (y_106), .int (iI ((60 : Nat) : Int))]) (rest := [.int (iI ((d_88 : Nat) : Int)), .ref (a 0)]) ⟨hx, hb, hml, hown, hts⟩ (c_L_below l D g ([(ol, .inl (g 0, 40, .inl (aI (nZ lf)))), (ob, .inl (g 0, 6, .inl (aI (nZ (Lby L))))), (okk, .inl (g 0, 6, .inl (aI (nZ (Lkd L))))), (ou, .inl (g 0, 3, .inl (aI (nZ uf))))] ++ (wX a g L att2 T2 hs2 tm3 tk3 lt)) y_106 60 (by omega) _) (va_cwS 2 hts gL_law_L_below rfl rfl rfl (by decide +kernel) ⟨Nat.le_of_ble_eq_true rfl, Nat.le_of_ble_eq_true rfl⟩) (z_preS hK hP hD) rfl rfl hl.1 rfl (lv_room (Nat.le_of_ble_eq_true rfl)) dL_law_109 ⟨show 101 + 5 * q + 0 ≤ 600104 from by omega, show 1306 + 30 * q + 0 ≤ 7301314 from by omega⟩) hS hD hA (fun r w1 H locs hw1 hP hD hS => ?_)
            obtain ⟨rfl, rfl⟩ := hw1
            obtain ⟨d_109, e_109⟩ : ∃ d : Nat, d = bel y_106 60 := ⟨_, rfl⟩
            have b_109 : d_109 < 60 := by rw [e_109]; exact bel_lt _ (by omega)
            refine z_eqI (y := iI ((d_109 : Nat) : Int)) (by rw [e_109]) ?_
            refine j_callQ (u := [(ol, .inl (g 0, 40, .inl (aI (nZ lf)))), (ob, .inl (g 0, 6, .inl (aI (nZ (Lby L))))), (okk, .inl (g 0, 6, .inl (aI (nZ (Lkd L))))), (ou, .inl (g 0, 3, .inl (aI (nZ uf))))]) (v := (wX a g L att2 T2 hs2 tm3 tk3 lt)) (k := 3) (fun E u9 h9 => by rcases h9.2 with h | h | h <;> omega) (vx_runV (As := [.int (iI ((d_88 : Nat) : Int)), .int (iI ((d_109 : Nat) : Int))]) (rest := []) ⟨hx, hb, hml, hown, hts⟩ (c_X2_move l hl0 D g a L att2 T2 hs2 tm3 tk3 lt ((d_88 : Nat) : Int) ((d_109 : Nat) : Int) hw hok (by omega) (by omega) _) (cwV 2 hts gL_law_X2_move rfl rfl rfl (by decide +kernel) ⟨Nat.le_of_ble_eq_true rfl, Nat.le_of_ble_eq_true rfl⟩) (x_preV 0 hK (wj_r hP) (wj_dr hD) hS hA hE hV rfl rfl) rfl rfl hl.1 rfl (lv_room (Nat.le_of_ble_eq_true rfl)) dL_law_112 ⟨show 101 + 5 * q + 3 ≤ 600104 from by omega, show 1306 + 30 * q + 6 * 3 ≤ 7301314 from by omega⟩) hS hP hD hA (fun r w1 H locs hw1 hP hD hS => ?_)
            obtain ⟨_, rfl, rfl⟩ := hw1
            have hP : va_P D vwCl ([(ol, .inl (g 0, 40, .inl (aI (nZ lf)))), (ob, .inl (g 0, 6, .inl (aI (nZ (Lby L))))), (okk, .inl (g 0, 6, .inl (aI (nZ (Lkd L))))), (ou, .inl (g 0, 3, .inl (aI (nZ uf))))] ++ (wX a g L att2 T2 hs2 (upZ (lTm tm3 d_88) d_88 ((rT L T2 tm3 tk3 d_88 d_109 (tm3 d_88).toNat : Nat) : Int)) (pTk L T2 (lTk L T2 tk3 d_88 (tm3 d_88).toNat) d_88 (rT L T2 tm3 tk3 d_88 d_109 (tm3 d_88).toNat)) lt)) H := hP
            have hD : va_D (fun q : Nat => s.heap.size ≤ q) ([(ol, .inl (g 0, 40, .inl (aI (nZ lf)))), (ob, .inl (g 0, 6, .inl (aI (nZ (Lby L))))), (okk, .inl (g 0, 6, .inl (aI (nZ (Lkd L))))), (ou, .inl (g 0, 3, .inl (aI (nZ uf))))] ++ (wX a g L att2 T2 hs2 (upZ (lTm tm3 d_88) d_88 ((rT L T2 tm3 tk3 d_88 d_109 (tm3 d_88).toNat : Nat) : Int)) (pTk L T2 (lTk L T2 tk3 d_88 (tm3 d_88).toNat) d_88 (rT L T2 tm3 tk3 d_88 d_109 (tm3 d_88).toNat)) lt)) := hD
            obtain ⟨hmv, hJ5⟩ := JP_mv h6 hJ4 (i := d_88) (u := d_109) b_88 b_109
            refine z_ifeq (a := (bI (vR L T2 (lTm tm3 d_88) (lTk L T2 tk3 d_88 (tm3 d_88).toNat) d_88 d_109))) (tgt := 145) hx hb dL_law_115 (by decide) (bI_r _) (fun c_115 => ?_) (fun c_115 => ?_)
            · have b_115 := bI_f c_115
              refine z_iinc (a := ((q : Nat) : Int)) (b := ((q + 1 : Nat) : Int)) (lv' := [(8, .int (iI ((q + 1 : Nat) : Int))), (9, .int (iI ((d_88 : Nat) : Int))), (0, .ref (b)), (1, .ref (a 0)), (2, .ref (ou)), (3, .ref (okk)), (4, .ref (ob)), (5, .ref (ol)), (6, .int (iI ((Ln L : Nat) : Int))), (7, .int (iI ((T2 : Nat) : Int)))]) hx hb 9 dL_law_145 hl rfl rfl (by decide) rfl (fun ls hl => ?_)
              refine lv_goto (tgt := 70) hx hb dL_law_148 (by decide) ?_
              refine W.widen (k := 101 + 5 * (q + 1)) (n := 1306 + 30 * (q + 1)) (by omega) (by omega) ?_
              exact ih70 (q + 1) (upZ (lTm tm3 d_88) d_88 ((rT L T2 tm3 tk3 d_88 d_109 (tm3 d_88).toNat : Nat) : Int)) (pTk L T2 (lTk L T2 tk3 d_88 (tm3 d_88).toNat) d_88 (rT L T2 tm3 tk3 d_88 d_109 (tm3 d_88).toNat)) _ _ _ (by omega) (by omega) hJ5 hP hD hS (lv_sub hl [2, 3, 4, 5, 6, 7, 8, 9, 0] rfl)
            · have b_115 := bI_t c_115
              refine lv_aload_n hx hb dL_law_118 rfl (lv_at hl 2 rfl) ?_
              refine lv_iload hx hb dL_law_119 (lv_at hl 0 rfl) ?_
              refine j_callQ (u := [(ol, .inl (g 0, 40, .inl (aI (nZ lf)))), (ob, .inl (g 0, 6, .inl (aI (nZ (Lby L))))), (okk, .inl (g 0, 6, .inl (aI (nZ (Lkd L))))), (ou, .inl (g 0, 3, .inl (aI (nZ uf))))]) (v := (wX a g L att2 T2 hs2 (upZ (lTm tm3 d_88) d_88 ((rT L T2 tm3 tk3 d_88 d_109 (tm3 d_88).toNat : Nat) : Int)) (pTk L T2 (lTk L T2 tk3 d_88 (tm3 d_88).toNat) d_88 (rT L T2 tm3 tk3 d_88 d_109 (tm3 d_88).toNat)) lt)) (k := 2) (fun E u9 h9 => by rcases h9.2 with h | h <;> omega) (vx_runV (As := [.int (iI ((d_88 : Nat) : Int))]) (rest := []) ⟨hx, hb, hml, hown, hts⟩ (c_X2_time l hl0 D g a L att2 T2 hs2 (upZ (lTm tm3 d_88) d_88 ((rT L T2 tm3 tk3 d_88 d_109 (tm3 d_88).toNat : Nat) : Int)) (pTk L T2 (lTk L T2 tk3 d_88 (tm3 d_88).toNat) d_88 (rT L T2 tm3 tk3 d_88 d_109 (tm3 d_88).toNat)) lt ((d_88 : Nat) : Int) hw (JP_ok hJ5.choose_spec) (by omega) _) (cwV 1 hts gL_law_X2_time rfl rfl rfl (by decide +kernel) ⟨Nat.le_of_ble_eq_true rfl, Nat.le_of_ble_eq_true rfl⟩) (x_preV 0 hK (wj_r hP) (wj_dr hD) hS hA hE hV rfl rfl) rfl rfl hl.1 rfl (lv_room (Nat.le_of_ble_eq_true rfl)) dL_law_121 ⟨show 101 + 5 * q + 3 + 2 ≤ 600104 from by omega, show 1306 + 30 * q + 6 * 3 + 6 * 2 ≤ 7301314 from by omega⟩) hS hP hD hA (fun r w1 H locs hw1 hP hD hS => ?_)
              obtain ⟨_, rfl, rfl⟩ := hw1
              have hP : va_P D vwCl ([(ol, .inl (g 0, 40, .inl (aI (nZ lf)))), (ob, .inl (g 0, 6, .inl (aI (nZ (Lby L))))), (okk, .inl (g 0, 6, .inl (aI (nZ (Lkd L))))), (ou, .inl (g 0, 3, .inl (aI (nZ uf))))] ++ (wX a g L att2 T2 hs2 (upZ (lTm tm3 d_88) d_88 ((rT L T2 tm3 tk3 d_88 d_109 (tm3 d_88).toNat : Nat) : Int)) (pTk L T2 (lTk L T2 tk3 d_88 (tm3 d_88).toNat) d_88 (rT L T2 tm3 tk3 d_88 d_109 (tm3 d_88).toNat)) lt)) H := hP
              have hD : va_D (fun q : Nat => s.heap.size ≤ q) ([(ol, .inl (g 0, 40, .inl (aI (nZ lf)))), (ob, .inl (g 0, 6, .inl (aI (nZ (Lby L))))), (okk, .inl (g 0, 6, .inl (aI (nZ (Lkd L))))), (ou, .inl (g 0, 3, .inl (aI (nZ uf))))] ++ (wX a g L att2 T2 hs2 (upZ (lTm tm3 d_88) d_88 ((rT L T2 tm3 tk3 d_88 d_109 (tm3 d_88).toNat : Nat) : Int)) (pTk L T2 (lTk L T2 tk3 d_88 (tm3 d_88).toNat) d_88 (rT L T2 tm3 tk3 d_88 d_109 (tm3 d_88).toNat)) lt)) := hD
              refine z_eqI (y := (iI ((d_109 : Nat) : Int))) (congrArg iI (hmv b_115)) ?_
              refine lv_aload_n hx hb dL_law_124 rfl (lv_at hl 1 rfl) ?_
              refine z_bip hx hb dL_law_125 (by decide) ?_
              refine lv_iload hx hb dL_law_127 (lv_at hl 9 rfl) ?_
              refine z_add (a := 17) (b := ((q : Nat) : Int)) hx hb dL_law_129 ?_
              refine z_eqI (y := iI ((17 + q : Nat) : Int)) (congrArg iI (by omega)) ?_
              refine j_call0 (vx_runS (As := [.ref (b), .int (iI ((17 + q : Nat) : Int))]) (rest := [.int (iI ((d_109 : Nat) : Int))]) ⟨hx, hb, hml, hown, hts⟩ (c_L_cell l D g b Lx xs hLx (17 + q) (by omega) _) (va_cwS 2 hts gL_law_L_cell rfl rfl rfl (by decide +kernel) ⟨Nat.le_of_ble_eq_true rfl, Nat.le_of_ble_eq_true rfl⟩) (b_preS hK b_nilP b_nil hS hA hE hV hX hbl hbA) rfl rfl hl.1 rfl (lv_room (Nat.le_of_ble_eq_true rfl)) dL_law_130 ⟨show 101 + 5 * q + 3 + 2 + 0 ≤ 600104 from by omega, show 1306 + 30 * q + 6 * 3 + 6 * 2 + 6 * 0 ≤ 7301314 from by omega⟩) hS hP hD hA (fun _ _ h => h.2) (fun r_130 H locs hw1 hP hD hS => ?_)
              have q_130 := hw1.1
              refine z_ic hx hb dL_law_133 ?_
              refine lv_ishr hx hb dL_law_134 ?_
              refine lv_topi (fun y_134 hy_134 => ?_)
              refine z_bip hx hb dL_law_135 (by decide) ?_
              refine z_calli (va_runS (As := [.int (y_134), .int (iI ((60 : Nat) : Int))]) (rest := [.int (iI ((d_109 : Nat) : Int))]) ⟨hx, hb, hml, hown, hts⟩ (c_L_below l D g ([(ol, .inl (g 0, 40, .inl (aI (nZ lf)))), (ob, .inl (g 0, 6, .inl (aI (nZ (Lby L))))), (okk, .inl (g 0, 6, .inl (aI (nZ (Lkd L))))), (ou, .inl (g 0, 3, .inl (aI (nZ uf))))] ++ (wX a g L att2 T2 hs2 (upZ (lTm tm3 d_88) d_88 ((rT L T2 tm3 tk3 d_88 d_109 (tm3 d_88).toNat : Nat) : Int)) (pTk L T2 (lTk L T2 tk3 d_88 (tm3 d_88).toNat) d_88 (rT L T2 tm3 tk3 d_88 d_109 (tm3 d_88).toNat)) lt)) y_134 60 (by omega) _) (va_cwS 2 hts gL_law_L_below rfl rfl rfl (by decide +kernel) ⟨Nat.le_of_ble_eq_true rfl, Nat.le_of_ble_eq_true rfl⟩) (z_preS hK hP hD) rfl rfl hl.1 rfl (lv_room (Nat.le_of_ble_eq_true rfl)) dL_law_137 ⟨show 101 + 5 * q + 3 + 2 + 0 ≤ 600104 from by omega, show 1306 + 30 * q + 6 * 3 + 6 * 2 + 0 ≤ 7301314 from by omega⟩) hS hD hA (fun r w1 H locs hw1 hP hD hS => ?_)
              obtain ⟨rfl, rfl⟩ := hw1
              obtain ⟨d_137, e_137⟩ : ∃ d : Nat, d = bel y_134 60 := ⟨_, rfl⟩
              have b_137 : d_137 < 60 := by rw [e_137]; exact bel_lt _ (by omega)
              refine z_eqI (y := iI ((d_137 : Nat) : Int)) (by rw [e_137]) ?_
              refine z_iceq (a := ((d_109 : Nat) : Int)) (b := ((d_137 : Nat) : Int)) (tgt := 145) hx hb dL_law_140 (by decide) (by omega) (fun c_140 => ?_) (fun c_140 => ?_)
              · refine z_iinc (a := ((q : Nat) : Int)) (b := ((q + 1 : Nat) : Int)) (lv' := [(8, .int (iI ((q + 1 : Nat) : Int))), (9, .int (iI ((d_88 : Nat) : Int))), (0, .ref (b)), (1, .ref (a 0)), (2, .ref (ou)), (3, .ref (okk)), (4, .ref (ob)), (5, .ref (ol)), (6, .int (iI ((Ln L : Nat) : Int))), (7, .int (iI ((T2 : Nat) : Int)))]) hx hb 9 dL_law_145 hl rfl rfl (by decide) rfl (fun ls hl => ?_)
                refine lv_goto (tgt := 70) hx hb dL_law_148 (by decide) ?_
                refine W.widen (k := 101 + 5 * (q + 1)) (n := 1306 + 30 * (q + 1)) (by omega) (by omega) ?_
                exact ih70 (q + 1) (upZ (lTm tm3 d_88) d_88 ((rT L T2 tm3 tk3 d_88 d_109 (tm3 d_88).toNat : Nat) : Int)) (pTk L T2 (lTk L T2 tk3 d_88 (tm3 d_88).toNat) d_88 (rT L T2 tm3 tk3 d_88 d_109 (tm3 d_88).toNat)) _ _ _ (by omega) (by omega) hJ5 hP hD hS (lv_sub hl [2, 3, 4, 5, 6, 7, 8, 9, 0] rfl)
              · exact absurd (by rw [e_109, e_137, hy_106, hy_134, q_102, q_130]) c_140
      refine W.widen (k := 101 + 5 * 0) (n := 1306 + 30 * 0) (by omega) (by omega) ?_
      exact loop70 ((6 - 0) + 1) 0 tm2 tk2 _ _ _ (Nat.lt_succ_self _) (by omega) ⟨tn, hJ⟩ hP hD hS (lv_sub hl [2, 3, 4, 5, 6, 7, 8, 1, 0] rfl)
    · exact absurd (by omega) c_62
  · exact absurd (by omega) c_46
set_option maxHeartbeats 16000000 in
set_option maxRecDepth 100000 in
theorem law_8 {p : Program} {l : Launch} {e : Env} {s : State} {m : MethodId} {below : List Frame} {meth : Method} {c : Code} {b Lx : Nat} {xs : Nat → Int32} {D : va_G} {g : Nat → ClassId} (hC : LC p l s m meth c b Lx xs D g) {a : Nat → Nat} {hs tm : Nat → Int} {tk : Nat → Nat → Int} {lt : Nat → Int} {H : Heap} {locs : List Loc} {ls : Array Slot} (hP : va_P D vwCl ([] ++ (wX a g L00 0 0 hs tm tk lt)) H) (hD : va_D (fun q : Nat => s.heap.size ≤ q) ([] ++ (wX a g L00 0 0 hs tm tk lt))) (hS : va_S (fun q : Nat => s.heap.size ≤ q) s.heap H locs) (hl : lv_has ls 16 [(0, .ref (b)), (1, .ref (a 0))]) : W p l e room_1 s m #[Value.ref b] below meth c H locs 17 854 (lw_Z below #[Value.ref b] s) (F0 m 8 ls []) := by
  obtain ⟨⟨hx, hb, hr, hml, hown, hts0, hX, hbl, hlocks, hgv⟩, hLx, hl0, hK, hE, hV⟩ := id hC
  have hown : s.vm.findClass RL = some m.cls := hown
  have hts : ∀ w ∈ wsL_law, w.before #[Value.ref b] s = true := fun w h => hts0 w (wsL_law_in w h)
  have hA : ∀ q : Nat, s.heap.size ≤ q → (fun q : Nat => s.heap.size ≤ q) q := fun _ h => h
  have hbA : ¬ (fun q : Nat => s.heap.size ≤ q) b := Nat.not_le.mpr hbl
  refine z_ic hx hb dL_law_8 ?_
  refine z_newa2 (n := iI ((3 : Nat) : Int)) (N' := 3) (a0 := (3, .inl (aI (nZ (fun _ => 0))))) hx hb (hts (.arrayClass .int) (List.mem_of_getElem? (i := 3) rfl)) hK hP hD hS hA 0 rfl (aI0 3) (by decide) (by decide) (by decide) (show 17 + 1 ≤ 600104 from by omega) (show 854 + 3 ≤ 7301314 from by omega) dL_law_9 (fun ou H hP hD hS => ?_)
  have hP : va_P D vwCl ([(ou, .inl (g 0, 3, .inl (aI (nZ (fun _ => 0)))))] ++ ([] ++ (wX a g L00 0 0 hs tm tk lt))) H := wj_sp hP
  have hD : va_D (fun q : Nat => s.heap.size ≤ q) ([(ou, .inl (g 0, 3, .inl (aI (nZ (fun _ => 0)))))] ++ ([] ++ (wX a g L00 0 0 hs tm tk lt))) := wj_sd hD
  have hP : va_P D vwCl ([(ou, .inl (g 0, 3, .inl (aI (nZ (fun _ => 0)))))] ++ (wX a g L00 0 0 hs tm tk lt)) H := hP
  have hD : va_D (fun q : Nat => s.heap.size ≤ q) ([(ou, .inl (g 0, 3, .inl (aI (nZ (fun _ => 0)))))] ++ (wX a g L00 0 0 hs tm tk lt)) := hD
  refine lv_astore_n (lv' := [(2, .ref (ou)), (0, .ref (b)), (1, .ref (a 0))]) hx hb dL_law_11 rfl hl (by decide) rfl (fun ls hl => ?_)
  refine z_bip hx hb dL_law_12 (by decide) ?_
  refine z_newa2 (n := iI ((6 : Nat) : Int)) (N' := 6) (a0 := (6, .inl (aI (nZ (fun _ => 0))))) hx hb (hts (.arrayClass .int) (List.mem_of_getElem? (i := 3) rfl)) hK hP hD hS hA 0 rfl (aI0 6) (by decide) (by decide) (by decide) (show 17 + 1 + 1 ≤ 600104 from by omega) (show 854 + 3 + 6 ≤ 7301314 from by omega) dL_law_14 (fun okk H hP hD hS => ?_)
  have hP : va_P D vwCl ([(okk, .inl (g 0, 6, .inl (aI (nZ (fun _ => 0)))))] ++ ([(ou, .inl (g 0, 3, .inl (aI (nZ (fun _ => 0)))))] ++ (wX a g L00 0 0 hs tm tk lt))) H := wj_sp hP
  have hD : va_D (fun q : Nat => s.heap.size ≤ q) ([(okk, .inl (g 0, 6, .inl (aI (nZ (fun _ => 0)))))] ++ ([(ou, .inl (g 0, 3, .inl (aI (nZ (fun _ => 0)))))] ++ (wX a g L00 0 0 hs tm tk lt))) := wj_sd hD
  have hP : va_P D vwCl ([(okk, .inl (g 0, 6, .inl (aI (nZ (fun _ => 0))))), (ou, .inl (g 0, 3, .inl (aI (nZ (fun _ => 0)))))] ++ (wX a g L00 0 0 hs tm tk lt)) H := hP
  have hD : va_D (fun q : Nat => s.heap.size ≤ q) ([(okk, .inl (g 0, 6, .inl (aI (nZ (fun _ => 0))))), (ou, .inl (g 0, 3, .inl (aI (nZ (fun _ => 0)))))] ++ (wX a g L00 0 0 hs tm tk lt)) := hD
  refine lv_astore_n (lv' := [(3, .ref (okk)), (2, .ref (ou)), (0, .ref (b)), (1, .ref (a 0))]) hx hb dL_law_16 rfl hl (by decide) rfl (fun ls hl => ?_)
  refine z_bip hx hb dL_law_17 (by decide) ?_
  refine z_newa2 (n := iI ((6 : Nat) : Int)) (N' := 6) (a0 := (6, .inl (aI (nZ (fun _ => 0))))) hx hb (hts (.arrayClass .int) (List.mem_of_getElem? (i := 3) rfl)) hK hP hD hS hA 0 rfl (aI0 6) (by decide) (by decide) (by decide) (show 17 + 1 + 1 + 1 ≤ 600104 from by omega) (show 854 + 3 + 6 + 6 ≤ 7301314 from by omega) dL_law_19 (fun ob H hP hD hS => ?_)
  have hP : va_P D vwCl ([(ob, .inl (g 0, 6, .inl (aI (nZ (fun _ => 0)))))] ++ ([(okk, .inl (g 0, 6, .inl (aI (nZ (fun _ => 0))))), (ou, .inl (g 0, 3, .inl (aI (nZ (fun _ => 0)))))] ++ (wX a g L00 0 0 hs tm tk lt))) H := wj_sp hP
  have hD : va_D (fun q : Nat => s.heap.size ≤ q) ([(ob, .inl (g 0, 6, .inl (aI (nZ (fun _ => 0)))))] ++ ([(okk, .inl (g 0, 6, .inl (aI (nZ (fun _ => 0))))), (ou, .inl (g 0, 3, .inl (aI (nZ (fun _ => 0)))))] ++ (wX a g L00 0 0 hs tm tk lt))) := wj_sd hD
  have hP : va_P D vwCl ([(ob, .inl (g 0, 6, .inl (aI (nZ (fun _ => 0))))), (okk, .inl (g 0, 6, .inl (aI (nZ (fun _ => 0))))), (ou, .inl (g 0, 3, .inl (aI (nZ (fun _ => 0)))))] ++ (wX a g L00 0 0 hs tm tk lt)) H := hP
  have hD : va_D (fun q : Nat => s.heap.size ≤ q) ([(ob, .inl (g 0, 6, .inl (aI (nZ (fun _ => 0))))), (okk, .inl (g 0, 6, .inl (aI (nZ (fun _ => 0))))), (ou, .inl (g 0, 3, .inl (aI (nZ (fun _ => 0)))))] ++ (wX a g L00 0 0 hs tm tk lt)) := hD
  refine lv_astore (lv' := [(4, .ref (ob)), (3, .ref (okk)), (2, .ref (ou)), (0, .ref (b)), (1, .ref (a 0))]) hx hb dL_law_21 hl (by decide) rfl (fun ls hl => ?_)
  refine z_bip hx hb dL_law_23 (by decide) ?_
  refine z_newa2 (n := iI ((40 : Nat) : Int)) (N' := 40) (a0 := (40, .inl (aI (nZ (fun _ => 0))))) hx hb (hts (.arrayClass .int) (List.mem_of_getElem? (i := 3) rfl)) hK hP hD hS hA 0 rfl (aI0 40) (by decide) (by decide) (by decide) (show 17 + 1 + 1 + 1 + 1 ≤ 600104 from by omega) (show 854 + 3 + 6 + 6 + 40 ≤ 7301314 from by omega) dL_law_25 (fun ol H hP hD hS => ?_)
  have hP : va_P D vwCl ([(ol, .inl (g 0, 40, .inl (aI (nZ (fun _ => 0)))))] ++ ([(ob, .inl (g 0, 6, .inl (aI (nZ (fun _ => 0))))), (okk, .inl (g 0, 6, .inl (aI (nZ (fun _ => 0))))), (ou, .inl (g 0, 3, .inl (aI (nZ (fun _ => 0)))))] ++ (wX a g L00 0 0 hs tm tk lt))) H := wj_sp hP
  have hD : va_D (fun q : Nat => s.heap.size ≤ q) ([(ol, .inl (g 0, 40, .inl (aI (nZ (fun _ => 0)))))] ++ ([(ob, .inl (g 0, 6, .inl (aI (nZ (fun _ => 0))))), (okk, .inl (g 0, 6, .inl (aI (nZ (fun _ => 0))))), (ou, .inl (g 0, 3, .inl (aI (nZ (fun _ => 0)))))] ++ (wX a g L00 0 0 hs tm tk lt))) := wj_sd hD
  have hP : va_P D vwCl ([(ol, .inl (g 0, 40, .inl (aI (nZ (fun _ => 0))))), (ob, .inl (g 0, 6, .inl (aI (nZ (fun _ => 0))))), (okk, .inl (g 0, 6, .inl (aI (nZ (fun _ => 0))))), (ou, .inl (g 0, 3, .inl (aI (nZ (fun _ => 0)))))] ++ (wX a g L00 0 0 hs tm tk lt)) H := hP
  have hD : va_D (fun q : Nat => s.heap.size ≤ q) ([(ol, .inl (g 0, 40, .inl (aI (nZ (fun _ => 0))))), (ob, .inl (g 0, 6, .inl (aI (nZ (fun _ => 0))))), (okk, .inl (g 0, 6, .inl (aI (nZ (fun _ => 0))))), (ou, .inl (g 0, 3, .inl (aI (nZ (fun _ => 0)))))] ++ (wX a g L00 0 0 hs tm tk lt)) := hD
  refine lv_astore (lv' := [(5, .ref (ol)), (4, .ref (ob)), (3, .ref (okk)), (2, .ref (ou)), (0, .ref (b)), (1, .ref (a 0))]) hx hb dL_law_27 hl (by decide) rfl (fun ls hl => ?_)
  refine lv_aload_n hx hb dL_law_29 rfl (lv_at hl 5 rfl) ?_
  refine lv_aload_n hx hb dL_law_30 rfl (lv_at hl 4 rfl) ?_
  refine z_ic hx hb dL_law_31 ?_
  refine lv_aload_n hx hb dL_law_32 rfl (lv_at hl 3 rfl) ?_
  refine lv_aload_n hx hb dL_law_33 rfl (lv_at hl 2 rfl) ?_
  refine lv_aload hx hb dL_law_34 (lv_at hl 1 rfl) ?_
  refine lv_aload hx hb dL_law_36 (lv_at hl 0 rfl) ?_
  refine j_callA (k := 60) (vx_runS (As := [.ref (a 0), .ref (b), .int (iI ((0 : Nat) : Int)), .ref (ou), .ref (okk), .ref (ob), .ref (ol)]) (rest := []) ⟨hx, hb, hml, hown, hts⟩ (c_L_build l hl0 D g a hs tm tk lt ou okk ob ol b Lx xs hLx _) (va_cwS 7 hts gL_law_L_build rfl rfl rfl (by decide +kernel) ⟨Nat.le_of_ble_eq_true rfl, Nat.le_of_ble_eq_true rfl⟩) (b_preS hK hP hD hS hA hE hV hX hbl hbA) rfl rfl hl.1 rfl (lv_room (Nat.le_of_ble_eq_true rfl)) dL_law_38 ⟨show 17 + 1 + 1 + 1 + 1 + 60 ≤ 600104 from by omega, show 854 + 3 + 6 + 6 + 40 + 6 * 60 ≤ 7301314 from by omega⟩) hS hD hA (fun r w1 H locs hw1 hP hD hS => ?_)
  obtain ⟨L, uf, lf, h6, rfl, huf, hlf0, hLK, rfl⟩ := hw1
  have hP : va_P D vwCl ([(ol, .inl (g 0, 40, .inl (aI (nZ lf)))), (ob, .inl (g 0, 6, .inl (aI (nZ (Lby L))))), (okk, .inl (g 0, 6, .inl (aI (nZ (Lkd L))))), (ou, .inl (g 0, 3, .inl (aI (nZ uf))))] ++ (wX a g L 0 0 hs tm tk lt)) H := hP
  have hD : va_D (fun q : Nat => s.heap.size ≤ q) ([(ol, .inl (g 0, 40, .inl (aI (nZ lf)))), (ob, .inl (g 0, 6, .inl (aI (nZ (Lby L))))), (okk, .inl (g 0, 6, .inl (aI (nZ (Lkd L))))), (ou, .inl (g 0, 3, .inl (aI (nZ uf))))] ++ (wX a g L 0 0 hs tm tk lt)) := hD
  refine lv_istore (lv' := [(6, .int (iI ((Ln L : Nat) : Int))), (5, .ref (ol)), (4, .ref (ob)), (3, .ref (okk)), (2, .ref (ou)), (0, .ref (b)), (1, .ref (a 0))]) hx hb dL_law_41 hl (by decide) rfl (fun ls hl => ?_)
  refine W.widen (k := 100) (n := 1300) (by omega) (by omega) ?_
  exact law_43 hC h6 huf ⟨hlf0, hLK⟩ hP hD hS (lv_sub hl [5, 6, 4, 3, 2, 1, 0] rfl)

theorem rBz_bd (L : LD) : -1 ≤ rBz L ∧ rBz L ≤ 200 ∧ rBz L ≠ 0 := by
  unfold rBz
  by_cases h : hv L 8 < 200
  · rw [if_pos h]; omega
  · rw [if_neg h]; omega
set_option maxHeartbeats 4000000 in
set_option maxRecDepth 100000 in
theorem c_X2_isKind (l : Launch) (D : va_G) (g : Nat → ClassId) (a : Nat → Nat) (L : LD) (att T : Nat) (hs tm : Nat → Int) (tk : Nat → Nat → Int) (lt : Nat → Int) (i : Int) (hri : -2147483648 ≤ i ∧ i < 2147483648) : zMi l D (zT g) yX2_isKind wsX2_isKind 1 12 (wX a g L att T hs tm tk lt) [.int (iI (i))] (fun r w1 => r = iI (bI (decide (0 ≤ i ∧ i ≤ 2))) ∧ w1 = wX a g L att T hs tm tk lt) := by
  refine z_ofI (cc := cX2_isKind) (maxL := 1) (ret := (some .boolean)) (by decide) rfl (Nat.le_of_ble_eq_true rfl) ?_
  intro p e s m args below meth c A ls hx hb hr hts hown hlocks hml hP hK hD hS hA hl Q hQ
  have hown : s.vm.findClass RX2 = some m.cls := hown
  have hl : lv_has ls 1 [(0, .int (iI (i)))] := hl
  refine lv_iload_n hx hb dX2_isKind_0 rfl (lv_at hl 0 rfl) ?_
  refine z_iflt (a := i) (tgt := 13) hx hb dX2_isKind_1 (by decide) (by omega) (fun c_1 => ?_) (fun c_1 => ?_)
  · refine z_ic hx hb dX2_isKind_13 ?_
    exact z_zret (w := (wX a g L att T hs tm tk lt)) (v := (iI ((0 : Nat) : Int))) z_nb0 hQ hx hb hr hlocks ⟨by rw [decide_eq_false (show ¬ (0 ≤ i ∧ i ≤ 2) by omega)]; rfl, rfl⟩ hK hP hD hS dX2_isKind_14
  · refine lv_iload_n hx hb dX2_isKind_4 rfl (lv_at hl 0 rfl) ?_
    refine z_ic hx hb dX2_isKind_5 ?_
    refine z_icge (a := i) (b := 3) (tgt := 13) hx hb dX2_isKind_6 (by decide) (by omega) (fun c_6 => ?_) (fun c_6 => ?_)
    · refine z_ic hx hb dX2_isKind_13 ?_
      exact z_zret (w := (wX a g L att T hs tm tk lt)) (v := (iI ((0 : Nat) : Int))) z_nb0 hQ hx hb hr hlocks ⟨by rw [decide_eq_false (show ¬ (0 ≤ i ∧ i ≤ 2) by omega)]; rfl, rfl⟩ hK hP hD hS dX2_isKind_14
    · refine z_ic hx hb dX2_isKind_9 ?_
      refine lv_goto (tgt := 14) hx hb dX2_isKind_10 (by decide) ?_
      exact z_zret (w := (wX a g L att T hs tm tk lt)) (v := (iI ((1 : Nat) : Int))) z_nb1 hQ hx hb hr hlocks ⟨by rw [decide_eq_true (show 0 ≤ i ∧ i ≤ 2 by omega)]; rfl, rfl⟩ hK hP hD hS dX2_isKind_14
set_option maxHeartbeats 4000000 in
set_option maxRecDepth 100000 in
theorem c_X2_requireKind (l : Launch) (hl0 : l.stackTraces = false) (D : va_G) (g : Nat → ClassId) (a : Nat → Nat) (L : LD) (att T : Nat) (hs tm : Nat → Int) (tk : Nat → Nat → Int) (lt : Nat → Int) (i : Int) (hri : -2147483648 ≤ i ∧ i < 2147483648) : xMv l D (zT g) yX2_requireKind wsX2_requireKind 6 82 1 (wX a g L att T hs tm tk lt) [.int (iI (i))] (fun w1 => (0 ≤ i ∧ i ≤ 2) ∧ w1 = wX a g L att T hs tm tk lt) (fun E w9 => w9 = wX a g L att T hs tm tk lt ∧ E = nIX ∧ ¬ (0 ≤ i ∧ i ≤ 2)) := by
  refine x_ofV (cc := cX2_requireKind) (maxL := 1) (ret := none) (by decide) rfl (Nat.le_of_ble_eq_true rfl) ?_
  intro p e s m args below meth c A ls hx hb hr hts hown hlocks hml hP hK hD hS hA hl hE hV htb Q hQ
  have hown : s.vm.findClass RX2 = some m.cls := hown
  have hatIX : ∀ w ∈ (vx_atS RX2 85 nIX nms).filter goodWord, w.before args s = true := fun w h => hts w (List.mem_cons_of_mem _ (List.mem_append_right _ h))
  have hl : lv_has ls 1 [(0, .int (iI (i)))] := hl
  refine lv_iload_n hx hb dX2_requireKind_0 rfl (lv_at hl 0 rfl) ?_
  refine z_calli (va_runS (As := [.int (iI (i))]) (rest := []) ⟨hx, hb, hml, hown, hts⟩ (c_X2_isKind l D g a L att T hs tm tk lt i (by omega) _) (va_cwS 1 hts gX2_requireKind_X2_isKind rfl rfl rfl (by decide +kernel) ⟨Nat.le_of_ble_eq_true rfl, Nat.le_of_ble_eq_true rfl⟩) (z_preS hK hP hD) rfl rfl hl.1 rfl (lv_room (Nat.le_of_ble_eq_true rfl)) dX2_requireKind_1 ⟨Nat.le_of_ble_eq_true rfl, Nat.le_of_ble_eq_true rfl⟩) hS hD hA (fun r w1 H locs hw1 hP hD hS => ?_)
  obtain ⟨rfl, rfl⟩ := hw1
  refine z_ifne (a := (bI (decide (0 ≤ i ∧ i ≤ 2)))) (tgt := 17) hx hb dX2_requireKind_4 (by decide) (bI_r _) (fun c_4 => ?_) (fun c_4 => ?_)
  · have d_4 := of_decide_eq_true (bI_t c_4)
    have c9 := of_decide_eq_true (bI_t c_4)
    exact x_vret (w := (wX a g L att T hs tm tk lt)) hQ hx hb hr hlocks ⟨by omega, rfl⟩ hK hP hD hS (Nat.le_of_ble_eq_true rfl) (Nat.le_of_ble_eq_true rfl) dX2_requireKind_17
  · have d_4 := of_decide_eq_false (bI_f c_4)
    have c9 := of_decide_eq_false (bI_f c_4)
    exact x_throw (w := (wX a g L att T hs tm tk lt)) (cls := nIX) (text := "kind is not 0 to 2") (ik := 81) (is := 47) (ic := 85) hl0 hQ ⟨rfl, rfl, by omega⟩ htb hlocks hx hb hown hml hl.1 (by decide) (hts (.classLink RX2 81 "java/lang/IndexOutOfBoundsException") (List.mem_of_getElem? (i := 1) rfl)) (hts (.initialized "java/lang/IndexOutOfBoundsException") (List.mem_of_getElem? (i := 2) rfl)) hatIX xb_IX hV.1.2.2.2.2.2 xg_IX hE hV (List.mem_of_getElem? (i := 0) rfl) hK hP hD hS dX2_requireKind_7 dX2_requireKind_10 dX2_requireKind_11 dX2_requireKind_13 dX2_requireKind_16 (Nat.le_of_ble_eq_true rfl) (Nat.le_of_ble_eq_true rfl) (Nat.le_of_ble_eq_true rfl) (Nat.le_of_ble_eq_true rfl) (Nat.le_of_ble_eq_true rfl) (Nat.le_of_ble_eq_true rfl)
set_option maxHeartbeats 4000000 in
set_option maxRecDepth 100000 in
theorem c_X2_requireDelay (l : Launch) (hl0 : l.stackTraces = false) (D : va_G) (g : Nat → ClassId) (a : Nat → Nat) (L : LD) (att T : Nat) (hs tm : Nat → Int) (tk : Nat → Nat → Int) (lt : Nat → Int) (i : Int) (hri : -2147483648 ≤ i ∧ i < 2147483648) : xMv l D (zT g) yX2_requireDelay wsX2_requireDelay 6 82 1 (wX a g L att T hs tm tk lt) [.int (iI (i))] (fun w1 => (0 ≤ i ∧ i ≤ 12) ∧ w1 = wX a g L att T hs tm tk lt) (fun E w9 => w9 = wX a g L att T hs tm tk lt ∧ E = nIA ∧ ¬ (0 ≤ i ∧ i ≤ 12)) := by
  refine x_ofV (cc := cX2_requireDelay) (maxL := 1) (ret := none) (by decide) rfl (Nat.le_of_ble_eq_true rfl) ?_
  intro p e s m args below meth c A ls hx hb hr hts hown hlocks hml hP hK hD hS hA hl hE hV htb Q hQ
  have hown : s.vm.findClass RX2 = some m.cls := hown
  have hatIA : ∀ w ∈ (vx_atS RX2 33 nIA nms).filter goodWord, w.before args s = true := fun w h => hts w (List.mem_cons_of_mem _ (List.mem_append_right _ h))
  have hl : lv_has ls 1 [(0, .int (iI (i)))] := hl
  refine lv_iload_n hx hb dX2_requireDelay_0 rfl (lv_at hl 0 rfl) ?_
  refine z_iflt (a := i) (tgt := 10) hx hb dX2_requireDelay_1 (by decide) (by omega) (fun c_1 => ?_) (fun c_1 => ?_)
  · exact x_throw (w := (wX a g L att T hs tm tk lt)) (cls := nIA) (text := "delay is not 0 to 12") (ik := 29) (is := 212) (ic := 33) hl0 hQ ⟨rfl, rfl, by omega⟩ htb hlocks hx hb hown hml hl.1 (by decide) (hts (.classLink RX2 29 "java/lang/IllegalArgumentException") (List.mem_of_getElem? (i := 1) rfl)) (hts (.initialized "java/lang/IllegalArgumentException") (List.mem_of_getElem? (i := 2) rfl)) hatIA xb_IA hV.1.2.2.2.1 xg_IA hE hV (List.mem_of_getElem? (i := 1) rfl) hK hP hD hS dX2_requireDelay_10 dX2_requireDelay_13 dX2_requireDelay_14 dX2_requireDelay_16 dX2_requireDelay_19 (Nat.le_of_ble_eq_true rfl) (Nat.le_of_ble_eq_true rfl) (Nat.le_of_ble_eq_true rfl) (Nat.le_of_ble_eq_true rfl) (Nat.le_of_ble_eq_true rfl) (Nat.le_of_ble_eq_true rfl)
  · refine lv_iload_n hx hb dX2_requireDelay_4 rfl (lv_at hl 0 rfl) ?_
    refine z_bip hx hb dX2_requireDelay_5 (by decide) ?_
    refine z_icle (a := i) (b := 12) (tgt := 20) hx hb dX2_requireDelay_7 (by decide) (by omega) (fun c_7 => ?_) (fun c_7 => ?_)
    · exact x_vret (w := (wX a g L att T hs tm tk lt)) hQ hx hb hr hlocks ⟨by omega, rfl⟩ hK hP hD hS (Nat.le_of_ble_eq_true rfl) (Nat.le_of_ble_eq_true rfl) dX2_requireDelay_20
    · exact x_throw (w := (wX a g L att T hs tm tk lt)) (cls := nIA) (text := "delay is not 0 to 12") (ik := 29) (is := 212) (ic := 33) hl0 hQ ⟨rfl, rfl, by omega⟩ htb hlocks hx hb hown hml hl.1 (by decide) (hts (.classLink RX2 29 "java/lang/IllegalArgumentException") (List.mem_of_getElem? (i := 1) rfl)) (hts (.initialized "java/lang/IllegalArgumentException") (List.mem_of_getElem? (i := 2) rfl)) hatIA xb_IA hV.1.2.2.2.1 xg_IA hE hV (List.mem_of_getElem? (i := 1) rfl) hK hP hD hS dX2_requireDelay_10 dX2_requireDelay_13 dX2_requireDelay_14 dX2_requireDelay_16 dX2_requireDelay_19 (Nat.le_of_ble_eq_true rfl) (Nat.le_of_ble_eq_true rfl) (Nat.le_of_ble_eq_true rfl) (Nat.le_of_ble_eq_true rfl) (Nat.le_of_ble_eq_true rfl) (Nat.le_of_ble_eq_true rfl)
set_option maxHeartbeats 4000000 in
set_option maxRecDepth 100000 in
theorem c_X2_requireIterations (l : Launch) (hl0 : l.stackTraces = false) (D : va_G) (g : Nat → ClassId) (a : Nat → Nat) (L : LD) (att T : Nat) (hs tm : Nat → Int) (tk : Nat → Nat → Int) (lt : Nat → Int) (i : Int) (hri : -2147483648 ≤ i ∧ i < 2147483648) : xMv l D (zT g) yX2_requireIterations wsX2_requireIterations 6 82 1 (wX a g L att T hs tm tk lt) [.int (iI (i))] (fun w1 => (1 ≤ i ∧ i ≤ 1000) ∧ w1 = wX a g L att T hs tm tk lt) (fun E w9 => w9 = wX a g L att T hs tm tk lt ∧ E = nIA ∧ ¬ (1 ≤ i ∧ i ≤ 1000)) := by
  refine x_ofV (cc := cX2_requireIterations) (maxL := 1) (ret := none) (by decide) rfl (Nat.le_of_ble_eq_true rfl) ?_
  intro p e s m args below meth c A ls hx hb hr hts hown hlocks hml hP hK hD hS hA hl hE hV htb Q hQ
  have hown : s.vm.findClass RX2 = some m.cls := hown
  have hatIA : ∀ w ∈ (vx_atS RX2 33 nIA nms).filter goodWord, w.before args s = true := fun w h => hts w (List.mem_cons_of_mem _ (List.mem_append_right _ h))
  have hl : lv_has ls 1 [(0, .int (iI (i)))] := hl
  refine lv_iload_n hx hb dX2_requireIterations_0 rfl (lv_at hl 0 rfl) ?_
  refine z_ic hx hb dX2_requireIterations_1 ?_
  refine z_iclt (a := i) (b := 1) (tgt := 12) hx hb dX2_requireIterations_2 (by decide) (by omega) (fun c_2 => ?_) (fun c_2 => ?_)
  · exact x_throw (w := (wX a g L att T hs tm tk lt)) (cls := nIA) (text := "n is not 1 to 1000") (ik := 29) (is := 214) (ic := 33) hl0 hQ ⟨rfl, rfl, by omega⟩ htb hlocks hx hb hown hml hl.1 (by decide) (hts (.classLink RX2 29 "java/lang/IllegalArgumentException") (List.mem_of_getElem? (i := 1) rfl)) (hts (.initialized "java/lang/IllegalArgumentException") (List.mem_of_getElem? (i := 2) rfl)) hatIA xb_IA hV.1.2.2.2.1 xg_IA hE hV (List.mem_of_getElem? (i := 4) rfl) hK hP hD hS dX2_requireIterations_12 dX2_requireIterations_15 dX2_requireIterations_16 dX2_requireIterations_18 dX2_requireIterations_21 (Nat.le_of_ble_eq_true rfl) (Nat.le_of_ble_eq_true rfl) (Nat.le_of_ble_eq_true rfl) (Nat.le_of_ble_eq_true rfl) (Nat.le_of_ble_eq_true rfl) (Nat.le_of_ble_eq_true rfl)
  · refine lv_iload_n hx hb dX2_requireIterations_5 rfl (lv_at hl 0 rfl) ?_
    refine z_sip hx hb dX2_requireIterations_6 (by decide) ?_
    refine z_icle (a := i) (b := 1000) (tgt := 22) hx hb dX2_requireIterations_9 (by decide) (by omega) (fun c_9 => ?_) (fun c_9 => ?_)
    · exact x_vret (w := (wX a g L att T hs tm tk lt)) hQ hx hb hr hlocks ⟨by omega, rfl⟩ hK hP hD hS (Nat.le_of_ble_eq_true rfl) (Nat.le_of_ble_eq_true rfl) dX2_requireIterations_22
    · exact x_throw (w := (wX a g L att T hs tm tk lt)) (cls := nIA) (text := "n is not 1 to 1000") (ik := 29) (is := 214) (ic := 33) hl0 hQ ⟨rfl, rfl, by omega⟩ htb hlocks hx hb hown hml hl.1 (by decide) (hts (.classLink RX2 29 "java/lang/IllegalArgumentException") (List.mem_of_getElem? (i := 1) rfl)) (hts (.initialized "java/lang/IllegalArgumentException") (List.mem_of_getElem? (i := 2) rfl)) hatIA xb_IA hV.1.2.2.2.1 xg_IA hE hV (List.mem_of_getElem? (i := 4) rfl) hK hP hD hS dX2_requireIterations_12 dX2_requireIterations_15 dX2_requireIterations_16 dX2_requireIterations_18 dX2_requireIterations_21 (Nat.le_of_ble_eq_true rfl) (Nat.le_of_ble_eq_true rfl) (Nat.le_of_ble_eq_true rfl) (Nat.le_of_ble_eq_true rfl) (Nat.le_of_ble_eq_true rfl) (Nat.le_of_ble_eq_true rfl)
set_option maxHeartbeats 4000000 in
set_option maxRecDepth 100000 in
theorem c_X2_requireCycle (l : Launch) (hl0 : l.stackTraces = false) (D : va_G) (g : Nat → ClassId) (a : Nat → Nat) (L : LD) (att T : Nat) (hs tm : Nat → Int) (tk : Nat → Nat → Int) (lt : Nat → Int) (i : Int) (hri : -2147483648 ≤ i ∧ i < 2147483648) : xMv l D (zT g) yX2_requireCycle wsX2_requireCycle 6 82 1 (wX a g L att T hs tm tk lt) [.int (iI (i))] (fun w1 => (0 ≤ i) ∧ w1 = wX a g L att T hs tm tk lt) (fun E w9 => w9 = wX a g L att T hs tm tk lt ∧ E = nIA ∧ ¬ (0 ≤ i)) := by
  refine x_ofV (cc := cX2_requireCycle) (maxL := 1) (ret := none) (by decide) rfl (Nat.le_of_ble_eq_true rfl) ?_
  intro p e s m args below meth c A ls hx hb hr hts hown hlocks hml hP hK hD hS hA hl hE hV htb Q hQ
  have hown : s.vm.findClass RX2 = some m.cls := hown
  have hatIA : ∀ w ∈ (vx_atS RX2 33 nIA nms).filter goodWord, w.before args s = true := fun w h => hts w (List.mem_cons_of_mem _ (List.mem_append_right _ h))
  have hl : lv_has ls 1 [(0, .int (iI (i)))] := hl
  refine lv_iload_n hx hb dX2_requireCycle_0 rfl (lv_at hl 0 rfl) ?_
  refine z_ifge (a := i) (tgt := 14) hx hb dX2_requireCycle_1 (by decide) (by omega) (fun c_1 => ?_) (fun c_1 => ?_)
  · exact x_vret (w := (wX a g L att T hs tm tk lt)) hQ hx hb hr hlocks ⟨by omega, rfl⟩ hK hP hD hS (Nat.le_of_ble_eq_true rfl) (Nat.le_of_ble_eq_true rfl) dX2_requireCycle_14
  · exact x_throw (w := (wX a g L att T hs tm tk lt)) (cls := nIA) (text := "cycle is negative") (ik := 29) (is := 216) (ic := 33) hl0 hQ ⟨rfl, rfl, by omega⟩ htb hlocks hx hb hown hml hl.1 (by decide) (hts (.classLink RX2 29 "java/lang/IllegalArgumentException") (List.mem_of_getElem? (i := 1) rfl)) (hts (.initialized "java/lang/IllegalArgumentException") (List.mem_of_getElem? (i := 2) rfl)) hatIA xb_IA hV.1.2.2.2.1 xg_IA hE hV (List.mem_of_getElem? (i := 12) rfl) hK hP hD hS dX2_requireCycle_4 dX2_requireCycle_7 dX2_requireCycle_8 dX2_requireCycle_10 dX2_requireCycle_13 (Nat.le_of_ble_eq_true rfl) (Nat.le_of_ble_eq_true rfl) (Nat.le_of_ble_eq_true rfl) (Nat.le_of_ble_eq_true rfl) (Nat.le_of_ble_eq_true rfl) (Nat.le_of_ble_eq_true rfl)
set_option maxHeartbeats 4000000 in
set_option maxRecDepth 100000 in
theorem c_X2_requireOperation (l : Launch) (hl0 : l.stackTraces = false) (D : va_G) (g : Nat → ClassId) (a : Nat → Nat) (L : LD) (att T : Nat) (hs tm : Nat → Int) (tk : Nat → Nat → Int) (lt : Nat → Int) (i : Int) (hw : wf L) (hri : -2147483648 ≤ i ∧ i < 2147483648) : xMv l D (zT g) yX2_requireOperation wsX2_requireOperation 6 82 1 (wX a g L att T hs tm tk lt) [.ref (a 0), .int (iI (i))] (fun w1 => (0 ≤ i ∧ i < (Ln L : Int)) ∧ w1 = wX a g L att T hs tm tk lt) (fun E w9 => w9 = wX a g L att T hs tm tk lt ∧ E = nIX ∧ ¬ (0 ≤ i ∧ i < (Ln L : Int))) := by
  refine x_ofV (cc := cX2_requireOperation) (maxL := 2) (ret := none) (by decide) rfl (Nat.le_of_ble_eq_true rfl) ?_
  intro p e s m args below meth c A ls hx hb hr hts hown hlocks hml hP hK hD hS hA hl hE hV htb Q hQ
  have hown : s.vm.findClass RX2 = some m.cls := hown
  have hinX0 : ∀ w ∈ u_ws RX0 TX0 10, w ∈ wsX2_requireOperation := by decide +kernel
  have hinX2 : ∀ w ∈ u_ws RX2 TX2 3, w ∈ wsX2_requireOperation := by decide +kernel
  have hatIX : ∀ w ∈ (vx_atS RX2 85 nIX nms).filter goodWord, w.before args s = true := fun w h => hts w (List.mem_cons_of_mem _ (List.mem_append_right _ h))
  have hl : lv_has ls 2 [(0, .ref (a 0)), (1, .int (iI (i)))] := hl
  have hwn := wf_n hw
  refine lv_iload_n hx hb dX2_requireOperation_0 rfl (lv_at hl 1 rfl) ?_
  refine z_iflt (a := i) (tgt := 15) hx hb dX2_requireOperation_1 (by decide) (by omega) (fun c_1 => ?_) (fun c_1 => ?_)
  · exact x_throw (w := (wX a g L att T hs tm tk lt)) (cls := nIX) (text := "no such operation") (ik := 81) (is := 218) (ic := 85) hl0 hQ ⟨rfl, rfl, by omega⟩ htb hlocks hx hb hown hml hl.1 (by decide) (hts (.classLink RX2 81 "java/lang/IndexOutOfBoundsException") (List.mem_of_getElem? (i := 1) rfl)) (hts (.initialized "java/lang/IndexOutOfBoundsException") (List.mem_of_getElem? (i := 2) rfl)) hatIX xb_IX hV.1.2.2.2.2.2 xg_IX hE hV (List.mem_of_getElem? (i := 6) rfl) hK hP hD hS dX2_requireOperation_15 dX2_requireOperation_18 dX2_requireOperation_19 dX2_requireOperation_21 dX2_requireOperation_24 (Nat.le_of_ble_eq_true rfl) (Nat.le_of_ble_eq_true rfl) (Nat.le_of_ble_eq_true rfl) (Nat.le_of_ble_eq_true rfl) (Nat.le_of_ble_eq_true rfl) (Nat.le_of_ble_eq_true rfl)
  · refine lv_iload_n hx hb dX2_requireOperation_4 rfl (lv_at hl 1 rfl) ?_
    refine lv_aload_n hx hb dX2_requireOperation_5 rfl (lv_at hl 0 rfl) ?_
    refine va_get (D := D) (ci := 2) (v := .ref (a 1)) (C := RX2) (T := TX2) (N := 3) hx hb hts hinX2 hown hK hP 0 rfl rfl 0 (by decide) (hts (.fieldLink RX2 10 "LoopScheduler" "loop" "LLoopScheduler$Loop;") (List.mem_of_getElem? (i := 3) rfl)) (fun _ h9 => h9) rfl dX2_requireOperation_6 ?_
    refine va_get (D := D) (ci := 0) (v := .int (iI ((Ln L : Nat) : Int))) (C := RX0) (T := TX0) (N := 10) hx hb hts hinX0 hown hK hP 1 rfl rfl 8 (by decide) (hts (.fieldLink RX2 51 "LoopScheduler$Loop" "operations" "I") (List.mem_of_getElem? (i := 4) rfl)) (fun _ h9 => h9) rfl dX2_requireOperation_9 ?_
    refine z_iclt (a := i) (b := ((Ln L : Nat) : Int)) (tgt := 25) hx hb dX2_requireOperation_12 (by decide) (by omega) (fun c_12 => ?_) (fun c_12 => ?_)
    · exact x_vret (w := (wX a g L att T hs tm tk lt)) hQ hx hb hr hlocks ⟨by omega, rfl⟩ hK hP hD hS (Nat.le_of_ble_eq_true rfl) (Nat.le_of_ble_eq_true rfl) dX2_requireOperation_25
    · exact x_throw (w := (wX a g L att T hs tm tk lt)) (cls := nIX) (text := "no such operation") (ik := 81) (is := 218) (ic := 85) hl0 hQ ⟨rfl, rfl, by omega⟩ htb hlocks hx hb hown hml hl.1 (by decide) (hts (.classLink RX2 81 "java/lang/IndexOutOfBoundsException") (List.mem_of_getElem? (i := 1) rfl)) (hts (.initialized "java/lang/IndexOutOfBoundsException") (List.mem_of_getElem? (i := 2) rfl)) hatIX xb_IX hV.1.2.2.2.2.2 xg_IX hE hV (List.mem_of_getElem? (i := 6) rfl) hK hP hD hS dX2_requireOperation_15 dX2_requireOperation_18 dX2_requireOperation_19 dX2_requireOperation_21 dX2_requireOperation_24 (Nat.le_of_ble_eq_true rfl) (Nat.le_of_ble_eq_true rfl) (Nat.le_of_ble_eq_true rfl) (Nat.le_of_ble_eq_true rfl) (Nat.le_of_ble_eq_true rfl) (Nat.le_of_ble_eq_true rfl)
set_option maxHeartbeats 4000000 in
set_option maxRecDepth 100000 in
theorem c_X2_requireSchedule (l : Launch) (hl0 : l.stackTraces = false) (D : va_G) (g : Nat → ClassId) (a : Nat → Nat) (L : LD) (att T : Nat) (hs tm : Nat → Int) (tk : Nat → Nat → Int) (lt : Nat → Int)  (hT2 : T ≤ 200) : xMv l D (zT g) yX2_requireSchedule wsX2_requireSchedule 6 82 1 (wX a g L att T hs tm tk lt) [.ref (a 0)] (fun w1 => (0 < T) ∧ w1 = wX a g L att T hs tm tk lt) (fun E w9 => w9 = wX a g L att T hs tm tk lt ∧ E = nIS ∧ ¬ (0 < T)) := by
  refine x_ofV (cc := cX2_requireSchedule) (maxL := 1) (ret := none) (by decide) rfl (Nat.le_of_ble_eq_true rfl) ?_
  intro p e s m args below meth c A ls hx hb hr hts hown hlocks hml hP hK hD hS hA hl hE hV htb Q hQ
  have hown : s.vm.findClass RX2 = some m.cls := hown
  have hinX1 : ∀ w ∈ u_ws RX1 TX1 5, w ∈ wsX2_requireSchedule := by decide +kernel
  have hinX2 : ∀ w ∈ u_ws RX2 TX2 3, w ∈ wsX2_requireSchedule := by decide +kernel
  have hatIS : ∀ w ∈ (vx_atS RX2 59 nIS nms).filter goodWord, w.before args s = true := fun w h => hts w (List.mem_cons_of_mem _ (List.mem_append_right _ h))
  have hl : lv_has ls 1 [(0, .ref (a 0))] := hl
  refine lv_aload_n hx hb dX2_requireSchedule_0 rfl (lv_at hl 0 rfl) ?_
  refine va_get (D := D) (ci := 2) (v := .ref (a 2)) (C := RX2) (T := TX2) (N := 3) hx hb hts hinX2 hown hK hP 0 rfl rfl 1 (by decide) (hts (.fieldLink RX2 21 "LoopScheduler" "table" "LLoopScheduler$Timetable;") (List.mem_of_getElem? (i := 3) rfl)) (fun _ h9 => h9) rfl dX2_requireSchedule_1 ?_
  refine va_get (D := D) (ci := 1) (v := .int (iI ((T : Nat) : Int))) (C := RX1) (T := TX1) (N := 5) hx hb hts hinX1 hown hK hP 2 rfl rfl 4 (by decide) (hts (.fieldLink RX2 117 "LoopScheduler$Timetable" "interval" "I") (List.mem_of_getElem? (i := 4) rfl)) (fun _ h9 => h9) rfl dX2_requireSchedule_4 ?_
  refine z_ic hx hb dX2_requireSchedule_7 ?_
  refine z_icge (a := ((T : Nat) : Int)) (b := 1) (tgt := 21) hx hb dX2_requireSchedule_8 (by decide) (by omega) (fun c_8 => ?_) (fun c_8 => ?_)
  · exact x_vret (w := (wX a g L att T hs tm tk lt)) hQ hx hb hr hlocks ⟨by omega, rfl⟩ hK hP hD hS (Nat.le_of_ble_eq_true rfl) (Nat.le_of_ble_eq_true rfl) dX2_requireSchedule_21
  · exact x_throw (w := (wX a g L att T hs tm tk lt)) (cls := nIS) (text := "there is no schedule") (ik := 55) (is := 220) (ic := 59) hl0 hQ ⟨rfl, rfl, by omega⟩ htb hlocks hx hb hown hml hl.1 (by decide) (hts (.classLink RX2 55 "java/lang/IllegalStateException") (List.mem_of_getElem? (i := 1) rfl)) (hts (.initialized "java/lang/IllegalStateException") (List.mem_of_getElem? (i := 2) rfl)) hatIS xb_IS hV.1.2.2.2.2.1 xg_IS hE hV (List.mem_of_getElem? (i := 2) rfl) hK hP hD hS dX2_requireSchedule_11 dX2_requireSchedule_14 dX2_requireSchedule_15 dX2_requireSchedule_17 dX2_requireSchedule_20 (Nat.le_of_ble_eq_true rfl) (Nat.le_of_ble_eq_true rfl) (Nat.le_of_ble_eq_true rfl) (Nat.le_of_ble_eq_true rfl) (Nat.le_of_ble_eq_true rfl) (Nat.le_of_ble_eq_true rfl)
set_option maxHeartbeats 4000000 in
set_option maxRecDepth 100000 in
theorem c_X2_setUnits (l : Launch) (hl0 : l.stackTraces = false) (D : va_G) (g : Nat → ClassId) (a : Nat → Nat) (L : LD) (att T : Nat) (hs tm : Nat → Int) (tk : Nat → Nat → Int) (lt : Nat → Int) (i u : Int) (hri : -2147483648 ≤ i ∧ i < 2147483648) (hru : -2147483648 ≤ u ∧ u < 2147483648) : xMi l D (zT g) yX2_setUnits wsX2_setUnits 7 102 2 (wX a g L att T hs tm tk lt) [.ref (a 0), .int (iI (i)), .int (iI (u))] (fun r w1 => ((0 ≤ i ∧ i ≤ 2) ∧ (1 ≤ u ∧ u ≤ 3)) ∧ r = iI ((Lu L i.toNat : Nat) : Int) ∧ w1 = wX a g (Ln L, Lm L, upN (Lu L) i.toNat u.toNat, Lkd L, Lby L, Lsr L, Lds L, Ldl L, Ldi L) att 0 hs tm tk lt) (fun E w9 => w9 = wX a g L att T hs tm tk lt ∧ ((E = nIX ∧ ¬ (0 ≤ i ∧ i ≤ 2)) ∨ (E = nIA ∧ (0 ≤ i ∧ i ≤ 2) ∧ ¬ (1 ≤ u ∧ u ≤ 3)))) := by
  refine x_ofI (cc := cX2_setUnits) (maxL := 4) (ret := (some .int)) (by decide) rfl (Nat.le_of_ble_eq_true rfl) ?_
  intro p e s m args below meth c A ls hx hb hr hts hown hlocks hml hP hK hD hS hA hl hE hV htb Q hQ
  have hown : s.vm.findClass RX2 = some m.cls := hown
  have hinX0 : ∀ w ∈ u_ws RX0 TX0 10, w ∈ wsX2_setUnits := by decide +kernel
  have hinX1 : ∀ w ∈ u_ws RX1 TX1 5, w ∈ wsX2_setUnits := by decide +kernel
  have hinX2 : ∀ w ∈ u_ws RX2 TX2 3, w ∈ wsX2_setUnits := by decide +kernel
  have hatIA : ∀ w ∈ (vx_atS RX2 33 nIA nms).filter goodWord, w.before args s = true := fun w h => hts w (List.mem_cons_of_mem _ (List.mem_append_left _ (List.mem_append_right _ h)))
  have hl : lv_has ls 4 [(0, .ref (a 0)), (1, .int (iI (i))), (2, .int (iI (u)))] := hl
  refine lv_iload_n hx hb dX2_setUnits_0 rfl (lv_at hl 1 rfl) ?_
  refine x_callv hQ (fun E u q => ⟨q.1, Or.inl (⟨q.2.1, by have q9 := q.2.2; omega⟩)⟩) htb hlocks (Nat.le_of_ble_eq_true rfl) (Nat.le_of_ble_eq_true rfl) (vx_runS (As := [.int (iI (i))]) (rest := []) ⟨hx, hb, hml, hown, hts⟩ (c_X2_requireKind l hl0 D g a L att T hs tm tk lt i (by omega) _) (va_cwS 1 hts gX2_setUnits_X2_requireKind rfl rfl rfl (by decide +kernel) ⟨Nat.le_of_ble_eq_true rfl, Nat.le_of_ble_eq_true rfl⟩) (x_preS hK hP hD hS hA hE hV) rfl rfl hl.1 rfl (lv_room (Nat.le_of_ble_eq_true rfl)) dX2_setUnits_1 ⟨Nat.le_of_ble_eq_true rfl, Nat.le_of_ble_eq_true rfl⟩) hS hD hA (fun w1 H locs hw1 hP hD hS => ?_)
  obtain ⟨hq0, rfl⟩ := hw1
  refine lv_iload_n hx hb dX2_setUnits_4 rfl (lv_at hl 2 rfl) ?_
  refine z_ic hx hb dX2_setUnits_5 ?_
  refine z_iclt (a := u) (b := 1) (tgt := 14) hx hb dX2_setUnits_6 (by decide) (by omega) (fun c_6 => ?_) (fun c_6 => ?_)
  · exact x_throw (w := (wX a g L att T hs tm tk lt)) (cls := nIA) (text := "units is not 1 to 3") (ik := 29) (is := 31) (ic := 33) hl0 hQ ⟨rfl, Or.inr (⟨rfl, by omega⟩)⟩ htb hlocks hx hb hown hml hl.1 (by decide) (hts (.classLink RX2 29 "java/lang/IllegalArgumentException") (List.mem_of_getElem? (i := 1) rfl)) (hts (.initialized "java/lang/IllegalArgumentException") (List.mem_of_getElem? (i := 2) rfl)) hatIA xb_IA hV.1.2.2.2.1 xg_IA hE hV (List.mem_of_getElem? (i := 5) rfl) hK hP hD hS dX2_setUnits_14 dX2_setUnits_17 dX2_setUnits_18 dX2_setUnits_20 dX2_setUnits_23 (Nat.le_of_ble_eq_true rfl) (Nat.le_of_ble_eq_true rfl) (Nat.le_of_ble_eq_true rfl) (Nat.le_of_ble_eq_true rfl) (Nat.le_of_ble_eq_true rfl) (Nat.le_of_ble_eq_true rfl)
  · refine lv_iload_n hx hb dX2_setUnits_9 rfl (lv_at hl 2 rfl) ?_
    refine z_ic hx hb dX2_setUnits_10 ?_
    refine z_icle (a := u) (b := 3) (tgt := 24) hx hb dX2_setUnits_11 (by decide) (by omega) (fun c_11 => ?_) (fun c_11 => ?_)
    · obtain ⟨j, rfl⟩ : ∃ j : Nat, i = (j : Int) := ⟨i.toNat, by omega⟩
      obtain ⟨v, rfl⟩ : ∃ v : Nat, u = (v : Int) := ⟨u.toNat, by omega⟩
      refine lv_aload_n hx hb dX2_setUnits_24 rfl (lv_at hl 0 rfl) ?_
      refine va_get (D := D) (ci := 2) (v := .ref (a 1)) (C := RX2) (T := TX2) (N := 3) hx hb hts hinX2 hown hK hP 0 rfl rfl 0 (by decide) (hts (.fieldLink RX2 10 "LoopScheduler" "loop" "LLoopScheduler$Loop;") (List.mem_of_getElem? (i := 3) rfl)) (fun _ h9 => h9) rfl dX2_setUnits_25 ?_
      refine va_get (D := D) (ci := 0) (v := .ref (a 3)) (C := RX0) (T := TX0) (N := 10) hx hb hts hinX0 hown hK hP 1 rfl rfl 0 (by decide) (hts (.fieldLink RX2 36 "LoopScheduler$Loop" "units" "[I") (List.mem_of_getElem? (i := 4) rfl)) (fun _ h9 => h9) rfl dX2_setUnits_28 ?_
      refine lv_iload_n hx hb dX2_setUnits_31 rfl (lv_at hl 1 rfl) ?_
      refine z_ialdZ (f := Lu L) (z := j) hx hb hK hP 3 0 rfl rfl (by omega) (by decide) dX2_setUnits_32 ?_
      refine lv_istore_n (lv' := [(3, .int (iI ((Lu L j : Nat) : Int))), (0, .ref (a 0)), (1, .int (iI ((j : Nat) : Int))), (2, .int (iI ((v : Nat) : Int)))]) hx hb dX2_setUnits_33 rfl hl (by decide) rfl (fun ls hl => ?_)
      refine lv_aload_n hx hb dX2_setUnits_34 rfl (lv_at hl 1 rfl) ?_
      refine va_get (D := D) (ci := 2) (v := .ref (a 1)) (C := RX2) (T := TX2) (N := 3) hx hb hts hinX2 hown hK hP 0 rfl rfl 0 (by decide) (hts (.fieldLink RX2 10 "LoopScheduler" "loop" "LLoopScheduler$Loop;") (List.mem_of_getElem? (i := 3) rfl)) (fun _ h9 => h9) rfl dX2_setUnits_35 ?_
      refine va_get (D := D) (ci := 0) (v := .ref (a 3)) (C := RX0) (T := TX0) (N := 10) hx hb hts hinX0 hown hK hP 1 rfl rfl 0 (by decide) (hts (.fieldLink RX2 36 "LoopScheduler$Loop" "units" "[I") (List.mem_of_getElem? (i := 4) rfl)) (fun _ h9 => h9) rfl dX2_setUnits_38 ?_
      refine lv_iload_n hx hb dX2_setUnits_41 rfl (lv_at hl 2 rfl) ?_
      refine lv_iload_n hx hb dX2_setUnits_42 rfl (lv_at hl 3 rfl) ?_
      refine z_iastZ (f := Lu L) (z := j) (v := v) hx hb hK hP hD hS 3 0 rfl rfl (by omega) (by decide) dX2_setUnits_43 (fun H locs hP hD hS => ?_)
      have hP : va_P D vwCl (wX a g (Ln L, Lm L, upN (Lu L) j v, Lkd L, Lby L, Lsr L, Lds L, Ldl L, Ldi L) att T hs tm tk lt) H := hP
      have hD : va_D A (wX a g (Ln L, Lm L, upN (Lu L) j v, Lkd L, Lby L, Lsr L, Lds L, Ldl L, Ldi L) att T hs tm tk lt) := hD
      refine lv_aload_n hx hb dX2_setUnits_44 rfl (lv_at hl 1 rfl) ?_
      refine va_get (D := D) (ci := 2) (v := .ref (a 2)) (C := RX2) (T := TX2) (N := 3) hx hb hts hinX2 hown hK hP 0 rfl rfl 1 (by decide) (hts (.fieldLink RX2 21 "LoopScheduler" "table" "LLoopScheduler$Timetable;") (List.mem_of_getElem? (i := 5) rfl)) (fun _ h9 => h9) rfl dX2_setUnits_45 ?_
      refine z_callv (va_runV (As := []) (rest := []) ⟨hx, hb, hml, hown, hts⟩ (c_X1_drop l D g a (Ln L, Lm L, upN (Lu L) j v, Lkd L, Lby L, Lsr L, Lds L, Ldl L, Ldi L) att T hs tm tk lt _) (cwV 0 hts gX2_setUnits_X1_drop rfl rfl rfl (by decide +kernel) ⟨Nat.le_of_ble_eq_true rfl, Nat.le_of_ble_eq_true rfl⟩) (z_preV 2 hK hP hD rfl rfl) rfl rfl hl.1 rfl (lv_room (Nat.le_of_ble_eq_true rfl)) dX2_setUnits_48 ⟨Nat.le_of_ble_eq_true rfl, Nat.le_of_ble_eq_true rfl⟩) hS hD hA (fun w1 H locs hw1 hP hD hS => ?_)
      subst hw1
      refine lv_iload_n hx hb dX2_setUnits_51 rfl (lv_at hl 0 rfl) ?_
      exact x_iret (w := (wX a g (Ln L, Lm L, upN (Lu L) j v, Lkd L, Lby L, Lsr L, Lds L, Ldl L, Ldi L) att 0 hs tm tk lt)) (v := (iI ((Lu L j : Nat) : Int))) hQ hx hb hr hlocks ⟨by omega, rfl, rfl⟩ hK hP hD hS (Nat.le_of_ble_eq_true rfl) (Nat.le_of_ble_eq_true rfl) dX2_setUnits_52
    · exact x_throw (w := (wX a g L att T hs tm tk lt)) (cls := nIA) (text := "units is not 1 to 3") (ik := 29) (is := 31) (ic := 33) hl0 hQ ⟨rfl, Or.inr (⟨rfl, by omega⟩)⟩ htb hlocks hx hb hown hml hl.1 (by decide) (hts (.classLink RX2 29 "java/lang/IllegalArgumentException") (List.mem_of_getElem? (i := 1) rfl)) (hts (.initialized "java/lang/IllegalArgumentException") (List.mem_of_getElem? (i := 2) rfl)) hatIA xb_IA hV.1.2.2.2.1 xg_IA hE hV (List.mem_of_getElem? (i := 5) rfl) hK hP hD hS dX2_setUnits_14 dX2_setUnits_17 dX2_setUnits_18 dX2_setUnits_20 dX2_setUnits_23 (Nat.le_of_ble_eq_true rfl) (Nat.le_of_ble_eq_true rfl) (Nat.le_of_ble_eq_true rfl) (Nat.le_of_ble_eq_true rfl) (Nat.le_of_ble_eq_true rfl) (Nat.le_of_ble_eq_true rfl)
set_option maxHeartbeats 4000000 in
set_option maxRecDepth 100000 in
theorem c_X2_addOperation (l : Launch) (hl0 : l.stackTraces = false) (D : va_G) (g : Nat → ClassId) (a : Nat → Nat) (L : LD) (att T : Nat) (hs tm : Nat → Int) (tk : Nat → Nat → Int) (lt : Nat → Int) (i u : Int) (hw : wf L) (hri : -2147483648 ≤ i ∧ i < 2147483648) (hru : -2147483648 ≤ u ∧ u < 2147483648) : xMi l D (zT g) yX2_addOperation wsX2_addOperation 6 82 1 (wX a g L att T hs tm tk lt) [.ref (a 0), .int (iI (i)), .int (iI (u))] (fun r w1 => (((0 ≤ i ∧ i ≤ 2) ∧ (1 ≤ u ∧ u ≤ 4)) ∧ Ln L < 14) ∧ r = iI ((Ln L : Nat) : Int) ∧ w1 = wX a g (Ln L + 1, Lm L, Lu L, upN (Lkd L) (Ln L) i.toNat, upN (Lby L) (Ln L) u.toNat, Lsr L, Lds L, Ldl L, Ldi L) att 0 hs tm tk lt) (fun E w9 => w9 = wX a g L att T hs tm tk lt ∧ ((E = nIA ∧ ¬ ((0 ≤ i ∧ i ≤ 2) ∧ (1 ≤ u ∧ u ≤ 4))) ∨ (E = nIS ∧ ((0 ≤ i ∧ i ≤ 2) ∧ (1 ≤ u ∧ u ≤ 4)) ∧ 14 ≤ Ln L))) := by
  refine x_ofI (cc := cX2_addOperation) (maxL := 3) (ret := (some .int)) (by decide) rfl (Nat.le_of_ble_eq_true rfl) ?_
  intro p e s m args below meth c A ls hx hb hr hts hown hlocks hml hP hK hD hS hA hl hE hV htb Q hQ
  have hown : s.vm.findClass RX2 = some m.cls := hown
  have hinX0 : ∀ w ∈ u_ws RX0 TX0 10, w ∈ wsX2_addOperation := by decide +kernel
  have hinX1 : ∀ w ∈ u_ws RX1 TX1 5, w ∈ wsX2_addOperation := by decide +kernel
  have hinX2 : ∀ w ∈ u_ws RX2 TX2 3, w ∈ wsX2_addOperation := by decide +kernel
  have hatIA : ∀ w ∈ (vx_atS RX2 33 nIA nms).filter goodWord, w.before args s = true := fun w h => hts w (List.mem_cons_of_mem _ (List.mem_append_left _ (List.mem_append_right _ h)))
  have hatIS : ∀ w ∈ (vx_atS RX2 59 nIS nms).filter goodWord, w.before args s = true := fun w h => hts w (List.mem_cons_of_mem _ (List.mem_append_right _ h))
  have hl : lv_has ls 3 [(0, .ref (a 0)), (1, .int (iI (i))), (2, .int (iI (u)))] := hl
  have hwn := wf_n hw
  refine lv_iload_n hx hb dX2_addOperation_0 rfl (lv_at hl 1 rfl) ?_
  refine z_calli (va_runS (As := [.int (iI (i))]) (rest := []) ⟨hx, hb, hml, hown, hts⟩ (c_X2_isKind l D g a L att T hs tm tk lt i (by omega) _) (va_cwS 1 hts gX2_addOperation_X2_isKind rfl rfl rfl (by decide +kernel) ⟨Nat.le_of_ble_eq_true rfl, Nat.le_of_ble_eq_true rfl⟩) (z_preS hK hP hD) rfl rfl hl.1 rfl (lv_room (Nat.le_of_ble_eq_true rfl)) dX2_addOperation_1 ⟨Nat.le_of_ble_eq_true rfl, Nat.le_of_ble_eq_true rfl⟩) hS hD hA (fun r w1 H locs hw1 hP hD hS => ?_)
  obtain ⟨rfl, rfl⟩ := hw1
  refine z_ifne (a := (bI (decide (0 ≤ i ∧ i ≤ 2)))) (tgt := 17) hx hb dX2_addOperation_4 (by decide) (bI_r _) (fun c_4 => ?_) (fun c_4 => ?_)
  · have d_4 := of_decide_eq_true (bI_t c_4)
    have c9 := of_decide_eq_true (bI_t c_4)
    refine lv_iload_n hx hb dX2_addOperation_17 rfl (lv_at hl 2 rfl) ?_
    refine z_ic hx hb dX2_addOperation_18 ?_
    refine z_iclt (a := u) (b := 1) (tgt := 27) hx hb dX2_addOperation_19 (by decide) (by omega) (fun c_19 => ?_) (fun c_19 => ?_)
    · exact x_throw (w := (wX a g L att T hs tm tk lt)) (cls := nIA) (text := "busy is not 1 to 4") (ik := 29) (is := 49) (ic := 33) hl0 hQ ⟨rfl, Or.inl (⟨rfl, by omega⟩)⟩ htb hlocks hx hb hown hml hl.1 (by decide) (hts (.classLink RX2 29 "java/lang/IllegalArgumentException") (List.mem_of_getElem? (i := 1) rfl)) (hts (.initialized "java/lang/IllegalArgumentException") (List.mem_of_getElem? (i := 2) rfl)) hatIA xb_IA hV.1.2.2.2.1 xg_IA hE hV (List.mem_of_getElem? (i := 9) rfl) hK hP hD hS dX2_addOperation_27 dX2_addOperation_30 dX2_addOperation_31 dX2_addOperation_33 dX2_addOperation_36 (Nat.le_of_ble_eq_true rfl) (Nat.le_of_ble_eq_true rfl) (Nat.le_of_ble_eq_true rfl) (Nat.le_of_ble_eq_true rfl) (Nat.le_of_ble_eq_true rfl) (Nat.le_of_ble_eq_true rfl)
    · refine lv_iload_n hx hb dX2_addOperation_22 rfl (lv_at hl 2 rfl) ?_
      refine z_ic hx hb dX2_addOperation_23 ?_
      refine z_icle (a := u) (b := 4) (tgt := 37) hx hb dX2_addOperation_24 (by decide) (by omega) (fun c_24 => ?_) (fun c_24 => ?_)
      · refine lv_aload_n hx hb dX2_addOperation_37 rfl (lv_at hl 0 rfl) ?_
        refine va_get (D := D) (ci := 2) (v := .ref (a 1)) (C := RX2) (T := TX2) (N := 3) hx hb hts hinX2 hown hK hP 0 rfl rfl 0 (by decide) (hts (.fieldLink RX2 10 "LoopScheduler" "loop" "LLoopScheduler$Loop;") (List.mem_of_getElem? (i := 5) rfl)) (fun _ h9 => h9) rfl dX2_addOperation_38 ?_
        refine va_get (D := D) (ci := 0) (v := .int (iI ((Ln L : Nat) : Int))) (C := RX0) (T := TX0) (N := 10) hx hb hts hinX0 hown hK hP 1 rfl rfl 8 (by decide) (hts (.fieldLink RX2 51 "LoopScheduler$Loop" "operations" "I") (List.mem_of_getElem? (i := 6) rfl)) (fun _ h9 => h9) rfl dX2_addOperation_41 ?_
        refine z_bip hx hb dX2_addOperation_44 (by decide) ?_
        refine z_iclt (a := ((Ln L : Nat) : Int)) (b := 14) (tgt := 59) hx hb dX2_addOperation_46 (by decide) (by omega) (fun c_46 => ?_) (fun c_46 => ?_)
        · obtain ⟨j, rfl⟩ : ∃ j : Nat, i = (j : Int) := ⟨i.toNat, by omega⟩
          obtain ⟨v, rfl⟩ : ∃ v : Nat, u = (v : Int) := ⟨u.toNat, by omega⟩
          refine lv_aload_n hx hb dX2_addOperation_59 rfl (lv_at hl 0 rfl) ?_
          refine va_get (D := D) (ci := 2) (v := .ref (a 2)) (C := RX2) (T := TX2) (N := 3) hx hb hts hinX2 hown hK hP 0 rfl rfl 1 (by decide) (hts (.fieldLink RX2 21 "LoopScheduler" "table" "LLoopScheduler$Timetable;") (List.mem_of_getElem? (i := 7) rfl)) (fun _ h9 => h9) rfl dX2_addOperation_60 ?_
          refine z_callv (va_runV (As := []) (rest := []) ⟨hx, hb, hml, hown, hts⟩ (c_X1_drop l D g a L att T hs tm tk lt _) (cwV 0 hts gX2_addOperation_X1_drop rfl rfl rfl (by decide +kernel) ⟨Nat.le_of_ble_eq_true rfl, Nat.le_of_ble_eq_true rfl⟩) (z_preV 2 hK hP hD rfl rfl) rfl rfl hl.1 rfl (lv_room (Nat.le_of_ble_eq_true rfl)) dX2_addOperation_63 ⟨Nat.le_of_ble_eq_true rfl, Nat.le_of_ble_eq_true rfl⟩) hS hD hA (fun w1 H locs hw1 hP hD hS => ?_)
          subst hw1
          refine lv_aload_n hx hb dX2_addOperation_66 rfl (lv_at hl 0 rfl) ?_
          refine va_get (D := D) (ci := 2) (v := .ref (a 1)) (C := RX2) (T := TX2) (N := 3) hx hb hts hinX2 hown hK hP 0 rfl rfl 0 (by decide) (hts (.fieldLink RX2 10 "LoopScheduler" "loop" "LLoopScheduler$Loop;") (List.mem_of_getElem? (i := 5) rfl)) (fun _ h9 => h9) rfl dX2_addOperation_67 ?_
          refine lv_iload_n hx hb dX2_addOperation_70 rfl (lv_at hl 1 rfl) ?_
          refine lv_iload_n hx hb dX2_addOperation_71 rfl (lv_at hl 2 rfl) ?_
          refine z_calli (va_runV (As := [.int (iI ((j : Nat) : Int)), .int (iI ((v : Nat) : Int))]) (rest := []) ⟨hx, hb, hml, hown, hts⟩ (c_X0_appendOperation l D g a L att 0 hs tm tk lt j v (by omega) _) (cwV 2 hts gX2_addOperation_X0_appendOperation rfl rfl rfl (by decide +kernel) ⟨Nat.le_of_ble_eq_true rfl, Nat.le_of_ble_eq_true rfl⟩) (z_preV 1 hK hP hD rfl rfl) rfl rfl hl.1 rfl (lv_room (Nat.le_of_ble_eq_true rfl)) dX2_addOperation_72 ⟨Nat.le_of_ble_eq_true rfl, Nat.le_of_ble_eq_true rfl⟩) hS hD hA (fun r w1 H locs hw1 hP hD hS => ?_)
          obtain ⟨rfl, rfl⟩ := hw1
          exact x_iret (w := (wX a g (Ln L + 1, Lm L, Lu L, upN (Lkd L) (Ln L) j, upN (Lby L) (Ln L) v, Lsr L, Lds L, Ldl L, Ldi L) att 0 hs tm tk lt)) (v := (iI ((Ln L : Nat) : Int))) hQ hx hb hr hlocks ⟨by omega, rfl, rfl⟩ hK hP hD hS (Nat.le_of_ble_eq_true rfl) (Nat.le_of_ble_eq_true rfl) dX2_addOperation_75
        · exact x_throw (w := (wX a g L att T hs tm tk lt)) (cls := nIS) (text := "there are 14 operations") (ik := 55) (is := 57) (ic := 59) hl0 hQ ⟨rfl, Or.inr (⟨rfl, by omega⟩)⟩ htb hlocks hx hb hown hml hl.1 (by decide) (hts (.classLink RX2 55 "java/lang/IllegalStateException") (List.mem_of_getElem? (i := 3) rfl)) (hts (.initialized "java/lang/IllegalStateException") (List.mem_of_getElem? (i := 4) rfl)) hatIS xb_IS hV.1.2.2.2.2.1 xg_IS hE hV (List.mem_of_getElem? (i := 11) rfl) hK hP hD hS dX2_addOperation_49 dX2_addOperation_52 dX2_addOperation_53 dX2_addOperation_55 dX2_addOperation_58 (Nat.le_of_ble_eq_true rfl) (Nat.le_of_ble_eq_true rfl) (Nat.le_of_ble_eq_true rfl) (Nat.le_of_ble_eq_true rfl) (Nat.le_of_ble_eq_true rfl) (Nat.le_of_ble_eq_true rfl)
      · exact x_throw (w := (wX a g L att T hs tm tk lt)) (cls := nIA) (text := "busy is not 1 to 4") (ik := 29) (is := 49) (ic := 33) hl0 hQ ⟨rfl, Or.inl (⟨rfl, by omega⟩)⟩ htb hlocks hx hb hown hml hl.1 (by decide) (hts (.classLink RX2 29 "java/lang/IllegalArgumentException") (List.mem_of_getElem? (i := 1) rfl)) (hts (.initialized "java/lang/IllegalArgumentException") (List.mem_of_getElem? (i := 2) rfl)) hatIA xb_IA hV.1.2.2.2.1 xg_IA hE hV (List.mem_of_getElem? (i := 9) rfl) hK hP hD hS dX2_addOperation_27 dX2_addOperation_30 dX2_addOperation_31 dX2_addOperation_33 dX2_addOperation_36 (Nat.le_of_ble_eq_true rfl) (Nat.le_of_ble_eq_true rfl) (Nat.le_of_ble_eq_true rfl) (Nat.le_of_ble_eq_true rfl) (Nat.le_of_ble_eq_true rfl) (Nat.le_of_ble_eq_true rfl)
  · have d_4 := of_decide_eq_false (bI_f c_4)
    have c9 := of_decide_eq_false (bI_f c_4)
    exact x_throw (w := (wX a g L att T hs tm tk lt)) (cls := nIA) (text := "kind is not 0 to 2") (ik := 29) (is := 47) (ic := 33) hl0 hQ ⟨rfl, Or.inl (⟨rfl, by omega⟩)⟩ htb hlocks hx hb hown hml hl.1 (by decide) (hts (.classLink RX2 29 "java/lang/IllegalArgumentException") (List.mem_of_getElem? (i := 1) rfl)) (hts (.initialized "java/lang/IllegalArgumentException") (List.mem_of_getElem? (i := 2) rfl)) hatIA xb_IA hV.1.2.2.2.1 xg_IA hE hV (List.mem_of_getElem? (i := 0) rfl) hK hP hD hS dX2_addOperation_7 dX2_addOperation_10 dX2_addOperation_11 dX2_addOperation_13 dX2_addOperation_16 (Nat.le_of_ble_eq_true rfl) (Nat.le_of_ble_eq_true rfl) (Nat.le_of_ble_eq_true rfl) (Nat.le_of_ble_eq_true rfl) (Nat.le_of_ble_eq_true rfl) (Nat.le_of_ble_eq_true rfl)
set_option maxHeartbeats 4000000 in
set_option maxRecDepth 100000 in
theorem c_X2_addDependence (l : Launch) (hl0 : l.stackTraces = false) (D : va_G) (g : Nat → ClassId) (a : Nat → Nat) (L : LD) (att T : Nat) (hs tm : Nat → Int) (tk : Nat → Nat → Int) (lt : Nat → Int) (i u dl di : Int) (hw : wf L) (hri : -2147483648 ≤ i ∧ i < 2147483648) (hru : -2147483648 ≤ u ∧ u < 2147483648) (hrdl : -2147483648 ≤ dl ∧ dl < 2147483648) (hrdi : -2147483648 ≤ di ∧ di < 2147483648) : xMi l D (zT g) yX2_addDependence wsX2_addDependence 7 103 4 (wX a g L att T hs tm tk lt) [.ref (a 0), .int (iI (i)), .int (iI (u)), .int (iI (dl)), .int (iI (di))] (fun r w1 => (((0 ≤ i ∧ i < (Ln L : Int)) ∧ (0 ≤ u ∧ u < (Ln L : Int))) ∧ ((0 ≤ dl ∧ dl ≤ 12) ∧ (0 ≤ di ∧ di ≤ 3)) ∧ Lm L < 40) ∧ r = iI ((Lm L : Nat) : Int) ∧ w1 = wX a g (Ln L, Lm L + 1, Lu L, Lkd L, Lby L, upN (Lsr L) (Lm L) i.toNat, upN (Lds L) (Lm L) u.toNat, upN (Ldl L) (Lm L) dl.toNat, upN (Ldi L) (Lm L) di.toNat) att 0 hs tm tk lt) (fun E w9 => w9 = wX a g L att T hs tm tk lt ∧ ((E = nIX ∧ ¬ ((0 ≤ i ∧ i < (Ln L : Int)) ∧ (0 ≤ u ∧ u < (Ln L : Int)))) ∨ (E = nIA ∧ ((0 ≤ i ∧ i < (Ln L : Int)) ∧ (0 ≤ u ∧ u < (Ln L : Int))) ∧ ¬ ((0 ≤ dl ∧ dl ≤ 12) ∧ (0 ≤ di ∧ di ≤ 3))) ∨ (E = nIS ∧ ((0 ≤ i ∧ i < (Ln L : Int)) ∧ (0 ≤ u ∧ u < (Ln L : Int))) ∧ ((0 ≤ dl ∧ dl ≤ 12) ∧ (0 ≤ di ∧ di ≤ 3)) ∧ 40 ≤ Lm L))) := by
  refine x_ofI (cc := cX2_addDependence) (maxL := 5) (ret := (some .int)) (by decide) rfl (Nat.le_of_ble_eq_true rfl) ?_
  intro p e s m args below meth c A ls hx hb hr hts hown hlocks hml hP hK hD hS hA hl hE hV htb Q hQ
  have hown : s.vm.findClass RX2 = some m.cls := hown
  have hinX0 : ∀ w ∈ u_ws RX0 TX0 10, w ∈ wsX2_addDependence := by decide +kernel
  have hinX1 : ∀ w ∈ u_ws RX1 TX1 5, w ∈ wsX2_addDependence := by decide +kernel
  have hinX2 : ∀ w ∈ u_ws RX2 TX2 3, w ∈ wsX2_addDependence := by decide +kernel
  have hatIA : ∀ w ∈ (vx_atS RX2 33 nIA nms).filter goodWord, w.before args s = true := fun w h => hts w (List.mem_cons_of_mem _ (List.mem_append_left _ (List.mem_append_left _ (List.mem_append_right _ h))))
  have hatIS : ∀ w ∈ (vx_atS RX2 59 nIS nms).filter goodWord, w.before args s = true := fun w h => hts w (List.mem_cons_of_mem _ (List.mem_append_left _ (List.mem_append_right _ h)))
  have hl : lv_has ls 5 [(0, .ref (a 0)), (1, .int (iI (i))), (2, .int (iI (u))), (3, .int (iI (dl))), (4, .int (iI (di)))] := hl
  have hwn := wf_n hw
  have hwm := wf_m hw
  refine lv_aload_n hx hb dX2_addDependence_0 rfl (lv_at hl 0 rfl) ?_
  refine lv_iload_n hx hb dX2_addDependence_1 rfl (lv_at hl 1 rfl) ?_
  refine x_callv hQ (fun E u q => ⟨q.1, Or.inl (⟨q.2.1, by have q9 := q.2.2; omega⟩)⟩) htb hlocks (Nat.le_of_ble_eq_true rfl) (Nat.le_of_ble_eq_true rfl) (vx_runV (As := [.int (iI (i))]) (rest := []) ⟨hx, hb, hml, hown, hts⟩ (c_X2_requireOperation l hl0 D g a L att T hs tm tk lt i hw (by omega) _) (cwV 1 hts gX2_addDependence_X2_requireOperation rfl rfl rfl (by decide +kernel) ⟨Nat.le_of_ble_eq_true rfl, Nat.le_of_ble_eq_true rfl⟩) (x_preV 0 hK hP hD hS hA hE hV rfl rfl) rfl rfl hl.1 rfl (lv_room (Nat.le_of_ble_eq_true rfl)) dX2_addDependence_2 ⟨Nat.le_of_ble_eq_true rfl, Nat.le_of_ble_eq_true rfl⟩) hS hD hA (fun w1 H locs hw1 hP hD hS => ?_)
  obtain ⟨hq0, rfl⟩ := hw1
  refine lv_aload_n hx hb dX2_addDependence_5 rfl (lv_at hl 0 rfl) ?_
  refine lv_iload_n hx hb dX2_addDependence_6 rfl (lv_at hl 2 rfl) ?_
  refine x_callv hQ (fun E u q => ⟨q.1, Or.inl (⟨q.2.1, by have q9 := q.2.2; omega⟩)⟩) htb hlocks (Nat.le_of_ble_eq_true rfl) (Nat.le_of_ble_eq_true rfl) (vx_runV (As := [.int (iI (u))]) (rest := []) ⟨hx, hb, hml, hown, hts⟩ (c_X2_requireOperation l hl0 D g a L att T hs tm tk lt u hw (by omega) _) (cwV 1 hts gX2_addDependence_X2_requireOperation rfl rfl rfl (by decide +kernel) ⟨Nat.le_of_ble_eq_true rfl, Nat.le_of_ble_eq_true rfl⟩) (x_preV 0 hK hP hD hS hA hE hV rfl rfl) rfl rfl hl.1 rfl (lv_room (Nat.le_of_ble_eq_true rfl)) dX2_addDependence_7 ⟨Nat.le_of_ble_eq_true rfl, Nat.le_of_ble_eq_true rfl⟩) hS hD hA (fun w1 H locs hw1 hP hD hS => ?_)
  obtain ⟨hq1, rfl⟩ := hw1
  refine lv_iload_n hx hb dX2_addDependence_10 rfl (lv_at hl 3 rfl) ?_
  refine x_callv hQ (fun E u q => ⟨q.1, Or.inr (Or.inl (⟨q.2.1, by have q9 := q.2.2; omega⟩))⟩) htb hlocks (Nat.le_of_ble_eq_true rfl) (Nat.le_of_ble_eq_true rfl) (vx_runS (As := [.int (iI (dl))]) (rest := []) ⟨hx, hb, hml, hown, hts⟩ (c_X2_requireDelay l hl0 D g a L att T hs tm tk lt dl (by omega) _) (va_cwS 1 hts gX2_addDependence_X2_requireDelay rfl rfl rfl (by decide +kernel) ⟨Nat.le_of_ble_eq_true rfl, Nat.le_of_ble_eq_true rfl⟩) (x_preS hK hP hD hS hA hE hV) rfl rfl hl.1 rfl (lv_room (Nat.le_of_ble_eq_true rfl)) dX2_addDependence_11 ⟨Nat.le_of_ble_eq_true rfl, Nat.le_of_ble_eq_true rfl⟩) hS hD hA (fun w1 H locs hw1 hP hD hS => ?_)
  obtain ⟨hq2, rfl⟩ := hw1
  refine lv_iload hx hb dX2_addDependence_14 (lv_at hl 4 rfl) ?_
  refine z_iflt (a := di) (tgt := 25) hx hb dX2_addDependence_16 (by decide) (by omega) (fun c_16 => ?_) (fun c_16 => ?_)
  · exact x_throw (w := (wX a g L att T hs tm tk lt)) (cls := nIA) (text := "distance is not 0 to 3") (ik := 29) (is := 70) (ic := 33) hl0 hQ ⟨rfl, Or.inr (Or.inl (⟨rfl, by omega⟩))⟩ htb hlocks hx hb hown hml hl.1 (by decide) (hts (.classLink RX2 29 "java/lang/IllegalArgumentException") (List.mem_of_getElem? (i := 1) rfl)) (hts (.initialized "java/lang/IllegalArgumentException") (List.mem_of_getElem? (i := 2) rfl)) hatIA xb_IA hV.1.2.2.2.1 xg_IA hE hV (List.mem_of_getElem? (i := 8) rfl) hK hP hD hS dX2_addDependence_25 dX2_addDependence_28 dX2_addDependence_29 dX2_addDependence_31 dX2_addDependence_34 (Nat.le_of_ble_eq_true rfl) (Nat.le_of_ble_eq_true rfl) (Nat.le_of_ble_eq_true rfl) (Nat.le_of_ble_eq_true rfl) (Nat.le_of_ble_eq_true rfl) (Nat.le_of_ble_eq_true rfl)
  · refine lv_iload hx hb dX2_addDependence_19 (lv_at hl 4 rfl) ?_
    refine z_ic hx hb dX2_addDependence_21 ?_
    refine z_icle (a := di) (b := 3) (tgt := 35) hx hb dX2_addDependence_22 (by decide) (by omega) (fun c_22 => ?_) (fun c_22 => ?_)
    · refine lv_aload_n hx hb dX2_addDependence_35 rfl (lv_at hl 0 rfl) ?_
      refine va_get (D := D) (ci := 2) (v := .ref (a 1)) (C := RX2) (T := TX2) (N := 3) hx hb hts hinX2 hown hK hP 0 rfl rfl 0 (by decide) (hts (.fieldLink RX2 10 "LoopScheduler" "loop" "LLoopScheduler$Loop;") (List.mem_of_getElem? (i := 5) rfl)) (fun _ h9 => h9) rfl dX2_addDependence_36 ?_
      refine va_get (D := D) (ci := 0) (v := .int (iI ((Lm L : Nat) : Int))) (C := RX0) (T := TX0) (N := 10) hx hb hts hinX0 hown hK hP 1 rfl rfl 9 (by decide) (hts (.fieldLink RX2 72 "LoopScheduler$Loop" "dependences" "I") (List.mem_of_getElem? (i := 6) rfl)) (fun _ h9 => h9) rfl dX2_addDependence_39 ?_
      refine z_bip hx hb dX2_addDependence_42 (by decide) ?_
      refine z_iclt (a := ((Lm L : Nat) : Int)) (b := 40) (tgt := 57) hx hb dX2_addDependence_44 (by decide) (by omega) (fun c_44 => ?_) (fun c_44 => ?_)
      · obtain ⟨j, rfl⟩ : ∃ j : Nat, i = (j : Int) := ⟨i.toNat, by omega⟩
        obtain ⟨v, rfl⟩ : ∃ v : Nat, u = (v : Int) := ⟨u.toNat, by omega⟩
        obtain ⟨x, rfl⟩ : ∃ x : Nat, dl = (x : Int) := ⟨dl.toNat, by omega⟩
        obtain ⟨y, rfl⟩ : ∃ y : Nat, di = (y : Int) := ⟨di.toNat, by omega⟩
        refine lv_aload_n hx hb dX2_addDependence_57 rfl (lv_at hl 0 rfl) ?_
        refine va_get (D := D) (ci := 2) (v := .ref (a 2)) (C := RX2) (T := TX2) (N := 3) hx hb hts hinX2 hown hK hP 0 rfl rfl 1 (by decide) (hts (.fieldLink RX2 21 "LoopScheduler" "table" "LLoopScheduler$Timetable;") (List.mem_of_getElem? (i := 7) rfl)) (fun _ h9 => h9) rfl dX2_addDependence_58 ?_
        refine z_callv (va_runV (As := []) (rest := []) ⟨hx, hb, hml, hown, hts⟩ (c_X1_drop l D g a L att T hs tm tk lt _) (cwV 0 hts gX2_addDependence_X1_drop rfl rfl rfl (by decide +kernel) ⟨Nat.le_of_ble_eq_true rfl, Nat.le_of_ble_eq_true rfl⟩) (z_preV 2 hK hP hD rfl rfl) rfl rfl hl.1 rfl (lv_room (Nat.le_of_ble_eq_true rfl)) dX2_addDependence_61 ⟨Nat.le_of_ble_eq_true rfl, Nat.le_of_ble_eq_true rfl⟩) hS hD hA (fun w1 H locs hw1 hP hD hS => ?_)
        subst hw1
        refine lv_aload_n hx hb dX2_addDependence_64 rfl (lv_at hl 0 rfl) ?_
        refine va_get (D := D) (ci := 2) (v := .ref (a 1)) (C := RX2) (T := TX2) (N := 3) hx hb hts hinX2 hown hK hP 0 rfl rfl 0 (by decide) (hts (.fieldLink RX2 10 "LoopScheduler" "loop" "LLoopScheduler$Loop;") (List.mem_of_getElem? (i := 5) rfl)) (fun _ h9 => h9) rfl dX2_addDependence_65 ?_
        refine lv_iload_n hx hb dX2_addDependence_68 rfl (lv_at hl 1 rfl) ?_
        refine lv_iload_n hx hb dX2_addDependence_69 rfl (lv_at hl 2 rfl) ?_
        refine lv_iload_n hx hb dX2_addDependence_70 rfl (lv_at hl 3 rfl) ?_
        refine lv_iload hx hb dX2_addDependence_71 (lv_at hl 4 rfl) ?_
        refine z_calli (va_runV (As := [.int (iI ((j : Nat) : Int)), .int (iI ((v : Nat) : Int)), .int (iI ((x : Nat) : Int)), .int (iI ((y : Nat) : Int))]) (rest := []) ⟨hx, hb, hml, hown, hts⟩ (c_X0_appendDependence l D g a L att 0 hs tm tk lt j v x y (by omega) _) (cwV 4 hts gX2_addDependence_X0_appendDependence rfl rfl rfl (by decide +kernel) ⟨Nat.le_of_ble_eq_true rfl, Nat.le_of_ble_eq_true rfl⟩) (z_preV 1 hK hP hD rfl rfl) rfl rfl hl.1 rfl (lv_room (Nat.le_of_ble_eq_true rfl)) dX2_addDependence_73 ⟨Nat.le_of_ble_eq_true rfl, Nat.le_of_ble_eq_true rfl⟩) hS hD hA (fun r w1 H locs hw1 hP hD hS => ?_)
        obtain ⟨rfl, rfl⟩ := hw1
        exact x_iret (w := (wX a g (Ln L, Lm L + 1, Lu L, Lkd L, Lby L, upN (Lsr L) (Lm L) j, upN (Lds L) (Lm L) v, upN (Ldl L) (Lm L) x, upN (Ldi L) (Lm L) y) att 0 hs tm tk lt)) (v := (iI ((Lm L : Nat) : Int))) hQ hx hb hr hlocks ⟨by omega, rfl, rfl⟩ hK hP hD hS (Nat.le_of_ble_eq_true rfl) (Nat.le_of_ble_eq_true rfl) dX2_addDependence_76
      · exact x_throw (w := (wX a g L att T hs tm tk lt)) (cls := nIS) (text := "there are 40 dependences") (ik := 55) (is := 75) (ic := 59) hl0 hQ ⟨rfl, Or.inr (Or.inr (⟨rfl, by omega⟩))⟩ htb hlocks hx hb hown hml hl.1 (by decide) (hts (.classLink RX2 55 "java/lang/IllegalStateException") (List.mem_of_getElem? (i := 3) rfl)) (hts (.initialized "java/lang/IllegalStateException") (List.mem_of_getElem? (i := 4) rfl)) hatIS xb_IS hV.1.2.2.2.2.1 xg_IS hE hV (List.mem_of_getElem? (i := 10) rfl) hK hP hD hS dX2_addDependence_47 dX2_addDependence_50 dX2_addDependence_51 dX2_addDependence_53 dX2_addDependence_56 (Nat.le_of_ble_eq_true rfl) (Nat.le_of_ble_eq_true rfl) (Nat.le_of_ble_eq_true rfl) (Nat.le_of_ble_eq_true rfl) (Nat.le_of_ble_eq_true rfl) (Nat.le_of_ble_eq_true rfl)
    · exact x_throw (w := (wX a g L att T hs tm tk lt)) (cls := nIA) (text := "distance is not 0 to 3") (ik := 29) (is := 70) (ic := 33) hl0 hQ ⟨rfl, Or.inr (Or.inl (⟨rfl, by omega⟩))⟩ htb hlocks hx hb hown hml hl.1 (by decide) (hts (.classLink RX2 29 "java/lang/IllegalArgumentException") (List.mem_of_getElem? (i := 1) rfl)) (hts (.initialized "java/lang/IllegalArgumentException") (List.mem_of_getElem? (i := 2) rfl)) hatIA xb_IA hV.1.2.2.2.1 xg_IA hE hV (List.mem_of_getElem? (i := 8) rfl) hK hP hD hS dX2_addDependence_25 dX2_addDependence_28 dX2_addDependence_29 dX2_addDependence_31 dX2_addDependence_34 (Nat.le_of_ble_eq_true rfl) (Nat.le_of_ble_eq_true rfl) (Nat.le_of_ble_eq_true rfl) (Nat.le_of_ble_eq_true rfl) (Nat.le_of_ble_eq_true rfl) (Nat.le_of_ble_eq_true rfl)
set_option maxHeartbeats 4000000 in
set_option maxRecDepth 100000 in
theorem c_X2_schedule (l : Launch) (hl0 : l.stackTraces = false) (D : va_G) (g : Nat → ClassId) (a : Nat → Nat) (L : LD) (att T : Nat) (hs tm : Nat → Int) (tk : Nat → Nat → Int) (lt : Nat → Int) (gr : Int) (hw : wf L) (hrgr : -2147483648 ≤ gr ∧ gr < 2147483648) : xMi l D (zT g) yX2_schedule wsX2_schedule 6 106 1 (wX a g L att T hs tm tk lt) [.ref (a 0), .int (iI (gr))] (fun r w1 => (1 ≤ gr ∧ gr ≤ 200) ∧ ∃ hs' tm' tk' att' T', w1 = wX a g L att' T' hs' tm' tk' lt ∧ ((rBz L = -1 ∧ r = iI (-1) ∧ att' = 0 ∧ T' = 0) ∨ (rBz L ≠ -1 ∧ att' = (sch L (lst L) (gr.toNat + 1 - lst L)).2 ∧ (((sch L (lst L) (gr.toNat + 1 - lst L)).1 = none ∧ r = iI (-1) ∧ T' = 0) ∨ ((sch L (lst L) (gr.toNat + 1 - lst L)).1 = some (T', tm', tk') ∧ r = iI (T' : Int)))))) (fun E w9 => w9 = wX a g L att T hs tm tk lt ∧ ((E = nIA ∧ ¬ (1 ≤ gr ∧ gr ≤ 200)))) := by
  refine x_ofI (cc := cX2_schedule) (maxL := 5) (ret := (some .int)) (by decide) rfl (Nat.le_of_ble_eq_true rfl) ?_
  intro p e s m args below meth c A ls hx hb hr hts hown hlocks hml hP hK hD hS hA hl hE hV htb Q hQ
  have hown : s.vm.findClass RX2 = some m.cls := hown
  have hinX0 : ∀ w ∈ u_ws RX0 TX0 10, w ∈ wsX2_schedule := by decide +kernel
  have hinX1 : ∀ w ∈ u_ws RX1 TX1 5, w ∈ wsX2_schedule := by decide +kernel
  have hinX2 : ∀ w ∈ u_ws RX2 TX2 3, w ∈ wsX2_schedule := by decide +kernel
  have hatIA : ∀ w ∈ (vx_atS RX2 33 nIA nms).filter goodWord, w.before args s = true := fun w h => hts w (List.mem_cons_of_mem _ (List.mem_append_right _ h))
  have hl : lv_has ls 5 [(0, .ref (a 0)), (1, .int (iI (gr)))] := hl
  have hrb := rBz_bd L
  have hsb := rsk_bd hw 3
  have hsp := rsk_pos L 3
  have hlst : lst L = max (rBz L).toNat (rs L) := rfl
  have hrs : rs L = rsk L 3 := rfl
  refine lv_iload_n hx hb dX2_schedule_0 rfl (lv_at hl 1 rfl) ?_
  refine z_ic hx hb dX2_schedule_1 ?_
  refine z_iclt (a := gr) (b := 1) (tgt := 12) hx hb dX2_schedule_2 (by decide) (by omega) (fun c_2 => ?_) (fun c_2 => ?_)
  · exact x_throw (w := (wX a g L att T hs tm tk lt)) (cls := nIA) (text := "greatest is not 1 to 200") (ik := 29) (is := 104) (ic := 33) hl0 hQ ⟨rfl, rfl, by omega⟩ htb hlocks hx hb hown hml hl.1 (by decide) (hts (.classLink RX2 29 "java/lang/IllegalArgumentException") (List.mem_of_getElem? (i := 1) rfl)) (hts (.initialized "java/lang/IllegalArgumentException") (List.mem_of_getElem? (i := 2) rfl)) hatIA xb_IA hV.1.2.2.2.1 xg_IA hE hV (List.mem_of_getElem? (i := 3) rfl) hK hP hD hS dX2_schedule_12 dX2_schedule_15 dX2_schedule_16 dX2_schedule_18 dX2_schedule_21 (Nat.le_of_ble_eq_true rfl) (Nat.le_of_ble_eq_true rfl) (Nat.le_of_ble_eq_true rfl) (Nat.le_of_ble_eq_true rfl) (Nat.le_of_ble_eq_true rfl) (Nat.le_of_ble_eq_true rfl)
  · refine lv_iload_n hx hb dX2_schedule_5 rfl (lv_at hl 1 rfl) ?_
    refine z_sip hx hb dX2_schedule_6 (by decide) ?_
    refine z_icle (a := gr) (b := 200) (tgt := 22) hx hb dX2_schedule_9 (by decide) (by omega) (fun c_9 => ?_) (fun c_9 => ?_)
    · obtain ⟨v, rfl⟩ : ∃ v : Nat, gr = (v : Int) := ⟨gr.toNat, by omega⟩
      refine lv_aload_n hx hb dX2_schedule_22 rfl (lv_at hl 0 rfl) ?_
      refine va_get (D := D) (ci := 2) (v := .ref (a 2)) (C := RX2) (T := TX2) (N := 3) hx hb hts hinX2 hown hK hP 0 rfl rfl 1 (by decide) (hts (.fieldLink RX2 21 "LoopScheduler" "table" "LLoopScheduler$Timetable;") (List.mem_of_getElem? (i := 3) rfl)) (fun _ h9 => h9) rfl dX2_schedule_23 ?_
      refine z_callv (va_runV (As := []) (rest := []) ⟨hx, hb, hml, hown, hts⟩ (c_X1_drop l D g a L att T hs tm tk lt _) (cwV 0 hts gX2_schedule_X1_drop rfl rfl rfl (by decide +kernel) ⟨Nat.le_of_ble_eq_true rfl, Nat.le_of_ble_eq_true rfl⟩) (z_preV 2 hK hP hD rfl rfl) rfl rfl hl.1 rfl (lv_room (Nat.le_of_ble_eq_true rfl)) dX2_schedule_26 ⟨Nat.le_of_ble_eq_true rfl, Nat.le_of_ble_eq_true rfl⟩) hS hD hA (fun w1 H locs hw1 hP hD hS => ?_)
      subst hw1
      refine lv_aload_n hx hb dX2_schedule_29 rfl (lv_at hl 0 rfl) ?_
      refine z_ic hx hb dX2_schedule_30 ?_
      refine va_put (D := D) (ci := 2) (v := .int (iI ((0 : Nat) : Int))) (ty := .int) (C := RX2) (T := TX2) (N := 3) hx hb hts hinX2 tyX2 tyX2_ok nmX2 hown hK hP hD hS 0 rfl rfl 2 (by decide) (hts (.fieldLink RX2 106 "LoopScheduler" "attemptCount" "I") (List.mem_of_getElem? (i := 4) rfl)) (fun _ h9 => h9) rfl (by decide +kernel) rfl rfl (Nat.le_of_ble_eq_true rfl) dX2_schedule_31 (fun H locs hP hD hS => ?_)
      have hP : va_P D vwCl (wX a g L 0 0 hs tm tk lt) H := hP
      have hD : va_D A (wX a g L 0 0 hs tm tk lt) := hD
      refine lv_aload_n hx hb dX2_schedule_34 rfl (lv_at hl 0 rfl) ?_
      refine va_get (D := D) (ci := 2) (v := .ref (a 1)) (C := RX2) (T := TX2) (N := 3) hx hb hts hinX2 hown hK hP 0 rfl rfl 0 (by decide) (hts (.fieldLink RX2 10 "LoopScheduler" "loop" "LLoopScheduler$Loop;") (List.mem_of_getElem? (i := 5) rfl)) (fun _ h9 => h9) rfl dX2_schedule_35 ?_
      refine z_calli (va_runV (As := []) (rest := []) ⟨hx, hb, hml, hown, hts⟩ (c_X0_leastIntervalOfRecurrences l D g a L 0 0 hs tm tk lt hw _) (cwV 0 hts gX2_schedule_X0_leastIntervalOfRecurrences rfl rfl rfl (by decide +kernel) ⟨Nat.le_of_ble_eq_true rfl, Nat.le_of_ble_eq_true rfl⟩) (z_preV 1 hK hP hD rfl rfl) rfl rfl hl.1 rfl (lv_room (Nat.le_of_ble_eq_true rfl)) dX2_schedule_38 ⟨Nat.le_of_ble_eq_true rfl, Nat.le_of_ble_eq_true rfl⟩) hS hD hA (fun r w1 H locs hw1 hP hD hS => ?_)
      obtain ⟨rfl, h', rfl⟩ := hw1
      refine lv_istore_n (lv' := [(2, .int (iI (rBz L))), (0, .ref (a 0)), (1, .int (iI ((v : Nat) : Int)))]) hx hb dX2_schedule_41 rfl hl (by decide) rfl (fun ls hl => ?_)
      refine lv_iload_n hx hb dX2_schedule_42 rfl (lv_at hl 0 rfl) ?_
      refine z_ic hx hb dX2_schedule_43 ?_
      refine z_icne (a := (rBz L)) (b := (-1)) (tgt := 49) hx hb dX2_schedule_44 (by decide) (by omega) (fun c_44 => ?_) (fun c_44 => ?_)
      · refine lv_iload_n hx hb dX2_schedule_49 rfl (lv_at hl 0 rfl) ?_
        refine lv_aload_n hx hb dX2_schedule_50 rfl (lv_at hl 1 rfl) ?_
        refine va_get (D := D) (ci := 2) (v := .ref (a 1)) (C := RX2) (T := TX2) (N := 3) hx hb hts hinX2 hown hK hP 0 rfl rfl 0 (by decide) (hts (.fieldLink RX2 10 "LoopScheduler" "loop" "LLoopScheduler$Loop;") (List.mem_of_getElem? (i := 5) rfl)) (fun _ h9 => h9) rfl dX2_schedule_51 ?_
        refine z_calli (va_runV (As := []) (rest := [.int (iI (rBz L))]) ⟨hx, hb, hml, hown, hts⟩ (c_X0_leastIntervalOfResources l D g a L 0 0 h' tm tk lt hw _) (cwV 0 hts gX2_schedule_X0_leastIntervalOfResources rfl rfl rfl (by decide +kernel) ⟨Nat.le_of_ble_eq_true rfl, Nat.le_of_ble_eq_true rfl⟩) (z_preV 1 hK hP hD rfl rfl) rfl rfl hl.1 rfl (lv_room (Nat.le_of_ble_eq_true rfl)) dX2_schedule_54 ⟨Nat.le_of_ble_eq_true rfl, Nat.le_of_ble_eq_true rfl⟩) hS hD hA (fun r w1 H locs hw1 hP hD hS => ?_)
        obtain ⟨rfl, rfl⟩ := hw1
        refine z_mmax (a := (rBz L)) (b := ((rs L : Nat) : Int)) hx hb hml hl.1 hown (hts (.methodLink RX2 109 Lib.Math.max.name) (List.mem_of_getElem? (i := 6) rfl)) (hts (.static Lib.Math.max.name) (List.mem_of_getElem? (i := 7) rfl)) (hts (.initialized "java/lang/Math") (List.mem_of_getElem? (i := 8) rfl)) (hts (.code Lib.Math.max.name Lib.Math.max.code 2 (some .int)) (List.mem_of_getElem? (i := 9) rfl)) (Nat.le_of_ble_eq_true rfl) (Nat.le_of_ble_eq_true rfl) (Nat.le_of_ble_eq_true rfl) (Nat.le_of_ble_eq_true rfl) (by omega) dX2_schedule_57 ?_
        refine z_eqI (y := iI ((lst L : Nat) : Int)) (congrArg iI (by rw [hlst]; omega)) ?_
        refine lv_istore_n (lv' := [(3, .int (iI ((lst L : Nat) : Int))), (2, .int (iI (rBz L))), (0, .ref (a 0)), (1, .int (iI ((v : Nat) : Int)))]) hx hb dX2_schedule_60 rfl hl (by decide) rfl (fun ls hl => ?_)
        refine lv_iload_n hx hb dX2_schedule_61 rfl (lv_at hl 0 rfl) ?_
        refine lv_istore (lv' := [(4, .int (iI ((lst L : Nat) : Int))), (3, .int (iI ((lst L : Nat) : Int))), (2, .int (iI (rBz L))), (0, .ref (a 0)), (1, .int (iI ((v : Nat) : Int)))]) hx hb dX2_schedule_62 hl (by decide) rfl (fun ls hl => ?_)
        have loop64 : ∀ (n64 : Nat) (t : Nat) (q : Nat) (T' : Nat) (hs' : Nat → Int) (tm' : Nat → Int) (tk' : Nat → Nat → Int) (H : Heap) (locs : List Loc) (ls : Array Slot), v + 1 - t < n64 → (1 ≤ t ∧ t ≤ 255) → (T' = 0) → (q ≤ t) → (q + (sch L t (v + 1 - t)).2 = (sch L (lst L) (v + 1 - lst L)).2 ∧ (sch L t (v + 1 - t)).1 = (sch L (lst L) (v + 1 - lst L)).1) → va_P D vwCl (wX a g L q T' hs' tm' tk' lt) H → va_D A (wX a g L q T' hs' tm' tk' lt) → va_S A s.heap H locs → lv_has ls 5 [(0, .ref (a 0)), (1, .int (iI ((v : Nat) : Int))), (4, .int (iI ((t : Nat) : Int)))] → W p l e ({ frames := 6, cells := 1, slots := 6 * 1, locals := 106 } : Room) s m args below meth c H locs 0 0 Q (F0 m 64 ls []) := by
          intro n64
          induction n64 with
          | zero => exact fun _ _ _ _ _ _ H locs ls hn => absurd hn (Nat.not_lt_zero _)
          | succ n64 ih64 =>
            intro t q T' hs' tm' tk' H locs ls hn64 ht1 hT0 hq hsc hP hD hS hl
            refine lv_iload hx hb dX2_schedule_64 (lv_at hl 2 rfl) ?_
            refine lv_iload_n hx hb dX2_schedule_66 rfl (lv_at hl 1 rfl) ?_
            refine z_icgt (a := ((t : Nat) : Int)) (b := ((v : Nat) : Int)) (tgt := 101) hx hb dX2_schedule_67 (by decide) (by omega) (fun c_67 => ?_) (fun c_67 => ?_)
            · have hz : v + 1 - t = 0 := by omega
              rw [hz] at hsc
              refine z_ic hx hb dX2_schedule_101 ?_
              exact x_iret (w := (wX a g L q T' hs' tm' tk' lt)) (v := (iI (-1))) hQ hx hb hr hlocks ⟨by omega, _, _, _, _, _, rfl, Or.inr ⟨c_44, (Nat.add_zero q).symm.trans hsc.1, Or.inl ⟨hsc.2.symm, rfl, hT0⟩⟩⟩ hK hP hD hS (Nat.le_of_ble_eq_true rfl) (Nat.le_of_ble_eq_true rfl) dX2_schedule_102
            · refine lv_aload_n hx hb dX2_schedule_70 rfl (lv_at hl 0 rfl) ?_
              refine lv_dup hx hb dX2_schedule_71 rfl ?_
              refine va_get (D := D) (ci := 2) (v := .int (iI ((q : Nat) : Int))) (C := RX2) (T := TX2) (N := 3) hx hb hts hinX2 hown hK hP 0 rfl rfl 2 (by decide) (hts (.fieldLink RX2 106 "LoopScheduler" "attemptCount" "I") (List.mem_of_getElem? (i := 4) rfl)) (fun _ h9 => h9) rfl dX2_schedule_72 ?_
              refine z_ic hx hb dX2_schedule_75 ?_
              refine z_add (a := ((q : Nat) : Int)) (b := 1) hx hb dX2_schedule_76 ?_
              refine z_eqI (y := iI ((q + 1 : Nat) : Int)) (congrArg iI (by omega)) ?_
              refine va_put (D := D) (ci := 2) (v := .int (iI ((q + 1 : Nat) : Int))) (ty := .int) (C := RX2) (T := TX2) (N := 3) hx hb hts hinX2 tyX2 tyX2_ok nmX2 hown hK hP hD hS 0 rfl rfl 2 (by decide) (hts (.fieldLink RX2 106 "LoopScheduler" "attemptCount" "I") (List.mem_of_getElem? (i := 4) rfl)) (fun _ h9 => h9) rfl (by decide +kernel) rfl rfl (Nat.le_of_ble_eq_true rfl) dX2_schedule_77 (fun H locs hP hD hS => ?_)
              have hP : va_P D vwCl (wX a g L (q + 1) T' hs' tm' tk' lt) H := hP
              have hD : va_D A (wX a g L (q + 1) T' hs' tm' tk' lt) := hD
              refine lv_aload_n hx hb dX2_schedule_80 rfl (lv_at hl 0 rfl) ?_
              refine va_get (D := D) (ci := 2) (v := .ref (a 2)) (C := RX2) (T := TX2) (N := 3) hx hb hts hinX2 hown hK hP 0 rfl rfl 1 (by decide) (hts (.fieldLink RX2 21 "LoopScheduler" "table" "LLoopScheduler$Timetable;") (List.mem_of_getElem? (i := 3) rfl)) (fun _ h9 => h9) rfl dX2_schedule_81 ?_
              refine lv_iload hx hb dX2_schedule_84 (lv_at hl 2 rfl) ?_
              refine z_calli (va_runV (As := [.int (iI ((t : Nat) : Int))]) (rest := []) ⟨hx, hb, hml, hown, hts⟩ (c_X1_attempt l D g a L (q + 1) T' hs' tm' tk' lt t hw (by omega) _) (cwV 1 hts gX2_schedule_X1_attempt rfl rfl rfl (by decide +kernel) ⟨Nat.le_of_ble_eq_true rfl, Nat.le_of_ble_eq_true rfl⟩) (z_preV 2 hK hP hD rfl rfl) rfl rfl hl.1 rfl (lv_room (Nat.le_of_ble_eq_true rfl)) dX2_schedule_86 ⟨Nat.le_of_ble_eq_true rfl, Nat.le_of_ble_eq_true rfl⟩) hS hD hA (fun r w1 H locs hw1 hP hD hS => ?_)
              obtain ⟨b2, T2, tm2, tk2, hr2, hat, rfl⟩ : ∃ (b2 : Bool) (T2 : Nat) (tm2 : Nat → Int) (tk2 : Nat → Nat → Int), r = iI (bI b2) ∧ ((b2 = true ∧ atp L t (Ln L) = some (tm2, tk2) ∧ T2 = t) ∨ (b2 = false ∧ atp L t (Ln L) = none ∧ T2 = 0)) ∧ w1 = wX a g L (q + 1) T2 (hF L t) tm2 tk2 lt := by
                rcases hw1 with ⟨h1, x2, x3, h4, h5⟩ | ⟨h1, h4, x2, x3, h5⟩
                · exact ⟨true, t, x2, x3, h1, Or.inl ⟨rfl, h4, rfl⟩, h5⟩
                · exact ⟨false, 0, x2, x3, h1, Or.inr ⟨rfl, h4, rfl⟩, h5⟩
              subst hr2
              refine z_ifeq (a := (bI b2)) (tgt := 95) hx hb dX2_schedule_89 (by decide) (bI_r _) (fun c_89 => ?_) (fun c_89 => ?_)
              · have b_89 := bI_f c_89
                refine z_iinc (a := ((t : Nat) : Int)) (b := ((t + 1 : Nat) : Int)) (lv' := [(4, .int (iI ((t + 1 : Nat) : Int))), (0, .ref (a 0)), (1, .int (iI ((v : Nat) : Int)))]) hx hb 2 dX2_schedule_95 hl rfl rfl (by decide) rfl (fun ls hl => ?_)
                refine lv_goto (tgt := 64) hx hb dX2_schedule_98 (by decide) ?_
                have hno : b2 = false := bI_f c_89
                have hat2 : atp L t (Ln L) = none ∧ T2 = 0 := by rcases hat with h | h; rw [hno] at h; exact absurd h.1 (by decide); exact h.2
                have hstep : v + 1 - t = (v + 1 - (t + 1)) + 1 := by omega
                rw [hstep, sch_n hat2.1] at hsc
                exact ih64 (t + 1) (q + 1) T2 (hF L t) tm2 tk2 _ _ _ (by omega) (by omega) hat2.2 (by omega) (by have h1 := hsc.1; have h2 := hsc.2; exact ⟨by dsimp only at h1; omega, h2⟩) hP hD hS (lv_sub hl [1, 2, 0] rfl)
              · have b_89 := bI_t c_89
                have hyes : b2 = true := bI_t c_89
                have hat2 : atp L t (Ln L) = some (tm2, tk2) ∧ T2 = t := by rcases hat with h | h; exact h.2; rw [hyes] at h; exact absurd h.1 (by decide)
                have hstep : v + 1 - t = (v + 1 - (t + 1)) + 1 := by omega
                rw [hstep, sch_s hat2.1] at hsc
                have hT2 : t = T2 := hat2.2.symm
                subst hT2
                refine lv_iload hx hb dX2_schedule_92 (lv_at hl 2 rfl) ?_
                exact x_iret (w := (wX a g L (q + 1) t (hF L t) tm2 tk2 lt)) (v := (iI ((t : Nat) : Int))) hQ hx hb hr hlocks ⟨by omega, _, _, _, _, _, rfl, Or.inr ⟨c_44, hsc.1, Or.inr ⟨hsc.2.symm, rfl⟩⟩⟩ hK hP hD hS (Nat.le_of_ble_eq_true rfl) (Nat.le_of_ble_eq_true rfl) dX2_schedule_94
        exact loop64 ((v + 1 - (lst L)) + 1) (lst L) 0 0 h' tm tk _ _ _ (Nat.lt_succ_self _) (by omega) rfl (by omega) ⟨Nat.zero_add _, rfl⟩ hP hD hS (lv_sub hl [3, 4, 0] rfl)
      · refine z_ic hx hb dX2_schedule_47 ?_
        exact x_iret (w := (wX a g L 0 0 h' tm tk lt)) (v := (iI (-1))) hQ hx hb hr hlocks ⟨by omega, _, _, _, _, _, rfl, Or.inl ⟨c_44, rfl, rfl, rfl⟩⟩ hK hP hD hS (Nat.le_of_ble_eq_true rfl) (Nat.le_of_ble_eq_true rfl) dX2_schedule_48
    · exact x_throw (w := (wX a g L att T hs tm tk lt)) (cls := nIA) (text := "greatest is not 1 to 200") (ik := 29) (is := 104) (ic := 33) hl0 hQ ⟨rfl, rfl, by omega⟩ htb hlocks hx hb hown hml hl.1 (by decide) (hts (.classLink RX2 29 "java/lang/IllegalArgumentException") (List.mem_of_getElem? (i := 1) rfl)) (hts (.initialized "java/lang/IllegalArgumentException") (List.mem_of_getElem? (i := 2) rfl)) hatIA xb_IA hV.1.2.2.2.1 xg_IA hE hV (List.mem_of_getElem? (i := 3) rfl) hK hP hD hS dX2_schedule_12 dX2_schedule_15 dX2_schedule_16 dX2_schedule_18 dX2_schedule_21 (Nat.le_of_ble_eq_true rfl) (Nat.le_of_ble_eq_true rfl) (Nat.le_of_ble_eq_true rfl) (Nat.le_of_ble_eq_true rfl) (Nat.le_of_ble_eq_true rfl) (Nat.le_of_ble_eq_true rfl)

set_option maxHeartbeats 4000000 in
set_option maxRecDepth 100000 in
theorem c_X2_time (l : Launch) (hl0 : l.stackTraces = false) (D : va_G) (g : Nat → ClassId) (a : Nat → Nat) (L : LD) (att T : Nat) (hs tm : Nat → Int) (tk : Nat → Nat → Int) (lt : Nat → Int) (i : Int) (hw : wf L) (hok : okX L T tm tk) (hri : -2147483648 ≤ i ∧ i < 2147483648) : xMi l D (zT g) yX2_time wsX2_time 7 103 2 (wX a g L att T hs tm tk lt) [.ref (a 0), .int (iI (i))] (fun r w1 => ((0 ≤ i ∧ i < (Ln L : Int)) ∧ 0 < T) ∧ r = iI (tm i.toNat) ∧ w1 = wX a g L att T hs tm tk lt) (fun E w9 => w9 = wX a g L att T hs tm tk lt ∧ ((E = nIX ∧ ¬ (0 ≤ i ∧ i < (Ln L : Int))) ∨ (E = nIS ∧ (0 ≤ i ∧ i < (Ln L : Int)) ∧ T = 0))) := by
  refine x_ofI (cc := cX2_time) (maxL := 2) (ret := (some .int)) (by decide) rfl (Nat.le_of_ble_eq_true rfl) ?_
  intro p e s m args below meth c A ls hx hb hr hts hown hlocks hml hP hK hD hS hA hl hE hV htb Q hQ
  have hown : s.vm.findClass RX2 = some m.cls := hown
  have hinX0 : ∀ w ∈ u_ws RX0 TX0 10, w ∈ wsX2_time := by decide +kernel
  have hinX1 : ∀ w ∈ u_ws RX1 TX1 5, w ∈ wsX2_time := by decide +kernel
  have hinX2 : ∀ w ∈ u_ws RX2 TX2 3, w ∈ wsX2_time := by decide +kernel
  have hl : lv_has ls 2 [(0, .ref (a 0)), (1, .int (iI (i)))] := hl
  have hwn := wf_n hw
  refine lv_aload_n hx hb dX2_time_0 rfl (lv_at hl 0 rfl) ?_
  refine lv_iload_n hx hb dX2_time_1 rfl (lv_at hl 1 rfl) ?_
  refine x_callv hQ (fun E u q => ⟨q.1, Or.inl (⟨q.2.1, by have q9 := q.2.2; omega⟩)⟩) htb hlocks (Nat.le_of_ble_eq_true rfl) (Nat.le_of_ble_eq_true rfl) (vx_runV (As := [.int (iI (i))]) (rest := []) ⟨hx, hb, hml, hown, hts⟩ (c_X2_requireOperation l hl0 D g a L att T hs tm tk lt i hw (by omega) _) (cwV 1 hts gX2_time_X2_requireOperation rfl rfl rfl (by decide +kernel) ⟨Nat.le_of_ble_eq_true rfl, Nat.le_of_ble_eq_true rfl⟩) (x_preV 0 hK hP hD hS hA hE hV rfl rfl) rfl rfl hl.1 rfl (lv_room (Nat.le_of_ble_eq_true rfl)) dX2_time_2 ⟨Nat.le_of_ble_eq_true rfl, Nat.le_of_ble_eq_true rfl⟩) hS hD hA (fun w1 H locs hw1 hP hD hS => ?_)
  obtain ⟨hq0, rfl⟩ := hw1
  refine lv_aload_n hx hb dX2_time_5 rfl (lv_at hl 0 rfl) ?_
  refine x_callv hQ (fun E u q => ⟨q.1, Or.inr (⟨q.2.1, by have q9 := q.2.2; omega⟩)⟩) htb hlocks (Nat.le_of_ble_eq_true rfl) (Nat.le_of_ble_eq_true rfl) (vx_runV (As := []) (rest := []) ⟨hx, hb, hml, hown, hts⟩ (c_X2_requireSchedule l hl0 D g a L att T hs tm tk lt  hok.1 _) (cwV 0 hts gX2_time_X2_requireSchedule rfl rfl rfl (by decide +kernel) ⟨Nat.le_of_ble_eq_true rfl, Nat.le_of_ble_eq_true rfl⟩) (x_preV 0 hK hP hD hS hA hE hV rfl rfl) rfl rfl hl.1 rfl (lv_room (Nat.le_of_ble_eq_true rfl)) dX2_time_6 ⟨Nat.le_of_ble_eq_true rfl, Nat.le_of_ble_eq_true rfl⟩) hS hD hA (fun w1 H locs hw1 hP hD hS => ?_)
  obtain ⟨hq1, rfl⟩ := hw1
  obtain ⟨j, rfl⟩ : ∃ j : Nat, i = (j : Int) := ⟨i.toNat, by omega⟩
  have hTT : 0 < T ∧ T ≤ 200 := ⟨by omega, hok.1⟩
  have hbt := (hok.2 hTT.1).1
  have hbk := (hok.2 hTT.1).2.1
  have hb0 := (hok.2 hTT.1).2.2
  have hB1 : (0 : Int) ≤ 1000000 ∧ (1000000 : Int) ≤ 1000000 := by decide
  have hj0 := hb0 j (by omega)
  have hbtj := hbt j
  refine lv_aload_n hx hb dX2_time_9 rfl (lv_at hl 0 rfl) ?_
  refine va_get (D := D) (ci := 2) (v := .ref (a 2)) (C := RX2) (T := TX2) (N := 3) hx hb hts hinX2 hown hK hP 0 rfl rfl 1 (by decide) (hts (.fieldLink RX2 21 "LoopScheduler" "table" "LLoopScheduler$Timetable;") (List.mem_of_getElem? (i := 1) rfl)) (fun _ h9 => h9) rfl dX2_time_10 ?_
  refine va_get (D := D) (ci := 1) (v := .ref (a 11)) (C := RX1) (T := TX1) (N := 5) hx hb hts hinX1 hown hK hP 2 rfl rfl 1 (by decide) (hts (.fieldLink RX2 123 "LoopScheduler$Timetable" "times" "[I") (List.mem_of_getElem? (i := 2) rfl)) (fun _ h9 => h9) rfl dX2_time_13 ?_
  refine lv_iload_n hx hb dX2_time_16 rfl (lv_at hl 1 rfl) ?_
  refine z_ialdN (f := tm) (z := j) hx hb hK hP 11 0 rfl rfl (by omega) (by decide) dX2_time_17 ?_
  exact x_iret (w := (wX a g L att T hs tm tk lt)) (v := (iI (tm j))) hQ hx hb hr hlocks ⟨by omega, rfl, rfl⟩ hK hP hD hS (Nat.le_of_ble_eq_true rfl) (Nat.le_of_ble_eq_true rfl) dX2_time_18
set_option maxHeartbeats 4000000 in
set_option maxRecDepth 100000 in
theorem c_X2_move (l : Launch) (hl0 : l.stackTraces = false) (D : va_G) (g : Nat → ClassId) (a : Nat → Nat) (L : LD) (att T : Nat) (hs tm : Nat → Int) (tk : Nat → Nat → Int) (lt : Nat → Int) (i u : Int) (hw : wf L) (hok : okX L T tm tk) (hri : -2147483648 ≤ i ∧ i < 2147483648) (hru : -2147483648 ≤ u ∧ u < 2147483648) : xMi l D (zT g) yX2_move wsX2_move 7 103 3 (wX a g L att T hs tm tk lt) [.ref (a 0), .int (iI (i)), .int (iI (u))] (fun r w1 => ((0 ≤ i ∧ i < (Ln L : Int)) ∧ (0 ≤ u ∧ u ≤ 1000) ∧ 0 < T) ∧ r = iI (bI (vR L T (lTm tm i.toNat) (lTk L T tk i.toNat (tm i.toNat).toNat) i.toNat u.toNat)) ∧ w1 = wX a g L att T hs (upZ (lTm tm i.toNat) i.toNat ((rT L T tm tk i.toNat u.toNat (tm i.toNat).toNat : Nat) : Int)) (pTk L T (lTk L T tk i.toNat (tm i.toNat).toNat) i.toNat (rT L T tm tk i.toNat u.toNat (tm i.toNat).toNat)) lt) (fun E w9 => w9 = wX a g L att T hs tm tk lt ∧ ((E = nIX ∧ ¬ (0 ≤ i ∧ i < (Ln L : Int))) ∨ (E = nIA ∧ (0 ≤ i ∧ i < (Ln L : Int)) ∧ ¬ (0 ≤ u ∧ u ≤ 1000)) ∨ (E = nIS ∧ (0 ≤ i ∧ i < (Ln L : Int)) ∧ (0 ≤ u ∧ u ≤ 1000) ∧ T = 0))) := by
  refine x_ofI (cc := cX2_move) (maxL := 3) (ret := (some .boolean)) (by decide) rfl (Nat.le_of_ble_eq_true rfl) ?_
  intro p e s m args below meth c A ls hx hb hr hts hown hlocks hml hP hK hD hS hA hl hE hV htb Q hQ
  have hown : s.vm.findClass RX2 = some m.cls := hown
  have hinX0 : ∀ w ∈ u_ws RX0 TX0 10, w ∈ wsX2_move := by decide +kernel
  have hinX1 : ∀ w ∈ u_ws RX1 TX1 5, w ∈ wsX2_move := by decide +kernel
  have hinX2 : ∀ w ∈ u_ws RX2 TX2 3, w ∈ wsX2_move := by decide +kernel
  have hatIA : ∀ w ∈ (vx_atS RX2 33 nIA nms).filter goodWord, w.before args s = true := fun w h => hts w (List.mem_cons_of_mem _ (List.mem_append_left _ (List.mem_append_left _ (List.mem_append_right _ h))))
  have hl : lv_has ls 3 [(0, .ref (a 0)), (1, .int (iI (i))), (2, .int (iI (u)))] := hl
  have hwn := wf_n hw
  refine lv_aload_n hx hb dX2_move_0 rfl (lv_at hl 0 rfl) ?_
  refine lv_iload_n hx hb dX2_move_1 rfl (lv_at hl 1 rfl) ?_
  refine x_callv hQ (fun E u q => ⟨q.1, Or.inl (⟨q.2.1, by have q9 := q.2.2; omega⟩)⟩) htb hlocks (Nat.le_of_ble_eq_true rfl) (Nat.le_of_ble_eq_true rfl) (vx_runV (As := [.int (iI (i))]) (rest := []) ⟨hx, hb, hml, hown, hts⟩ (c_X2_requireOperation l hl0 D g a L att T hs tm tk lt i hw (by omega) _) (cwV 1 hts gX2_move_X2_requireOperation rfl rfl rfl (by decide +kernel) ⟨Nat.le_of_ble_eq_true rfl, Nat.le_of_ble_eq_true rfl⟩) (x_preV 0 hK hP hD hS hA hE hV rfl rfl) rfl rfl hl.1 rfl (lv_room (Nat.le_of_ble_eq_true rfl)) dX2_move_2 ⟨Nat.le_of_ble_eq_true rfl, Nat.le_of_ble_eq_true rfl⟩) hS hD hA (fun w1 H locs hw1 hP hD hS => ?_)
  obtain ⟨hq0, rfl⟩ := hw1
  refine lv_iload_n hx hb dX2_move_5 rfl (lv_at hl 2 rfl) ?_
  refine z_iflt (a := u) (tgt := 16) hx hb dX2_move_6 (by decide) (by omega) (fun c_6 => ?_) (fun c_6 => ?_)
  · exact x_throw (w := (wX a g L att T hs tm tk lt)) (cls := nIA) (text := "time is not 0 to 1000") (ik := 29) (is := 126) (ic := 33) hl0 hQ ⟨rfl, Or.inr (Or.inl (⟨rfl, by omega⟩))⟩ htb hlocks hx hb hown hml hl.1 (by decide) (hts (.classLink RX2 29 "java/lang/IllegalArgumentException") (List.mem_of_getElem? (i := 1) rfl)) (hts (.initialized "java/lang/IllegalArgumentException") (List.mem_of_getElem? (i := 2) rfl)) hatIA xb_IA hV.1.2.2.2.1 xg_IA hE hV (List.mem_of_getElem? (i := 7) rfl) hK hP hD hS dX2_move_16 dX2_move_19 dX2_move_20 dX2_move_22 dX2_move_25 (Nat.le_of_ble_eq_true rfl) (Nat.le_of_ble_eq_true rfl) (Nat.le_of_ble_eq_true rfl) (Nat.le_of_ble_eq_true rfl) (Nat.le_of_ble_eq_true rfl) (Nat.le_of_ble_eq_true rfl)
  · refine lv_iload_n hx hb dX2_move_9 rfl (lv_at hl 2 rfl) ?_
    refine z_sip hx hb dX2_move_10 (by decide) ?_
    refine z_icle (a := u) (b := 1000) (tgt := 26) hx hb dX2_move_13 (by decide) (by omega) (fun c_13 => ?_) (fun c_13 => ?_)
    · refine lv_aload_n hx hb dX2_move_26 rfl (lv_at hl 0 rfl) ?_
      refine x_callv hQ (fun E u q => ⟨q.1, Or.inr (Or.inr (⟨q.2.1, by have q9 := q.2.2; omega⟩))⟩) htb hlocks (Nat.le_of_ble_eq_true rfl) (Nat.le_of_ble_eq_true rfl) (vx_runV (As := []) (rest := []) ⟨hx, hb, hml, hown, hts⟩ (c_X2_requireSchedule l hl0 D g a L att T hs tm tk lt  hok.1 _) (cwV 0 hts gX2_move_X2_requireSchedule rfl rfl rfl (by decide +kernel) ⟨Nat.le_of_ble_eq_true rfl, Nat.le_of_ble_eq_true rfl⟩) (x_preV 0 hK hP hD hS hA hE hV rfl rfl) rfl rfl hl.1 rfl (lv_room (Nat.le_of_ble_eq_true rfl)) dX2_move_27 ⟨Nat.le_of_ble_eq_true rfl, Nat.le_of_ble_eq_true rfl⟩) hS hD hA (fun w1 H locs hw1 hP hD hS => ?_)
      obtain ⟨hq2, rfl⟩ := hw1
      obtain ⟨j, rfl⟩ : ∃ j : Nat, i = (j : Int) := ⟨i.toNat, by omega⟩
      obtain ⟨v, rfl⟩ : ∃ v : Nat, u = (v : Int) := ⟨u.toNat, by omega⟩
      have hTT : 0 < T ∧ T ≤ 200 := ⟨by omega, hok.1⟩
      have hbt := (hok.2 hTT.1).1
      have hbk := (hok.2 hTT.1).2.1
      have hb0 := (hok.2 hTT.1).2.2
      have hB1 : (0 : Int) ≤ 1000000 ∧ (1000000 : Int) ≤ 1000000 := by decide
      have hj0 := hb0 j (by omega)
      have h0 : tm j = (((tm j).toNat : Nat) : Int) := by omega
      obtain ⟨t0, ht0⟩ : ∃ t0 : Nat, t0 = (tm j).toNat := ⟨_, rfl⟩
      rw [← ht0] at h0
      refine lv_aload_n hx hb dX2_move_30 rfl (lv_at hl 0 rfl) ?_
      refine va_get (D := D) (ci := 2) (v := .ref (a 2)) (C := RX2) (T := TX2) (N := 3) hx hb hts hinX2 hown hK hP 0 rfl rfl 1 (by decide) (hts (.fieldLink RX2 21 "LoopScheduler" "table" "LLoopScheduler$Timetable;") (List.mem_of_getElem? (i := 3) rfl)) (fun _ h9 => h9) rfl dX2_move_31 ?_
      refine lv_iload_n hx hb dX2_move_34 rfl (lv_at hl 1 rfl) ?_
      refine lv_iload_n hx hb dX2_move_35 rfl (lv_at hl 2 rfl) ?_
      refine z_calli (va_runV (As := [.int (iI ((j : Nat) : Int)), .int (iI ((v : Nat) : Int))]) (rest := []) ⟨hx, hb, hml, hown, hts⟩ (c_X1_replace l D g a L att T hs tm tk lt 1000000 1000 j v t0 hw hTT hB1 hbt (by omega) hbk (by omega) (by omega) h0 _) (cwV 2 hts gX2_move_X1_replace rfl rfl rfl (by decide +kernel) ⟨Nat.le_of_ble_eq_true rfl, Nat.le_of_ble_eq_true rfl⟩) (z_preV 2 hK hP hD rfl rfl) rfl rfl hl.1 rfl (lv_room (Nat.le_of_ble_eq_true rfl)) dX2_move_36 ⟨Nat.le_of_ble_eq_true rfl, Nat.le_of_ble_eq_true rfl⟩) hS hD hA (fun r w1 H locs hw1 hP hD hS => ?_)
      obtain ⟨rfl, rfl⟩ := hw1
      exact x_zret (w := (wX a g L att T hs (upZ (lTm tm j) j ((rT L T tm tk j v t0 : Nat) : Int)) (pTk L T (lTk L T tk j t0) j (rT L T tm tk j v t0)) lt)) (v := (iI (bI (vR L T (lTm tm j) (lTk L T tk j t0) j v)))) (z_nb _) hQ hx hb hr hlocks ⟨by omega, by rw [ht0]; rfl, by rw [ht0]; rfl⟩ hK hP hD hS (Nat.le_of_ble_eq_true rfl) (Nat.le_of_ble_eq_true rfl) dX2_move_39
    · exact x_throw (w := (wX a g L att T hs tm tk lt)) (cls := nIA) (text := "time is not 0 to 1000") (ik := 29) (is := 126) (ic := 33) hl0 hQ ⟨rfl, Or.inr (Or.inl (⟨rfl, by omega⟩))⟩ htb hlocks hx hb hown hml hl.1 (by decide) (hts (.classLink RX2 29 "java/lang/IllegalArgumentException") (List.mem_of_getElem? (i := 1) rfl)) (hts (.initialized "java/lang/IllegalArgumentException") (List.mem_of_getElem? (i := 2) rfl)) hatIA xb_IA hV.1.2.2.2.1 xg_IA hE hV (List.mem_of_getElem? (i := 7) rfl) hK hP hD hS dX2_move_16 dX2_move_19 dX2_move_20 dX2_move_22 dX2_move_25 (Nat.le_of_ble_eq_true rfl) (Nat.le_of_ble_eq_true rfl) (Nat.le_of_ble_eq_true rfl) (Nat.le_of_ble_eq_true rfl) (Nat.le_of_ble_eq_true rfl) (Nat.le_of_ble_eq_true rfl)
set_option maxHeartbeats 4000000 in
set_option maxRecDepth 100000 in
theorem c_X2_stages (l : Launch) (hl0 : l.stackTraces = false) (D : va_G) (g : Nat → ClassId) (a : Nat → Nat) (L : LD) (att T : Nat) (hs tm : Nat → Int) (tk : Nat → Nat → Int) (lt : Nat → Int)  (hw : wf L) (hok : okX L T tm tk) : xMi l D (zT g) yX2_stages wsX2_stages 7 102 1 (wX a g L att T hs tm tk lt) [.ref (a 0)] (fun r w1 => (0 < T) ∧ r = iI (sG L T tm) ∧ w1 = wX a g L att T hs tm tk lt) (fun E w9 => w9 = wX a g L att T hs tm tk lt ∧ ((E = nIS ∧ ¬ (0 < T)))) := by
  refine x_ofI (cc := cX2_stages) (maxL := 1) (ret := (some .int)) (by decide) rfl (Nat.le_of_ble_eq_true rfl) ?_
  intro p e s m args below meth c A ls hx hb hr hts hown hlocks hml hP hK hD hS hA hl hE hV htb Q hQ
  have hown : s.vm.findClass RX2 = some m.cls := hown
  have hinX0 : ∀ w ∈ u_ws RX0 TX0 10, w ∈ wsX2_stages := by decide +kernel
  have hinX1 : ∀ w ∈ u_ws RX1 TX1 5, w ∈ wsX2_stages := by decide +kernel
  have hinX2 : ∀ w ∈ u_ws RX2 TX2 3, w ∈ wsX2_stages := by decide +kernel
  have hl : lv_has ls 1 [(0, .ref (a 0))] := hl
  refine lv_aload_n hx hb dX2_stages_0 rfl (lv_at hl 0 rfl) ?_
  refine x_callv hQ (fun E u q => ⟨q.1, ⟨q.2.1, by have q9 := q.2.2; omega⟩⟩) htb hlocks (Nat.le_of_ble_eq_true rfl) (Nat.le_of_ble_eq_true rfl) (vx_runV (As := []) (rest := []) ⟨hx, hb, hml, hown, hts⟩ (c_X2_requireSchedule l hl0 D g a L att T hs tm tk lt  hok.1 _) (cwV 0 hts gX2_stages_X2_requireSchedule rfl rfl rfl (by decide +kernel) ⟨Nat.le_of_ble_eq_true rfl, Nat.le_of_ble_eq_true rfl⟩) (x_preV 0 hK hP hD hS hA hE hV rfl rfl) rfl rfl hl.1 rfl (lv_room (Nat.le_of_ble_eq_true rfl)) dX2_stages_1 ⟨Nat.le_of_ble_eq_true rfl, Nat.le_of_ble_eq_true rfl⟩) hS hD hA (fun w1 H locs hw1 hP hD hS => ?_)
  obtain ⟨hq0, rfl⟩ := hw1
  have hTT : 0 < T ∧ T ≤ 200 := ⟨by omega, hok.1⟩
  have hbt := (hok.2 hTT.1).1
  have hbk := (hok.2 hTT.1).2.1
  have hb0 := (hok.2 hTT.1).2.2
  have hB1 : (0 : Int) ≤ 1000000 ∧ (1000000 : Int) ≤ 1000000 := by decide
  refine lv_aload_n hx hb dX2_stages_4 rfl (lv_at hl 0 rfl) ?_
  refine va_get (D := D) (ci := 2) (v := .ref (a 2)) (C := RX2) (T := TX2) (N := 3) hx hb hts hinX2 hown hK hP 0 rfl rfl 1 (by decide) (hts (.fieldLink RX2 21 "LoopScheduler" "table" "LLoopScheduler$Timetable;") (List.mem_of_getElem? (i := 1) rfl)) (fun _ h9 => h9) rfl dX2_stages_5 ?_
  refine z_calli (va_runV (As := []) (rest := []) ⟨hx, hb, hml, hown, hts⟩ (c_X1_countStages l D g a L att T hs tm tk lt 1000000 hw hTT hB1 hbt _) (cwV 0 hts gX2_stages_X1_countStages rfl rfl rfl (by decide +kernel) ⟨Nat.le_of_ble_eq_true rfl, Nat.le_of_ble_eq_true rfl⟩) (z_preV 2 hK hP hD rfl rfl) rfl rfl hl.1 rfl (lv_room (Nat.le_of_ble_eq_true rfl)) dX2_stages_8 ⟨Nat.le_of_ble_eq_true rfl, Nat.le_of_ble_eq_true rfl⟩) hS hD hA (fun r w1 H locs hw1 hP hD hS => ?_)
  obtain ⟨rfl, rfl⟩ := hw1
  exact x_iret (w := (wX a g L att T hs tm tk lt)) (v := (iI (sG L T tm))) hQ hx hb hr hlocks ⟨by omega, rfl, rfl⟩ hK hP hD hS (Nat.le_of_ble_eq_true rfl) (Nat.le_of_ble_eq_true rfl) dX2_stages_11
set_option maxHeartbeats 4000000 in
set_option maxRecDepth 100000 in
theorem c_X2_cycles (l : Launch) (hl0 : l.stackTraces = false) (D : va_G) (g : Nat → ClassId) (a : Nat → Nat) (L : LD) (att T : Nat) (hs tm : Nat → Int) (tk : Nat → Nat → Int) (lt : Nat → Int) (i : Int) (hw : wf L) (hok : okX L T tm tk) (hri : -2147483648 ≤ i ∧ i < 2147483648) : xMi l D (zT g) yX2_cycles wsX2_cycles 7 102 2 (wX a g L att T hs tm tk lt) [.ref (a 0), .int (iI (i))] (fun r w1 => (0 < T ∧ (1 ≤ i ∧ i ≤ 1000)) ∧ r = iI (if Ln L = 0 then 0 else gT tm (Ln L) + (i - 1) * (T : Int) + 1) ∧ w1 = wX a g L att T hs tm tk lt) (fun E w9 => w9 = wX a g L att T hs tm tk lt ∧ ((E = nIS ∧ ¬ (0 < T)) ∨ (E = nIA ∧ 0 < T ∧ ¬ (1 ≤ i ∧ i ≤ 1000)))) := by
  refine x_ofI (cc := cX2_cycles) (maxL := 2) (ret := (some .int)) (by decide) rfl (Nat.le_of_ble_eq_true rfl) ?_
  intro p e s m args below meth c A ls hx hb hr hts hown hlocks hml hP hK hD hS hA hl hE hV htb Q hQ
  have hown : s.vm.findClass RX2 = some m.cls := hown
  have hinX0 : ∀ w ∈ u_ws RX0 TX0 10, w ∈ wsX2_cycles := by decide +kernel
  have hinX1 : ∀ w ∈ u_ws RX1 TX1 5, w ∈ wsX2_cycles := by decide +kernel
  have hinX2 : ∀ w ∈ u_ws RX2 TX2 3, w ∈ wsX2_cycles := by decide +kernel
  have hl : lv_has ls 2 [(0, .ref (a 0)), (1, .int (iI (i)))] := hl
  refine lv_aload_n hx hb dX2_cycles_0 rfl (lv_at hl 0 rfl) ?_
  refine x_callv hQ (fun E u q => ⟨q.1, Or.inl (⟨q.2.1, by have q9 := q.2.2; omega⟩)⟩) htb hlocks (Nat.le_of_ble_eq_true rfl) (Nat.le_of_ble_eq_true rfl) (vx_runV (As := []) (rest := []) ⟨hx, hb, hml, hown, hts⟩ (c_X2_requireSchedule l hl0 D g a L att T hs tm tk lt  hok.1 _) (cwV 0 hts gX2_cycles_X2_requireSchedule rfl rfl rfl (by decide +kernel) ⟨Nat.le_of_ble_eq_true rfl, Nat.le_of_ble_eq_true rfl⟩) (x_preV 0 hK hP hD hS hA hE hV rfl rfl) rfl rfl hl.1 rfl (lv_room (Nat.le_of_ble_eq_true rfl)) dX2_cycles_1 ⟨Nat.le_of_ble_eq_true rfl, Nat.le_of_ble_eq_true rfl⟩) hS hD hA (fun w1 H locs hw1 hP hD hS => ?_)
  obtain ⟨hq0, rfl⟩ := hw1
  refine lv_iload_n hx hb dX2_cycles_4 rfl (lv_at hl 1 rfl) ?_
  refine x_callv hQ (fun E u q => ⟨q.1, Or.inr (⟨q.2.1, by have q9 := q.2.2; omega⟩)⟩) htb hlocks (Nat.le_of_ble_eq_true rfl) (Nat.le_of_ble_eq_true rfl) (vx_runS (As := [.int (iI (i))]) (rest := []) ⟨hx, hb, hml, hown, hts⟩ (c_X2_requireIterations l hl0 D g a L att T hs tm tk lt i (by omega) _) (va_cwS 1 hts gX2_cycles_X2_requireIterations rfl rfl rfl (by decide +kernel) ⟨Nat.le_of_ble_eq_true rfl, Nat.le_of_ble_eq_true rfl⟩) (x_preS hK hP hD hS hA hE hV) rfl rfl hl.1 rfl (lv_room (Nat.le_of_ble_eq_true rfl)) dX2_cycles_5 ⟨Nat.le_of_ble_eq_true rfl, Nat.le_of_ble_eq_true rfl⟩) hS hD hA (fun w1 H locs hw1 hP hD hS => ?_)
  obtain ⟨hq1, rfl⟩ := hw1
  have hTT : 0 < T ∧ T ≤ 200 := ⟨by omega, hok.1⟩
  have hbt := (hok.2 hTT.1).1
  have hbk := (hok.2 hTT.1).2.1
  have hb0 := (hok.2 hTT.1).2.2
  have hB1 : (0 : Int) ≤ 1000000 ∧ (1000000 : Int) ≤ 1000000 := by decide
  have hwn := wf_n hw
  refine lv_aload_n hx hb dX2_cycles_8 rfl (lv_at hl 0 rfl) ?_
  refine va_get (D := D) (ci := 2) (v := .ref (a 1)) (C := RX2) (T := TX2) (N := 3) hx hb hts hinX2 hown hK hP 0 rfl rfl 0 (by decide) (hts (.fieldLink RX2 10 "LoopScheduler" "loop" "LLoopScheduler$Loop;") (List.mem_of_getElem? (i := 1) rfl)) (fun _ h9 => h9) rfl dX2_cycles_9 ?_
  refine va_get (D := D) (ci := 0) (v := .int (iI ((Ln L : Nat) : Int))) (C := RX0) (T := TX0) (N := 10) hx hb hts hinX0 hown hK hP 1 rfl rfl 8 (by decide) (hts (.fieldLink RX2 51 "LoopScheduler$Loop" "operations" "I") (List.mem_of_getElem? (i := 2) rfl)) (fun _ h9 => h9) rfl dX2_cycles_12 ?_
  refine z_ifne (a := ((Ln L : Nat) : Int)) (tgt := 20) hx hb dX2_cycles_15 (by decide) (by omega) (fun c_15 => ?_) (fun c_15 => ?_)
  · refine lv_aload_n hx hb dX2_cycles_20 rfl (lv_at hl 0 rfl) ?_
    refine va_get (D := D) (ci := 2) (v := .ref (a 2)) (C := RX2) (T := TX2) (N := 3) hx hb hts hinX2 hown hK hP 0 rfl rfl 1 (by decide) (hts (.fieldLink RX2 21 "LoopScheduler" "table" "LLoopScheduler$Timetable;") (List.mem_of_getElem? (i := 3) rfl)) (fun _ h9 => h9) rfl dX2_cycles_21 ?_
    refine z_calli (va_runV (As := []) (rest := []) ⟨hx, hb, hml, hown, hts⟩ (c_X1_greatestTime l D g a L att T hs tm tk lt 1000000 hw hB1 hbt _) (cwV 0 hts gX2_cycles_X1_greatestTime rfl rfl rfl (by decide +kernel) ⟨Nat.le_of_ble_eq_true rfl, Nat.le_of_ble_eq_true rfl⟩) (z_preV 2 hK hP hD rfl rfl) rfl rfl hl.1 rfl (lv_room (Nat.le_of_ble_eq_true rfl)) dX2_cycles_24 ⟨Nat.le_of_ble_eq_true rfl, Nat.le_of_ble_eq_true rfl⟩) hS hD hA (fun r w1 H locs hw1 hP hD hS => ?_)
    obtain ⟨rfl, rfl⟩ := hw1
    refine lv_iload_n hx hb dX2_cycles_27 rfl (lv_at hl 1 rfl) ?_
    refine z_ic hx hb dX2_cycles_28 ?_
    refine z_sub (a := i) (b := 1) hx hb dX2_cycles_29 ?_
    refine lv_aload_n hx hb dX2_cycles_30 rfl (lv_at hl 0 rfl) ?_
    refine va_get (D := D) (ci := 2) (v := .ref (a 2)) (C := RX2) (T := TX2) (N := 3) hx hb hts hinX2 hown hK hP 0 rfl rfl 1 (by decide) (hts (.fieldLink RX2 21 "LoopScheduler" "table" "LLoopScheduler$Timetable;") (List.mem_of_getElem? (i := 3) rfl)) (fun _ h9 => h9) rfl dX2_cycles_31 ?_
    refine va_get (D := D) (ci := 1) (v := .int (iI ((T : Nat) : Int))) (C := RX1) (T := TX1) (N := 5) hx hb hts hinX1 hown hK hP 2 rfl rfl 4 (by decide) (hts (.fieldLink RX2 117 "LoopScheduler$Timetable" "interval" "I") (List.mem_of_getElem? (i := 4) rfl)) (fun _ h9 => h9) rfl dX2_cycles_34 ?_
    refine z_mul (a := (i - 1)) (b := ((T : Nat) : Int)) hx hb dX2_cycles_37 ?_
    refine z_add (a := (gT tm (Ln L))) (b := ((i - 1) * ((T : Nat) : Int))) hx hb dX2_cycles_38 ?_
    refine z_ic hx hb dX2_cycles_39 ?_
    refine z_add (a := ((gT tm (Ln L)) + ((i - 1) * ((T : Nat) : Int)))) (b := 1) hx hb dX2_cycles_40 ?_
    exact x_iret (w := (wX a g L att T hs tm tk lt)) (v := (iI (((gT tm (Ln L)) + ((i - 1) * ((T : Nat) : Int))) + 1))) hQ hx hb hr hlocks ⟨by omega, by rw [if_neg (show ¬ Ln L = 0 by omega)], rfl⟩ hK hP hD hS (Nat.le_of_ble_eq_true rfl) (Nat.le_of_ble_eq_true rfl) dX2_cycles_41
  · refine z_ic hx hb dX2_cycles_18 ?_
    exact x_iret (w := (wX a g L att T hs tm tk lt)) (v := (iI ((0 : Nat) : Int))) hQ hx hb hr hlocks ⟨by omega, by rw [if_pos (show Ln L = 0 by omega)]; rfl, rfl⟩ hK hP hD hS (Nat.le_of_ble_eq_true rfl) (Nat.le_of_ble_eq_true rfl) dX2_cycles_19
set_option maxHeartbeats 4000000 in
set_option maxRecDepth 100000 in
theorem c_X2_isIssued (l : Launch) (D : va_G) (g : Nat → ClassId) (a : Nat → Nat) (L : LD) (att T : Nat) (hs tm : Nat → Int) (tk : Nat → Nat → Int) (lt : Nat → Int) (i n y : Nat) (hTT : 0 < T ∧ T ≤ 200) (hi : i < 14) (hn : n ≤ 1000) (hy : y < 2147483648) (ht0 : 0 ≤ tm i ∧ tm i ≤ 1000000) : zMi l D (zT g) yX2_isIssued wsX2_isIssued 1 12 (wX a g L att T hs tm tk lt) [.ref (a 0), .int (iI ((i : Nat) : Int)), .int (iI ((n : Nat) : Int)), .int (iI ((y : Nat) : Int))] (fun r w1 => r = iI (bI (iss T tm n y i)) ∧ w1 = wX a g L att T hs tm tk lt) := by
  refine z_ofI (cc := cX2_isIssued) (maxL := 5) (ret := (some .boolean)) (by decide) rfl (Nat.le_of_ble_eq_true rfl) ?_
  intro p e s m args below meth c A ls hx hb hr hts hown hlocks hml hP hK hD hS hA hl Q hQ
  have hown : s.vm.findClass RX2 = some m.cls := hown
  have hinX1 : ∀ w ∈ u_ws RX1 TX1 5, w ∈ wsX2_isIssued := by decide +kernel
  have hinX2 : ∀ w ∈ u_ws RX2 TX2 3, w ∈ wsX2_isIssued := by decide +kernel
  have hl : lv_has ls 5 [(0, .ref (a 0)), (1, .int (iI ((i : Nat) : Int))), (2, .int (iI ((n : Nat) : Int))), (3, .int (iI ((y : Nat) : Int)))] := hl
  refine lv_iload_n hx hb dX2_isIssued_0 rfl (lv_at hl 3 rfl) ?_
  refine lv_aload_n hx hb dX2_isIssued_1 rfl (lv_at hl 0 rfl) ?_
  refine va_get (D := D) (ci := 2) (v := .ref (a 2)) (C := RX2) (T := TX2) (N := 3) hx hb hts hinX2 hown hK hP 0 rfl rfl 1 (by decide) (hts (.fieldLink RX2 21 "LoopScheduler" "table" "LLoopScheduler$Timetable;") (List.mem_of_getElem? (i := 1) rfl)) (fun _ h9 => h9) rfl dX2_isIssued_2 ?_
  refine va_get (D := D) (ci := 1) (v := .ref (a 11)) (C := RX1) (T := TX1) (N := 5) hx hb hts hinX1 hown hK hP 2 rfl rfl 1 (by decide) (hts (.fieldLink RX2 123 "LoopScheduler$Timetable" "times" "[I") (List.mem_of_getElem? (i := 2) rfl)) (fun _ h9 => h9) rfl dX2_isIssued_5 ?_
  refine lv_iload_n hx hb dX2_isIssued_8 rfl (lv_at hl 1 rfl) ?_
  refine z_ialdN (f := tm) (z := i) hx hb hK hP 11 0 rfl rfl (by omega) (by decide) dX2_isIssued_9 ?_
  refine z_sub (a := ((y : Nat) : Int)) (b := (tm i)) hx hb dX2_isIssued_10 ?_
  refine lv_istore (lv' := [(4, .int (iI (((y : Nat) : Int) - (tm i)))), (0, .ref (a 0)), (1, .int (iI ((i : Nat) : Int))), (2, .int (iI ((n : Nat) : Int))), (3, .int (iI ((y : Nat) : Int)))]) hx hb dX2_isIssued_11 hl (by decide) rfl (fun ls hl => ?_)
  refine lv_iload hx hb dX2_isIssued_13 (lv_at hl 0 rfl) ?_
  refine z_iflt (a := (((y : Nat) : Int) - (tm i))) (tgt := 49) hx hb dX2_isIssued_15 (by decide) (by omega) (fun c_15 => ?_) (fun c_15 => ?_)
  · refine z_ic hx hb dX2_isIssued_49 ?_
    exact z_zret (w := (wX a g L att T hs tm tk lt)) (v := (iI ((0 : Nat) : Int))) z_nb0 hQ hx hb hr hlocks ⟨by rw [iss_f (T := T) (tm := tm) (n := n) (c := y) (i := i) (fun q => by omega)]; rfl, rfl⟩ hK hP hD hS dX2_isIssued_50
  · have hm9 := emod_bd (((y : Nat) : Int) - tm i) hTT.1
    have hd9 := ediv_bd (T := T) (show 0 ≤ ((y : Nat) : Int) - tm i by omega)
    refine lv_iload hx hb dX2_isIssued_18 (lv_at hl 0 rfl) ?_
    refine lv_aload_n hx hb dX2_isIssued_20 rfl (lv_at hl 1 rfl) ?_
    refine va_get (D := D) (ci := 2) (v := .ref (a 2)) (C := RX2) (T := TX2) (N := 3) hx hb hts hinX2 hown hK hP 0 rfl rfl 1 (by decide) (hts (.fieldLink RX2 21 "LoopScheduler" "table" "LLoopScheduler$Timetable;") (List.mem_of_getElem? (i := 1) rfl)) (fun _ h9 => h9) rfl dX2_isIssued_21 ?_
    refine va_get (D := D) (ci := 1) (v := .int (iI ((T : Nat) : Int))) (C := RX1) (T := TX1) (N := 5) hx hb hts hinX1 hown hK hP 2 rfl rfl 4 (by decide) (hts (.fieldLink RX2 117 "LoopScheduler$Timetable" "interval" "I") (List.mem_of_getElem? (i := 3) rfl)) (fun _ h9 => h9) rfl dX2_isIssued_24 ?_
    refine z_rem (a := (((y : Nat) : Int) - (tm i))) (b := ((T : Nat) : Int)) hx hb (by omega) dX2_isIssued_27 ?_
    refine z_ifne (a := ((((y : Nat) : Int) - (tm i)) % ((T : Nat) : Int))) (tgt := 49) hx hb dX2_isIssued_28 (by decide) (by omega) (fun c_28 => ?_) (fun c_28 => ?_)
    · refine z_ic hx hb dX2_isIssued_49 ?_
      exact z_zret (w := (wX a g L att T hs tm tk lt)) (v := (iI ((0 : Nat) : Int))) z_nb0 hQ hx hb hr hlocks ⟨by rw [iss_f (T := T) (tm := tm) (n := n) (c := y) (i := i) (fun q => by omega)]; rfl, rfl⟩ hK hP hD hS dX2_isIssued_50
    · refine lv_iload hx hb dX2_isIssued_31 (lv_at hl 0 rfl) ?_
      refine lv_aload_n hx hb dX2_isIssued_33 rfl (lv_at hl 1 rfl) ?_
      refine va_get (D := D) (ci := 2) (v := .ref (a 2)) (C := RX2) (T := TX2) (N := 3) hx hb hts hinX2 hown hK hP 0 rfl rfl 1 (by decide) (hts (.fieldLink RX2 21 "LoopScheduler" "table" "LLoopScheduler$Timetable;") (List.mem_of_getElem? (i := 1) rfl)) (fun _ h9 => h9) rfl dX2_isIssued_34 ?_
      refine va_get (D := D) (ci := 1) (v := .int (iI ((T : Nat) : Int))) (C := RX1) (T := TX1) (N := 5) hx hb hts hinX1 hown hK hP 2 rfl rfl 4 (by decide) (hts (.fieldLink RX2 117 "LoopScheduler$Timetable" "interval" "I") (List.mem_of_getElem? (i := 3) rfl)) (fun _ h9 => h9) rfl dX2_isIssued_37 ?_
      refine z_div (a := (((y : Nat) : Int) - (tm i))) (b := ((T : Nat) : Int)) hx hb (by omega) dX2_isIssued_40 ?_
      refine lv_iload_n hx hb dX2_isIssued_41 rfl (lv_at hl 3 rfl) ?_
      refine z_icge (a := ((((y : Nat) : Int) - (tm i)) / ((T : Nat) : Int))) (b := ((n : Nat) : Int)) (tgt := 49) hx hb dX2_isIssued_42 (by decide) (by omega) (fun c_42 => ?_) (fun c_42 => ?_)
      · refine z_ic hx hb dX2_isIssued_49 ?_
        exact z_zret (w := (wX a g L att T hs tm tk lt)) (v := (iI ((0 : Nat) : Int))) z_nb0 hQ hx hb hr hlocks ⟨by rw [iss_f (T := T) (tm := tm) (n := n) (c := y) (i := i) (fun q => by omega)]; rfl, rfl⟩ hK hP hD hS dX2_isIssued_50
      · refine z_ic hx hb dX2_isIssued_45 ?_
        refine lv_goto (tgt := 50) hx hb dX2_isIssued_46 (by decide) ?_
        exact z_zret (w := (wX a g L att T hs tm tk lt)) (v := (iI ((1 : Nat) : Int))) z_nb1 hQ hx hb hr hlocks ⟨by rw [iss_t (T := T) (tm := tm) (n := n) (c := y) (i := i) (by omega) (by omega) (by omega)]; rfl, rfl⟩ hK hP hD hS dX2_isIssued_50
set_option maxHeartbeats 4000000 in
set_option maxRecDepth 100000 in
theorem c_X2_issued (l : Launch) (hl0 : l.stackTraces = false) (D : va_G) (g : Nat → ClassId) (a : Nat → Nat) (L : LD) (att T : Nat) (hs tm : Nat → Int) (tk : Nat → Nat → Int) (lt : Nat → Int) (i u : Int) (hw : wf L) (hok : okX L T tm tk) (hri : -2147483648 ≤ i ∧ i < 2147483648) (hru : -2147483648 ≤ u ∧ u < 2147483648) : xMi l D (zT g) yX2_issued wsX2_issued 7 102 3 (wX a g L att T hs tm tk lt) [.ref (a 0), .int (iI (i)), .int (iI (u))] (fun r w1 => (0 < T ∧ (1 ≤ i ∧ i ≤ 1000) ∧ 0 ≤ u) ∧ r = iI ((isn T tm i.toNat u.toNat (Ln L) : Nat) : Int) ∧ w1 = wX a g L att T hs tm tk lt) (fun E w9 => w9 = wX a g L att T hs tm tk lt ∧ ((E = nIS ∧ ¬ (0 < T)) ∨ (E = nIA ∧ 0 < T ∧ ¬ ((1 ≤ i ∧ i ≤ 1000) ∧ 0 ≤ u)))) := by
  refine x_ofI (cc := cX2_issued) (maxL := 5) (ret := (some .int)) (by decide) rfl (Nat.le_of_ble_eq_true rfl) ?_
  intro p e s m args below meth c A ls hx hb hr hts hown hlocks hml hP hK hD hS hA hl hE hV htb Q hQ
  have hown : s.vm.findClass RX2 = some m.cls := hown
  have hinX0 : ∀ w ∈ u_ws RX0 TX0 10, w ∈ wsX2_issued := by decide +kernel
  have hinX1 : ∀ w ∈ u_ws RX1 TX1 5, w ∈ wsX2_issued := by decide +kernel
  have hinX2 : ∀ w ∈ u_ws RX2 TX2 3, w ∈ wsX2_issued := by decide +kernel
  have hl : lv_has ls 5 [(0, .ref (a 0)), (1, .int (iI (i))), (2, .int (iI (u)))] := hl
  refine lv_aload_n hx hb dX2_issued_0 rfl (lv_at hl 0 rfl) ?_
  refine x_callv hQ (fun E u q => ⟨q.1, Or.inl (⟨q.2.1, by have q9 := q.2.2; omega⟩)⟩) htb hlocks (Nat.le_of_ble_eq_true rfl) (Nat.le_of_ble_eq_true rfl) (vx_runV (As := []) (rest := []) ⟨hx, hb, hml, hown, hts⟩ (c_X2_requireSchedule l hl0 D g a L att T hs tm tk lt  hok.1 _) (cwV 0 hts gX2_issued_X2_requireSchedule rfl rfl rfl (by decide +kernel) ⟨Nat.le_of_ble_eq_true rfl, Nat.le_of_ble_eq_true rfl⟩) (x_preV 0 hK hP hD hS hA hE hV rfl rfl) rfl rfl hl.1 rfl (lv_room (Nat.le_of_ble_eq_true rfl)) dX2_issued_1 ⟨Nat.le_of_ble_eq_true rfl, Nat.le_of_ble_eq_true rfl⟩) hS hD hA (fun w1 H locs hw1 hP hD hS => ?_)
  obtain ⟨hq0, rfl⟩ := hw1
  refine lv_iload_n hx hb dX2_issued_4 rfl (lv_at hl 1 rfl) ?_
  refine x_callv hQ (fun E u q => ⟨q.1, Or.inr (⟨q.2.1, by have q9 := q.2.2; omega⟩)⟩) htb hlocks (Nat.le_of_ble_eq_true rfl) (Nat.le_of_ble_eq_true rfl) (vx_runS (As := [.int (iI (i))]) (rest := []) ⟨hx, hb, hml, hown, hts⟩ (c_X2_requireIterations l hl0 D g a L att T hs tm tk lt i (by omega) _) (va_cwS 1 hts gX2_issued_X2_requireIterations rfl rfl rfl (by decide +kernel) ⟨Nat.le_of_ble_eq_true rfl, Nat.le_of_ble_eq_true rfl⟩) (x_preS hK hP hD hS hA hE hV) rfl rfl hl.1 rfl (lv_room (Nat.le_of_ble_eq_true rfl)) dX2_issued_5 ⟨Nat.le_of_ble_eq_true rfl, Nat.le_of_ble_eq_true rfl⟩) hS hD hA (fun w1 H locs hw1 hP hD hS => ?_)
  obtain ⟨hq1, rfl⟩ := hw1
  refine lv_iload_n hx hb dX2_issued_8 rfl (lv_at hl 2 rfl) ?_
  refine x_callv hQ (fun E u q => ⟨q.1, Or.inr (⟨q.2.1, by have q9 := q.2.2; omega⟩)⟩) htb hlocks (Nat.le_of_ble_eq_true rfl) (Nat.le_of_ble_eq_true rfl) (vx_runS (As := [.int (iI (u))]) (rest := []) ⟨hx, hb, hml, hown, hts⟩ (c_X2_requireCycle l hl0 D g a L att T hs tm tk lt u (by omega) _) (va_cwS 1 hts gX2_issued_X2_requireCycle rfl rfl rfl (by decide +kernel) ⟨Nat.le_of_ble_eq_true rfl, Nat.le_of_ble_eq_true rfl⟩) (x_preS hK hP hD hS hA hE hV) rfl rfl hl.1 rfl (lv_room (Nat.le_of_ble_eq_true rfl)) dX2_issued_9 ⟨Nat.le_of_ble_eq_true rfl, Nat.le_of_ble_eq_true rfl⟩) hS hD hA (fun w1 H locs hw1 hP hD hS => ?_)
  obtain ⟨hq2, rfl⟩ := hw1
  obtain ⟨n, rfl⟩ : ∃ n : Nat, i = (n : Int) := ⟨i.toNat, by omega⟩
  obtain ⟨y, rfl⟩ : ∃ y : Nat, u = (y : Int) := ⟨u.toNat, by omega⟩
  have hTT : 0 < T ∧ T ≤ 200 := ⟨by omega, hok.1⟩
  have hbt := (hok.2 hTT.1).1
  have hbk := (hok.2 hTT.1).2.1
  have hb0 := (hok.2 hTT.1).2.2
  have hB1 : (0 : Int) ≤ 1000000 ∧ (1000000 : Int) ≤ 1000000 := by decide
  have hwn0 := wf_n hw
  have hn : n ≤ 1000 := by omega
  have hy : y < 2147483648 := by omega
  have h0 := hb0
  refine z_ic hx hb dX2_issued_12 ?_
  refine lv_istore_n (lv' := [(3, .int (iI ((0 : Nat) : Int))), (0, .ref (a 0)), (1, .int (iI ((n : Nat) : Int))), (2, .int (iI ((y : Nat) : Int)))]) hx hb dX2_issued_13 rfl hl (by decide) rfl (fun ls hl => ?_)
  refine z_ic hx hb dX2_issued_14 ?_
  refine lv_istore (lv' := [(4, .int (iI ((0 : Nat) : Int))), (3, .int (iI ((0 : Nat) : Int))), (0, .ref (a 0)), (1, .int (iI ((n : Nat) : Int))), (2, .int (iI ((y : Nat) : Int)))]) hx hb dX2_issued_15 hl (by decide) rfl (fun ls hl => ?_)
  have loop17 : ∀ (n17 : Nat) (x : Nat) (H : Heap) (locs : List Loc) (ls : Array Slot), Ln L - x < n17 → (x ≤ Ln L) → va_P D vwCl (wX a g L att T hs tm tk lt) H → va_D A (wX a g L att T hs tm tk lt) → va_S A s.heap H locs → lv_has ls 5 [(0, .ref (a 0)), (1, .int (iI ((n : Nat) : Int))), (2, .int (iI ((y : Nat) : Int))), (3, .int (iI ((isn T tm n y x : Nat) : Int))), (4, .int (iI ((x : Nat) : Int)))] → W p l e ({ frames := 7, cells := 3, slots := 6 * 3, locals := 102 } : Room) s m args below meth c H locs 3 18 Q (F0 m 17 ls []) := by
    intro n17
    induction n17 with
    | zero => exact fun _ H locs ls hn => absurd hn (Nat.not_lt_zero _)
    | succ n17 ih17 =>
      intro x H locs ls hn17 hx2 hP hD hS hl
      have hil := isn_le T tm n y x
      refine lv_iload hx hb dX2_issued_17 (lv_at hl 4 rfl) ?_
      refine lv_aload_n hx hb dX2_issued_19 rfl (lv_at hl 0 rfl) ?_
      refine va_get (D := D) (ci := 2) (v := .ref (a 1)) (C := RX2) (T := TX2) (N := 3) hx hb hts hinX2 hown hK hP 0 rfl rfl 0 (by decide) (hts (.fieldLink RX2 10 "LoopScheduler" "loop" "LLoopScheduler$Loop;") (List.mem_of_getElem? (i := 1) rfl)) (fun _ h9 => h9) rfl dX2_issued_20 ?_
      refine va_get (D := D) (ci := 0) (v := .int (iI ((Ln L : Nat) : Int))) (C := RX0) (T := TX0) (N := 10) hx hb hts hinX0 hown hK hP 1 rfl rfl 8 (by decide) (hts (.fieldLink RX2 51 "LoopScheduler$Loop" "operations" "I") (List.mem_of_getElem? (i := 2) rfl)) (fun _ h9 => h9) rfl dX2_issued_23 ?_
      refine z_icge (a := ((x : Nat) : Int)) (b := ((Ln L : Nat) : Int)) (tgt := 49) hx hb dX2_issued_26 (by decide) (by omega) (fun c_26 => ?_) (fun c_26 => ?_)
      · obtain rfl : x = Ln L := by omega
        refine lv_iload_n hx hb dX2_issued_49 rfl (lv_at hl 3 rfl) ?_
        exact x_iret (w := (wX a g L att T hs tm tk lt)) (v := (iI ((isn T tm n y (Ln L) : Nat) : Int))) hQ hx hb hr hlocks ⟨by omega, rfl, rfl⟩ hK hP hD hS (Nat.le_of_ble_eq_true rfl) (Nat.le_of_ble_eq_true rfl) dX2_issued_50
      · refine lv_aload_n hx hb dX2_issued_29 rfl (lv_at hl 0 rfl) ?_
        refine lv_iload hx hb dX2_issued_30 (lv_at hl 4 rfl) ?_
        refine lv_iload_n hx hb dX2_issued_32 rfl (lv_at hl 1 rfl) ?_
        refine lv_iload_n hx hb dX2_issued_33 rfl (lv_at hl 2 rfl) ?_
        refine z_calli (va_runV (As := [.int (iI ((x : Nat) : Int)), .int (iI ((n : Nat) : Int)), .int (iI ((y : Nat) : Int))]) (rest := []) ⟨hx, hb, hml, hown, hts⟩ (c_X2_isIssued l D g a L att T hs tm tk lt x n y hTT (by omega) (by omega) hy ⟨h0 _ (by omega), (hbt _).2⟩ _) (cwV 3 hts gX2_issued_X2_isIssued rfl rfl rfl (by decide +kernel) ⟨Nat.le_of_ble_eq_true rfl, Nat.le_of_ble_eq_true rfl⟩) (z_preV 0 hK hP hD rfl rfl) rfl rfl hl.1 rfl (lv_room (Nat.le_of_ble_eq_true rfl)) dX2_issued_34 ⟨Nat.le_of_ble_eq_true rfl, Nat.le_of_ble_eq_true rfl⟩) hS hD hA (fun r w1 H locs hw1 hP hD hS => ?_)
        obtain ⟨rfl, rfl⟩ := hw1
        refine z_ifeq (a := (bI (iss T tm n y x))) (tgt := 43) hx hb dX2_issued_37 (by decide) (bI_r _) (fun c_37 => ?_) (fun c_37 => ?_)
        · have b_37 := bI_f c_37
          refine z_iinc (a := ((x : Nat) : Int)) (b := ((x + 1 : Nat) : Int)) (lv' := [(4, .int (iI ((x + 1 : Nat) : Int))), (0, .ref (a 0)), (1, .int (iI ((n : Nat) : Int))), (2, .int (iI ((y : Nat) : Int))), (3, .int (iI ((isn T tm n y x : Nat) : Int)))]) hx hb 4 dX2_issued_43 hl rfl rfl (by decide) rfl (fun ls hl => ?_)
          refine lv_goto (tgt := 17) hx hb dX2_issued_46 (by decide) ?_
          exact ih17 (x + 1) _ _ _ (by omega) (by omega) hP hD hS (by rw [show isn T tm n y (x + 1) = _ from isn_f (bI_f c_37)]; exact lv_sub hl [1, 2, 3, 4, 0] rfl)
        · have b_37 := bI_t c_37
          refine z_iinc (a := ((isn T tm n y x : Nat) : Int)) (b := ((isn T tm n y x + 1 : Nat) : Int)) (lv' := [(3, .int (iI ((isn T tm n y x + 1 : Nat) : Int))), (0, .ref (a 0)), (1, .int (iI ((n : Nat) : Int))), (2, .int (iI ((y : Nat) : Int))), (4, .int (iI ((x : Nat) : Int)))]) hx hb 3 dX2_issued_40 hl rfl rfl (by decide) rfl (fun ls hl => ?_)
          refine z_iinc (a := ((x : Nat) : Int)) (b := ((x + 1 : Nat) : Int)) (lv' := [(4, .int (iI ((x + 1 : Nat) : Int))), (3, .int (iI ((isn T tm n y x + 1 : Nat) : Int))), (0, .ref (a 0)), (1, .int (iI ((n : Nat) : Int))), (2, .int (iI ((y : Nat) : Int)))]) hx hb 4 dX2_issued_43 hl rfl rfl (by decide) rfl (fun ls hl => ?_)
          refine lv_goto (tgt := 17) hx hb dX2_issued_46 (by decide) ?_
          exact ih17 (x + 1) _ _ _ (by omega) (by omega) hP hD hS (by rw [show isn T tm n y (x + 1) = _ from isn_t (bI_t c_37)]; exact lv_sub hl [2, 3, 4, 1, 0] rfl)
  exact loop17 ((Ln L - 0) + 1) 0 _ _ _ (Nat.lt_succ_self _) (by omega) hP hD hS (lv_sub hl [2, 3, 4, 1, 0] rfl)

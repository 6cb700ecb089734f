set_option maxHeartbeats 4000000 in
set_option maxRecDepth 100000 in
theorem c_X2_interval (l : Launch) (hl0 : l.stackTraces = false) (D : va_G) (g : Nat → ClassId) (a : Nat → Nat) (L : LD) (att T : Nat) (hs tm : Nat → Int) (tk : Nat → Nat → Int) (lt : Nat → Int)  (hw : wf L) (hok : okX L T tm tk) : xMi l D (zT g) yX2_interval wsX2_interval 7 102 1 (wX a g L att T hs tm tk lt) [.ref (a 0)] (fun r w1 => (0 < T) ∧ r = iI ((T : Nat) : Int) ∧ w1 = wX a g L att T hs tm tk lt) (fun E w9 => w9 = wX a g L att T hs tm tk lt ∧ ((E = nIS ∧ ¬ (0 < T)))) := by
  refine x_ofI (cc := cX2_interval) (maxL := 1) (ret := (some .int)) (by decide) rfl (Nat.le_of_ble_eq_true rfl) ?_
  intro p e s m args below meth c A ls hx hb hr hts hown hlocks hml hP hK hD hS hA hl hE hV htb Q hQ
  have hown : s.vm.findClass RX2 = some m.cls := hown
  have hinX1 : ∀ w ∈ u_ws RX1 TX1 5, w ∈ wsX2_interval := by decide +kernel
  have hinX2 : ∀ w ∈ u_ws RX2 TX2 3, w ∈ wsX2_interval := by decide +kernel
  have hl : lv_has ls 1 [(0, .ref (a 0))] := hl
  refine lv_aload_n hx hb dX2_interval_0 rfl (lv_at hl 0 rfl) ?_
  refine x_callv hQ (fun E u q => ⟨q.1, ⟨q.2.1, by have q9 := q.2.2; omega⟩⟩) htb hlocks (Nat.le_of_ble_eq_true rfl) (Nat.le_of_ble_eq_true rfl) (vx_runV (As := []) (rest := []) ⟨hx, hb, hml, hown, hts⟩ (c_X2_requireSchedule l hl0 D g a L att T hs tm tk lt  hok.1 _) (cwV 0 hts gX2_interval_X2_requireSchedule rfl rfl rfl (by decide +kernel) ⟨Nat.le_of_ble_eq_true rfl, Nat.le_of_ble_eq_true rfl⟩) (x_preV 0 hK hP hD hS hA hE hV rfl rfl) rfl rfl hl.1 rfl (lv_room (Nat.le_of_ble_eq_true rfl)) dX2_interval_1 ⟨Nat.le_of_ble_eq_true rfl, Nat.le_of_ble_eq_true rfl⟩) hS hD hA (fun w1 H locs hw1 hP hD hS => ?_)
  obtain ⟨hq0, rfl⟩ := hw1
  refine lv_aload_n hx hb dX2_interval_4 rfl (lv_at hl 0 rfl) ?_
  refine va_get (D := D) (ci := 2) (v := .ref (a 2)) (C := RX2) (T := TX2) (N := 3) hx hb hts hinX2 hown hK hP 0 rfl rfl 1 (by decide) (hts (.fieldLink RX2 21 "LoopScheduler" "table" "LLoopScheduler$Timetable;") (List.mem_of_getElem? (i := 1) rfl)) (fun _ h9 => h9) rfl dX2_interval_5 ?_
  refine va_get (D := D) (ci := 1) (v := .int (iI ((T : Nat) : Int))) (C := RX1) (T := TX1) (N := 5) hx hb hts hinX1 hown hK hP 2 rfl rfl 4 (by decide) (hts (.fieldLink RX2 117 "LoopScheduler$Timetable" "interval" "I") (List.mem_of_getElem? (i := 2) rfl)) (fun _ h9 => h9) rfl dX2_interval_8 ?_
  exact x_iret (w := (wX a g L att T hs tm tk lt)) (v := (iI ((T : Nat) : Int))) hQ hx hb hr hlocks ⟨by omega, rfl, rfl⟩ hK hP hD hS (Nat.le_of_ble_eq_true rfl) (Nat.le_of_ble_eq_true rfl) dX2_interval_11
set_option maxHeartbeats 4000000 in
set_option maxRecDepth 100000 in
theorem c_X2_time (l : Launch) (hl0 : l.stackTraces = false) (D : va_G) (g : Nat → ClassId) (a : Nat → Nat) (L : LD) (att T : Nat) (hs tm : Nat → Int) (tk : Nat → Nat → Int) (lt : Nat → Int) (i : Int) (hw : wf L) (hok : okX L T tm tk) (hri : -2147483648 ≤ i ∧ i < 2147483648) : xMi l D (zT g) yX2_time wsX2_time 7 103 2 (wX a g L att T hs tm tk lt) [.ref (a 0), .int (iI (i))] (fun r w1 => ((0 ≤ i ∧ i < (Ln L : Int)) ∧ 0 < T) ∧ r = iI (tm i.toNat) ∧ w1 = wX a g L att T hs tm tk lt) (fun E w9 => w9 = wX a g L att T hs tm tk lt ∧ ((E = nIX ∧ ¬ (0 ≤ i ∧ i < (Ln L : Int))) ∨ (E = nIS ∧ (0 ≤ i ∧ i < (Ln L : Int)) ∧ T = 0))) := by
  refine x_ofI (cc := cX2_time) (maxL := 2) (ret := (some .int)) (by decide) rfl (Nat.le_of_ble_eq_true rfl) ?_
  intro p e s m args below meth c A ls hx hb hr hts hown hlocks hml hP hK hD hS hA hl hE hV htb Q hQ
  have hown : s.vm.findClass RX2 = some m.cls := hown
  have hinX0 : ∀ w ∈ u_ws RX0 TX0 10, w ∈ wsX2_time := by decide +kernel
  have hinX1 : ∀ w ∈ u_ws RX1 TX1 5, w ∈ wsX2_time := by decide +kernel
  have hinX2 : ∀ w ∈ u_ws RX2 TX2 3, w ∈ wsX2_time := by decide +kernel
  have hl : lv_has ls 2 [(0, .ref (a 0)), (1, .int (iI (i)))] := hl
  have hwn := wf_n hw
  refine lv_aload_n hx hb dX2_time_0 rfl (lv_at hl 0 rfl) ?_
  refine lv_iload_n hx hb dX2_time_1 rfl (lv_at hl 1 rfl) ?_
  refine x_callv hQ (fun E u q => ⟨q.1, Or.inl (⟨q.2.1, by have q9 := q.2.2; omega⟩)⟩) htb hlocks (Nat.le_of_ble_eq_true rfl) (Nat.le_of_ble_eq_true rfl) (vx_runV (As := [.int (iI (i))]) (rest := []) ⟨hx, hb, hml, hown, hts⟩ (c_X2_requireOperation l hl0 D g a L att T hs tm tk lt i hw (by omega) _) (cwV 1 hts gX2_time_X2_requireOperation rfl rfl rfl (by decide +kernel) ⟨Nat.le_of_ble_eq_true rfl, Nat.le_of_ble_eq_true rfl⟩) (x_preV 0 hK hP hD hS hA hE hV rfl rfl) rfl rfl hl.1 rfl (lv_room (Nat.le_of_ble_eq_true rfl)) dX2_time_2 ⟨Nat.le_of_ble_eq_true rfl, Nat.le_of_ble_eq_true rfl⟩) hS hD hA (fun w1 H locs hw1 hP hD hS => ?_)
  obtain ⟨hq0, rfl⟩ := hw1
  refine lv_aload_n hx hb dX2_time_5 rfl (lv_at hl 0 rfl) ?_
  refine x_callv hQ (fun E u q => ⟨q.1, Or.inr (⟨q.2.1, by have q9 := q.2.2; omega⟩)⟩) htb hlocks (Nat.le_of_ble_eq_true rfl) (Nat.le_of_ble_eq_true rfl) (vx_runV (As := []) (rest := []) ⟨hx, hb, hml, hown, hts⟩ (c_X2_requireSchedule l hl0 D g a L att T hs tm tk lt  hok.1 _) (cwV 0 hts gX2_time_X2_requireSchedule rfl rfl rfl (by decide +kernel) ⟨Nat.le_of_ble_eq_true rfl, Nat.le_of_ble_eq_true rfl⟩) (x_preV 0 hK hP hD hS hA hE hV rfl rfl) rfl rfl hl.1 rfl (lv_room (Nat.le_of_ble_eq_true rfl)) dX2_time_6 ⟨Nat.le_of_ble_eq_true rfl, Nat.le_of_ble_eq_true rfl⟩) hS hD hA (fun w1 H locs hw1 hP hD hS => ?_)
  obtain ⟨hq1, rfl⟩ := hw1
  obtain ⟨j, rfl⟩ : ∃ j : Nat, i = (j : Int) := ⟨i.toNat, by omega⟩
  have hTT : 0 < T ∧ T ≤ 200 := ⟨by omega, hok.1⟩
  have hbt := (hok.2 hTT.1).1
  have hbk := (hok.2 hTT.1).2.1
  have hb0 := (hok.2 hTT.1).2.2
  have hB1 : (0 : Int) ≤ 1000000 ∧ (1000000 : Int) ≤ 1000000 := by decide
  have hj0 := hb0 j (by omega)
  have hbtj := hbt j
  refine lv_aload_n hx hb dX2_time_9 rfl (lv_at hl 0 rfl) ?_
  refine va_get (D := D) (ci := 2) (v := .ref (a 2)) (C := RX2) (T := TX2) (N := 3) hx hb hts hinX2 hown hK hP 0 rfl rfl 1 (by decide) (hts (.fieldLink RX2 21 "LoopScheduler" "table" "LLoopScheduler$Timetable;") (List.mem_of_getElem? (i := 1) rfl)) (fun _ h9 => h9) rfl dX2_time_10 ?_
  refine va_get (D := D) (ci := 1) (v := .ref (a 11)) (C := RX1) (T := TX1) (N := 5) hx hb hts hinX1 hown hK hP 2 rfl rfl 1 (by decide) (hts (.fieldLink RX2 123 "LoopScheduler$Timetable" "times" "[I") (List.mem_of_getElem? (i := 2) rfl)) (fun _ h9 => h9) rfl dX2_time_13 ?_
  refine lv_iload_n hx hb dX2_time_16 rfl (lv_at hl 1 rfl) ?_
  refine z_ialdN (f := tm) (z := j) hx hb hK hP 11 0 rfl rfl (by omega) (by decide) dX2_time_17 ?_
  exact x_iret (w := (wX a g L att T hs tm tk lt)) (v := (iI (tm j))) hQ hx hb hr hlocks ⟨by omega, rfl, rfl⟩ hK hP hD hS (Nat.le_of_ble_eq_true rfl) (Nat.le_of_ble_eq_true rfl) dX2_time_18
set_option maxHeartbeats 4000000 in
set_option maxRecDepth 100000 in
theorem c_X2_freedom (l : Launch) (hl0 : l.stackTraces = false) (D : va_G) (g : Nat → ClassId) (a : Nat → Nat) (L : LD) (att T : Nat) (hs tm : Nat → Int) (tk : Nat → Nat → Int) (lt : Nat → Int) (i : Int) (hw : wf L) (hok : okX L T tm tk) (hri : -2147483648 ≤ i ∧ i < 2147483648) : xMi l D (zT g) yX2_freedom wsX2_freedom 7 103 2 (wX a g L att T hs tm tk lt) [.ref (a 0), .int (iI (i))] (fun r w1 => ((0 ≤ i ∧ i < (Ln L : Int)) ∧ 0 < T) ∧ r = iI (((cP L T (lTm tm i.toNat) (lTk L T tk i.toNat (tm i.toNat).toNat) i.toNat : Nat) : Int)) ∧ w1 = wX a g L att T hs (upZ (lTm tm i.toNat) i.toNat (((tm i.toNat).toNat : Nat) : Int)) (pTk L T (lTk L T tk i.toNat (tm i.toNat).toNat) i.toNat (tm i.toNat).toNat) lt) (fun E w9 => w9 = wX a g L att T hs tm tk lt ∧ ((E = nIX ∧ ¬ (0 ≤ i ∧ i < (Ln L : Int))) ∨ (E = nIS ∧ (0 ≤ i ∧ i < (Ln L : Int)) ∧ T = 0))) := by
  refine x_ofI (cc := cX2_freedom) (maxL := 2) (ret := (some .int)) (by decide) rfl (Nat.le_of_ble_eq_true rfl) ?_
  intro p e s m args below meth c A ls hx hb hr hts hown hlocks hml hP hK hD hS hA hl hE hV htb Q hQ
  have hown : s.vm.findClass RX2 = some m.cls := hown
  have hinX0 : ∀ w ∈ u_ws RX0 TX0 10, w ∈ wsX2_freedom := by decide +kernel
  have hinX1 : ∀ w ∈ u_ws RX1 TX1 5, w ∈ wsX2_freedom := by decide +kernel
  have hinX2 : ∀ w ∈ u_ws RX2 TX2 3, w ∈ wsX2_freedom := by decide +kernel
  have hl : lv_has ls 2 [(0, .ref (a 0)), (1, .int (iI (i)))] := hl
  have hwn := wf_n hw
  refine lv_aload_n hx hb dX2_freedom_0 rfl (lv_at hl 0 rfl) ?_
  refine lv_iload_n hx hb dX2_freedom_1 rfl (lv_at hl 1 rfl) ?_
  refine x_callv hQ (fun E u q => ⟨q.1, Or.inl (⟨q.2.1, by have q9 := q.2.2; omega⟩)⟩) htb hlocks (Nat.le_of_ble_eq_true rfl) (Nat.le_of_ble_eq_true rfl) (vx_runV (As := [.int (iI (i))]) (rest := []) ⟨hx, hb, hml, hown, hts⟩ (c_X2_requireOperation l hl0 D g a L att T hs tm tk lt i hw (by omega) _) (cwV 1 hts gX2_freedom_X2_requireOperation rfl rfl rfl (by decide +kernel) ⟨Nat.le_of_ble_eq_true rfl, Nat.le_of_ble_eq_true rfl⟩) (x_preV 0 hK hP hD hS hA hE hV rfl rfl) rfl rfl hl.1 rfl (lv_room (Nat.le_of_ble_eq_true rfl)) dX2_freedom_2 ⟨Nat.le_of_ble_eq_true rfl, Nat.le_of_ble_eq_true rfl⟩) hS hD hA (fun w1 H locs hw1 hP hD hS => ?_)
  obtain ⟨hq0, rfl⟩ := hw1
  refine lv_aload_n hx hb dX2_freedom_5 rfl (lv_at hl 0 rfl) ?_
  refine x_callv hQ (fun E u q => ⟨q.1, Or.inr (⟨q.2.1, by have q9 := q.2.2; omega⟩)⟩) htb hlocks (Nat.le_of_ble_eq_true rfl) (Nat.le_of_ble_eq_true rfl) (vx_runV (As := []) (rest := []) ⟨hx, hb, hml, hown, hts⟩ (c_X2_requireSchedule l hl0 D g a L att T hs tm tk lt  hok.1 _) (cwV 0 hts gX2_freedom_X2_requireSchedule rfl rfl rfl (by decide +kernel) ⟨Nat.le_of_ble_eq_true rfl, Nat.le_of_ble_eq_true rfl⟩) (x_preV 0 hK hP hD hS hA hE hV rfl rfl) rfl rfl hl.1 rfl (lv_room (Nat.le_of_ble_eq_true rfl)) dX2_freedom_6 ⟨Nat.le_of_ble_eq_true rfl, Nat.le_of_ble_eq_true rfl⟩) hS hD hA (fun w1 H locs hw1 hP hD hS => ?_)
  obtain ⟨hq1, rfl⟩ := hw1
  obtain ⟨j, rfl⟩ : ∃ j : Nat, i = (j : Int) := ⟨i.toNat, by omega⟩
  have hTT : 0 < T ∧ T ≤ 200 := ⟨by omega, hok.1⟩
  have hbt := (hok.2 hTT.1).1
  have hbk := (hok.2 hTT.1).2.1
  have hb0 := (hok.2 hTT.1).2.2
  have hB1 : (0 : Int) ≤ 1000000 ∧ (1000000 : Int) ≤ 1000000 := by decide
  have hj0 := hb0 j (by omega)
  have hbtj := hbt j
  have h0 : tm j = (((tm j).toNat : Nat) : Int) := by omega
  obtain ⟨t0, ht0⟩ : ∃ t0 : Nat, t0 = (tm j).toNat := ⟨_, rfl⟩
  rw [← ht0] at h0
  refine lv_aload_n hx hb dX2_freedom_9 rfl (lv_at hl 0 rfl) ?_
  refine va_get (D := D) (ci := 2) (v := .ref (a 2)) (C := RX2) (T := TX2) (N := 3) hx hb hts hinX2 hown hK hP 0 rfl rfl 1 (by decide) (hts (.fieldLink RX2 21 "LoopScheduler" "table" "LLoopScheduler$Timetable;") (List.mem_of_getElem? (i := 1) rfl)) (fun _ h9 => h9) rfl dX2_freedom_10 ?_
  refine lv_iload_n hx hb dX2_freedom_13 rfl (lv_at hl 1 rfl) ?_
  refine z_calli (va_runV (As := [.int (iI ((j : Nat) : Int))]) (rest := []) ⟨hx, hb, hml, hown, hts⟩ (c_X1_countPlaces l D g a L att T hs tm tk lt 1000000 1000 j t0 hw hTT hB1 hbt (by omega) hbk (by omega) h0 _) (cwV 1 hts gX2_freedom_X1_countPlaces rfl rfl rfl (by decide +kernel) ⟨Nat.le_of_ble_eq_true rfl, Nat.le_of_ble_eq_true rfl⟩) (z_preV 2 hK hP hD rfl rfl) rfl rfl hl.1 rfl (lv_room (Nat.le_of_ble_eq_true rfl)) dX2_freedom_14 ⟨Nat.le_of_ble_eq_true rfl, Nat.le_of_ble_eq_true rfl⟩) hS hD hA (fun r w1 H locs hw1 hP hD hS => ?_)
  obtain ⟨rfl, rfl⟩ := hw1
  exact x_iret (w := (wX a g L att T hs (upZ (lTm tm j) j (t0 : Int)) (pTk L T (lTk L T tk j t0) j t0) lt)) (v := (iI ((cP L T (lTm tm j) (lTk L T tk j t0) j : Nat) : Int))) hQ hx hb hr hlocks ⟨by omega, by rw [ht0]; rfl, by rw [ht0]; rfl⟩ hK hP hD hS (Nat.le_of_ble_eq_true rfl) (Nat.le_of_ble_eq_true rfl) dX2_freedom_17
set_option maxHeartbeats 4000000 in
set_option maxRecDepth 100000 in
theorem c_X2_move (l : Launch) (hl0 : l.stackTraces = false) (D : va_G) (g : Nat → ClassId) (a : Nat → Nat) (L : LD) (att T : Nat) (hs tm : Nat → Int) (tk : Nat → Nat → Int) (lt : Nat → Int) (i u : Int) (hw : wf L) (hok : okX L T tm tk) (hri : -2147483648 ≤ i ∧ i < 2147483648) (hru : -2147483648 ≤ u ∧ u < 2147483648) : xMi l D (zT g) yX2_move wsX2_move 7 103 3 (wX a g L att T hs tm tk lt) [.ref (a 0), .int (iI (i)), .int (iI (u))] (fun r w1 => ((0 ≤ i ∧ i < (Ln L : Int)) ∧ (0 ≤ u ∧ u ≤ 1000) ∧ 0 < T) ∧ r = iI (bI (vR L T (lTm tm i.toNat) (lTk L T tk i.toNat (tm i.toNat).toNat) i.toNat u.toNat)) ∧ w1 = wX a g L att T hs (upZ (lTm tm i.toNat) i.toNat ((rT L T tm tk i.toNat u.toNat (tm i.toNat).toNat : Nat) : Int)) (pTk L T (lTk L T tk i.toNat (tm i.toNat).toNat) i.toNat (rT L T tm tk i.toNat u.toNat (tm i.toNat).toNat)) lt) (fun E w9 => w9 = wX a g L att T hs tm tk lt ∧ ((E = nIX ∧ ¬ (0 ≤ i ∧ i < (Ln L : Int))) ∨ (E = nIA ∧ (0 ≤ i ∧ i < (Ln L : Int)) ∧ ¬ (0 ≤ u ∧ u ≤ 1000)) ∨ (E = nIS ∧ (0 ≤ i ∧ i < (Ln L : Int)) ∧ (0 ≤ u ∧ u ≤ 1000) ∧ T = 0))) := by
  refine x_ofI (cc := cX2_move) (maxL := 3) (ret := (some .boolean)) (by decide) rfl (Nat.le_of_ble_eq_true rfl) ?_
  intro p e s m args below meth c A ls hx hb hr hts hown hlocks hml hP hK hD hS hA hl hE hV htb Q hQ
  have hown : s.vm.findClass RX2 = some m.cls := hown
  have hinX0 : ∀ w ∈ u_ws RX0 TX0 10, w ∈ wsX2_move := by decide +kernel
  have hinX1 : ∀ w ∈ u_ws RX1 TX1 5, w ∈ wsX2_move := by decide +kernel
  have hinX2 : ∀ w ∈ u_ws RX2 TX2 3, w ∈ wsX2_move := by decide +kernel
  have hatIA : ∀ w ∈ (vx_atS RX2 33 nIA nms).filter goodWord, w.before args s = true := fun w h => hts w (List.mem_cons_of_mem _ (List.mem_append_left _ (List.mem_append_left _ (List.mem_append_right _ h))))
  have hl : lv_has ls 3 [(0, .ref (a 0)), (1, .int (iI (i))), (2, .int (iI (u)))] := hl
  have hwn := wf_n hw
  refine lv_aload_n hx hb dX2_move_0 rfl (lv_at hl 0 rfl) ?_
  refine lv_iload_n hx hb dX2_move_1 rfl (lv_at hl 1 rfl) ?_
  refine x_callv hQ (fun E u q => ⟨q.1, Or.inl (⟨q.2.1, by have q9 := q.2.2; omega⟩)⟩) htb hlocks (Nat.le_of_ble_eq_true rfl) (Nat.le_of_ble_eq_true rfl) (vx_runV (As := [.int (iI (i))]) (rest := []) ⟨hx, hb, hml, hown, hts⟩ (c_X2_requireOperation l hl0 D g a L att T hs tm tk lt i hw (by omega) _) (cwV 1 hts gX2_move_X2_requireOperation rfl rfl rfl (by decide +kernel) ⟨Nat.le_of_ble_eq_true rfl, Nat.le_of_ble_eq_true rfl⟩) (x_preV 0 hK hP hD hS hA hE hV rfl rfl) rfl rfl hl.1 rfl (lv_room (Nat.le_of_ble_eq_true rfl)) dX2_move_2 ⟨Nat.le_of_ble_eq_true rfl, Nat.le_of_ble_eq_true rfl⟩) hS hD hA (fun w1 H locs hw1 hP hD hS => ?_)
  obtain ⟨hq0, rfl⟩ := hw1
  refine lv_iload_n hx hb dX2_move_5 rfl (lv_at hl 2 rfl) ?_
  refine z_iflt (a := u) (tgt := 16) hx hb dX2_move_6 (by decide) (by omega) (fun c_6 => ?_) (fun c_6 => ?_)
  · exact x_throw (w := (wX a g L att T hs tm tk lt)) (cls := nIA) (text := "time is not 0 to 1000") (ik := 29) (is := 126) (ic := 33) hl0 hQ ⟨rfl, Or.inr (Or.inl (⟨rfl, by omega⟩))⟩ htb hlocks hx hb hown hml hl.1 (by decide) (hts (.classLink RX2 29 "java/lang/IllegalArgumentException") (List.mem_of_getElem? (i := 1) rfl)) (hts (.initialized "java/lang/IllegalArgumentException") (List.mem_of_getElem? (i := 2) rfl)) hatIA xb_IA hV.1.2.2.2.1 xg_IA hE hV (List.mem_of_getElem? (i := 9) rfl) hK hP hD hS dX2_move_16 dX2_move_19 dX2_move_20 dX2_move_22 dX2_move_25 (Nat.le_of_ble_eq_true rfl) (Nat.le_of_ble_eq_true rfl) (Nat.le_of_ble_eq_true rfl) (Nat.le_of_ble_eq_true rfl) (Nat.le_of_ble_eq_true rfl) (Nat.le_of_ble_eq_true rfl)
  · refine lv_iload_n hx hb dX2_move_9 rfl (lv_at hl 2 rfl) ?_
    refine z_sip hx hb dX2_move_10 (by decide) ?_
    refine z_icle (a := u) (b := 1000) (tgt := 26) hx hb dX2_move_13 (by decide) (by omega) (fun c_13 => ?_) (fun c_13 => ?_)
    · refine lv_aload_n hx hb dX2_move_26 rfl (lv_at hl 0 rfl) ?_
      refine x_callv hQ (fun E u q => ⟨q.1, Or.inr (Or.inr (⟨q.2.1, by have q9 := q.2.2; omega⟩))⟩) htb hlocks (Nat.le_of_ble_eq_true rfl) (Nat.le_of_ble_eq_true rfl) (vx_runV (As := []) (rest := []) ⟨hx, hb, hml, hown, hts⟩ (c_X2_requireSchedule l hl0 D g a L att T hs tm tk lt  hok.1 _) (cwV 0 hts gX2_move_X2_requireSchedule rfl rfl rfl (by decide +kernel) ⟨Nat.le_of_ble_eq_true rfl, Nat.le_of_ble_eq_true rfl⟩) (x_preV 0 hK hP hD hS hA hE hV rfl rfl) rfl rfl hl.1 rfl (lv_room (Nat.le_of_ble_eq_true rfl)) dX2_move_27 ⟨Nat.le_of_ble_eq_true rfl, Nat.le_of_ble_eq_true rfl⟩) hS hD hA (fun w1 H locs hw1 hP hD hS => ?_)
      obtain ⟨hq2, rfl⟩ := hw1
      obtain ⟨j, rfl⟩ : ∃ j : Nat, i = (j : Int) := ⟨i.toNat, by omega⟩
      obtain ⟨v, rfl⟩ : ∃ v : Nat, u = (v : Int) := ⟨u.toNat, by omega⟩
      have hTT : 0 < T ∧ T ≤ 200 := ⟨by omega, hok.1⟩
      have hbt := (hok.2 hTT.1).1
      have hbk := (hok.2 hTT.1).2.1
      have hb0 := (hok.2 hTT.1).2.2
      have hB1 : (0 : Int) ≤ 1000000 ∧ (1000000 : Int) ≤ 1000000 := by decide
      have hj0 := hb0 j (by omega)
      have h0 : tm j = (((tm j).toNat : Nat) : Int) := by omega
      obtain ⟨t0, ht0⟩ : ∃ t0 : Nat, t0 = (tm j).toNat := ⟨_, rfl⟩
      rw [← ht0] at h0
      refine lv_aload_n hx hb dX2_move_30 rfl (lv_at hl 0 rfl) ?_
      refine va_get (D := D) (ci := 2) (v := .ref (a 2)) (C := RX2) (T := TX2) (N := 3) hx hb hts hinX2 hown hK hP 0 rfl rfl 1 (by decide) (hts (.fieldLink RX2 21 "LoopScheduler" "table" "LLoopScheduler$Timetable;") (List.mem_of_getElem? (i := 3) rfl)) (fun _ h9 => h9) rfl dX2_move_31 ?_
      refine lv_iload_n hx hb dX2_move_34 rfl (lv_at hl 1 rfl) ?_
      refine lv_iload_n hx hb dX2_move_35 rfl (lv_at hl 2 rfl) ?_
      refine z_calli (va_runV (As := [.int (iI ((j : Nat) : Int)), .int (iI ((v : Nat) : Int))]) (rest := []) ⟨hx, hb, hml, hown, hts⟩ (c_X1_replace l D g a L att T hs tm tk lt 1000000 1000 j v t0 hw hTT hB1 hbt (by omega) hbk (by omega) (by omega) h0 _) (cwV 2 hts gX2_move_X1_replace rfl rfl rfl (by decide +kernel) ⟨Nat.le_of_ble_eq_true rfl, Nat.le_of_ble_eq_true rfl⟩) (z_preV 2 hK hP hD rfl rfl) rfl rfl hl.1 rfl (lv_room (Nat.le_of_ble_eq_true rfl)) dX2_move_36 ⟨Nat.le_of_ble_eq_true rfl, Nat.le_of_ble_eq_true rfl⟩) hS hD hA (fun r w1 H locs hw1 hP hD hS => ?_)
      obtain ⟨rfl, rfl⟩ := hw1
      exact x_zret (w := (wX a g L att T hs (upZ (lTm tm j) j ((rT L T tm tk j v t0 : Nat) : Int)) (pTk L T (lTk L T tk j t0) j (rT L T tm tk j v t0)) lt)) (v := (iI (bI (vR L T (lTm tm j) (lTk L T tk j t0) j v)))) (z_nb _) hQ hx hb hr hlocks ⟨by omega, by rw [ht0]; rfl, by rw [ht0]; rfl⟩ hK hP hD hS (Nat.le_of_ble_eq_true rfl) (Nat.le_of_ble_eq_true rfl) dX2_move_39
    · exact x_throw (w := (wX a g L att T hs tm tk lt)) (cls := nIA) (text := "time is not 0 to 1000") (ik := 29) (is := 126) (ic := 33) hl0 hQ ⟨rfl, Or.inr (Or.inl (⟨rfl, by omega⟩))⟩ htb hlocks hx hb hown hml hl.1 (by decide) (hts (.classLink RX2 29 "java/lang/IllegalArgumentException") (List.mem_of_getElem? (i := 1) rfl)) (hts (.initialized "java/lang/IllegalArgumentException") (List.mem_of_getElem? (i := 2) rfl)) hatIA xb_IA hV.1.2.2.2.1 xg_IA hE hV (List.mem_of_getElem? (i := 9) rfl) hK hP hD hS dX2_move_16 dX2_move_19 dX2_move_20 dX2_move_22 dX2_move_25 (Nat.le_of_ble_eq_true rfl) (Nat.le_of_ble_eq_true rfl) (Nat.le_of_ble_eq_true rfl) (Nat.le_of_ble_eq_true rfl) (Nat.le_of_ble_eq_true rfl) (Nat.le_of_ble_eq_true rfl)
set_option maxHeartbeats 4000000 in
set_option maxRecDepth 100000 in
theorem c_X2_stages (l : Launch) (hl0 : l.stackTraces = false) (D : va_G) (g : Nat → ClassId) (a : Nat → Nat) (L : LD) (att T : Nat) (hs tm : Nat → Int) (tk : Nat → Nat → Int) (lt : Nat → Int)  (hw : wf L) (hok : okX L T tm tk) : xMi l D (zT g) yX2_stages wsX2_stages 7 102 1 (wX a g L att T hs tm tk lt) [.ref (a 0)] (fun r w1 => (0 < T) ∧ r = iI (sG L T tm) ∧ w1 = wX a g L att T hs tm tk lt) (fun E w9 => w9 = wX a g L att T hs tm tk lt ∧ ((E = nIS ∧ ¬ (0 < T)))) := by
  refine x_ofI (cc := cX2_stages) (maxL := 1) (ret := (some .int)) (by decide) rfl (Nat.le_of_ble_eq_true rfl) ?_
  intro p e s m args below meth c A ls hx hb hr hts hown hlocks hml hP hK hD hS hA hl hE hV htb Q hQ
  have hown : s.vm.findClass RX2 = some m.cls := hown
  have hinX0 : ∀ w ∈ u_ws RX0 TX0 10, w ∈ wsX2_stages := by decide +kernel
  have hinX1 : ∀ w ∈ u_ws RX1 TX1 5, w ∈ wsX2_stages := by decide +kernel
  have hinX2 : ∀ w ∈ u_ws RX2 TX2 3, w ∈ wsX2_stages := by decide +kernel
  have hl : lv_has ls 1 [(0, .ref (a 0))] := hl
  refine lv_aload_n hx hb dX2_stages_0 rfl (lv_at hl 0 rfl) ?_
  refine x_callv hQ (fun E u q => ⟨q.1, ⟨q.2.1, by have q9 := q.2.2; omega⟩⟩) htb hlocks (Nat.le_of_ble_eq_true rfl) (Nat.le_of_ble_eq_true rfl) (vx_runV (As := []) (rest := []) ⟨hx, hb, hml, hown, hts⟩ (c_X2_requireSchedule l hl0 D g a L att T hs tm tk lt  hok.1 _) (cwV 0 hts gX2_stages_X2_requireSchedule rfl rfl rfl (by decide +kernel) ⟨Nat.le_of_ble_eq_true rfl, Nat.le_of_ble_eq_true rfl⟩) (x_preV 0 hK hP hD hS hA hE hV rfl rfl) rfl rfl hl.1 rfl (lv_room (Nat.le_of_ble_eq_true rfl)) dX2_stages_1 ⟨Nat.le_of_ble_eq_true rfl, Nat.le_of_ble_eq_true rfl⟩) hS hD hA (fun w1 H locs hw1 hP hD hS => ?_)
  obtain ⟨hq0, rfl⟩ := hw1
  have hTT : 0 < T ∧ T ≤ 200 := ⟨by omega, hok.1⟩
  have hbt := (hok.2 hTT.1).1
  have hbk := (hok.2 hTT.1).2.1
  have hb0 := (hok.2 hTT.1).2.2
  have hB1 : (0 : Int) ≤ 1000000 ∧ (1000000 : Int) ≤ 1000000 := by decide
  refine lv_aload_n hx hb dX2_stages_4 rfl (lv_at hl 0 rfl) ?_
  refine va_get (D := D) (ci := 2) (v := .ref (a 2)) (C := RX2) (T := TX2) (N := 3) hx hb hts hinX2 hown hK hP 0 rfl rfl 1 (by decide) (hts (.fieldLink RX2 21 "LoopScheduler" "table" "LLoopScheduler$Timetable;") (List.mem_of_getElem? (i := 1) rfl)) (fun _ h9 => h9) rfl dX2_stages_5 ?_
  refine z_calli (va_runV (As := []) (rest := []) ⟨hx, hb, hml, hown, hts⟩ (c_X1_countStages l D g a L att T hs tm tk lt 1000000 hw hTT hB1 hbt _) (cwV 0 hts gX2_stages_X1_countStages rfl rfl rfl (by decide +kernel) ⟨Nat.le_of_ble_eq_true rfl, Nat.le_of_ble_eq_true rfl⟩) (z_preV 2 hK hP hD rfl rfl) rfl rfl hl.1 rfl (lv_room (Nat.le_of_ble_eq_true rfl)) dX2_stages_8 ⟨Nat.le_of_ble_eq_true rfl, Nat.le_of_ble_eq_true rfl⟩) hS hD hA (fun r w1 H locs hw1 hP hD hS => ?_)
  obtain ⟨rfl, rfl⟩ := hw1
  exact x_iret (w := (wX a g L att T hs tm tk lt)) (v := (iI (sG L T tm))) hQ hx hb hr hlocks ⟨by omega, rfl, rfl⟩ hK hP hD hS (Nat.le_of_ble_eq_true rfl) (Nat.le_of_ble_eq_true rfl) dX2_stages_11
set_option maxHeartbeats 4000000 in
set_option maxRecDepth 100000 in
theorem c_X2_taken (l : Launch) (hl0 : l.stackTraces = false) (D : va_G) (g : Nat → ClassId) (a : Nat → Nat) (L : LD) (att T : Nat) (hs tm : Nat → Int) (tk : Nat → Nat → Int) (lt : Nat → Int) (i k : Int) (hw : wf L) (hok : okX L T tm tk) (hri : -2147483648 ≤ i ∧ i < 2147483648) (hrk : -2147483648 ≤ k ∧ k < 2147483648) : xMi l D (zT g) yX2_taken wsX2_taken 7 103 3 (wX a g L att T hs tm tk lt) [.ref (a 0), .int (iI (i)), .int (iI (k))] (fun r w1 => ((0 ≤ k ∧ k ≤ 2) ∧ 0 < T ∧ (0 ≤ i ∧ i < (T : Int))) ∧ r = iI (tk k.toNat i.toNat) ∧ w1 = wX a g L att T hs tm tk lt) (fun E w9 => w9 = wX a g L att T hs tm tk lt ∧ ((E = nIX ∧ ¬ (0 ≤ k ∧ k ≤ 2)) ∨ (E = nIS ∧ (0 ≤ k ∧ k ≤ 2) ∧ T = 0) ∨ (E = nIA ∧ (0 ≤ k ∧ k ≤ 2) ∧ 0 < T ∧ ¬ (0 ≤ i ∧ i < (T : Int))))) := by
  refine x_ofI (cc := cX2_taken) (maxL := 3) (ret := (some .int)) (by decide) rfl (Nat.le_of_ble_eq_true rfl) ?_
  intro p e s m args below meth c A ls hx hb hr hts hown hlocks hml hP hK hD hS hA hl hE hV htb Q hQ
  have hown : s.vm.findClass RX2 = some m.cls := hown
  have hinX1 : ∀ w ∈ u_ws RX1 TX1 5, w ∈ wsX2_taken := by decide +kernel
  have hinX2 : ∀ w ∈ u_ws RX2 TX2 3, w ∈ wsX2_taken := by decide +kernel
  have hl : lv_has ls 3 [(0, .ref (a 0)), (1, .int (iI (i))), (2, .int (iI (k)))] := hl
  refine lv_iload_n hx hb dX2_taken_0 rfl (lv_at hl 2 rfl) ?_
  refine x_callv hQ (fun E u q => ⟨q.1, Or.inl (⟨q.2.1, by have q9 := q.2.2; omega⟩)⟩) htb hlocks (Nat.le_of_ble_eq_true rfl) (Nat.le_of_ble_eq_true rfl) (vx_runS (As := [.int (iI (k))]) (rest := []) ⟨hx, hb, hml, hown, hts⟩ (c_X2_requireKind l hl0 D g a L att T hs tm tk lt k (by omega) _) (va_cwS 1 hts gX2_taken_X2_requireKind rfl rfl rfl (by decide +kernel) ⟨Nat.le_of_ble_eq_true rfl, Nat.le_of_ble_eq_true rfl⟩) (x_preS hK hP hD hS hA hE hV) rfl rfl hl.1 rfl (lv_room (Nat.le_of_ble_eq_true rfl)) dX2_taken_1 ⟨Nat.le_of_ble_eq_true rfl, Nat.le_of_ble_eq_true rfl⟩) hS hD hA (fun w1 H locs hw1 hP hD hS => ?_)
  obtain ⟨hq0, rfl⟩ := hw1
  refine lv_aload_n hx hb dX2_taken_4 rfl (lv_at hl 0 rfl) ?_
  refine x_callv hQ (fun E u q => ⟨q.1, Or.inr (Or.inl (⟨q.2.1, by have q9 := q.2.2; omega⟩))⟩) htb hlocks (Nat.le_of_ble_eq_true rfl) (Nat.le_of_ble_eq_true rfl) (vx_runV (As := []) (rest := []) ⟨hx, hb, hml, hown, hts⟩ (c_X2_requireSchedule l hl0 D g a L att T hs tm tk lt  hok.1 _) (cwV 0 hts gX2_taken_X2_requireSchedule rfl rfl rfl (by decide +kernel) ⟨Nat.le_of_ble_eq_true rfl, Nat.le_of_ble_eq_true rfl⟩) (x_preV 0 hK hP hD hS hA hE hV rfl rfl) rfl rfl hl.1 rfl (lv_room (Nat.le_of_ble_eq_true rfl)) dX2_taken_5 ⟨Nat.le_of_ble_eq_true rfl, Nat.le_of_ble_eq_true rfl⟩) hS hD hA (fun w1 H locs hw1 hP hD hS => ?_)
  obtain ⟨hq1, rfl⟩ := hw1
  refine lv_aload_n hx hb dX2_taken_8 rfl (lv_at hl 0 rfl) ?_
  refine lv_iload_n hx hb dX2_taken_9 rfl (lv_at hl 1 rfl) ?_
  refine x_callv hQ (fun E u q => ⟨q.1, Or.inr (Or.inr (⟨q.2.1, by have q9 := q.2.2; omega⟩))⟩) htb hlocks (Nat.le_of_ble_eq_true rfl) (Nat.le_of_ble_eq_true rfl) (vx_runV (As := [.int (iI (i))]) (rest := []) ⟨hx, hb, hml, hown, hts⟩ (c_X2_requireRow l hl0 D g a L att T hs tm tk lt i hok.1 (by omega) _) (cwV 1 hts gX2_taken_X2_requireRow rfl rfl rfl (by decide +kernel) ⟨Nat.le_of_ble_eq_true rfl, Nat.le_of_ble_eq_true rfl⟩) (x_preV 0 hK hP hD hS hA hE hV rfl rfl) rfl rfl hl.1 rfl (lv_room (Nat.le_of_ble_eq_true rfl)) dX2_taken_10 ⟨Nat.le_of_ble_eq_true rfl, Nat.le_of_ble_eq_true rfl⟩) hS hD hA (fun w1 H locs hw1 hP hD hS => ?_)
  obtain ⟨hq2, rfl⟩ := hw1
  obtain ⟨x, rfl⟩ : ∃ x : Nat, k = (x : Int) := ⟨k.toNat, by omega⟩
  obtain ⟨j, rfl⟩ : ∃ j : Nat, i = (j : Int) := ⟨i.toNat, by omega⟩
  have hTT : 0 < T ∧ T ≤ 200 := ⟨by omega, hok.1⟩
  have hbt := (hok.2 hTT.1).1
  have hbk := (hok.2 hTT.1).2.1
  have hb0 := (hok.2 hTT.1).2.2
  have hB1 : (0 : Int) ≤ 1000000 ∧ (1000000 : Int) ≤ 1000000 := by decide
  refine lv_aload_n hx hb dX2_taken_13 rfl (lv_at hl 0 rfl) ?_
  refine va_get (D := D) (ci := 2) (v := .ref (a 2)) (C := RX2) (T := TX2) (N := 3) hx hb hts hinX2 hown hK hP 0 rfl rfl 1 (by decide) (hts (.fieldLink RX2 21 "LoopScheduler" "table" "LLoopScheduler$Timetable;") (List.mem_of_getElem? (i := 1) rfl)) (fun _ h9 => h9) rfl dX2_taken_14 ?_
  refine va_get (D := D) (ci := 1) (v := .ref (a 12)) (C := RX1) (T := TX1) (N := 5) hx hb hts hinX1 hown hK hP 2 rfl rfl 2 (by decide) (hts (.fieldLink RX2 142 "LoopScheduler$Timetable" "takenUnits" "[[I") (List.mem_of_getElem? (i := 2) rfl)) (fun _ h9 => h9) rfl dX2_taken_17 ?_
  refine lv_iload_n hx hb dX2_taken_20 rfl (lv_at hl 2 rfl) ?_
  refine z_aald (z := x) (a1 := a (13 + x)) hx hb hK hP 12 1 rfl rfl (by omega) (by decide) (if_pos (by omega)) dX2_taken_21 ?_
  refine lv_iload_n hx hb dX2_taken_22 rfl (lv_at hl 1 rfl) ?_
  refine z_ialdN (f := tk x) (z := j) hx hb hK hP (13 + x) 0 (wX_row (show x < 3 by omega)) rfl (by omega) (by decide) dX2_taken_23 ?_
  exact x_iret (w := (wX a g L att T hs tm tk lt)) (v := (iI (tk x j))) hQ hx hb hr hlocks ⟨by omega, rfl, rfl⟩ hK hP hD hS (Nat.le_of_ble_eq_true rfl) (Nat.le_of_ble_eq_true rfl) dX2_taken_24
set_option maxHeartbeats 4000000 in
set_option maxRecDepth 100000 in
theorem c_X2_lifetime (l : Launch) (hl0 : l.stackTraces = false) (D : va_G) (g : Nat → ClassId) (a : Nat → Nat) (L : LD) (att T : Nat) (hs tm : Nat → Int) (tk : Nat → Nat → Int) (lt : Nat → Int) (i : Int) (hw : wf L) (hok : okX L T tm tk) (hri : -2147483648 ≤ i ∧ i < 2147483648) : xMi l D (zT g) yX2_lifetime wsX2_lifetime 7 103 2 (wX a g L att T hs tm tk lt) [.ref (a 0), .int (iI (i))] (fun r w1 => ((0 ≤ i ∧ i < (Ln L : Int)) ∧ 0 < T) ∧ r = iI (fLt L T tm (Lm L) i.toNat) ∧ w1 = wX a g L att T hs tm tk (fLt L T tm (Lm L))) (fun E w9 => w9 = wX a g L att T hs tm tk lt ∧ ((E = nIX ∧ ¬ (0 ≤ i ∧ i < (Ln L : Int))) ∨ (E = nIS ∧ (0 ≤ i ∧ i < (Ln L : Int)) ∧ T = 0))) := by
  refine x_ofI (cc := cX2_lifetime) (maxL := 2) (ret := (some .int)) (by decide) rfl (Nat.le_of_ble_eq_true rfl) ?_
  intro p e s m args below meth c A ls hx hb hr hts hown hlocks hml hP hK hD hS hA hl hE hV htb Q hQ
  have hown : s.vm.findClass RX2 = some m.cls := hown
  have hinX0 : ∀ w ∈ u_ws RX0 TX0 10, w ∈ wsX2_lifetime := by decide +kernel
  have hinX1 : ∀ w ∈ u_ws RX1 TX1 5, w ∈ wsX2_lifetime := by decide +kernel
  have hinX2 : ∀ w ∈ u_ws RX2 TX2 3, w ∈ wsX2_lifetime := by decide +kernel
  have hl : lv_has ls 2 [(0, .ref (a 0)), (1, .int (iI (i)))] := hl
  have hwn := wf_n hw
  refine lv_aload_n hx hb dX2_lifetime_0 rfl (lv_at hl 0 rfl) ?_
  refine lv_iload_n hx hb dX2_lifetime_1 rfl (lv_at hl 1 rfl) ?_
  refine x_callv hQ (fun E u q => ⟨q.1, Or.inl (⟨q.2.1, by have q9 := q.2.2; omega⟩)⟩) htb hlocks (Nat.le_of_ble_eq_true rfl) (Nat.le_of_ble_eq_true rfl) (vx_runV (As := [.int (iI (i))]) (rest := []) ⟨hx, hb, hml, hown, hts⟩ (c_X2_requireOperation l hl0 D g a L att T hs tm tk lt i hw (by omega) _) (cwV 1 hts gX2_lifetime_X2_requireOperation rfl rfl rfl (by decide +kernel) ⟨Nat.le_of_ble_eq_true rfl, Nat.le_of_ble_eq_true rfl⟩) (x_preV 0 hK hP hD hS hA hE hV rfl rfl) rfl rfl hl.1 rfl (lv_room (Nat.le_of_ble_eq_true rfl)) dX2_lifetime_2 ⟨Nat.le_of_ble_eq_true rfl, Nat.le_of_ble_eq_true rfl⟩) hS hD hA (fun w1 H locs hw1 hP hD hS => ?_)
  obtain ⟨hq0, rfl⟩ := hw1
  refine lv_aload_n hx hb dX2_lifetime_5 rfl (lv_at hl 0 rfl) ?_
  refine x_callv hQ (fun E u q => ⟨q.1, Or.inr (⟨q.2.1, by have q9 := q.2.2; omega⟩)⟩) htb hlocks (Nat.le_of_ble_eq_true rfl) (Nat.le_of_ble_eq_true rfl) (vx_runV (As := []) (rest := []) ⟨hx, hb, hml, hown, hts⟩ (c_X2_requireSchedule l hl0 D g a L att T hs tm tk lt  hok.1 _) (cwV 0 hts gX2_lifetime_X2_requireSchedule rfl rfl rfl (by decide +kernel) ⟨Nat.le_of_ble_eq_true rfl, Nat.le_of_ble_eq_true rfl⟩) (x_preV 0 hK hP hD hS hA hE hV rfl rfl) rfl rfl hl.1 rfl (lv_room (Nat.le_of_ble_eq_true rfl)) dX2_lifetime_6 ⟨Nat.le_of_ble_eq_true rfl, Nat.le_of_ble_eq_true rfl⟩) hS hD hA (fun w1 H locs hw1 hP hD hS => ?_)
  obtain ⟨hq1, rfl⟩ := hw1
  obtain ⟨j, rfl⟩ : ∃ j : Nat, i = (j : Int) := ⟨i.toNat, by omega⟩
  have hTT : 0 < T ∧ T ≤ 200 := ⟨by omega, hok.1⟩
  have hbt := (hok.2 hTT.1).1
  have hbk := (hok.2 hTT.1).2.1
  have hb0 := (hok.2 hTT.1).2.2
  have hB1 : (0 : Int) ≤ 1000000 ∧ (1000000 : Int) ≤ 1000000 := by decide
  have hj0 := hb0 j (by omega)
  have hbtj := hbt j
  have hlt : ∀ j, 0 ≤ fLt L T tm (Lm L) j ∧ fLt L T tm (Lm L) j ≤ 2000000 := fun j => by have q9 := fLt_bd hw hTT.2 hbt hB1.1 (Lm L) j; omega
  refine lv_aload_n hx hb dX2_lifetime_9 rfl (lv_at hl 0 rfl) ?_
  refine va_get (D := D) (ci := 2) (v := .ref (a 2)) (C := RX2) (T := TX2) (N := 3) hx hb hts hinX2 hown hK hP 0 rfl rfl 1 (by decide) (hts (.fieldLink RX2 21 "LoopScheduler" "table" "LLoopScheduler$Timetable;") (List.mem_of_getElem? (i := 1) rfl)) (fun _ h9 => h9) rfl dX2_lifetime_10 ?_
  refine z_callv (va_runV (As := []) (rest := []) ⟨hx, hb, hml, hown, hts⟩ (c_X1_findLifetimes l D g a L att T hs tm tk lt 1000000 hw hTT hB1 hbt _) (cwV 0 hts gX2_lifetime_X1_findLifetimes rfl rfl rfl (by decide +kernel) ⟨Nat.le_of_ble_eq_true rfl, Nat.le_of_ble_eq_true rfl⟩) (z_preV 2 hK hP hD rfl rfl) rfl rfl hl.1 rfl (lv_room (Nat.le_of_ble_eq_true rfl)) dX2_lifetime_13 ⟨Nat.le_of_ble_eq_true rfl, Nat.le_of_ble_eq_true rfl⟩) hS hD hA (fun w1 H locs hw1 hP hD hS => ?_)
  subst hw1
  refine lv_aload_n hx hb dX2_lifetime_16 rfl (lv_at hl 0 rfl) ?_
  refine va_get (D := D) (ci := 2) (v := .ref (a 2)) (C := RX2) (T := TX2) (N := 3) hx hb hts hinX2 hown hK hP 0 rfl rfl 1 (by decide) (hts (.fieldLink RX2 21 "LoopScheduler" "table" "LLoopScheduler$Timetable;") (List.mem_of_getElem? (i := 1) rfl)) (fun _ h9 => h9) rfl dX2_lifetime_17 ?_
  refine va_get (D := D) (ci := 1) (v := .ref (a 16)) (C := RX1) (T := TX1) (N := 5) hx hb hts hinX1 hown hK hP 2 rfl rfl 3 (by decide) (hts (.fieldLink RX2 149 "LoopScheduler$Timetable" "lifetimes" "[I") (List.mem_of_getElem? (i := 2) rfl)) (fun _ h9 => h9) rfl dX2_lifetime_20 ?_
  refine lv_iload_n hx hb dX2_lifetime_23 rfl (lv_at hl 1 rfl) ?_
  refine z_ialdN (f := (fLt L T tm (Lm L))) (z := j) hx hb hK hP 16 0 rfl rfl (by omega) (by decide) dX2_lifetime_24 ?_
  exact x_iret (w := (wX a g L att T hs tm tk (fLt L T tm (Lm L)))) (v := (iI ((fLt L T tm (Lm L)) j))) hQ hx hb hr hlocks ⟨by omega, rfl, rfl⟩ hK hP hD hS (Nat.le_of_ble_eq_true rfl) (Nat.le_of_ble_eq_true rfl) dX2_lifetime_25
set_option maxHeartbeats 4000000 in
set_option maxRecDepth 100000 in
theorem c_X2_live (l : Launch) (hl0 : l.stackTraces = false) (D : va_G) (g : Nat → ClassId) (a : Nat → Nat) (L : LD) (att T : Nat) (hs tm : Nat → Int) (tk : Nat → Nat → Int) (lt : Nat → Int) (i : Int) (hw : wf L) (hok : okX L T tm tk) (hri : -2147483648 ≤ i ∧ i < 2147483648) : xMi l D (zT g) yX2_live wsX2_live 7 103 2 (wX a g L att T hs tm tk lt) [.ref (a 0), .int (iI (i))] (fun r w1 => (0 < T ∧ (0 ≤ i ∧ i < (T : Int))) ∧ r = iI (cL T tm (fLt L T tm (Lm L)) ((i.toNat : Nat) : Int) (Ln L)) ∧ w1 = wX a g L att T hs tm tk (fLt L T tm (Lm L))) (fun E w9 => w9 = wX a g L att T hs tm tk lt ∧ ((E = nIS ∧ ¬ (0 < T)) ∨ (E = nIA ∧ 0 < T ∧ ¬ (0 ≤ i ∧ i < (T : Int))))) := by
  refine x_ofI (cc := cX2_live) (maxL := 2) (ret := (some .int)) (by decide) rfl (Nat.le_of_ble_eq_true rfl) ?_
  intro p e s m args below meth c A ls hx hb hr hts hown hlocks hml hP hK hD hS hA hl hE hV htb Q hQ
  have hown : s.vm.findClass RX2 = some m.cls := hown
  have hinX0 : ∀ w ∈ u_ws RX0 TX0 10, w ∈ wsX2_live := by decide +kernel
  have hinX1 : ∀ w ∈ u_ws RX1 TX1 5, w ∈ wsX2_live := by decide +kernel
  have hinX2 : ∀ w ∈ u_ws RX2 TX2 3, w ∈ wsX2_live := by decide +kernel
  have hl : lv_has ls 2 [(0, .ref (a 0)), (1, .int (iI (i)))] := hl
  refine lv_aload_n hx hb dX2_live_0 rfl (lv_at hl 0 rfl) ?_
  refine x_callv hQ (fun E u q => ⟨q.1, Or.inl (⟨q.2.1, by have q9 := q.2.2; omega⟩)⟩) htb hlocks (Nat.le_of_ble_eq_true rfl) (Nat.le_of_ble_eq_true rfl) (vx_runV (As := []) (rest := []) ⟨hx, hb, hml, hown, hts⟩ (c_X2_requireSchedule l hl0 D g a L att T hs tm tk lt  hok.1 _) (cwV 0 hts gX2_live_X2_requireSchedule rfl rfl rfl (by decide +kernel) ⟨Nat.le_of_ble_eq_true rfl, Nat.le_of_ble_eq_true rfl⟩) (x_preV 0 hK hP hD hS hA hE hV rfl rfl) rfl rfl hl.1 rfl (lv_room (Nat.le_of_ble_eq_true rfl)) dX2_live_1 ⟨Nat.le_of_ble_eq_true rfl, Nat.le_of_ble_eq_true rfl⟩) hS hD hA (fun w1 H locs hw1 hP hD hS => ?_)
  obtain ⟨hq0, rfl⟩ := hw1
  refine lv_aload_n hx hb dX2_live_4 rfl (lv_at hl 0 rfl) ?_
  refine lv_iload_n hx hb dX2_live_5 rfl (lv_at hl 1 rfl) ?_
  refine x_callv hQ (fun E u q => ⟨q.1, Or.inr (⟨q.2.1, by have q9 := q.2.2; omega⟩)⟩) htb hlocks (Nat.le_of_ble_eq_true rfl) (Nat.le_of_ble_eq_true rfl) (vx_runV (As := [.int (iI (i))]) (rest := []) ⟨hx, hb, hml, hown, hts⟩ (c_X2_requireRow l hl0 D g a L att T hs tm tk lt i hok.1 (by omega) _) (cwV 1 hts gX2_live_X2_requireRow rfl rfl rfl (by decide +kernel) ⟨Nat.le_of_ble_eq_true rfl, Nat.le_of_ble_eq_true rfl⟩) (x_preV 0 hK hP hD hS hA hE hV rfl rfl) rfl rfl hl.1 rfl (lv_room (Nat.le_of_ble_eq_true rfl)) dX2_live_6 ⟨Nat.le_of_ble_eq_true rfl, Nat.le_of_ble_eq_true rfl⟩) hS hD hA (fun w1 H locs hw1 hP hD hS => ?_)
  obtain ⟨hq1, rfl⟩ := hw1
  obtain ⟨j, rfl⟩ : ∃ j : Nat, i = (j : Int) := ⟨i.toNat, by omega⟩
  have hTT : 0 < T ∧ T ≤ 200 := ⟨by omega, hok.1⟩
  have hbt := (hok.2 hTT.1).1
  have hbk := (hok.2 hTT.1).2.1
  have hb0 := (hok.2 hTT.1).2.2
  have hB1 : (0 : Int) ≤ 1000000 ∧ (1000000 : Int) ≤ 1000000 := by decide
  have hlt : ∀ j, 0 ≤ fLt L T tm (Lm L) j ∧ fLt L T tm (Lm L) j ≤ 2000000 := fun j => by have q9 := fLt_bd hw hTT.2 hbt hB1.1 (Lm L) j; omega
  refine lv_aload_n hx hb dX2_live_9 rfl (lv_at hl 0 rfl) ?_
  refine va_get (D := D) (ci := 2) (v := .ref (a 2)) (C := RX2) (T := TX2) (N := 3) hx hb hts hinX2 hown hK hP 0 rfl rfl 1 (by decide) (hts (.fieldLink RX2 21 "LoopScheduler" "table" "LLoopScheduler$Timetable;") (List.mem_of_getElem? (i := 1) rfl)) (fun _ h9 => h9) rfl dX2_live_10 ?_
  refine z_callv (va_runV (As := []) (rest := []) ⟨hx, hb, hml, hown, hts⟩ (c_X1_findLifetimes l D g a L att T hs tm tk lt 1000000 hw hTT hB1 hbt _) (cwV 0 hts gX2_live_X1_findLifetimes rfl rfl rfl (by decide +kernel) ⟨Nat.le_of_ble_eq_true rfl, Nat.le_of_ble_eq_true rfl⟩) (z_preV 2 hK hP hD rfl rfl) rfl rfl hl.1 rfl (lv_room (Nat.le_of_ble_eq_true rfl)) dX2_live_13 ⟨Nat.le_of_ble_eq_true rfl, Nat.le_of_ble_eq_true rfl⟩) hS hD hA (fun w1 H locs hw1 hP hD hS => ?_)
  subst hw1
  refine lv_aload_n hx hb dX2_live_16 rfl (lv_at hl 0 rfl) ?_
  refine va_get (D := D) (ci := 2) (v := .ref (a 2)) (C := RX2) (T := TX2) (N := 3) hx hb hts hinX2 hown hK hP 0 rfl rfl 1 (by decide) (hts (.fieldLink RX2 21 "LoopScheduler" "table" "LLoopScheduler$Timetable;") (List.mem_of_getElem? (i := 1) rfl)) (fun _ h9 => h9) rfl dX2_live_17 ?_
  refine lv_iload_n hx hb dX2_live_20 rfl (lv_at hl 1 rfl) ?_
  refine z_calli (va_runV (As := [.int (iI ((j : Nat) : Int))]) (rest := []) ⟨hx, hb, hml, hown, hts⟩ (c_X1_countLive l D g a L att T hs tm tk (fLt L T tm (Lm L)) 1000000 j hw hTT hB1 hbt hlt (by omega) _) (cwV 1 hts gX2_live_X1_countLive rfl rfl rfl (by decide +kernel) ⟨Nat.le_of_ble_eq_true rfl, Nat.le_of_ble_eq_true rfl⟩) (z_preV 2 hK hP hD rfl rfl) rfl rfl hl.1 rfl (lv_room (Nat.le_of_ble_eq_true rfl)) dX2_live_21 ⟨Nat.le_of_ble_eq_true rfl, Nat.le_of_ble_eq_true rfl⟩) hS hD hA (fun r w1 H locs hw1 hP hD hS => ?_)
  obtain ⟨rfl, rfl⟩ := hw1
  exact x_iret (w := (wX a g L att T hs tm tk (fLt L T tm (Lm L)))) (v := (iI (cL T tm (fLt L T tm (Lm L)) ((j : Nat) : Int) (Ln L)))) hQ hx hb hr hlocks ⟨by omega, rfl, rfl⟩ hK hP hD hS (Nat.le_of_ble_eq_true rfl) (Nat.le_of_ble_eq_true rfl) dX2_live_24
set_option maxHeartbeats 4000000 in
set_option maxRecDepth 100000 in
theorem c_X2_registers (l : Launch) (hl0 : l.stackTraces = false) (D : va_G) (g : Nat → ClassId) (a : Nat → Nat) (L : LD) (att T : Nat) (hs tm : Nat → Int) (tk : Nat → Nat → Int) (lt : Nat → Int)  (hw : wf L) (hok : okX L T tm tk) : xMi l D (zT g) yX2_registers wsX2_registers 7 102 1 (wX a g L att T hs tm tk lt) [.ref (a 0)] (fun r w1 => (0 < T) ∧ r = iI (rg (fun r => cL T tm (fLt L T tm (Lm L)) ((r : Nat) : Int) (Ln L)) T) ∧ w1 = wX a g L att T hs tm tk (fLt L T tm (Lm L))) (fun E w9 => w9 = wX a g L att T hs tm tk lt ∧ ((E = nIS ∧ ¬ (0 < T)))) := by
  refine x_ofI (cc := cX2_registers) (maxL := 3) (ret := (some .int)) (by decide) rfl (Nat.le_of_ble_eq_true rfl) ?_
  intro p e s m args below meth c A ls hx hb hr hts hown hlocks hml hP hK hD hS hA hl hE hV htb Q hQ
  have hown : s.vm.findClass RX2 = some m.cls := hown
  have hinX0 : ∀ w ∈ u_ws RX0 TX0 10, w ∈ wsX2_registers := by decide +kernel
  have hinX1 : ∀ w ∈ u_ws RX1 TX1 5, w ∈ wsX2_registers := by decide +kernel
  have hinX2 : ∀ w ∈ u_ws RX2 TX2 3, w ∈ wsX2_registers := by decide +kernel
  have hl : lv_has ls 3 [(0, .ref (a 0))] := hl
  refine lv_aload_n hx hb dX2_registers_0 rfl (lv_at hl 0 rfl) ?_
  refine x_callv hQ (fun E u q => ⟨q.1, ⟨q.2.1, by have q9 := q.2.2; omega⟩⟩) htb hlocks (Nat.le_of_ble_eq_true rfl) (Nat.le_of_ble_eq_true rfl) (vx_runV (As := []) (rest := []) ⟨hx, hb, hml, hown, hts⟩ (c_X2_requireSchedule l hl0 D g a L att T hs tm tk lt  hok.1 _) (cwV 0 hts gX2_registers_X2_requireSchedule rfl rfl rfl (by decide +kernel) ⟨Nat.le_of_ble_eq_true rfl, Nat.le_of_ble_eq_true rfl⟩) (x_preV 0 hK hP hD hS hA hE hV rfl rfl) rfl rfl hl.1 rfl (lv_room (Nat.le_of_ble_eq_true rfl)) dX2_registers_1 ⟨Nat.le_of_ble_eq_true rfl, Nat.le_of_ble_eq_true rfl⟩) hS hD hA (fun w1 H locs hw1 hP hD hS => ?_)
  obtain ⟨hq0, rfl⟩ := hw1
  have hTT : 0 < T ∧ T ≤ 200 := ⟨by omega, hok.1⟩
  have hbt := (hok.2 hTT.1).1
  have hbk := (hok.2 hTT.1).2.1
  have hb0 := (hok.2 hTT.1).2.2
  have hB1 : (0 : Int) ≤ 1000000 ∧ (1000000 : Int) ≤ 1000000 := by decide
  have hlt : ∀ j, 0 ≤ fLt L T tm (Lm L) j ∧ fLt L T tm (Lm L) j ≤ 2000000 := fun j => by have q9 := fLt_bd hw hTT.2 hbt hB1.1 (Lm L) j; omega
  have hwn := wf_n hw
  have hcl : ∀ r : Nat, 0 ≤ (fun r => cL T tm (fLt L T tm (Lm L)) ((r : Nat) : Int) (Ln L)) r ∧ (fun r => cL T tm (fLt L T tm (Lm L)) ((r : Nat) : Int) (Ln L)) r ≤ 2000001 * 14 := fun r => by have q9 := cL_bd (T := T) (tm := tm) (row := ((r : Nat) : Int)) hlt (Ln L); show 0 ≤ cL _ _ _ _ _ ∧ cL _ _ _ _ _ ≤ _; omega
  refine lv_aload_n hx hb dX2_registers_4 rfl (lv_at hl 0 rfl) ?_
  refine va_get (D := D) (ci := 2) (v := .ref (a 2)) (C := RX2) (T := TX2) (N := 3) hx hb hts hinX2 hown hK hP 0 rfl rfl 1 (by decide) (hts (.fieldLink RX2 21 "LoopScheduler" "table" "LLoopScheduler$Timetable;") (List.mem_of_getElem? (i := 1) rfl)) (fun _ h9 => h9) rfl dX2_registers_5 ?_
  refine z_callv (va_runV (As := []) (rest := []) ⟨hx, hb, hml, hown, hts⟩ (c_X1_findLifetimes l D g a L att T hs tm tk lt 1000000 hw hTT hB1 hbt _) (cwV 0 hts gX2_registers_X1_findLifetimes rfl rfl rfl (by decide +kernel) ⟨Nat.le_of_ble_eq_true rfl, Nat.le_of_ble_eq_true rfl⟩) (z_preV 2 hK hP hD rfl rfl) rfl rfl hl.1 rfl (lv_room (Nat.le_of_ble_eq_true rfl)) dX2_registers_8 ⟨Nat.le_of_ble_eq_true rfl, Nat.le_of_ble_eq_true rfl⟩) hS hD hA (fun w1 H locs hw1 hP hD hS => ?_)
  subst hw1
  refine z_ic hx hb dX2_registers_11 ?_
  refine lv_istore_n (lv' := [(1, .int (iI ((0 : Nat) : Int))), (0, .ref (a 0))]) hx hb dX2_registers_12 rfl hl (by decide) rfl (fun ls hl => ?_)
  refine z_ic hx hb dX2_registers_13 ?_
  refine lv_istore_n (lv' := [(2, .int (iI ((0 : Nat) : Int))), (1, .int (iI ((0 : Nat) : Int))), (0, .ref (a 0))]) hx hb dX2_registers_14 rfl hl (by decide) rfl (fun ls hl => ?_)
  have loop15 : ∀ (n15 : Nat) (x : Nat) (H : Heap) (locs : List Loc) (ls : Array Slot), T - x < n15 → (x ≤ T) → va_P D vwCl (wX a g L att T hs tm tk (fLt L T tm (Lm L))) H → va_D A (wX a g L att T hs tm tk (fLt L T tm (Lm L))) → va_S A s.heap H locs → lv_has ls 3 [(0, .ref (a 0)), (1, .int (iI (rg (fun r => cL T tm (fLt L T tm (Lm L)) ((r : Nat) : Int) (Ln L)) x))), (2, .int (iI ((x : Nat) : Int)))] → W p l e ({ frames := 7, cells := 1, slots := 6 * 1, locals := 102 } : Room) s m args below meth c H locs 1 6 Q (F0 m 15 ls []) := by
    intro n15
    induction n15 with
    | zero => exact fun _ H locs ls hn => absurd hn (Nat.not_lt_zero _)
    | succ n15 ih15 =>
      intro x H locs ls hn15 hx2 hP hD hS hl
      have hb8 := rg_bd (by decide) hcl x
      have hb9 : 0 ≤ cL T tm (fLt L T tm (Lm L)) ((x : Nat) : Int) (Ln L) ∧ cL T tm (fLt L T tm (Lm L)) ((x : Nat) : Int) (Ln L) ≤ 2000001 * 14 := hcl x
      refine lv_iload_n hx hb dX2_registers_15 rfl (lv_at hl 2 rfl) ?_
      refine lv_aload_n hx hb dX2_registers_16 rfl (lv_at hl 0 rfl) ?_
      refine va_get (D := D) (ci := 2) (v := .ref (a 2)) (C := RX2) (T := TX2) (N := 3) hx hb hts hinX2 hown hK hP 0 rfl rfl 1 (by decide) (hts (.fieldLink RX2 21 "LoopScheduler" "table" "LLoopScheduler$Timetable;") (List.mem_of_getElem? (i := 1) rfl)) (fun _ h9 => h9) rfl dX2_registers_17 ?_
      refine va_get (D := D) (ci := 1) (v := .int (iI ((T : Nat) : Int))) (C := RX1) (T := TX1) (N := 5) hx hb hts hinX1 hown hK hP 2 rfl rfl 4 (by decide) (hts (.fieldLink RX2 117 "LoopScheduler$Timetable" "interval" "I") (List.mem_of_getElem? (i := 2) rfl)) (fun _ h9 => h9) rfl dX2_registers_20 ?_
      refine z_icge (a := ((x : Nat) : Int)) (b := ((T : Nat) : Int)) (tgt := 45) hx hb dX2_registers_23 (by decide) (by omega) (fun c_23 => ?_) (fun c_23 => ?_)
      · obtain rfl : T = x := by omega
        refine lv_iload_n hx hb dX2_registers_45 rfl (lv_at hl 1 rfl) ?_
        exact x_iret (w := (wX a g L att T hs tm tk (fLt L T tm (Lm L)))) (v := (iI (rg (fun r => cL T tm (fLt L T tm (Lm L)) ((r : Nat) : Int) (Ln L)) T))) hQ hx hb hr hlocks ⟨by omega, rfl, rfl⟩ hK hP hD hS (Nat.le_of_ble_eq_true rfl) (Nat.le_of_ble_eq_true rfl) dX2_registers_46
      · refine lv_iload_n hx hb dX2_registers_26 rfl (lv_at hl 1 rfl) ?_
        refine lv_aload_n hx hb dX2_registers_27 rfl (lv_at hl 0 rfl) ?_
        refine va_get (D := D) (ci := 2) (v := .ref (a 2)) (C := RX2) (T := TX2) (N := 3) hx hb hts hinX2 hown hK hP 0 rfl rfl 1 (by decide) (hts (.fieldLink RX2 21 "LoopScheduler" "table" "LLoopScheduler$Timetable;") (List.mem_of_getElem? (i := 1) rfl)) (fun _ h9 => h9) rfl dX2_registers_28 ?_
        refine lv_iload_n hx hb dX2_registers_31 rfl (lv_at hl 2 rfl) ?_
        refine z_calli (va_runV (As := [.int (iI ((x : Nat) : Int))]) (rest := [.int (iI (rg (fun r => cL T tm (fLt L T tm (Lm L)) ((r : Nat) : Int) (Ln L)) x))]) ⟨hx, hb, hml, hown, hts⟩ (c_X1_countLive l D g a L att T hs tm tk (fLt L T tm (Lm L)) 1000000 x hw hTT hB1 hbt hlt (by omega) _) (cwV 1 hts gX2_registers_X1_countLive rfl rfl rfl (by decide +kernel) ⟨Nat.le_of_ble_eq_true rfl, Nat.le_of_ble_eq_true rfl⟩) (z_preV 2 hK hP hD rfl rfl) rfl rfl hl.1 rfl (lv_room (Nat.le_of_ble_eq_true rfl)) dX2_registers_32 ⟨Nat.le_of_ble_eq_true rfl, Nat.le_of_ble_eq_true rfl⟩) hS hD hA (fun r w1 H locs hw1 hP hD hS => ?_)
        obtain ⟨rfl, rfl⟩ := hw1
        refine z_mmax (a := (rg (fun r => cL T tm (fLt L T tm (Lm L)) ((r : Nat) : Int) (Ln L)) x)) (b := (cL T tm (fLt L T tm (Lm L)) ((x : Nat) : Int) (Ln L))) hx hb hml hl.1 hown (hts (.methodLink RX2 109 Lib.Math.max.name) (List.mem_of_getElem? (i := 3) rfl)) (hts (.static Lib.Math.max.name) (List.mem_of_getElem? (i := 4) rfl)) (hts (.initialized "java/lang/Math") (List.mem_of_getElem? (i := 5) rfl)) (hts (.code Lib.Math.max.name Lib.Math.max.code 2 (some .int)) (List.mem_of_getElem? (i := 6) rfl)) (Nat.le_of_ble_eq_true rfl) (Nat.le_of_ble_eq_true rfl) (Nat.le_of_ble_eq_true rfl) (Nat.le_of_ble_eq_true rfl) (by omega) dX2_registers_35 ?_
        refine lv_istore_n (lv' := [(1, .int (iI (max (rg (fun r => cL T tm (fLt L T tm (Lm L)) ((r : Nat) : Int) (Ln L)) x) (cL T tm (fLt L T tm (Lm L)) ((x : Nat) : Int) (Ln L))))), (0, .ref (a 0)), (2, .int (iI ((x : Nat) : Int)))]) hx hb dX2_registers_38 rfl hl (by decide) rfl (fun ls hl => ?_)
        refine z_iinc (a := ((x : Nat) : Int)) (b := ((x + 1 : Nat) : Int)) (lv' := [(2, .int (iI ((x + 1 : Nat) : Int))), (1, .int (iI (max (rg (fun r => cL T tm (fLt L T tm (Lm L)) ((r : Nat) : Int) (Ln L)) x) (cL T tm (fLt L T tm (Lm L)) ((x : Nat) : Int) (Ln L))))), (0, .ref (a 0))]) hx hb 2 dX2_registers_39 hl rfl rfl (by decide) rfl (fun ls hl => ?_)
        refine lv_goto (tgt := 15) hx hb dX2_registers_42 (by decide) ?_
        exact ih15 (x + 1) _ _ _ (by omega) (by omega) hP hD hS (lv_sub hl [2, 1, 0] rfl)
  exact loop15 ((T - 0) + 1) 0 _ _ _ (Nat.lt_succ_self _) (by omega) hP hD hS (lv_sub hl [2, 1, 0] rfl)
set_option maxHeartbeats 4000000 in
set_option maxRecDepth 100000 in
theorem c_X2_copies (l : Launch) (hl0 : l.stackTraces = false) (D : va_G) (g : Nat → ClassId) (a : Nat → Nat) (L : LD) (att T : Nat) (hs tm : Nat → Int) (tk : Nat → Nat → Int) (lt : Nat → Int) (i : Int) (hw : wf L) (hok : okX L T tm tk) (hri : -2147483648 ≤ i ∧ i < 2147483648) : xMi l D (zT g) yX2_copies wsX2_copies 7 103 2 (wX a g L att T hs tm tk lt) [.ref (a 0), .int (iI (i))] (fun r w1 => ((0 ≤ i ∧ i < (Ln L : Int)) ∧ 0 < T) ∧ r = iI (cC T (fLt L T tm (Lm L)) i.toNat) ∧ w1 = wX a g L att T hs tm tk (fLt L T tm (Lm L))) (fun E w9 => w9 = wX a g L att T hs tm tk lt ∧ ((E = nIX ∧ ¬ (0 ≤ i ∧ i < (Ln L : Int))) ∨ (E = nIS ∧ (0 ≤ i ∧ i < (Ln L : Int)) ∧ T = 0))) := by
  refine x_ofI (cc := cX2_copies) (maxL := 2) (ret := (some .int)) (by decide) rfl (Nat.le_of_ble_eq_true rfl) ?_
  intro p e s m args below meth c A ls hx hb hr hts hown hlocks hml hP hK hD hS hA hl hE hV htb Q hQ
  have hown : s.vm.findClass RX2 = some m.cls := hown
  have hinX0 : ∀ w ∈ u_ws RX0 TX0 10, w ∈ wsX2_copies := by decide +kernel
  have hinX1 : ∀ w ∈ u_ws RX1 TX1 5, w ∈ wsX2_copies := by decide +kernel
  have hinX2 : ∀ w ∈ u_ws RX2 TX2 3, w ∈ wsX2_copies := by decide +kernel
  have hl : lv_has ls 2 [(0, .ref (a 0)), (1, .int (iI (i)))] := hl
  have hwn := wf_n hw
  refine lv_aload_n hx hb dX2_copies_0 rfl (lv_at hl 0 rfl) ?_
  refine lv_iload_n hx hb dX2_copies_1 rfl (lv_at hl 1 rfl) ?_
  refine x_callv hQ (fun E u q => ⟨q.1, Or.inl (⟨q.2.1, by have q9 := q.2.2; omega⟩)⟩) htb hlocks (Nat.le_of_ble_eq_true rfl) (Nat.le_of_ble_eq_true rfl) (vx_runV (As := [.int (iI (i))]) (rest := []) ⟨hx, hb, hml, hown, hts⟩ (c_X2_requireOperation l hl0 D g a L att T hs tm tk lt i hw (by omega) _) (cwV 1 hts gX2_copies_X2_requireOperation rfl rfl rfl (by decide +kernel) ⟨Nat.le_of_ble_eq_true rfl, Nat.le_of_ble_eq_true rfl⟩) (x_preV 0 hK hP hD hS hA hE hV rfl rfl) rfl rfl hl.1 rfl (lv_room (Nat.le_of_ble_eq_true rfl)) dX2_copies_2 ⟨Nat.le_of_ble_eq_true rfl, Nat.le_of_ble_eq_true rfl⟩) hS hD hA (fun w1 H locs hw1 hP hD hS => ?_)
  obtain ⟨hq0, rfl⟩ := hw1
  refine lv_aload_n hx hb dX2_copies_5 rfl (lv_at hl 0 rfl) ?_
  refine x_callv hQ (fun E u q => ⟨q.1, Or.inr (⟨q.2.1, by have q9 := q.2.2; omega⟩)⟩) htb hlocks (Nat.le_of_ble_eq_true rfl) (Nat.le_of_ble_eq_true rfl) (vx_runV (As := []) (rest := []) ⟨hx, hb, hml, hown, hts⟩ (c_X2_requireSchedule l hl0 D g a L att T hs tm tk lt  hok.1 _) (cwV 0 hts gX2_copies_X2_requireSchedule rfl rfl rfl (by decide +kernel) ⟨Nat.le_of_ble_eq_true rfl, Nat.le_of_ble_eq_true rfl⟩) (x_preV 0 hK hP hD hS hA hE hV rfl rfl) rfl rfl hl.1 rfl (lv_room (Nat.le_of_ble_eq_true rfl)) dX2_copies_6 ⟨Nat.le_of_ble_eq_true rfl, Nat.le_of_ble_eq_true rfl⟩) hS hD hA (fun w1 H locs hw1 hP hD hS => ?_)
  obtain ⟨hq1, rfl⟩ := hw1
  obtain ⟨j, rfl⟩ : ∃ j : Nat, i = (j : Int) := ⟨i.toNat, by omega⟩
  have hTT : 0 < T ∧ T ≤ 200 := ⟨by omega, hok.1⟩
  have hbt := (hok.2 hTT.1).1
  have hbk := (hok.2 hTT.1).2.1
  have hb0 := (hok.2 hTT.1).2.2
  have hB1 : (0 : Int) ≤ 1000000 ∧ (1000000 : Int) ≤ 1000000 := by decide
  have hj0 := hb0 j (by omega)
  have hbtj := hbt j
  have hlt : ∀ j, 0 ≤ fLt L T tm (Lm L) j ∧ fLt L T tm (Lm L) j ≤ 2000000 := fun j => by have q9 := fLt_bd hw hTT.2 hbt hB1.1 (Lm L) j; omega
  refine lv_aload_n hx hb dX2_copies_9 rfl (lv_at hl 0 rfl) ?_
  refine va_get (D := D) (ci := 2) (v := .ref (a 2)) (C := RX2) (T := TX2) (N := 3) hx hb hts hinX2 hown hK hP 0 rfl rfl 1 (by decide) (hts (.fieldLink RX2 21 "LoopScheduler" "table" "LLoopScheduler$Timetable;") (List.mem_of_getElem? (i := 1) rfl)) (fun _ h9 => h9) rfl dX2_copies_10 ?_
  refine z_callv (va_runV (As := []) (rest := []) ⟨hx, hb, hml, hown, hts⟩ (c_X1_findLifetimes l D g a L att T hs tm tk lt 1000000 hw hTT hB1 hbt _) (cwV 0 hts gX2_copies_X1_findLifetimes rfl rfl rfl (by decide +kernel) ⟨Nat.le_of_ble_eq_true rfl, Nat.le_of_ble_eq_true rfl⟩) (z_preV 2 hK hP hD rfl rfl) rfl rfl hl.1 rfl (lv_room (Nat.le_of_ble_eq_true rfl)) dX2_copies_13 ⟨Nat.le_of_ble_eq_true rfl, Nat.le_of_ble_eq_true rfl⟩) hS hD hA (fun w1 H locs hw1 hP hD hS => ?_)
  subst hw1
  refine lv_aload_n hx hb dX2_copies_16 rfl (lv_at hl 0 rfl) ?_
  refine va_get (D := D) (ci := 2) (v := .ref (a 2)) (C := RX2) (T := TX2) (N := 3) hx hb hts hinX2 hown hK hP 0 rfl rfl 1 (by decide) (hts (.fieldLink RX2 21 "LoopScheduler" "table" "LLoopScheduler$Timetable;") (List.mem_of_getElem? (i := 1) rfl)) (fun _ h9 => h9) rfl dX2_copies_17 ?_
  refine lv_iload_n hx hb dX2_copies_20 rfl (lv_at hl 1 rfl) ?_
  refine z_calli (va_runV (As := [.int (iI ((j : Nat) : Int))]) (rest := []) ⟨hx, hb, hml, hown, hts⟩ (c_X1_countCopies l D g a L att T hs tm tk (fLt L T tm (Lm L)) j hTT hlt (by omega) _) (cwV 1 hts gX2_copies_X1_countCopies rfl rfl rfl (by decide +kernel) ⟨Nat.le_of_ble_eq_true rfl, Nat.le_of_ble_eq_true rfl⟩) (z_preV 2 hK hP hD rfl rfl) rfl rfl hl.1 rfl (lv_room (Nat.le_of_ble_eq_true rfl)) dX2_copies_21 ⟨Nat.le_of_ble_eq_true rfl, Nat.le_of_ble_eq_true rfl⟩) hS hD hA (fun r w1 H locs hw1 hP hD hS => ?_)
  obtain ⟨rfl, rfl⟩ := hw1
  exact x_iret (w := (wX a g L att T hs tm tk (fLt L T tm (Lm L)))) (v := (iI (cC T (fLt L T tm (Lm L)) j))) hQ hx hb hr hlocks ⟨by omega, rfl, rfl⟩ hK hP hD hS (Nat.le_of_ble_eq_true rfl) (Nat.le_of_ble_eq_true rfl) dX2_copies_24
set_option maxHeartbeats 4000000 in
set_option maxRecDepth 100000 in
theorem c_X2_leastCommonMultiple (l : Launch) (D : va_G) (g : Nat → ClassId) (a : Nat → Nat) (L : LD) (att T : Nat) (hs tm : Nat → Int) (tk : Nat → Nat → Int) (lt : Nat → Int) (x y : Nat) (hx1 : 1 ≤ x ∧ x ≤ 1000000) (hy1 : 1 ≤ y ∧ y ≤ 2000200) : zMl l D (zT g) yX2_leastCommonMultiple wsX2_leastCommonMultiple 1 12 (wX a g L att T hs tm tk lt) [.long (lI (((x : Nat) : Int))), .int (iI ((y : Nat) : Int))] (fun r w1 => r = lI ((lcN x y : Nat) : Int) ∧ w1 = wX a g L att T hs tm tk lt) := by
  refine z_ofL (cc := cX2_leastCommonMultiple) (maxL := 4) (ret := (some .long)) (by decide) rfl (Nat.le_of_ble_eq_true rfl) ?_
  intro p e s m args below meth c A ls hx hb hr hts hown hlocks hml hP hK hD hS hA hl Q hQ
  have hown : s.vm.findClass RX2 = some m.cls := hown
  have hl : lv_has ls 4 [(0, .long (lI (((x : Nat) : Int)))), (2, .int (iI ((y : Nat) : Int)))] := hl
  refine z_ic hx hb dX2_leastCommonMultiple_0 ?_
  refine lv_istore_n (lv' := [(3, .int (iI ((1 : Nat) : Int))), (0, .long (lI (((x : Nat) : Int)))), (2, .int (iI ((y : Nat) : Int)))]) hx hb dX2_leastCommonMultiple_1 rfl hl (by decide) rfl (fun ls hl => ?_)
  have loop2 : ∀ (n2 : Nat) (f : Nat) (H : Heap) (locs : List Loc) (ls : Array Slot), y - f < n2 → (1 ≤ f ∧ f ≤ y) → (ffst (lcf x y) f (y - f) = ffst (lcf x y) 1 (y - 1)) → va_P D vwCl (wX a g L att T hs tm tk lt) H → va_D A (wX a g L att T hs tm tk lt) → va_S A s.heap H locs → lv_has ls 4 [(0, .long (lI (((x : Nat) : Int)))), (2, .int (iI ((y : Nat) : Int))), (3, .int (iI ((f : Nat) : Int)))] → W p l e ({ frames := 1, cells := 0, slots := 0, locals := 12 } : Room) s m args below meth c H locs 0 0 Q (F0 m 2 ls []) := by
    intro n2
    induction n2 with
    | zero => exact fun _ H locs ls hn => absurd hn (Nat.not_lt_zero _)
    | succ n2 ih2 =>
      intro f H locs ls hn2 hf1 hf hP hD hS hl
      have hm1 : x * f ≤ 1000000 * 2000200 := Nat.mul_le_mul hx1.2 (by omega)
      have hm2 : x * y ≤ 1000000 * 2000200 := Nat.mul_le_mul hx1.2 hy1.2
      refine lv_iload_n hx hb dX2_leastCommonMultiple_2 rfl (lv_at hl 2 rfl) ?_
      refine lv_iload_n hx hb dX2_leastCommonMultiple_3 rfl (lv_at hl 1 rfl) ?_
      refine z_icge (a := ((f : Nat) : Int)) (b := ((y : Nat) : Int)) (tgt := 30) hx hb dX2_leastCommonMultiple_4 (by decide) (by omega) (fun c_4 => ?_) (fun c_4 => ?_)
      · have hnone : ffst (lcf x y) 1 (y - 1) = none := by rw [← hf, show y - f = 0 by omega]; rfl
        refine lv_lload_n hx hb dX2_leastCommonMultiple_30 rfl (lv_at hl 0 rfl) ?_
        refine lv_iload_n hx hb dX2_leastCommonMultiple_31 rfl (lv_at hl 1 rfl) ?_
        refine zl_i2l (z := ((y : Nat) : Int)) hx hb (by omega) dX2_leastCommonMultiple_32 ?_
        refine zl_mul (a := ((x : Nat) : Int)) (b := ((y : Nat) : Int)) hx hb dX2_leastCommonMultiple_33 ?_
        refine z_eqL (y := lI ((x * y : Nat) : Int)) (congrArg lI (Int.natCast_mul _ _).symm) ?_
        exact z_lret (w := (wX a g L att T hs tm tk lt)) (v := (lI (((x * y : Nat) : Int)))) hQ hx hb hr hlocks ⟨by rw [lcN_n hnone], rfl⟩ hK hP hD hS dX2_leastCommonMultiple_34
      · have hstep : y - f = (y - (f + 1)) + 1 := by omega
        have hmd : x * f % y < y := Nat.mod_lt _ (by omega)
        refine lv_lload_n hx hb dX2_leastCommonMultiple_7 rfl (lv_at hl 0 rfl) ?_
        refine lv_iload_n hx hb dX2_leastCommonMultiple_8 rfl (lv_at hl 2 rfl) ?_
        refine zl_i2l (z := ((f : Nat) : Int)) hx hb (by omega) dX2_leastCommonMultiple_9 ?_
        refine zl_mul (a := ((x : Nat) : Int)) (b := ((f : Nat) : Int)) hx hb dX2_leastCommonMultiple_10 ?_
        refine z_eqL (y := lI ((x * f : Nat) : Int)) (congrArg lI (Int.natCast_mul _ _).symm) ?_
        refine lv_iload_n hx hb dX2_leastCommonMultiple_11 rfl (lv_at hl 1 rfl) ?_
        refine zl_i2l (z := ((y : Nat) : Int)) hx hb (by omega) dX2_leastCommonMultiple_12 ?_
        refine zl_rem (a := ((x * f : Nat) : Int)) (b := ((y : Nat) : Int)) hx hb (by omega) dX2_leastCommonMultiple_13 ?_
        refine z_eqL (y := lI ((x * f % y : Nat) : Int)) (congrArg lI (Int.natCast_emod _ _).symm) ?_
        refine lv_lconst (v := lI 0) hx hb dX2_leastCommonMultiple_14 (by decide) ?_
        refine zl_cmp (a := ((x * f % y : Nat) : Int)) (b := 0) hx hb (by omega) dX2_leastCommonMultiple_15 ?_
        refine z_ifne (a := (cmpZ (((x * f % y : Nat) : Int)) (0))) (tgt := 24) hx hb dX2_leastCommonMultiple_16 (by decide) (by have q9 := cmpZ_r (((x * f % y : Nat) : Int)) (0); omega) (fun c_16 => ?_) (fun c_16 => ?_)
        · have hmd2 : ¬ x * f % y = 0 := fun q => c_16 (cmpZ_0.mpr (by rw [q]; rfl))
          refine z_iinc (a := ((f : Nat) : Int)) (b := ((f + 1 : Nat) : Int)) (lv' := [(3, .int (iI ((f + 1 : Nat) : Int))), (0, .long (lI (((x : Nat) : Int)))), (2, .int (iI ((y : Nat) : Int)))]) hx hb 2 dX2_leastCommonMultiple_24 hl rfl rfl (by decide) rfl (fun ls hl => ?_)
          refine lv_goto (tgt := 2) hx hb dX2_leastCommonMultiple_27 (by decide) ?_
          exact ih2 (f + 1) _ _ _ (by omega) (by omega) (by rw [← hf, hstep]; exact (ffst_f (decide_eq_false hmd2)).symm) hP hD hS (lv_sub hl [1, 2, 0] rfl)
        · have hmd2 : x * f % y = 0 := by have q9 := cmpZ_0.mp c_16; omega
          have hsome : ffst (lcf x y) 1 (y - 1) = some f := by rw [← hf, hstep]; exact ffst_t (decide_eq_true hmd2)
          refine lv_lload_n hx hb dX2_leastCommonMultiple_19 rfl (lv_at hl 0 rfl) ?_
          refine lv_iload_n hx hb dX2_leastCommonMultiple_20 rfl (lv_at hl 2 rfl) ?_
          refine zl_i2l (z := ((f : Nat) : Int)) hx hb (by omega) dX2_leastCommonMultiple_21 ?_
          refine zl_mul (a := ((x : Nat) : Int)) (b := ((f : Nat) : Int)) hx hb dX2_leastCommonMultiple_22 ?_
          refine z_eqL (y := lI ((x * f : Nat) : Int)) (congrArg lI (Int.natCast_mul _ _).symm) ?_
          exact z_lret (w := (wX a g L att T hs tm tk lt)) (v := (lI (((x * f : Nat) : Int)))) hQ hx hb hr hlocks ⟨by rw [lcN_s hsome], rfl⟩ hK hP hD hS dX2_leastCommonMultiple_23
  exact loop2 ((y - 1) + 1) 1 _ _ _ (Nat.lt_succ_self _) (by omega) rfl hP hD hS (lv_sub hl [1, 2, 0] rfl)
set_option maxHeartbeats 4000000 in
set_option maxRecDepth 100000 in
theorem c_X2_unrolling (l : Launch) (hl0 : l.stackTraces = false) (D : va_G) (g : Nat → ClassId) (a : Nat → Nat) (L : LD) (att T : Nat) (hs tm : Nat → Int) (tk : Nat → Nat → Int) (lt : Nat → Int)  (hw : wf L) (hok : okX L T tm tk) : xMi l D (zT g) yX2_unrolling wsX2_unrolling 7 102 1 (wX a g L att T hs tm tk lt) [.ref (a 0)] (fun r w1 => (0 < T) ∧ (((∀ j, j ≤ Ln L → unM (cN T (fLt L T tm (Lm L))) j ≤ 1000000) ∧ r = iI ((unM (cN T (fLt L T tm (Lm L))) (Ln L) : Nat) : Int)) ∨ (∃ x, x < Ln L ∧ (∀ j, j ≤ x → unM (cN T (fLt L T tm (Lm L))) j ≤ 1000000) ∧ 1000000 < unM (cN T (fLt L T tm (Lm L))) (x + 1) ∧ r = iI 1000000)) ∧ w1 = wX a g L att T hs tm tk (fLt L T tm (Lm L))) (fun E w9 => w9 = wX a g L att T hs tm tk lt ∧ ((E = nIS ∧ ¬ (0 < T)))) := by
  refine x_ofI (cc := cX2_unrolling) (maxL := 4) (ret := (some .int)) (by decide) rfl (Nat.le_of_ble_eq_true rfl) ?_
  intro p e s m args below meth c A ls hx hb hr hts hown hlocks hml hP hK hD hS hA hl hE hV htb Q hQ
  have hown : s.vm.findClass RX2 = some m.cls := hown
  have hinX0 : ∀ w ∈ u_ws RX0 TX0 10, w ∈ wsX2_unrolling := by decide +kernel
  have hinX1 : ∀ w ∈ u_ws RX1 TX1 5, w ∈ wsX2_unrolling := by decide +kernel
  have hinX2 : ∀ w ∈ u_ws RX2 TX2 3, w ∈ wsX2_unrolling := by decide +kernel
  have hl : lv_has ls 4 [(0, .ref (a 0))] := hl
  refine lv_aload_n hx hb dX2_unrolling_0 rfl (lv_at hl 0 rfl) ?_
  refine x_callv hQ (fun E u q => ⟨q.1, ⟨q.2.1, by have q9 := q.2.2; omega⟩⟩) htb hlocks (Nat.le_of_ble_eq_true rfl) (Nat.le_of_ble_eq_true rfl) (vx_runV (As := []) (rest := []) ⟨hx, hb, hml, hown, hts⟩ (c_X2_requireSchedule l hl0 D g a L att T hs tm tk lt  hok.1 _) (cwV 0 hts gX2_unrolling_X2_requireSchedule rfl rfl rfl (by decide +kernel) ⟨Nat.le_of_ble_eq_true rfl, Nat.le_of_ble_eq_true rfl⟩) (x_preV 0 hK hP hD hS hA hE hV rfl rfl) rfl rfl hl.1 rfl (lv_room (Nat.le_of_ble_eq_true rfl)) dX2_unrolling_1 ⟨Nat.le_of_ble_eq_true rfl, Nat.le_of_ble_eq_true rfl⟩) hS hD hA (fun w1 H locs hw1 hP hD hS => ?_)
  obtain ⟨hq0, rfl⟩ := hw1
  have hTT : 0 < T ∧ T ≤ 200 := ⟨by omega, hok.1⟩
  have hbt := (hok.2 hTT.1).1
  have hbk := (hok.2 hTT.1).2.1
  have hb0 := (hok.2 hTT.1).2.2
  have hB1 : (0 : Int) ≤ 1000000 ∧ (1000000 : Int) ≤ 1000000 := by decide
  have hlt : ∀ j, 0 ≤ fLt L T tm (Lm L) j ∧ fLt L T tm (Lm L) j ≤ 2000000 := fun j => by have q9 := fLt_bd hw hTT.2 hbt hB1.1 (Lm L) j; omega
  have hwn := wf_n hw
  refine lv_aload_n hx hb dX2_unrolling_4 rfl (lv_at hl 0 rfl) ?_
  refine va_get (D := D) (ci := 2) (v := .ref (a 2)) (C := RX2) (T := TX2) (N := 3) hx hb hts hinX2 hown hK hP 0 rfl rfl 1 (by decide) (hts (.fieldLink RX2 21 "LoopScheduler" "table" "LLoopScheduler$Timetable;") (List.mem_of_getElem? (i := 1) rfl)) (fun _ h9 => h9) rfl dX2_unrolling_5 ?_
  refine z_callv (va_runV (As := []) (rest := []) ⟨hx, hb, hml, hown, hts⟩ (c_X1_findLifetimes l D g a L att T hs tm tk lt 1000000 hw hTT hB1 hbt _) (cwV 0 hts gX2_unrolling_X1_findLifetimes rfl rfl rfl (by decide +kernel) ⟨Nat.le_of_ble_eq_true rfl, Nat.le_of_ble_eq_true rfl⟩) (z_preV 2 hK hP hD rfl rfl) rfl rfl hl.1 rfl (lv_room (Nat.le_of_ble_eq_true rfl)) dX2_unrolling_8 ⟨Nat.le_of_ble_eq_true rfl, Nat.le_of_ble_eq_true rfl⟩) hS hD hA (fun w1 H locs hw1 hP hD hS => ?_)
  subst hw1
  refine lv_lconst (v := lI 1) hx hb dX2_unrolling_11 (by decide) ?_
  refine lv_lstore_n (lv' := [(1, .long (lI (1))), (0, .ref (a 0))]) hx hb dX2_unrolling_12 rfl hl (by decide) rfl (fun ls hl => ?_)
  refine z_ic hx hb dX2_unrolling_13 ?_
  refine lv_istore_n (lv' := [(3, .int (iI ((0 : Nat) : Int))), (1, .long (lI (1))), (0, .ref (a 0))]) hx hb dX2_unrolling_14 rfl hl (by decide) rfl (fun ls hl => ?_)
  have loop15 : ∀ (n15 : Nat) (x : Nat) (H : Heap) (locs : List Loc) (ls : Array Slot), Ln L - x < n15 → (x ≤ Ln L) → (∀ j, j ≤ x → unM (cN T (fLt L T tm (Lm L))) j ≤ 1000000) → (1 ≤ unM (cN T (fLt L T tm (Lm L))) x) → va_P D vwCl (wX a g L att T hs tm tk (fLt L T tm (Lm L))) H → va_D A (wX a g L att T hs tm tk (fLt L T tm (Lm L))) → va_S A s.heap H locs → lv_has ls 4 [(0, .ref (a 0)), (1, .long (lI (((unM (cN T (fLt L T tm (Lm L))) x : Nat) : Int)))), (3, .int (iI ((x : Nat) : Int)))] → W p l e ({ frames := 7, cells := 1, slots := 6 * 1, locals := 102 } : Room) s m args below meth c H locs 1 6 Q (F0 m 15 ls []) := by
    intro n15
    induction n15 with
    | zero => exact fun _ H locs ls hn => absurd hn (Nat.not_lt_zero _)
    | succ n15 ih15 =>
      intro x H locs ls hn15 hx2 hu hup hP hD hS hl
      have hux := hu x (Nat.le_refl x)
      have hce := cN_e hTT hlt x
      have hup1 : 1 ≤ unM (cN T (fLt L T tm (Lm L))) (x + 1) := lcN_pos hup hce.2.1
      have hle : unM (cN T (fLt L T tm (Lm L))) (x + 1) ≤ unM (cN T (fLt L T tm (Lm L))) x * (cN T (fLt L T tm (Lm L))) x := lcN_le hce.2.1
      have hle2 : unM (cN T (fLt L T tm (Lm L))) x * (cN T (fLt L T tm (Lm L))) x ≤ 1000000 * 2000200 := Nat.mul_le_mul hux hce.2.2
      refine lv_iload_n hx hb dX2_unrolling_15 rfl (lv_at hl 2 rfl) ?_
      refine lv_aload_n hx hb dX2_unrolling_16 rfl (lv_at hl 0 rfl) ?_
      refine va_get (D := D) (ci := 2) (v := .ref (a 1)) (C := RX2) (T := TX2) (N := 3) hx hb hts hinX2 hown hK hP 0 rfl rfl 0 (by decide) (hts (.fieldLink RX2 10 "LoopScheduler" "loop" "LLoopScheduler$Loop;") (List.mem_of_getElem? (i := 2) rfl)) (fun _ h9 => h9) rfl dX2_unrolling_17 ?_
      refine va_get (D := D) (ci := 0) (v := .int (iI ((Ln L : Nat) : Int))) (C := RX0) (T := TX0) (N := 10) hx hb hts hinX0 hown hK hP 1 rfl rfl 8 (by decide) (hts (.fieldLink RX2 51 "LoopScheduler$Loop" "operations" "I") (List.mem_of_getElem? (i := 3) rfl)) (fun _ h9 => h9) rfl dX2_unrolling_20 ?_
      refine z_icge (a := ((x : Nat) : Int)) (b := ((Ln L : Nat) : Int)) (tgt := 56) hx hb dX2_unrolling_23 (by decide) (by omega) (fun c_23 => ?_) (fun c_23 => ?_)
      · obtain rfl : x = Ln L := by omega
        refine lv_lload_n hx hb dX2_unrolling_56 rfl (lv_at hl 1 rfl) ?_
        refine zl_l2i (z := ((unM (cN T (fLt L T tm (Lm L))) (Ln L) : Nat) : Int)) hx hb dX2_unrolling_57 ?_
        exact x_iret (w := (wX a g L att T hs tm tk (fLt L T tm (Lm L)))) (v := (iI (((unM (cN T (fLt L T tm (Lm L))) (Ln L) : Nat) : Int)))) hQ hx hb hr hlocks ⟨by omega, Or.inl ⟨hu, rfl⟩, rfl⟩ hK hP hD hS (Nat.le_of_ble_eq_true rfl) (Nat.le_of_ble_eq_true rfl) dX2_unrolling_58
      · refine lv_lload_n hx hb dX2_unrolling_26 rfl (lv_at hl 1 rfl) ?_
        refine lv_aload_n hx hb dX2_unrolling_27 rfl (lv_at hl 0 rfl) ?_
        refine va_get (D := D) (ci := 2) (v := .ref (a 2)) (C := RX2) (T := TX2) (N := 3) hx hb hts hinX2 hown hK hP 0 rfl rfl 1 (by decide) (hts (.fieldLink RX2 21 "LoopScheduler" "table" "LLoopScheduler$Timetable;") (List.mem_of_getElem? (i := 1) rfl)) (fun _ h9 => h9) rfl dX2_unrolling_28 ?_
        refine lv_iload_n hx hb dX2_unrolling_31 rfl (lv_at hl 2 rfl) ?_
        refine z_calli (va_runV (As := [.int (iI ((x : Nat) : Int))]) (rest := [.long (lI (((unM (cN T (fLt L T tm (Lm L))) x : Nat) : Int)))]) ⟨hx, hb, hml, hown, hts⟩ (c_X1_countCopies l D g a L att T hs tm tk (fLt L T tm (Lm L)) x hTT hlt (by omega) _) (cwV 1 hts gX2_unrolling_X1_countCopies rfl rfl rfl (by decide +kernel) ⟨Nat.le_of_ble_eq_true rfl, Nat.le_of_ble_eq_true rfl⟩) (z_preV 2 hK hP hD rfl rfl) rfl rfl hl.1 rfl (lv_room (Nat.le_of_ble_eq_true rfl)) dX2_unrolling_32 ⟨Nat.le_of_ble_eq_true rfl, Nat.le_of_ble_eq_true rfl⟩) hS hD hA (fun r w1 H locs hw1 hP hD hS => ?_)
        obtain ⟨rfl, rfl⟩ := hw1
        refine z_eqI (y := (iI (((cN T (fLt L T tm (Lm L))) x : Nat) : Int))) (congrArg iI hce.1) ?_
        refine z_calll (va_runS (As := [.long (lI (((unM (cN T (fLt L T tm (Lm L))) x : Nat) : Int))), .int (iI (((cN T (fLt L T tm (Lm L))) x : Nat) : Int))]) (rest := []) ⟨hx, hb, hml, hown, hts⟩ (c_X2_leastCommonMultiple l D g a L att T hs tm tk (fLt L T tm (Lm L)) (unM (cN T (fLt L T tm (Lm L))) x) ((cN T (fLt L T tm (Lm L))) x) (by omega) (by omega) _) (va_cwS 2 hts gX2_unrolling_X2_leastCommonMultiple rfl rfl rfl (by decide +kernel) ⟨Nat.le_of_ble_eq_true rfl, Nat.le_of_ble_eq_true rfl⟩) (z_preS hK hP hD) rfl rfl hl.1 rfl (lv_room (Nat.le_of_ble_eq_true rfl)) dX2_unrolling_35 ⟨Nat.le_of_ble_eq_true rfl, Nat.le_of_ble_eq_true rfl⟩) hS hD hA (fun r w1 H locs hw1 hP hD hS => ?_)
        obtain ⟨rfl, rfl⟩ := hw1
        refine lv_lstore_n (lv' := [(1, .long (lI (((unM (cN T (fLt L T tm (Lm L))) (x + 1) : Nat) : Int)))), (0, .ref (a 0)), (3, .int (iI ((x : Nat) : Int)))]) hx hb dX2_unrolling_38 rfl hl (by decide) rfl (fun ls hl => ?_)
        refine lv_lload_n hx hb dX2_unrolling_39 rfl (lv_at hl 0 rfl) ?_
        refine lv_ldc2 (v := 1000000) hx hb hown (hts (.constantLong RX2 162 (1000000)) (List.mem_of_getElem? (i := 4) rfl)) dX2_unrolling_40 ?_
        refine z_eqL (y := lI 1000000) (by decide) ?_
        refine zl_cmp (a := ((unM (cN T (fLt L T tm (Lm L))) (x + 1) : Nat) : Int)) (b := 1000000) hx hb (by omega) dX2_unrolling_43 ?_
        refine z_ifle (a := (cmpZ (((unM (cN T (fLt L T tm (Lm L))) (x + 1) : Nat) : Int)) (1000000))) (tgt := 50) hx hb dX2_unrolling_44 (by decide) (by have q9 := cmpZ_r (((unM (cN T (fLt L T tm (Lm L))) (x + 1) : Nat) : Int)) (1000000); omega) (fun c_44 => ?_) (fun c_44 => ?_)
        · have c9 := cmpZ_le.mp c_44
          refine z_iinc (a := ((x : Nat) : Int)) (b := ((x + 1 : Nat) : Int)) (lv' := [(3, .int (iI ((x + 1 : Nat) : Int))), (1, .long (lI (((unM (cN T (fLt L T tm (Lm L))) (x + 1) : Nat) : Int)))), (0, .ref (a 0))]) hx hb 2 dX2_unrolling_50 hl rfl rfl (by decide) rfl (fun ls hl => ?_)
          refine lv_goto (tgt := 15) hx hb dX2_unrolling_53 (by decide) ?_
          exact ih15 (x + 1) _ _ _ (by omega) (by omega) (fun j h => (Nat.lt_or_ge j (x + 1)).elim (fun q => hu j (by omega)) (fun q => by rw [show j = x + 1 by omega]; omega)) hup1 hP hD hS (lv_sub hl [2, 1, 0] rfl)
        · have c9 : ¬ _ := fun q => c_44 (cmpZ_le.mpr q)
          refine lv_ldc (v := 1000000) hx hb hown (hts (.constant RX2 164 (1000000)) (List.mem_of_getElem? (i := 5) rfl)) dX2_unrolling_47 ?_
          refine z_eqI (y := iI ((1000000 : Nat) : Int)) (by decide) ?_
          exact x_iret (w := (wX a g L att T hs tm tk (fLt L T tm (Lm L)))) (v := (iI ((1000000 : Nat) : Int))) hQ hx hb hr hlocks ⟨by omega, Or.inr ⟨x, by omega, hu, by omega, rfl⟩, rfl⟩ hK hP hD hS (Nat.le_of_ble_eq_true rfl) (Nat.le_of_ble_eq_true rfl) dX2_unrolling_49
  exact loop15 ((Ln L - 0) + 1) 0 _ _ _ (Nat.lt_succ_self _) (by omega) (fun j h => by rw [show j = 0 by omega]; exact (show 1 ≤ 1000000 by decide)) (Nat.le_refl 1) hP hD hS (lv_sub hl [2, 1, 0] rfl)
set_option maxHeartbeats 4000000 in
set_option maxRecDepth 100000 in
theorem c_X2_cycles (l : Launch) (hl0 : l.stackTraces = false) (D : va_G) (g : Nat → ClassId) (a : Nat → Nat) (L : LD) (att T : Nat) (hs tm : Nat → Int) (tk : Nat → Nat → Int) (lt : Nat → Int) (i : Int) (hw : wf L) (hok : okX L T tm tk) (hri : -2147483648 ≤ i ∧ i < 2147483648) : xMi l D (zT g) yX2_cycles wsX2_cycles 7 102 2 (wX a g L att T hs tm tk lt) [.ref (a 0), .int (iI (i))] (fun r w1 => (0 < T ∧ (1 ≤ i ∧ i ≤ 1000)) ∧ r = iI (if Ln L = 0 then 0 else gT tm (Ln L) + (i - 1) * (T : Int) + 1) ∧ w1 = wX a g L att T hs tm tk lt) (fun E w9 => w9 = wX a g L att T hs tm tk lt ∧ ((E = nIS ∧ ¬ (0 < T)) ∨ (E = nIA ∧ 0 < T ∧ ¬ (1 ≤ i ∧ i ≤ 1000)))) := by
  refine x_ofI (cc := cX2_cycles) (maxL := 2) (ret := (some .int)) (by decide) rfl (Nat.le_of_ble_eq_true rfl) ?_
  intro p e s m args below meth c A ls hx hb hr hts hown hlocks hml hP hK hD hS hA hl hE hV htb Q hQ
  have hown : s.vm.findClass RX2 = some m.cls := hown
  have hinX0 : ∀ w ∈ u_ws RX0 TX0 10, w ∈ wsX2_cycles := by decide +kernel
  have hinX1 : ∀ w ∈ u_ws RX1 TX1 5, w ∈ wsX2_cycles := by decide +kernel
  have hinX2 : ∀ w ∈ u_ws RX2 TX2 3, w ∈ wsX2_cycles := by decide +kernel
  have hl : lv_has ls 2 [(0, .ref (a 0)), (1, .int (iI (i)))] := hl
  refine lv_aload_n hx hb dX2_cycles_0 rfl (lv_at hl 0 rfl) ?_
  refine x_callv hQ (fun E u q => ⟨q.1, Or.inl (⟨q.2.1, by have q9 := q.2.2; omega⟩)⟩) htb hlocks (Nat.le_of_ble_eq_true rfl) (Nat.le_of_ble_eq_true rfl) (vx_runV (As := []) (rest := []) ⟨hx, hb, hml, hown, hts⟩ (c_X2_requireSchedule l hl0 D g a L att T hs tm tk lt  hok.1 _) (cwV 0 hts gX2_cycles_X2_requireSchedule rfl rfl rfl (by decide +kernel) ⟨Nat.le_of_ble_eq_true rfl, Nat.le_of_ble_eq_true rfl⟩) (x_preV 0 hK hP hD hS hA hE hV rfl rfl) rfl rfl hl.1 rfl (lv_room (Nat.le_of_ble_eq_true rfl)) dX2_cycles_1 ⟨Nat.le_of_ble_eq_true rfl, Nat.le_of_ble_eq_true rfl⟩) hS hD hA (fun w1 H locs hw1 hP hD hS => ?_)
  obtain ⟨hq0, rfl⟩ := hw1
  refine lv_iload_n hx hb dX2_cycles_4 rfl (lv_at hl 1 rfl) ?_
  refine x_callv hQ (fun E u q => ⟨q.1, Or.inr (⟨q.2.1, by have q9 := q.2.2; omega⟩)⟩) htb hlocks (Nat.le_of_ble_eq_true rfl) (Nat.le_of_ble_eq_true rfl) (vx_runS (As := [.int (iI (i))]) (rest := []) ⟨hx, hb, hml, hown, hts⟩ (c_X2_requireIterations l hl0 D g a L att T hs tm tk lt i (by omega) _) (va_cwS 1 hts gX2_cycles_X2_requireIterations rfl rfl rfl (by decide +kernel) ⟨Nat.le_of_ble_eq_true rfl, Nat.le_of_ble_eq_true rfl⟩) (x_preS hK hP hD hS hA hE hV) rfl rfl hl.1 rfl (lv_room (Nat.le_of_ble_eq_true rfl)) dX2_cycles_5 ⟨Nat.le_of_ble_eq_true rfl, Nat.le_of_ble_eq_true rfl⟩) hS hD hA (fun w1 H locs hw1 hP hD hS => ?_)
  obtain ⟨hq1, rfl⟩ := hw1
  have hTT : 0 < T ∧ T ≤ 200 := ⟨by omega, hok.1⟩
  have hbt := (hok.2 hTT.1).1
  have hbk := (hok.2 hTT.1).2.1
  have hb0 := (hok.2 hTT.1).2.2
  have hB1 : (0 : Int) ≤ 1000000 ∧ (1000000 : Int) ≤ 1000000 := by decide
  have hwn := wf_n hw
  refine lv_aload_n hx hb dX2_cycles_8 rfl (lv_at hl 0 rfl) ?_
  refine va_get (D := D) (ci := 2) (v := .ref (a 1)) (C := RX2) (T := TX2) (N := 3) hx hb hts hinX2 hown hK hP 0 rfl rfl 0 (by decide) (hts (.fieldLink RX2 10 "LoopScheduler" "loop" "LLoopScheduler$Loop;") (List.mem_of_getElem? (i := 1) rfl)) (fun _ h9 => h9) rfl dX2_cycles_9 ?_
  refine va_get (D := D) (ci := 0) (v := .int (iI ((Ln L : Nat) : Int))) (C := RX0) (T := TX0) (N := 10) hx hb hts hinX0 hown hK hP 1 rfl rfl 8 (by decide) (hts (.fieldLink RX2 51 "LoopScheduler$Loop" "operations" "I") (List.mem_of_getElem? (i := 2) rfl)) (fun _ h9 => h9) rfl dX2_cycles_12 ?_
  refine z_ifne (a := ((Ln L : Nat) : Int)) (tgt := 20) hx hb dX2_cycles_15 (by decide) (by omega) (fun c_15 => ?_) (fun c_15 => ?_)
  · refine lv_aload_n hx hb dX2_cycles_20 rfl (lv_at hl 0 rfl) ?_
    refine va_get (D := D) (ci := 2) (v := .ref (a 2)) (C := RX2) (T := TX2) (N := 3) hx hb hts hinX2 hown hK hP 0 rfl rfl 1 (by decide) (hts (.fieldLink RX2 21 "LoopScheduler" "table" "LLoopScheduler$Timetable;") (List.mem_of_getElem? (i := 3) rfl)) (fun _ h9 => h9) rfl dX2_cycles_21 ?_
    refine z_calli (va_runV (As := []) (rest := []) ⟨hx, hb, hml, hown, hts⟩ (c_X1_greatestTime l D g a L att T hs tm tk lt 1000000 hw hB1 hbt _) (cwV 0 hts gX2_cycles_X1_greatestTime rfl rfl rfl (by decide +kernel) ⟨Nat.le_of_ble_eq_true rfl, Nat.le_of_ble_eq_true rfl⟩) (z_preV 2 hK hP hD rfl rfl) rfl rfl hl.1 rfl (lv_room (Nat.le_of_ble_eq_true rfl)) dX2_cycles_24 ⟨Nat.le_of_ble_eq_true rfl, Nat.le_of_ble_eq_true rfl⟩) hS hD hA (fun r w1 H locs hw1 hP hD hS => ?_)
    obtain ⟨rfl, rfl⟩ := hw1
    refine lv_iload_n hx hb dX2_cycles_27 rfl (lv_at hl 1 rfl) ?_
    refine z_ic hx hb dX2_cycles_28 ?_
    refine z_sub (a := i) (b := 1) hx hb dX2_cycles_29 ?_
    refine lv_aload_n hx hb dX2_cycles_30 rfl (lv_at hl 0 rfl) ?_
    refine va_get (D := D) (ci := 2) (v := .ref (a 2)) (C := RX2) (T := TX2) (N := 3) hx hb hts hinX2 hown hK hP 0 rfl rfl 1 (by decide) (hts (.fieldLink RX2 21 "LoopScheduler" "table" "LLoopScheduler$Timetable;") (List.mem_of_getElem? (i := 3) rfl)) (fun _ h9 => h9) rfl dX2_cycles_31 ?_
    refine va_get (D := D) (ci := 1) (v := .int (iI ((T : Nat) : Int))) (C := RX1) (T := TX1) (N := 5) hx hb hts hinX1 hown hK hP 2 rfl rfl 4 (by decide) (hts (.fieldLink RX2 117 "LoopScheduler$Timetable" "interval" "I") (List.mem_of_getElem? (i := 4) rfl)) (fun _ h9 => h9) rfl dX2_cycles_34 ?_
    refine z_mul (a := (i - 1)) (b := ((T : Nat) : Int)) hx hb dX2_cycles_37 ?_
    refine z_add (a := (gT tm (Ln L))) (b := ((i - 1) * ((T : Nat) : Int))) hx hb dX2_cycles_38 ?_
    refine z_ic hx hb dX2_cycles_39 ?_
    refine z_add (a := ((gT tm (Ln L)) + ((i - 1) * ((T : Nat) : Int)))) (b := 1) hx hb dX2_cycles_40 ?_
    exact x_iret (w := (wX a g L att T hs tm tk lt)) (v := (iI (((gT tm (Ln L)) + ((i - 1) * ((T : Nat) : Int))) + 1))) hQ hx hb hr hlocks ⟨by omega, by rw [if_neg (show ¬ Ln L = 0 by omega)], rfl⟩ hK hP hD hS (Nat.le_of_ble_eq_true rfl) (Nat.le_of_ble_eq_true rfl) dX2_cycles_41
  · refine z_ic hx hb dX2_cycles_18 ?_
    exact x_iret (w := (wX a g L att T hs tm tk lt)) (v := (iI ((0 : Nat) : Int))) hQ hx hb hr hlocks ⟨by omega, by rw [if_pos (show Ln L = 0 by omega)]; rfl, rfl⟩ hK hP hD hS (Nat.le_of_ble_eq_true rfl) (Nat.le_of_ble_eq_true rfl) dX2_cycles_19
set_option maxHeartbeats 4000000 in
set_option maxRecDepth 100000 in
theorem c_X2_isIssued (l : Launch) (D : va_G) (g : Nat → ClassId) (a : Nat → Nat) (L : LD) (att T : Nat) (hs tm : Nat → Int) (tk : Nat → Nat → Int) (lt : Nat → Int) (i n y : Nat) (hTT : 0 < T ∧ T ≤ 200) (hi : i < 14) (hn : n ≤ 1000) (hy : y < 2147483648) (ht0 : 0 ≤ tm i ∧ tm i ≤ 1000000) : zMi l D (zT g) yX2_isIssued wsX2_isIssued 1 12 (wX a g L att T hs tm tk lt) [.ref (a 0), .int (iI ((i : Nat) : Int)), .int (iI ((n : Nat) : Int)), .int (iI ((y : Nat) : Int))] (fun r w1 => r = iI (bI (iss T tm n y i)) ∧ w1 = wX a g L att T hs tm tk lt) := by
  refine z_ofI (cc := cX2_isIssued) (maxL := 5) (ret := (some .boolean)) (by decide) rfl (Nat.le_of_ble_eq_true rfl) ?_
  intro p e s m args below meth c A ls hx hb hr hts hown hlocks hml hP hK hD hS hA hl Q hQ
  have hown : s.vm.findClass RX2 = some m.cls := hown
  have hinX1 : ∀ w ∈ u_ws RX1 TX1 5, w ∈ wsX2_isIssued := by decide +kernel
  have hinX2 : ∀ w ∈ u_ws RX2 TX2 3, w ∈ wsX2_isIssued := by decide +kernel
  have hl : lv_has ls 5 [(0, .ref (a 0)), (1, .int (iI ((i : Nat) : Int))), (2, .int (iI ((n : Nat) : Int))), (3, .int (iI ((y : Nat) : Int)))] := hl
  refine lv_iload_n hx hb dX2_isIssued_0 rfl (lv_at hl 3 rfl) ?_
  refine lv_aload_n hx hb dX2_isIssued_1 rfl (lv_at hl 0 rfl) ?_
  refine va_get (D := D) (ci := 2) (v := .ref (a 2)) (C := RX2) (T := TX2) (N := 3) hx hb hts hinX2 hown hK hP 0 rfl rfl 1 (by decide) (hts (.fieldLink RX2 21 "LoopScheduler" "table" "LLoopScheduler$Timetable;") (List.mem_of_getElem? (i := 1) rfl)) (fun _ h9 => h9) rfl dX2_isIssued_2 ?_
  refine va_get (D := D) (ci := 1) (v := .ref (a 11)) (C := RX1) (T := TX1) (N := 5) hx hb hts hinX1 hown hK hP 2 rfl rfl 1 (by decide) (hts (.fieldLink RX2 123 "LoopScheduler$Timetable" "times" "[I") (List.mem_of_getElem? (i := 2) rfl)) (fun _ h9 => h9) rfl dX2_isIssued_5 ?_
  refine lv_iload_n hx hb dX2_isIssued_8 rfl (lv_at hl 1 rfl) ?_
  refine z_ialdN (f := tm) (z := i) hx hb hK hP 11 0 rfl rfl (by omega) (by decide) dX2_isIssued_9 ?_
  refine z_sub (a := ((y : Nat) : Int)) (b := (tm i)) hx hb dX2_isIssued_10 ?_
  refine lv_istore (lv' := [(4, .int (iI (((y : Nat) : Int) - (tm i)))), (0, .ref (a 0)), (1, .int (iI ((i : Nat) : Int))), (2, .int (iI ((n : Nat) : Int))), (3, .int (iI ((y : Nat) : Int)))]) hx hb dX2_isIssued_11 hl (by decide) rfl (fun ls hl => ?_)
  refine lv_iload hx hb dX2_isIssued_13 (lv_at hl 0 rfl) ?_
  refine z_iflt (a := (((y : Nat) : Int) - (tm i))) (tgt := 49) hx hb dX2_isIssued_15 (by decide) (by omega) (fun c_15 => ?_) (fun c_15 => ?_)
  · refine z_ic hx hb dX2_isIssued_49 ?_
    exact z_zret (w := (wX a g L att T hs tm tk lt)) (v := (iI ((0 : Nat) : Int))) z_nb0 hQ hx hb hr hlocks ⟨by rw [iss_f (T := T) (tm := tm) (n := n) (c := y) (i := i) (fun q => by omega)]; rfl, rfl⟩ hK hP hD hS dX2_isIssued_50
  · have hm9 := emod_bd (((y : Nat) : Int) - tm i) hTT.1
    have hd9 := ediv_bd (T := T) (show 0 ≤ ((y : Nat) : Int) - tm i by omega)
    refine lv_iload hx hb dX2_isIssued_18 (lv_at hl 0 rfl) ?_
    refine lv_aload_n hx hb dX2_isIssued_20 rfl (lv_at hl 1 rfl) ?_
    refine va_get (D := D) (ci := 2) (v := .ref (a 2)) (C := RX2) (T := TX2) (N := 3) hx hb hts hinX2 hown hK hP 0 rfl rfl 1 (by decide) (hts (.fieldLink RX2 21 "LoopScheduler" "table" "LLoopScheduler$Timetable;") (List.mem_of_getElem? (i := 1) rfl)) (fun _ h9 => h9) rfl dX2_isIssued_21 ?_
    refine va_get (D := D) (ci := 1) (v := .int (iI ((T : Nat) : Int))) (C := RX1) (T := TX1) (N := 5) hx hb hts hinX1 hown hK hP 2 rfl rfl 4 (by decide) (hts (.fieldLink RX2 117 "LoopScheduler$Timetable" "interval" "I") (List.mem_of_getElem? (i := 3) rfl)) (fun _ h9 => h9) rfl dX2_isIssued_24 ?_
    refine z_rem (a := (((y : Nat) : Int) - (tm i))) (b := ((T : Nat) : Int)) hx hb (by omega) dX2_isIssued_27 ?_
    refine z_ifne (a := ((((y : Nat) : Int) - (tm i)) % ((T : Nat) : Int))) (tgt := 49) hx hb dX2_isIssued_28 (by decide) (by omega) (fun c_28 => ?_) (fun c_28 => ?_)
    · refine z_ic hx hb dX2_isIssued_49 ?_
      exact z_zret (w := (wX a g L att T hs tm tk lt)) (v := (iI ((0 : Nat) : Int))) z_nb0 hQ hx hb hr hlocks ⟨by rw [iss_f (T := T) (tm := tm) (n := n) (c := y) (i := i) (fun q => by omega)]; rfl, rfl⟩ hK hP hD hS dX2_isIssued_50
    · refine lv_iload hx hb dX2_isIssued_31 (lv_at hl 0 rfl) ?_
      refine lv_aload_n hx hb dX2_isIssued_33 rfl (lv_at hl 1 rfl) ?_
      refine va_get (D := D) (ci := 2) (v := .ref (a 2)) (C := RX2) (T := TX2) (N := 3) hx hb hts hinX2 hown hK hP 0 rfl rfl 1 (by decide) (hts (.fieldLink RX2 21 "LoopScheduler" "table" "LLoopScheduler$Timetable;") (List.mem_of_getElem? (i := 1) rfl)) (fun _ h9 => h9) rfl dX2_isIssued_34 ?_
      refine va_get (D := D) (ci := 1) (v := .int (iI ((T : Nat) : Int))) (C := RX1) (T := TX1) (N := 5) hx hb hts hinX1 hown hK hP 2 rfl rfl 4 (by decide) (hts (.fieldLink RX2 117 "LoopScheduler$Timetable" "interval" "I") (List.mem_of_getElem? (i := 3) rfl)) (fun _ h9 => h9) rfl dX2_isIssued_37 ?_
      refine z_div (a := (((y : Nat) : Int) - (tm i))) (b := ((T : Nat) : Int)) hx hb (by omega) dX2_isIssued_40 ?_
      refine lv_iload_n hx hb dX2_isIssued_41 rfl (lv_at hl 3 rfl) ?_
      refine z_icge (a := ((((y : Nat) : Int) - (tm i)) / ((T : Nat) : Int))) (b := ((n : Nat) : Int)) (tgt := 49) hx hb dX2_isIssued_42 (by decide) (by omega) (fun c_42 => ?_) (fun c_42 => ?_)
      · refine z_ic hx hb dX2_isIssued_49 ?_
        exact z_zret (w := (wX a g L att T hs tm tk lt)) (v := (iI ((0 : Nat) : Int))) z_nb0 hQ hx hb hr hlocks ⟨by rw [iss_f (T := T) (tm := tm) (n := n) (c := y) (i := i) (fun q => by omega)]; rfl, rfl⟩ hK hP hD hS dX2_isIssued_50
      · refine z_ic hx hb dX2_isIssued_45 ?_
        refine lv_goto (tgt := 50) hx hb dX2_isIssued_46 (by decide) ?_
        exact z_zret (w := (wX a g L att T hs tm tk lt)) (v := (iI ((1 : Nat) : Int))) z_nb1 hQ hx hb hr hlocks ⟨by rw [iss_t (T := T) (tm := tm) (n := n) (c := y) (i := i) (by omega) (by omega) (by omega)]; rfl, rfl⟩ hK hP hD hS dX2_isIssued_50
set_option maxHeartbeats 4000000 in
set_option maxRecDepth 100000 in
theorem c_X2_issueNumber (l : Launch) (D : va_G) (g : Nat → ClassId) (a : Nat → Nat) (L : LD) (att T : Nat) (hs tm : Nat → Int) (tk : Nat → Nat → Int) (lt : Nat → Int) (i y : Nat) (hTT : 0 < T ∧ T ≤ 200) (hi : i < 14) (hy : y < 2147483648) (ht0 : 0 ≤ tm i ∧ tm i ≤ (y : Int)) : zMi l D (zT g) yX2_issueNumber wsX2_issueNumber 1 12 (wX a g L att T hs tm tk lt) [.ref (a 0), .int (iI ((i : Nat) : Int)), .int (iI ((y : Nat) : Int))] (fun r w1 => r = iI (num T tm y i) ∧ w1 = wX a g L att T hs tm tk lt) := by
  refine z_ofI (cc := cX2_issueNumber) (maxL := 4) (ret := (some .int)) (by decide) rfl (Nat.le_of_ble_eq_true rfl) ?_
  intro p e s m args below meth c A ls hx hb hr hts hown hlocks hml hP hK hD hS hA hl Q hQ
  have hown : s.vm.findClass RX2 = some m.cls := hown
  have hinX1 : ∀ w ∈ u_ws RX1 TX1 5, w ∈ wsX2_issueNumber := by decide +kernel
  have hinX2 : ∀ w ∈ u_ws RX2 TX2 3, w ∈ wsX2_issueNumber := by decide +kernel
  have hl : lv_has ls 4 [(0, .ref (a 0)), (1, .int (iI ((i : Nat) : Int))), (2, .int (iI ((y : Nat) : Int)))] := hl
  refine lv_iload_n hx hb dX2_issueNumber_0 rfl (lv_at hl 2 rfl) ?_
  refine lv_aload_n hx hb dX2_issueNumber_1 rfl (lv_at hl 0 rfl) ?_
  refine va_get (D := D) (ci := 2) (v := .ref (a 2)) (C := RX2) (T := TX2) (N := 3) hx hb hts hinX2 hown hK hP 0 rfl rfl 1 (by decide) (hts (.fieldLink RX2 21 "LoopScheduler" "table" "LLoopScheduler$Timetable;") (List.mem_of_getElem? (i := 1) rfl)) (fun _ h9 => h9) rfl dX2_issueNumber_2 ?_
  refine va_get (D := D) (ci := 1) (v := .ref (a 11)) (C := RX1) (T := TX1) (N := 5) hx hb hts hinX1 hown hK hP 2 rfl rfl 1 (by decide) (hts (.fieldLink RX2 123 "LoopScheduler$Timetable" "times" "[I") (List.mem_of_getElem? (i := 2) rfl)) (fun _ h9 => h9) rfl dX2_issueNumber_5 ?_
  refine lv_iload_n hx hb dX2_issueNumber_8 rfl (lv_at hl 1 rfl) ?_
  refine z_ialdN (f := tm) (z := i) hx hb hK hP 11 0 rfl rfl (by omega) (by decide) dX2_issueNumber_9 ?_
  refine z_sub (a := ((y : Nat) : Int)) (b := (tm i)) hx hb dX2_issueNumber_10 ?_
  refine lv_aload_n hx hb dX2_issueNumber_11 rfl (lv_at hl 0 rfl) ?_
  refine va_get (D := D) (ci := 2) (v := .ref (a 2)) (C := RX2) (T := TX2) (N := 3) hx hb hts hinX2 hown hK hP 0 rfl rfl 1 (by decide) (hts (.fieldLink RX2 21 "LoopScheduler" "table" "LLoopScheduler$Timetable;") (List.mem_of_getElem? (i := 1) rfl)) (fun _ h9 => h9) rfl dX2_issueNumber_12 ?_
  refine va_get (D := D) (ci := 1) (v := .int (iI ((T : Nat) : Int))) (C := RX1) (T := TX1) (N := 5) hx hb hts hinX1 hown hK hP 2 rfl rfl 4 (by decide) (hts (.fieldLink RX2 117 "LoopScheduler$Timetable" "interval" "I") (List.mem_of_getElem? (i := 3) rfl)) (fun _ h9 => h9) rfl dX2_issueNumber_15 ?_
  refine z_div (a := (((y : Nat) : Int) - (tm i))) (b := ((T : Nat) : Int)) hx hb (by omega) dX2_issueNumber_18 ?_
  refine lv_istore_n (lv' := [(3, .int (iI ((((y : Nat) : Int) - (tm i)) / ((T : Nat) : Int)))), (0, .ref (a 0)), (1, .int (iI ((i : Nat) : Int))), (2, .int (iI ((y : Nat) : Int)))]) hx hb dX2_issueNumber_19 rfl hl (by decide) rfl (fun ls hl => ?_)
  refine z_bip hx hb dX2_issueNumber_20 (by decide) ?_
  refine lv_iload_n hx hb dX2_issueNumber_22 rfl (lv_at hl 0 rfl) ?_
  refine z_mul (a := 14) (b := ((((y : Nat) : Int) - (tm i)) / ((T : Nat) : Int))) hx hb dX2_issueNumber_23 ?_
  refine lv_iload_n hx hb dX2_issueNumber_24 rfl (lv_at hl 2 rfl) ?_
  refine z_add (a := (14 * ((((y : Nat) : Int) - (tm i)) / ((T : Nat) : Int)))) (b := ((i : Nat) : Int)) hx hb dX2_issueNumber_25 ?_
  exact z_iret (w := (wX a g L att T hs tm tk lt)) (v := (iI ((14 * ((((y : Nat) : Int) - (tm i)) / ((T : Nat) : Int))) + ((i : Nat) : Int)))) hQ hx hb hr hlocks ⟨rfl, rfl⟩ hK hP hD hS dX2_issueNumber_26
set_option maxHeartbeats 4000000 in
set_option maxRecDepth 100000 in
theorem c_X2_countIssuedBefore (l : Launch) (D : va_G) (g : Nat → ClassId) (a : Nat → Nat) (L : LD) (att T : Nat) (hs tm : Nat → Int) (tk : Nat → Nat → Int) (lt : Nat → Int) (i n y : Nat) (hw : wf L) (hTT : 0 < T ∧ T ≤ 200) (hn : n ≤ 1000) (hy : y < 2147483648) (hbt : tB 1000000 tm) (h0 : ∀ j, j < Ln L → 0 ≤ tm j) (hi : i < Ln L) (his : iss T tm n y i = true) : zMi l D (zT g) yX2_countIssuedBefore wsX2_countIssuedBefore 2 36 (wX a g L att T hs tm tk lt) [.ref (a 0), .int (iI ((i : Nat) : Int)), .int (iI ((n : Nat) : Int)), .int (iI ((y : Nat) : Int))] (fun r w1 => r = iI ((cib T tm n y (num T tm y i) (Ln L) : Nat) : Int) ∧ w1 = wX a g L att T hs tm tk lt) := by
  refine z_ofI (cc := cX2_countIssuedBefore) (maxL := 7) (ret := (some .int)) (by decide) rfl (Nat.le_of_ble_eq_true rfl) ?_
  intro p e s m args below meth c A ls hx hb hr hts hown hlocks hml hP hK hD hS hA hl Q hQ
  have hown : s.vm.findClass RX2 = some m.cls := hown
  have hinX0 : ∀ w ∈ u_ws RX0 TX0 10, w ∈ wsX2_countIssuedBefore := by decide +kernel
  have hinX1 : ∀ w ∈ u_ws RX1 TX1 5, w ∈ wsX2_countIssuedBefore := by decide +kernel
  have hinX2 : ∀ w ∈ u_ws RX2 TX2 3, w ∈ wsX2_countIssuedBefore := by decide +kernel
  have hl : lv_has ls 7 [(0, .ref (a 0)), (1, .int (iI ((i : Nat) : Int))), (2, .int (iI ((n : Nat) : Int))), (3, .int (iI ((y : Nat) : Int)))] := hl
  have hwn0 := wf_n hw
  have hii := iss_i his
  have hnb := num_bd his hn (by omega) hTT.1
  refine lv_aload_n hx hb dX2_countIssuedBefore_0 rfl (lv_at hl 0 rfl) ?_
  refine lv_iload_n hx hb dX2_countIssuedBefore_1 rfl (lv_at hl 1 rfl) ?_
  refine lv_iload_n hx hb dX2_countIssuedBefore_2 rfl (lv_at hl 3 rfl) ?_
  refine z_calli (va_runV (As := [.int (iI ((i : Nat) : Int)), .int (iI ((y : Nat) : Int))]) (rest := []) ⟨hx, hb, hml, hown, hts⟩ (c_X2_issueNumber l D g a L att T hs tm tk lt i y hTT (by omega) hy (⟨h0 _ (by omega), by omega⟩) _) (cwV 2 hts gX2_countIssuedBefore_X2_issueNumber rfl rfl rfl (by decide +kernel) ⟨Nat.le_of_ble_eq_true rfl, Nat.le_of_ble_eq_true rfl⟩) (z_preV 0 hK hP hD rfl rfl) rfl rfl hl.1 rfl (lv_room (Nat.le_of_ble_eq_true rfl)) dX2_countIssuedBefore_3 ⟨Nat.zero_le _, Nat.zero_le _⟩) hS hD hA (fun r w1 H locs hw1 hP hD hS => ?_)
  obtain ⟨rfl, rfl⟩ := hw1
  refine lv_istore (lv' := [(4, .int (iI (num T tm y i))), (0, .ref (a 0)), (1, .int (iI ((i : Nat) : Int))), (2, .int (iI ((n : Nat) : Int))), (3, .int (iI ((y : Nat) : Int)))]) hx hb dX2_countIssuedBefore_6 hl (by decide) rfl (fun ls hl => ?_)
  refine z_ic hx hb dX2_countIssuedBefore_8 ?_
  refine lv_istore (lv' := [(5, .int (iI ((0 : Nat) : Int))), (4, .int (iI (num T tm y i))), (0, .ref (a 0)), (1, .int (iI ((i : Nat) : Int))), (2, .int (iI ((n : Nat) : Int))), (3, .int (iI ((y : Nat) : Int)))]) hx hb dX2_countIssuedBefore_9 hl (by decide) rfl (fun ls hl => ?_)
  refine z_ic hx hb dX2_countIssuedBefore_11 ?_
  refine lv_istore (lv' := [(6, .int (iI ((0 : Nat) : Int))), (5, .int (iI ((0 : Nat) : Int))), (4, .int (iI (num T tm y i))), (0, .ref (a 0)), (1, .int (iI ((i : Nat) : Int))), (2, .int (iI ((n : Nat) : Int))), (3, .int (iI ((y : Nat) : Int)))]) hx hb dX2_countIssuedBefore_12 hl (by decide) rfl (fun ls hl => ?_)
  have loop14 : ∀ (n14 : Nat) (x : Nat) (H : Heap) (locs : List Loc) (ls : Array Slot), Ln L - x < n14 → (x ≤ Ln L) → va_P D vwCl (wX a g L att T hs tm tk lt) H → va_D A (wX a g L att T hs tm tk lt) → va_S A s.heap H locs → lv_has ls 7 [(0, .ref (a 0)), (1, .int (iI ((i : Nat) : Int))), (2, .int (iI ((n : Nat) : Int))), (3, .int (iI ((y : Nat) : Int))), (4, .int (iI (num T tm y i))), (5, .int (iI ((cib T tm n y (num T tm y i) x : Nat) : Int))), (6, .int (iI ((x : Nat) : Int)))] → W p l e ({ frames := 2, cells := 0, slots := 0, locals := 36 } : Room) s m args below meth c H locs 0 0 Q (F0 m 14 ls []) := by
    intro n14
    induction n14 with
    | zero => exact fun _ H locs ls hn => absurd hn (Nat.not_lt_zero _)
    | succ n14 ih14 =>
      intro x H locs ls hn14 hx2 hP hD hS hl
      have hwn := wf_n hw
      have hcl := cib_le T tm n y (num T tm y i) x
      refine lv_iload hx hb dX2_countIssuedBefore_14 (lv_at hl 6 rfl) ?_
      refine lv_aload_n hx hb dX2_countIssuedBefore_16 rfl (lv_at hl 0 rfl) ?_
      refine va_get (D := D) (ci := 2) (v := .ref (a 1)) (C := RX2) (T := TX2) (N := 3) hx hb hts hinX2 hown hK hP 0 rfl rfl 0 (by decide) (hts (.fieldLink RX2 10 "LoopScheduler" "loop" "LLoopScheduler$Loop;") (List.mem_of_getElem? (i := 1) rfl)) (fun _ h9 => h9) rfl dX2_countIssuedBefore_17 ?_
      refine va_get (D := D) (ci := 0) (v := .int (iI ((Ln L : Nat) : Int))) (C := RX0) (T := TX0) (N := 10) hx hb hts hinX0 hown hK hP 1 rfl rfl 8 (by decide) (hts (.fieldLink RX2 51 "LoopScheduler$Loop" "operations" "I") (List.mem_of_getElem? (i := 2) rfl)) (fun _ h9 => h9) rfl dX2_countIssuedBefore_20 ?_
      refine z_icge (a := ((x : Nat) : Int)) (b := ((Ln L : Nat) : Int)) (tgt := 58) hx hb dX2_countIssuedBefore_23 (by decide) (by omega) (fun c_23 => ?_) (fun c_23 => ?_)
      · obtain rfl : x = Ln L := by omega
        refine lv_iload hx hb dX2_countIssuedBefore_58 (lv_at hl 5 rfl) ?_
        exact z_iret (w := (wX a g L att T hs tm tk lt)) (v := (iI ((cib T tm n y (num T tm y i) (Ln L) : Nat) : Int))) hQ hx hb hr hlocks ⟨rfl, rfl⟩ hK hP hD hS dX2_countIssuedBefore_60
      · refine lv_aload_n hx hb dX2_countIssuedBefore_26 rfl (lv_at hl 0 rfl) ?_
        refine lv_iload hx hb dX2_countIssuedBefore_27 (lv_at hl 6 rfl) ?_
        refine lv_iload_n hx hb dX2_countIssuedBefore_29 rfl (lv_at hl 2 rfl) ?_
        refine lv_iload_n hx hb dX2_countIssuedBefore_30 rfl (lv_at hl 3 rfl) ?_
        refine z_calli (va_runV (As := [.int (iI ((x : Nat) : Int)), .int (iI ((n : Nat) : Int)), .int (iI ((y : Nat) : Int))]) (rest := []) ⟨hx, hb, hml, hown, hts⟩ (c_X2_isIssued l D g a L att T hs tm tk lt x n y hTT (by omega) (by omega) hy ⟨h0 _ (by omega), (hbt _).2⟩ _) (cwV 3 hts gX2_countIssuedBefore_X2_isIssued rfl rfl rfl (by decide +kernel) ⟨Nat.le_of_ble_eq_true rfl, Nat.le_of_ble_eq_true rfl⟩) (z_preV 0 hK hP hD rfl rfl) rfl rfl hl.1 rfl (lv_room (Nat.le_of_ble_eq_true rfl)) dX2_countIssuedBefore_31 ⟨Nat.zero_le _, Nat.zero_le _⟩) hS hD hA (fun r w1 H locs hw1 hP hD hS => ?_)
        obtain ⟨rfl, rfl⟩ := hw1
        refine z_ifeq (a := (bI (iss T tm n y x))) (tgt := 52) hx hb dX2_countIssuedBefore_34 (by decide) (bI_r _) (fun c_34 => ?_) (fun c_34 => ?_)
        · have b_34 := bI_f c_34
          refine z_iinc (a := ((x : Nat) : Int)) (b := ((x + 1 : Nat) : Int)) (lv' := [(6, .int (iI ((x + 1 : Nat) : Int))), (0, .ref (a 0)), (1, .int (iI ((i : Nat) : Int))), (2, .int (iI ((n : Nat) : Int))), (3, .int (iI ((y : Nat) : Int))), (4, .int (iI (num T tm y i))), (5, .int (iI ((cib T tm n y (num T tm y i) x : Nat) : Int)))]) hx hb 6 dX2_countIssuedBefore_52 hl rfl rfl (by decide) rfl (fun ls hl => ?_)
          refine lv_goto (tgt := 14) hx hb dX2_countIssuedBefore_55 (by decide) ?_
          exact ih14 (x + 1) _ _ _ (by omega) (by omega) hP hD hS (by rw [show cib T tm n y (num T tm y i) (x + 1) = _ from cib_f (fun q => by rw [bI_f c_34] at q; exact absurd q.1 (by decide))]; exact lv_sub hl [1, 2, 3, 4, 5, 6, 0] rfl)
        · have b_34 := bI_t c_34
          have hnb2 := num_bd (bI_t c_34) hn (by omega) hTT.1
          refine lv_aload_n hx hb dX2_countIssuedBefore_37 rfl (lv_at hl 0 rfl) ?_
          refine lv_iload hx hb dX2_countIssuedBefore_38 (lv_at hl 6 rfl) ?_
          refine lv_iload_n hx hb dX2_countIssuedBefore_40 rfl (lv_at hl 3 rfl) ?_
          refine z_calli (va_runV (As := [.int (iI ((x : Nat) : Int)), .int (iI ((y : Nat) : Int))]) (rest := []) ⟨hx, hb, hml, hown, hts⟩ (c_X2_issueNumber l D g a L att T hs tm tk lt x y hTT (by omega) hy (⟨h0 _ (by omega), by have q9 := iss_i (bI_t c_34); omega⟩) _) (cwV 2 hts gX2_countIssuedBefore_X2_issueNumber rfl rfl rfl (by decide +kernel) ⟨Nat.le_of_ble_eq_true rfl, Nat.le_of_ble_eq_true rfl⟩) (z_preV 0 hK hP hD rfl rfl) rfl rfl hl.1 rfl (lv_room (Nat.le_of_ble_eq_true rfl)) dX2_countIssuedBefore_41 ⟨Nat.zero_le _, Nat.zero_le _⟩) hS hD hA (fun r w1 H locs hw1 hP hD hS => ?_)
          obtain ⟨rfl, rfl⟩ := hw1
          refine lv_iload hx hb dX2_countIssuedBefore_44 (lv_at hl 4 rfl) ?_
          refine z_icge (a := (num T tm y x)) (b := (num T tm y i)) (tgt := 52) hx hb dX2_countIssuedBefore_46 (by decide) (by omega) (fun c_46 => ?_) (fun c_46 => ?_)
          · refine z_iinc (a := ((x : Nat) : Int)) (b := ((x + 1 : Nat) : Int)) (lv' := [(6, .int (iI ((x + 1 : Nat) : Int))), (0, .ref (a 0)), (1, .int (iI ((i : Nat) : Int))), (2, .int (iI ((n : Nat) : Int))), (3, .int (iI ((y : Nat) : Int))), (4, .int (iI (num T tm y i))), (5, .int (iI ((cib T tm n y (num T tm y i) x : Nat) : Int)))]) hx hb 6 dX2_countIssuedBefore_52 hl rfl rfl (by decide) rfl (fun ls hl => ?_)
            refine lv_goto (tgt := 14) hx hb dX2_countIssuedBefore_55 (by decide) ?_
            exact ih14 (x + 1) _ _ _ (by omega) (by omega) hP hD hS (by rw [show cib T tm n y (num T tm y i) (x + 1) = _ from cib_f (fun q => by have := q.2; omega)]; exact lv_sub hl [1, 2, 3, 4, 5, 6, 0] rfl)
          · refine z_iinc (a := ((cib T tm n y (num T tm y i) x : Nat) : Int)) (b := ((cib T tm n y (num T tm y i) x + 1 : Nat) : Int)) (lv' := [(5, .int (iI ((cib T tm n y (num T tm y i) x + 1 : Nat) : Int))), (0, .ref (a 0)), (1, .int (iI ((i : Nat) : Int))), (2, .int (iI ((n : Nat) : Int))), (3, .int (iI ((y : Nat) : Int))), (4, .int (iI (num T tm y i))), (6, .int (iI ((x : Nat) : Int)))]) hx hb 5 dX2_countIssuedBefore_49 hl rfl rfl (by decide) rfl (fun ls hl => ?_)
            refine z_iinc (a := ((x : Nat) : Int)) (b := ((x + 1 : Nat) : Int)) (lv' := [(6, .int (iI ((x + 1 : Nat) : Int))), (5, .int (iI ((cib T tm n y (num T tm y i) x + 1 : Nat) : Int))), (0, .ref (a 0)), (1, .int (iI ((i : Nat) : Int))), (2, .int (iI ((n : Nat) : Int))), (3, .int (iI ((y : Nat) : Int))), (4, .int (iI (num T tm y i)))]) hx hb 6 dX2_countIssuedBefore_52 hl rfl rfl (by decide) rfl (fun ls hl => ?_)
            refine lv_goto (tgt := 14) hx hb dX2_countIssuedBefore_55 (by decide) ?_
            exact ih14 (x + 1) _ _ _ (by omega) (by omega) hP hD hS (by rw [show cib T tm n y (num T tm y i) (x + 1) = _ from cib_t (bI_t c_34) (by omega)]; exact lv_sub hl [2, 3, 4, 5, 6, 1, 0] rfl)
  exact loop14 ((Ln L - 0) + 1) 0 _ _ _ (Nat.lt_succ_self _) (by omega) hP hD hS (lv_sub hl [3, 4, 5, 6, 2, 1, 0] rfl)
set_option maxHeartbeats 4000000 in
set_option maxRecDepth 100000 in
theorem c_X2_issued (l : Launch) (hl0 : l.stackTraces = false) (D : va_G) (g : Nat → ClassId) (a : Nat → Nat) (L : LD) (att T : Nat) (hs tm : Nat → Int) (tk : Nat → Nat → Int) (lt : Nat → Int) (i u : Int) (hw : wf L) (hok : okX L T tm tk) (hri : -2147483648 ≤ i ∧ i < 2147483648) (hru : -2147483648 ≤ u ∧ u < 2147483648) : xMi l D (zT g) yX2_issued wsX2_issued 7 102 3 (wX a g L att T hs tm tk lt) [.ref (a 0), .int (iI (i)), .int (iI (u))] (fun r w1 => (0 < T ∧ (1 ≤ i ∧ i ≤ 1000) ∧ 0 ≤ u) ∧ r = iI ((isn T tm i.toNat u.toNat (Ln L) : Nat) : Int) ∧ w1 = wX a g L att T hs tm tk lt) (fun E w9 => w9 = wX a g L att T hs tm tk lt ∧ ((E = nIS ∧ ¬ (0 < T)) ∨ (E = nIA ∧ 0 < T ∧ ¬ ((1 ≤ i ∧ i ≤ 1000) ∧ 0 ≤ u)))) := by
  refine x_ofI (cc := cX2_issued) (maxL := 5) (ret := (some .int)) (by decide) rfl (Nat.le_of_ble_eq_true rfl) ?_
  intro p e s m args below meth c A ls hx hb hr hts hown hlocks hml hP hK hD hS hA hl hE hV htb Q hQ
  have hown : s.vm.findClass RX2 = some m.cls := hown
  have hinX0 : ∀ w ∈ u_ws RX0 TX0 10, w ∈ wsX2_issued := by decide +kernel
  have hinX1 : ∀ w ∈ u_ws RX1 TX1 5, w ∈ wsX2_issued := by decide +kernel
  have hinX2 : ∀ w ∈ u_ws RX2 TX2 3, w ∈ wsX2_issued := by decide +kernel
  have hl : lv_has ls 5 [(0, .ref (a 0)), (1, .int (iI (i))), (2, .int (iI (u)))] := hl
  refine lv_aload_n hx hb dX2_issued_0 rfl (lv_at hl 0 rfl) ?_
  refine x_callv hQ (fun E u q => ⟨q.1, Or.inl (⟨q.2.1, by have q9 := q.2.2; omega⟩)⟩) htb hlocks (Nat.le_of_ble_eq_true rfl) (Nat.le_of_ble_eq_true rfl) (vx_runV (As := []) (rest := []) ⟨hx, hb, hml, hown, hts⟩ (c_X2_requireSchedule l hl0 D g a L att T hs tm tk lt  hok.1 _) (cwV 0 hts gX2_issued_X2_requireSchedule rfl rfl rfl (by decide +kernel) ⟨Nat.le_of_ble_eq_true rfl, Nat.le_of_ble_eq_true rfl⟩) (x_preV 0 hK hP hD hS hA hE hV rfl rfl) rfl rfl hl.1 rfl (lv_room (Nat.le_of_ble_eq_true rfl)) dX2_issued_1 ⟨Nat.le_of_ble_eq_true rfl, Nat.le_of_ble_eq_true rfl⟩) hS hD hA (fun w1 H locs hw1 hP hD hS => ?_)
  obtain ⟨hq0, rfl⟩ := hw1
  refine lv_iload_n hx hb dX2_issued_4 rfl (lv_at hl 1 rfl) ?_
  refine x_callv hQ (fun E u q => ⟨q.1, Or.inr (⟨q.2.1, by have q9 := q.2.2; omega⟩)⟩) htb hlocks (Nat.le_of_ble_eq_true rfl) (Nat.le_of_ble_eq_true rfl) (vx_runS (As := [.int (iI (i))]) (rest := []) ⟨hx, hb, hml, hown, hts⟩ (c_X2_requireIterations l hl0 D g a L att T hs tm tk lt i (by omega) _) (va_cwS 1 hts gX2_issued_X2_requireIterations rfl rfl rfl (by decide +kernel) ⟨Nat.le_of_ble_eq_true rfl, Nat.le_of_ble_eq_true rfl⟩) (x_preS hK hP hD hS hA hE hV) rfl rfl hl.1 rfl (lv_room (Nat.le_of_ble_eq_true rfl)) dX2_issued_5 ⟨Nat.le_of_ble_eq_true rfl, Nat.le_of_ble_eq_true rfl⟩) hS hD hA (fun w1 H locs hw1 hP hD hS => ?_)
  obtain ⟨hq1, rfl⟩ := hw1
  refine lv_iload_n hx hb dX2_issued_8 rfl (lv_at hl 2 rfl) ?_
  refine x_callv hQ (fun E u q => ⟨q.1, Or.inr (⟨q.2.1, by have q9 := q.2.2; omega⟩)⟩) htb hlocks (Nat.le_of_ble_eq_true rfl) (Nat.le_of_ble_eq_true rfl) (vx_runS (As := [.int (iI (u))]) (rest := []) ⟨hx, hb, hml, hown, hts⟩ (c_X2_requireCycle l hl0 D g a L att T hs tm tk lt u (by omega) _) (va_cwS 1 hts gX2_issued_X2_requireCycle rfl rfl rfl (by decide +kernel) ⟨Nat.le_of_ble_eq_true rfl, Nat.le_of_ble_eq_true rfl⟩) (x_preS hK hP hD hS hA hE hV) rfl rfl hl.1 rfl (lv_room (Nat.le_of_ble_eq_true rfl)) dX2_issued_9 ⟨Nat.le_of_ble_eq_true rfl, Nat.le_of_ble_eq_true rfl⟩) hS hD hA (fun w1 H locs hw1 hP hD hS => ?_)
  obtain ⟨hq2, rfl⟩ := hw1
  obtain ⟨n, rfl⟩ : ∃ n : Nat, i = (n : Int) := ⟨i.toNat, by omega⟩
  obtain ⟨y, rfl⟩ : ∃ y : Nat, u = (y : Int) := ⟨u.toNat, by omega⟩
  have hTT : 0 < T ∧ T ≤ 200 := ⟨by omega, hok.1⟩
  have hbt := (hok.2 hTT.1).1
  have hbk := (hok.2 hTT.1).2.1
  have hb0 := (hok.2 hTT.1).2.2
  have hB1 : (0 : Int) ≤ 1000000 ∧ (1000000 : Int) ≤ 1000000 := by decide
  have hwn0 := wf_n hw
  have hn : n ≤ 1000 := by omega
  have hy : y < 2147483648 := by omega
  have h0 := hb0
  refine z_ic hx hb dX2_issued_12 ?_
  refine lv_istore_n (lv' := [(3, .int (iI ((0 : Nat) : Int))), (0, .ref (a 0)), (1, .int (iI ((n : Nat) : Int))), (2, .int (iI ((y : Nat) : Int)))]) hx hb dX2_issued_13 rfl hl (by decide) rfl (fun ls hl => ?_)
  refine z_ic hx hb dX2_issued_14 ?_
  refine lv_istore (lv' := [(4, .int (iI ((0 : Nat) : Int))), (3, .int (iI ((0 : Nat) : Int))), (0, .ref (a 0)), (1, .int (iI ((n : Nat) : Int))), (2, .int (iI ((y : Nat) : Int)))]) hx hb dX2_issued_15 hl (by decide) rfl (fun ls hl => ?_)
  have loop17 : ∀ (n17 : Nat) (x : Nat) (H : Heap) (locs : List Loc) (ls : Array Slot), Ln L - x < n17 → (x ≤ Ln L) → va_P D vwCl (wX a g L att T hs tm tk lt) H → va_D A (wX a g L att T hs tm tk lt) → va_S A s.heap H locs → lv_has ls 5 [(0, .ref (a 0)), (1, .int (iI ((n : Nat) : Int))), (2, .int (iI ((y : Nat) : Int))), (3, .int (iI ((isn T tm n y x : Nat) : Int))), (4, .int (iI ((x : Nat) : Int)))] → W p l e ({ frames := 7, cells := 3, slots := 6 * 3, locals := 102 } : Room) s m args below meth c H locs 3 18 Q (F0 m 17 ls []) := by
    intro n17
    induction n17 with
    | zero => exact fun _ H locs ls hn => absurd hn (Nat.not_lt_zero _)
    | succ n17 ih17 =>
      intro x H locs ls hn17 hx2 hP hD hS hl
      have hil := isn_le T tm n y x
      refine lv_iload hx hb dX2_issued_17 (lv_at hl 4 rfl) ?_
      refine lv_aload_n hx hb dX2_issued_19 rfl (lv_at hl 0 rfl) ?_
      refine va_get (D := D) (ci := 2) (v := .ref (a 1)) (C := RX2) (T := TX2) (N := 3) hx hb hts hinX2 hown hK hP 0 rfl rfl 0 (by decide) (hts (.fieldLink RX2 10 "LoopScheduler" "loop" "LLoopScheduler$Loop;") (List.mem_of_getElem? (i := 1) rfl)) (fun _ h9 => h9) rfl dX2_issued_20 ?_
      refine va_get (D := D) (ci := 0) (v := .int (iI ((Ln L : Nat) : Int))) (C := RX0) (T := TX0) (N := 10) hx hb hts hinX0 hown hK hP 1 rfl rfl 8 (by decide) (hts (.fieldLink RX2 51 "LoopScheduler$Loop" "operations" "I") (List.mem_of_getElem? (i := 2) rfl)) (fun _ h9 => h9) rfl dX2_issued_23 ?_
      refine z_icge (a := ((x : Nat) : Int)) (b := ((Ln L : Nat) : Int)) (tgt := 49) hx hb dX2_issued_26 (by decide) (by omega) (fun c_26 => ?_) (fun c_26 => ?_)
      · obtain rfl : x = Ln L := by omega
        refine lv_iload_n hx hb dX2_issued_49 rfl (lv_at hl 3 rfl) ?_
        exact x_iret (w := (wX a g L att T hs tm tk lt)) (v := (iI ((isn T tm n y (Ln L) : Nat) : Int))) hQ hx hb hr hlocks ⟨by omega, rfl, rfl⟩ hK hP hD hS (Nat.le_of_ble_eq_true rfl) (Nat.le_of_ble_eq_true rfl) dX2_issued_50
      · refine lv_aload_n hx hb dX2_issued_29 rfl (lv_at hl 0 rfl) ?_
        refine lv_iload hx hb dX2_issued_30 (lv_at hl 4 rfl) ?_
        refine lv_iload_n hx hb dX2_issued_32 rfl (lv_at hl 1 rfl) ?_
        refine lv_iload_n hx hb dX2_issued_33 rfl (lv_at hl 2 rfl) ?_
        refine z_calli (va_runV (As := [.int (iI ((x : Nat) : Int)), .int (iI ((n : Nat) : Int)), .int (iI ((y : Nat) : Int))]) (rest := []) ⟨hx, hb, hml, hown, hts⟩ (c_X2_isIssued l D g a L att T hs tm tk lt x n y hTT (by omega) (by omega) hy ⟨h0 _ (by omega), (hbt _).2⟩ _) (cwV 3 hts gX2_issued_X2_isIssued rfl rfl rfl (by decide +kernel) ⟨Nat.le_of_ble_eq_true rfl, Nat.le_of_ble_eq_true rfl⟩) (z_preV 0 hK hP hD rfl rfl) rfl rfl hl.1 rfl (lv_room (Nat.le_of_ble_eq_true rfl)) dX2_issued_34 ⟨Nat.le_of_ble_eq_true rfl, Nat.le_of_ble_eq_true rfl⟩) hS hD hA (fun r w1 H locs hw1 hP hD hS => ?_)
        obtain ⟨rfl, rfl⟩ := hw1
        refine z_ifeq (a := (bI (iss T tm n y x))) (tgt := 43) hx hb dX2_issued_37 (by decide) (bI_r _) (fun c_37 => ?_) (fun c_37 => ?_)
        · have b_37 := bI_f c_37
          refine z_iinc (a := ((x : Nat) : Int)) (b := ((x + 1 : Nat) : Int)) (lv' := [(4, .int (iI ((x + 1 : Nat) : Int))), (0, .ref (a 0)), (1, .int (iI ((n : Nat) : Int))), (2, .int (iI ((y : Nat) : Int))), (3, .int (iI ((isn T tm n y x : Nat) : Int)))]) hx hb 4 dX2_issued_43 hl rfl rfl (by decide) rfl (fun ls hl => ?_)
          refine lv_goto (tgt := 17) hx hb dX2_issued_46 (by decide) ?_
          exact ih17 (x + 1) _ _ _ (by omega) (by omega) hP hD hS (by rw [show isn T tm n y (x + 1) = _ from isn_f (bI_f c_37)]; exact lv_sub hl [1, 2, 3, 4, 0] rfl)
        · have b_37 := bI_t c_37
          refine z_iinc (a := ((isn T tm n y x : Nat) : Int)) (b := ((isn T tm n y x + 1 : Nat) : Int)) (lv' := [(3, .int (iI ((isn T tm n y x + 1 : Nat) : Int))), (0, .ref (a 0)), (1, .int (iI ((n : Nat) : Int))), (2, .int (iI ((y : Nat) : Int))), (4, .int (iI ((x : Nat) : Int)))]) hx hb 3 dX2_issued_40 hl rfl rfl (by decide) rfl (fun ls hl => ?_)
          refine z_iinc (a := ((x : Nat) : Int)) (b := ((x + 1 : Nat) : Int)) (lv' := [(4, .int (iI ((x + 1 : Nat) : Int))), (3, .int (iI ((isn T tm n y x + 1 : Nat) : Int))), (0, .ref (a 0)), (1, .int (iI ((n : Nat) : Int))), (2, .int (iI ((y : Nat) : Int)))]) hx hb 4 dX2_issued_43 hl rfl rfl (by decide) rfl (fun ls hl => ?_)
          refine lv_goto (tgt := 17) hx hb dX2_issued_46 (by decide) ?_
          exact ih17 (x + 1) _ _ _ (by omega) (by omega) hP hD hS (by rw [show isn T tm n y (x + 1) = _ from isn_t (bI_t c_37)]; exact lv_sub hl [2, 3, 4, 1, 0] rfl)
  exact loop17 ((Ln L - 0) + 1) 0 _ _ _ (Nat.lt_succ_self _) (by omega) hP hD hS (lv_sub hl [2, 3, 4, 1, 0] rfl)
set_option maxHeartbeats 4000000 in
set_option maxRecDepth 100000 in
theorem c_X2_issue (l : Launch) (hl0 : l.stackTraces = false) (D : va_G) (g : Nat → ClassId) (a : Nat → Nat) (L : LD) (att T : Nat) (hs tm : Nat → Int) (tk : Nat → Nat → Int) (lt : Nat → Int) (i u k : Int) (hw : wf L) (hok : okX L T tm tk) (hri : -2147483648 ≤ i ∧ i < 2147483648) (hru : -2147483648 ≤ u ∧ u < 2147483648) (hrk : -2147483648 ≤ k ∧ k < 2147483648) : xMi l D (zT g) yX2_issue wsX2_issue 7 102 4 (wX a g L att T hs tm tk lt) [.ref (a 0), .int (iI (i)), .int (iI (u)), .int (iI (k))] (fun r w1 => (0 < T ∧ (1 ≤ i ∧ i ≤ 1000) ∧ 0 ≤ u) ∧ (∃ x, x < Ln L ∧ (iss T tm i.toNat u.toNat x = true ∧ ((cib T tm i.toNat u.toNat (num T tm u.toNat x) (Ln L) : Nat) : Int) = k) ∧ r = iI (num T tm u.toNat x)) ∧ w1 = wX a g L att T hs tm tk lt) (fun E w9 => w9 = wX a g L att T hs tm tk lt ∧ ((E = nIS ∧ ¬ (0 < T)) ∨ (E = nIA ∧ 0 < T ∧ ¬ ((1 ≤ i ∧ i ≤ 1000) ∧ 0 ≤ u)) ∨ (E = nIX ∧ (0 < T ∧ (1 ≤ i ∧ i ≤ 1000) ∧ 0 ≤ u) ∧ ∀ x, x < Ln L → ¬ (iss T tm i.toNat u.toNat x = true ∧ ((cib T tm i.toNat u.toNat (num T tm u.toNat x) (Ln L) : Nat) : Int) = k)))) := by
  refine x_ofI (cc := cX2_issue) (maxL := 5) (ret := (some .int)) (by decide) rfl (Nat.le_of_ble_eq_true rfl) ?_
  intro p e s m args below meth c A ls hx hb hr hts hown hlocks hml hP hK hD hS hA hl hE hV htb Q hQ
  have hown : s.vm.findClass RX2 = some m.cls := hown
  have hinX0 : ∀ w ∈ u_ws RX0 TX0 10, w ∈ wsX2_issue := by decide +kernel
  have hinX1 : ∀ w ∈ u_ws RX1 TX1 5, w ∈ wsX2_issue := by decide +kernel
  have hinX2 : ∀ w ∈ u_ws RX2 TX2 3, w ∈ wsX2_issue := by decide +kernel
  have hatIX : ∀ w ∈ (vx_atS RX2 85 nIX nms).filter goodWord, w.before args s = true := fun w h => hts w (List.mem_cons_of_mem _ (List.mem_append_left _ (List.mem_append_left _ (List.mem_append_right _ h))))
  have hl : lv_has ls 5 [(0, .ref (a 0)), (1, .int (iI (i))), (2, .int (iI (u))), (3, .int (iI (k)))] := hl
  refine lv_aload_n hx hb dX2_issue_0 rfl (lv_at hl 0 rfl) ?_
  refine x_callv hQ (fun E u q => ⟨q.1, Or.inl (⟨q.2.1, by have q9 := q.2.2; omega⟩)⟩) htb hlocks (Nat.le_of_ble_eq_true rfl) (Nat.le_of_ble_eq_true rfl) (vx_runV (As := []) (rest := []) ⟨hx, hb, hml, hown, hts⟩ (c_X2_requireSchedule l hl0 D g a L att T hs tm tk lt  hok.1 _) (cwV 0 hts gX2_issue_X2_requireSchedule rfl rfl rfl (by decide +kernel) ⟨Nat.le_of_ble_eq_true rfl, Nat.le_of_ble_eq_true rfl⟩) (x_preV 0 hK hP hD hS hA hE hV rfl rfl) rfl rfl hl.1 rfl (lv_room (Nat.le_of_ble_eq_true rfl)) dX2_issue_1 ⟨Nat.le_of_ble_eq_true rfl, Nat.le_of_ble_eq_true rfl⟩) hS hD hA (fun w1 H locs hw1 hP hD hS => ?_)
  obtain ⟨hq0, rfl⟩ := hw1
  refine lv_iload_n hx hb dX2_issue_4 rfl (lv_at hl 1 rfl) ?_
  refine x_callv hQ (fun E u q => ⟨q.1, Or.inr (Or.inl (⟨q.2.1, by have q9 := q.2.2; omega⟩))⟩) htb hlocks (Nat.le_of_ble_eq_true rfl) (Nat.le_of_ble_eq_true rfl) (vx_runS (As := [.int (iI (i))]) (rest := []) ⟨hx, hb, hml, hown, hts⟩ (c_X2_requireIterations l hl0 D g a L att T hs tm tk lt i (by omega) _) (va_cwS 1 hts gX2_issue_X2_requireIterations rfl rfl rfl (by decide +kernel) ⟨Nat.le_of_ble_eq_true rfl, Nat.le_of_ble_eq_true rfl⟩) (x_preS hK hP hD hS hA hE hV) rfl rfl hl.1 rfl (lv_room (Nat.le_of_ble_eq_true rfl)) dX2_issue_5 ⟨Nat.le_of_ble_eq_true rfl, Nat.le_of_ble_eq_true rfl⟩) hS hD hA (fun w1 H locs hw1 hP hD hS => ?_)
  obtain ⟨hq1, rfl⟩ := hw1
  refine lv_iload_n hx hb dX2_issue_8 rfl (lv_at hl 2 rfl) ?_
  refine x_callv hQ (fun E u q => ⟨q.1, Or.inr (Or.inl (⟨q.2.1, by have q9 := q.2.2; omega⟩))⟩) htb hlocks (Nat.le_of_ble_eq_true rfl) (Nat.le_of_ble_eq_true rfl) (vx_runS (As := [.int (iI (u))]) (rest := []) ⟨hx, hb, hml, hown, hts⟩ (c_X2_requireCycle l hl0 D g a L att T hs tm tk lt u (by omega) _) (va_cwS 1 hts gX2_issue_X2_requireCycle rfl rfl rfl (by decide +kernel) ⟨Nat.le_of_ble_eq_true rfl, Nat.le_of_ble_eq_true rfl⟩) (x_preS hK hP hD hS hA hE hV) rfl rfl hl.1 rfl (lv_room (Nat.le_of_ble_eq_true rfl)) dX2_issue_9 ⟨Nat.le_of_ble_eq_true rfl, Nat.le_of_ble_eq_true rfl⟩) hS hD hA (fun w1 H locs hw1 hP hD hS => ?_)
  obtain ⟨hq2, rfl⟩ := hw1
  obtain ⟨n, rfl⟩ : ∃ n : Nat, i = (n : Int) := ⟨i.toNat, by omega⟩
  obtain ⟨y, rfl⟩ : ∃ y : Nat, u = (y : Int) := ⟨u.toNat, by omega⟩
  have hTT : 0 < T ∧ T ≤ 200 := ⟨by omega, hok.1⟩
  have hbt := (hok.2 hTT.1).1
  have hbk := (hok.2 hTT.1).2.1
  have hb0 := (hok.2 hTT.1).2.2
  have hB1 : (0 : Int) ≤ 1000000 ∧ (1000000 : Int) ≤ 1000000 := by decide
  have hwn0 := wf_n hw
  have hn : n ≤ 1000 := by omega
  have hy : y < 2147483648 := by omega
  have h0 := hb0
  refine z_ic hx hb dX2_issue_12 ?_
  refine lv_istore (lv' := [(4, .int (iI ((0 : Nat) : Int))), (0, .ref (a 0)), (1, .int (iI ((n : Nat) : Int))), (2, .int (iI ((y : Nat) : Int))), (3, .int (iI (k)))]) hx hb dX2_issue_13 hl (by decide) rfl (fun ls hl => ?_)
  have loop15 : ∀ (n15 : Nat) (x : Nat) (H : Heap) (locs : List Loc) (ls : Array Slot), Ln L - x < n15 → (x ≤ Ln L) → (∀ j, j < x → ¬ (iss T tm n y j = true ∧ ((cib T tm n y (num T tm y j) (Ln L) : Nat) : Int) = k)) → va_P D vwCl (wX a g L att T hs tm tk lt) H → va_D A (wX a g L att T hs tm tk lt) → va_S A s.heap H locs → lv_has ls 5 [(0, .ref (a 0)), (1, .int (iI ((n : Nat) : Int))), (2, .int (iI ((y : Nat) : Int))), (3, .int (iI (k))), (4, .int (iI ((x : Nat) : Int)))] → W p l e ({ frames := 7, cells := 4, slots := 6 * 4, locals := 102 } : Room) s m args below meth c H locs 3 18 Q (F0 m 15 ls []) := by
    intro n15
    induction n15 with
    | zero => exact fun _ H locs ls hn => absurd hn (Nat.not_lt_zero _)
    | succ n15 ih15 =>
      intro x H locs ls hn15 hx2 hno hP hD hS hl
      refine lv_iload hx hb dX2_issue_15 (lv_at hl 4 rfl) ?_
      refine lv_aload_n hx hb dX2_issue_17 rfl (lv_at hl 0 rfl) ?_
      refine va_get (D := D) (ci := 2) (v := .ref (a 1)) (C := RX2) (T := TX2) (N := 3) hx hb hts hinX2 hown hK hP 0 rfl rfl 0 (by decide) (hts (.fieldLink RX2 10 "LoopScheduler" "loop" "LLoopScheduler$Loop;") (List.mem_of_getElem? (i := 3) rfl)) (fun _ h9 => h9) rfl dX2_issue_18 ?_
      refine va_get (D := D) (ci := 0) (v := .int (iI ((Ln L : Nat) : Int))) (C := RX0) (T := TX0) (N := 10) hx hb hts hinX0 hown hK hP 1 rfl rfl 8 (by decide) (hts (.fieldLink RX2 51 "LoopScheduler$Loop" "operations" "I") (List.mem_of_getElem? (i := 4) rfl)) (fun _ h9 => h9) rfl dX2_issue_21 ?_
      refine z_icge (a := ((x : Nat) : Int)) (b := ((Ln L : Nat) : Int)) (tgt := 64) hx hb dX2_issue_24 (by decide) (by omega) (fun c_24 => ?_) (fun c_24 => ?_)
      · obtain rfl : x = Ln L := by omega
        exact x_throw (w := (wX a g L att T hs tm tk lt)) (cls := nIX) (text := "no such index") (ik := 81) (is := 185) (ic := 85) hl0 hQ ⟨rfl, Or.inr (Or.inr ⟨rfl, by omega, hno⟩)⟩ htb hlocks hx hb hown hml hl.1 (by decide) (hts (.classLink RX2 81 "java/lang/IndexOutOfBoundsException") (List.mem_of_getElem? (i := 1) rfl)) (hts (.initialized "java/lang/IndexOutOfBoundsException") (List.mem_of_getElem? (i := 2) rfl)) hatIX xb_IX hV.1.2.2.2.2.2 xg_IX hE hV (List.mem_of_getElem? (i := 15) rfl) hK hP hD hS dX2_issue_64 dX2_issue_67 dX2_issue_68 dX2_issue_70 dX2_issue_73 (Nat.le_of_ble_eq_true rfl) (Nat.le_of_ble_eq_true rfl) (Nat.le_of_ble_eq_true rfl) (Nat.le_of_ble_eq_true rfl) (Nat.le_of_ble_eq_true rfl) (Nat.le_of_ble_eq_true rfl)
      · refine lv_aload_n hx hb dX2_issue_27 rfl (lv_at hl 0 rfl) ?_
        refine lv_iload hx hb dX2_issue_28 (lv_at hl 4 rfl) ?_
        refine lv_iload_n hx hb dX2_issue_30 rfl (lv_at hl 1 rfl) ?_
        refine lv_iload_n hx hb dX2_issue_31 rfl (lv_at hl 2 rfl) ?_
        refine z_calli (va_runV (As := [.int (iI ((x : Nat) : Int)), .int (iI ((n : Nat) : Int)), .int (iI ((y : Nat) : Int))]) (rest := []) ⟨hx, hb, hml, hown, hts⟩ (c_X2_isIssued l D g a L att T hs tm tk lt x n y hTT (by omega) (by omega) hy ⟨h0 _ (by omega), (hbt _).2⟩ _) (cwV 3 hts gX2_issue_X2_isIssued rfl rfl rfl (by decide +kernel) ⟨Nat.le_of_ble_eq_true rfl, Nat.le_of_ble_eq_true rfl⟩) (z_preV 0 hK hP hD rfl rfl) rfl rfl hl.1 rfl (lv_room (Nat.le_of_ble_eq_true rfl)) dX2_issue_32 ⟨Nat.le_of_ble_eq_true rfl, Nat.le_of_ble_eq_true rfl⟩) hS hD hA (fun r w1 H locs hw1 hP hD hS => ?_)
        obtain ⟨rfl, rfl⟩ := hw1
        refine z_ifeq (a := (bI (iss T tm n y x))) (tgt := 58) hx hb dX2_issue_35 (by decide) (bI_r _) (fun c_35 => ?_) (fun c_35 => ?_)
        · have b_35 := bI_f c_35
          refine z_iinc (a := ((x : Nat) : Int)) (b := ((x + 1 : Nat) : Int)) (lv' := [(4, .int (iI ((x + 1 : Nat) : Int))), (0, .ref (a 0)), (1, .int (iI ((n : Nat) : Int))), (2, .int (iI ((y : Nat) : Int))), (3, .int (iI (k)))]) hx hb 4 dX2_issue_58 hl rfl rfl (by decide) rfl (fun ls hl => ?_)
          refine lv_goto (tgt := 15) hx hb dX2_issue_61 (by decide) ?_
          exact ih15 (x + 1) _ _ _ (by omega) (by omega) (fun j h => (Nat.lt_or_ge j x).elim (hno j) (fun q => by rw [show j = x by omega]; intro q2; rw [bI_f c_35] at q2; exact absurd q2.1 (by decide))) hP hD hS (lv_sub hl [1, 2, 3, 4, 0] rfl)
        · have b_35 := bI_t c_35
          have hcl := cib_le T tm n y (num T tm y x) (Ln L)
          refine lv_aload_n hx hb dX2_issue_38 rfl (lv_at hl 0 rfl) ?_
          refine lv_iload hx hb dX2_issue_39 (lv_at hl 4 rfl) ?_
          refine lv_iload_n hx hb dX2_issue_41 rfl (lv_at hl 1 rfl) ?_
          refine lv_iload_n hx hb dX2_issue_42 rfl (lv_at hl 2 rfl) ?_
          refine z_calli (va_runV (As := [.int (iI ((x : Nat) : Int)), .int (iI ((n : Nat) : Int)), .int (iI ((y : Nat) : Int))]) (rest := []) ⟨hx, hb, hml, hown, hts⟩ (c_X2_countIssuedBefore l D g a L att T hs tm tk lt x n y hw hTT hn hy hbt h0 (by omega) (bI_t c_35) _) (cwV 3 hts gX2_issue_X2_countIssuedBefore rfl rfl rfl (by decide +kernel) ⟨Nat.le_of_ble_eq_true rfl, Nat.le_of_ble_eq_true rfl⟩) (z_preV 0 hK hP hD rfl rfl) rfl rfl hl.1 rfl (lv_room (Nat.le_of_ble_eq_true rfl)) dX2_issue_43 ⟨Nat.le_of_ble_eq_true rfl, Nat.le_of_ble_eq_true rfl⟩) hS hD hA (fun r w1 H locs hw1 hP hD hS => ?_)
          obtain ⟨rfl, rfl⟩ := hw1
          refine lv_iload_n hx hb dX2_issue_46 rfl (lv_at hl 3 rfl) ?_
          refine z_icne (a := ((cib T tm n y (num T tm y x) (Ln L) : Nat) : Int)) (b := k) (tgt := 58) hx hb dX2_issue_47 (by decide) (by omega) (fun c_47 => ?_) (fun c_47 => ?_)
          · refine z_iinc (a := ((x : Nat) : Int)) (b := ((x + 1 : Nat) : Int)) (lv' := [(4, .int (iI ((x + 1 : Nat) : Int))), (0, .ref (a 0)), (1, .int (iI ((n : Nat) : Int))), (2, .int (iI ((y : Nat) : Int))), (3, .int (iI (k)))]) hx hb 4 dX2_issue_58 hl rfl rfl (by decide) rfl (fun ls hl => ?_)
            refine lv_goto (tgt := 15) hx hb dX2_issue_61 (by decide) ?_
            exact ih15 (x + 1) _ _ _ (by omega) (by omega) (fun j h => (Nat.lt_or_ge j x).elim (hno j) (fun q => by rw [show j = x by omega]; intro q2; exact c_47 q2.2)) hP hD hS (lv_sub hl [1, 2, 3, 4, 0] rfl)
          · refine lv_aload_n hx hb dX2_issue_50 rfl (lv_at hl 0 rfl) ?_
            refine lv_iload hx hb dX2_issue_51 (lv_at hl 4 rfl) ?_
            refine lv_iload_n hx hb dX2_issue_53 rfl (lv_at hl 2 rfl) ?_
            refine z_calli (va_runV (As := [.int (iI ((x : Nat) : Int)), .int (iI ((y : Nat) : Int))]) (rest := []) ⟨hx, hb, hml, hown, hts⟩ (c_X2_issueNumber l D g a L att T hs tm tk lt x y hTT (by omega) hy (⟨h0 _ (by omega), by have q9 := iss_i (bI_t c_35); omega⟩) _) (cwV 2 hts gX2_issue_X2_issueNumber rfl rfl rfl (by decide +kernel) ⟨Nat.le_of_ble_eq_true rfl, Nat.le_of_ble_eq_true rfl⟩) (z_preV 0 hK hP hD rfl rfl) rfl rfl hl.1 rfl (lv_room (Nat.le_of_ble_eq_true rfl)) dX2_issue_54 ⟨Nat.le_of_ble_eq_true rfl, Nat.le_of_ble_eq_true rfl⟩) hS hD hA (fun r w1 H locs hw1 hP hD hS => ?_)
            obtain ⟨rfl, rfl⟩ := hw1
            exact x_iret (w := (wX a g L att T hs tm tk lt)) (v := (iI (num T tm y x))) hQ hx hb hr hlocks ⟨by omega, ⟨x, by omega, ⟨bI_t c_35, c_47⟩, rfl⟩, rfl⟩ hK hP hD hS (Nat.le_of_ble_eq_true rfl) (Nat.le_of_ble_eq_true rfl) dX2_issue_57
  exact loop15 ((Ln L - 0) + 1) 0 _ _ _ (Nat.lt_succ_self _) (by omega) (fun j h => absurd h (Nat.not_lt_zero j)) hP hD hS (lv_sub hl [1, 2, 3, 4, 0] rfl)
set_option maxHeartbeats 4000000 in
set_option maxRecDepth 100000 in
theorem c_X2_prologue (l : Launch) (hl0 : l.stackTraces = false) (D : va_G) (g : Nat → ClassId) (a : Nat → Nat) (L : LD) (att T : Nat) (hs tm : Nat → Int) (tk : Nat → Nat → Int) (lt : Nat → Int)  (hw : wf L) (hok : okX L T tm tk) : xMi l D (zT g) yX2_prologue wsX2_prologue 7 102 1 (wX a g L att T hs tm tk lt) [.ref (a 0)] (fun r w1 => (0 < T) ∧ r = iI (pro T tm (sG L T tm - 1) (Ln L)) ∧ w1 = wX a g L att T hs tm tk lt) (fun E w9 => w9 = wX a g L att T hs tm tk lt ∧ ((E = nIS ∧ ¬ (0 < T)))) := by
  refine x_ofI (cc := cX2_prologue) (maxL := 4) (ret := (some .int)) (by decide) rfl (Nat.le_of_ble_eq_true rfl) ?_
  intro p e s m args below meth c A ls hx hb hr hts hown hlocks hml hP hK hD hS hA hl hE hV htb Q hQ
  have hown : s.vm.findClass RX2 = some m.cls := hown
  have hinX0 : ∀ w ∈ u_ws RX0 TX0 10, w ∈ wsX2_prologue := by decide +kernel
  have hinX1 : ∀ w ∈ u_ws RX1 TX1 5, w ∈ wsX2_prologue := by decide +kernel
  have hinX2 : ∀ w ∈ u_ws RX2 TX2 3, w ∈ wsX2_prologue := by decide +kernel
  have hl : lv_has ls 4 [(0, .ref (a 0))] := hl
  refine lv_aload_n hx hb dX2_prologue_0 rfl (lv_at hl 0 rfl) ?_
  refine x_callv hQ (fun E u q => ⟨q.1, ⟨q.2.1, by have q9 := q.2.2; omega⟩⟩) htb hlocks (Nat.le_of_ble_eq_true rfl) (Nat.le_of_ble_eq_true rfl) (vx_runV (As := []) (rest := []) ⟨hx, hb, hml, hown, hts⟩ (c_X2_requireSchedule l hl0 D g a L att T hs tm tk lt  hok.1 _) (cwV 0 hts gX2_prologue_X2_requireSchedule rfl rfl rfl (by decide +kernel) ⟨Nat.le_of_ble_eq_true rfl, Nat.le_of_ble_eq_true rfl⟩) (x_preV 0 hK hP hD hS hA hE hV rfl rfl) rfl rfl hl.1 rfl (lv_room (Nat.le_of_ble_eq_true rfl)) dX2_prologue_1 ⟨Nat.le_of_ble_eq_true rfl, Nat.le_of_ble_eq_true rfl⟩) hS hD hA (fun w1 H locs hw1 hP hD hS => ?_)
  obtain ⟨hq0, rfl⟩ := hw1
  have hTT : 0 < T ∧ T ≤ 200 := ⟨by omega, hok.1⟩
  have hbt := (hok.2 hTT.1).1
  have hbk := (hok.2 hTT.1).2.1
  have hb0 := (hok.2 hTT.1).2.2
  have hB1 : (0 : Int) ≤ 1000000 ∧ (1000000 : Int) ≤ 1000000 := by decide
  have hwn := wf_n hw
  refine lv_aload_n hx hb dX2_prologue_4 rfl (lv_at hl 0 rfl) ?_
  refine va_get (D := D) (ci := 2) (v := .ref (a 2)) (C := RX2) (T := TX2) (N := 3) hx hb hts hinX2 hown hK hP 0 rfl rfl 1 (by decide) (hts (.fieldLink RX2 21 "LoopScheduler" "table" "LLoopScheduler$Timetable;") (List.mem_of_getElem? (i := 1) rfl)) (fun _ h9 => h9) rfl dX2_prologue_5 ?_
  refine z_calli (va_runV (As := []) (rest := []) ⟨hx, hb, hml, hown, hts⟩ (c_X1_countStages l D g a L att T hs tm tk lt 1000000 hw hTT hB1 hbt _) (cwV 0 hts gX2_prologue_X1_countStages rfl rfl rfl (by decide +kernel) ⟨Nat.le_of_ble_eq_true rfl, Nat.le_of_ble_eq_true rfl⟩) (z_preV 2 hK hP hD rfl rfl) rfl rfl hl.1 rfl (lv_room (Nat.le_of_ble_eq_true rfl)) dX2_prologue_8 ⟨Nat.le_of_ble_eq_true rfl, Nat.le_of_ble_eq_true rfl⟩) hS hD hA (fun r w1 H locs hw1 hP hD hS => ?_)
  obtain ⟨rfl, rfl⟩ := hw1
  refine z_ic hx hb dX2_prologue_11 ?_
  refine z_sub (a := (sG L T tm)) (b := 1) hx hb dX2_prologue_12 ?_
  refine lv_istore_n (lv' := [(1, .int (iI ((sG L T tm) - 1))), (0, .ref (a 0))]) hx hb dX2_prologue_13 rfl hl (by decide) rfl (fun ls hl => ?_)
  refine z_ic hx hb dX2_prologue_14 ?_
  refine lv_istore_n (lv' := [(2, .int (iI ((0 : Nat) : Int))), (1, .int (iI ((sG L T tm) - 1))), (0, .ref (a 0))]) hx hb dX2_prologue_15 rfl hl (by decide) rfl (fun ls hl => ?_)
  refine z_ic hx hb dX2_prologue_16 ?_
  refine lv_istore_n (lv' := [(3, .int (iI ((0 : Nat) : Int))), (2, .int (iI ((0 : Nat) : Int))), (1, .int (iI ((sG L T tm) - 1))), (0, .ref (a 0))]) hx hb dX2_prologue_17 rfl hl (by decide) rfl (fun ls hl => ?_)
  have loop18 : ∀ (n18 : Nat) (x : Nat) (H : Heap) (locs : List Loc) (ls : Array Slot), Ln L - x < n18 → (x ≤ Ln L) → va_P D vwCl (wX a g L att T hs tm tk lt) H → va_D A (wX a g L att T hs tm tk lt) → va_S A s.heap H locs → lv_has ls 4 [(0, .ref (a 0)), (1, .int (iI (sG L T tm - 1))), (2, .int (iI (pro T tm (sG L T tm - 1) x))), (3, .int (iI ((x : Nat) : Int)))] → W p l e ({ frames := 7, cells := 1, slots := 6 * 1, locals := 102 } : Room) s m args below meth c H locs 1 6 Q (F0 m 18 ls []) := by
    intro n18
    induction n18 with
    | zero => exact fun _ H locs ls hn => absurd hn (Nat.not_lt_zero _)
    | succ n18 ih18 =>
      intro x H locs ls hn18 hx2 hP hD hS hl
      refine lv_iload_n hx hb dX2_prologue_18 rfl (lv_at hl 3 rfl) ?_
      refine lv_aload_n hx hb dX2_prologue_19 rfl (lv_at hl 0 rfl) ?_
      refine va_get (D := D) (ci := 2) (v := .ref (a 1)) (C := RX2) (T := TX2) (N := 3) hx hb hts hinX2 hown hK hP 0 rfl rfl 0 (by decide) (hts (.fieldLink RX2 10 "LoopScheduler" "loop" "LLoopScheduler$Loop;") (List.mem_of_getElem? (i := 2) rfl)) (fun _ h9 => h9) rfl dX2_prologue_20 ?_
      refine va_get (D := D) (ci := 0) (v := .int (iI ((Ln L : Nat) : Int))) (C := RX0) (T := TX0) (N := 10) hx hb hts hinX0 hown hK hP 1 rfl rfl 8 (by decide) (hts (.fieldLink RX2 51 "LoopScheduler$Loop" "operations" "I") (List.mem_of_getElem? (i := 3) rfl)) (fun _ h9 => h9) rfl dX2_prologue_23 ?_
      refine z_icge (a := ((x : Nat) : Int)) (b := ((Ln L : Nat) : Int)) (tgt := 48) hx hb dX2_prologue_26 (by decide) (by omega) (fun c_26 => ?_) (fun c_26 => ?_)
      · obtain rfl : x = Ln L := by omega
        refine lv_iload_n hx hb dX2_prologue_48 rfl (lv_at hl 2 rfl) ?_
        exact x_iret (w := (wX a g L att T hs tm tk lt)) (v := (iI (pro T tm (sG L T tm - 1) (Ln L)))) hQ hx hb hr hlocks ⟨by omega, rfl, rfl⟩ hK hP hD hS (Nat.le_of_ble_eq_true rfl) (Nat.le_of_ble_eq_true rfl) dX2_prologue_49
      · refine lv_iload_n hx hb dX2_prologue_29 rfl (lv_at hl 2 rfl) ?_
        refine lv_iload_n hx hb dX2_prologue_30 rfl (lv_at hl 1 rfl) ?_
        refine lv_aload_n hx hb dX2_prologue_31 rfl (lv_at hl 0 rfl) ?_
        refine va_get (D := D) (ci := 2) (v := .ref (a 2)) (C := RX2) (T := TX2) (N := 3) hx hb hts hinX2 hown hK hP 0 rfl rfl 1 (by decide) (hts (.fieldLink RX2 21 "LoopScheduler" "table" "LLoopScheduler$Timetable;") (List.mem_of_getElem? (i := 1) rfl)) (fun _ h9 => h9) rfl dX2_prologue_32 ?_
        refine lv_iload_n hx hb dX2_prologue_35 rfl (lv_at hl 3 rfl) ?_
        refine z_calli (va_runV (As := [.int (iI ((x : Nat) : Int))]) (rest := [.int (iI (sG L T tm - 1)), .int (iI (pro T tm (sG L T tm - 1) x))]) ⟨hx, hb, hml, hown, hts⟩ (c_X1_stageOf l D g a L att T hs tm tk lt 1000000 x hw hTT hB1 hbt (by omega) (hb0 _ (by omega)) _) (cwV 1 hts gX2_prologue_X1_stageOf rfl rfl rfl (by decide +kernel) ⟨Nat.le_of_ble_eq_true rfl, Nat.le_of_ble_eq_true rfl⟩) (z_preV 2 hK hP hD rfl rfl) rfl rfl hl.1 rfl (lv_room (Nat.le_of_ble_eq_true rfl)) dX2_prologue_36 ⟨Nat.le_of_ble_eq_true rfl, Nat.le_of_ble_eq_true rfl⟩) hS hD hA (fun r w1 H locs hw1 hP hD hS => ?_)
        obtain ⟨rfl, rfl⟩ := hw1
        refine z_sub (a := (sG L T tm - 1)) (b := (tm x / ((T : Nat) : Int))) hx hb dX2_prologue_39 ?_
        refine z_add (a := (pro T tm (sG L T tm - 1) x)) (b := ((sG L T tm - 1) - (tm x / ((T : Nat) : Int)))) hx hb dX2_prologue_40 ?_
        refine lv_istore_n (lv' := [(2, .int (iI ((pro T tm (sG L T tm - 1) x) + ((sG L T tm - 1) - (tm x / ((T : Nat) : Int)))))), (0, .ref (a 0)), (1, .int (iI (sG L T tm - 1))), (3, .int (iI ((x : Nat) : Int)))]) hx hb dX2_prologue_41 rfl hl (by decide) rfl (fun ls hl => ?_)
        refine z_iinc (a := ((x : Nat) : Int)) (b := ((x + 1 : Nat) : Int)) (lv' := [(3, .int (iI ((x + 1 : Nat) : Int))), (2, .int (iI ((pro T tm (sG L T tm - 1) x) + ((sG L T tm - 1) - (tm x / ((T : Nat) : Int)))))), (0, .ref (a 0)), (1, .int (iI (sG L T tm - 1)))]) hx hb 3 dX2_prologue_42 hl rfl rfl (by decide) rfl (fun ls hl => ?_)
        refine lv_goto (tgt := 18) hx hb dX2_prologue_45 (by decide) ?_
        exact ih18 (x + 1) _ _ _ (by omega) (by omega) hP hD hS (lv_sub hl [2, 3, 1, 0] rfl)
  exact loop18 ((Ln L - 0) + 1) 0 _ _ _ (Nat.lt_succ_self _) (by omega) hP hD hS (lv_sub hl [3, 2, 1, 0] rfl)
set_option maxHeartbeats 4000000 in
set_option maxRecDepth 100000 in
theorem c_X2_epilogue (l : Launch) (hl0 : l.stackTraces = false) (D : va_G) (g : Nat → ClassId) (a : Nat → Nat) (L : LD) (att T : Nat) (hs tm : Nat → Int) (tk : Nat → Nat → Int) (lt : Nat → Int)  (hw : wf L) (hok : okX L T tm tk) : xMi l D (zT g) yX2_epilogue wsX2_epilogue 7 102 1 (wX a g L att T hs tm tk lt) [.ref (a 0)] (fun r w1 => (0 < T) ∧ r = iI (epi T tm (Ln L)) ∧ w1 = wX a g L att T hs tm tk lt) (fun E w9 => w9 = wX a g L att T hs tm tk lt ∧ ((E = nIS ∧ ¬ (0 < T)))) := by
  refine x_ofI (cc := cX2_epilogue) (maxL := 3) (ret := (some .int)) (by decide) rfl (Nat.le_of_ble_eq_true rfl) ?_
  intro p e s m args below meth c A ls hx hb hr hts hown hlocks hml hP hK hD hS hA hl hE hV htb Q hQ
  have hown : s.vm.findClass RX2 = some m.cls := hown
  have hinX0 : ∀ w ∈ u_ws RX0 TX0 10, w ∈ wsX2_epilogue := by decide +kernel
  have hinX1 : ∀ w ∈ u_ws RX1 TX1 5, w ∈ wsX2_epilogue := by decide +kernel
  have hinX2 : ∀ w ∈ u_ws RX2 TX2 3, w ∈ wsX2_epilogue := by decide +kernel
  have hl : lv_has ls 3 [(0, .ref (a 0))] := hl
  refine lv_aload_n hx hb dX2_epilogue_0 rfl (lv_at hl 0 rfl) ?_
  refine x_callv hQ (fun E u q => ⟨q.1, ⟨q.2.1, by have q9 := q.2.2; omega⟩⟩) htb hlocks (Nat.le_of_ble_eq_true rfl) (Nat.le_of_ble_eq_true rfl) (vx_runV (As := []) (rest := []) ⟨hx, hb, hml, hown, hts⟩ (c_X2_requireSchedule l hl0 D g a L att T hs tm tk lt  hok.1 _) (cwV 0 hts gX2_epilogue_X2_requireSchedule rfl rfl rfl (by decide +kernel) ⟨Nat.le_of_ble_eq_true rfl, Nat.le_of_ble_eq_true rfl⟩) (x_preV 0 hK hP hD hS hA hE hV rfl rfl) rfl rfl hl.1 rfl (lv_room (Nat.le_of_ble_eq_true rfl)) dX2_epilogue_1 ⟨Nat.le_of_ble_eq_true rfl, Nat.le_of_ble_eq_true rfl⟩) hS hD hA (fun w1 H locs hw1 hP hD hS => ?_)
  obtain ⟨hq0, rfl⟩ := hw1
  have hTT : 0 < T ∧ T ≤ 200 := ⟨by omega, hok.1⟩
  have hbt := (hok.2 hTT.1).1
  have hbk := (hok.2 hTT.1).2.1
  have hb0 := (hok.2 hTT.1).2.2
  have hB1 : (0 : Int) ≤ 1000000 ∧ (1000000 : Int) ≤ 1000000 := by decide
  have hwn := wf_n hw
  refine z_ic hx hb dX2_epilogue_4 ?_
  refine lv_istore_n (lv' := [(1, .int (iI ((0 : Nat) : Int))), (0, .ref (a 0))]) hx hb dX2_epilogue_5 rfl hl (by decide) rfl (fun ls hl => ?_)
  refine z_ic hx hb dX2_epilogue_6 ?_
  refine lv_istore_n (lv' := [(2, .int (iI ((0 : Nat) : Int))), (1, .int (iI ((0 : Nat) : Int))), (0, .ref (a 0))]) hx hb dX2_epilogue_7 rfl hl (by decide) rfl (fun ls hl => ?_)
  have loop8 : ∀ (n8 : Nat) (x : Nat) (H : Heap) (locs : List Loc) (ls : Array Slot), Ln L - x < n8 → (x ≤ Ln L) → va_P D vwCl (wX a g L att T hs tm tk lt) H → va_D A (wX a g L att T hs tm tk lt) → va_S A s.heap H locs → lv_has ls 3 [(0, .ref (a 0)), (1, .int (iI (epi T tm x))), (2, .int (iI ((x : Nat) : Int)))] → W p l e ({ frames := 7, cells := 1, slots := 6 * 1, locals := 102 } : Room) s m args below meth c H locs 1 6 Q (F0 m 8 ls []) := by
    intro n8
    induction n8 with
    | zero => exact fun _ H locs ls hn => absurd hn (Nat.not_lt_zero _)
    | succ n8 ih8 =>
      intro x H locs ls hn8 hx2 hP hD hS hl
      refine lv_iload_n hx hb dX2_epilogue_8 rfl (lv_at hl 2 rfl) ?_
      refine lv_aload_n hx hb dX2_epilogue_9 rfl (lv_at hl 0 rfl) ?_
      refine va_get (D := D) (ci := 2) (v := .ref (a 1)) (C := RX2) (T := TX2) (N := 3) hx hb hts hinX2 hown hK hP 0 rfl rfl 0 (by decide) (hts (.fieldLink RX2 10 "LoopScheduler" "loop" "LLoopScheduler$Loop;") (List.mem_of_getElem? (i := 1) rfl)) (fun _ h9 => h9) rfl dX2_epilogue_10 ?_
      refine va_get (D := D) (ci := 0) (v := .int (iI ((Ln L : Nat) : Int))) (C := RX0) (T := TX0) (N := 10) hx hb hts hinX0 hown hK hP 1 rfl rfl 8 (by decide) (hts (.fieldLink RX2 51 "LoopScheduler$Loop" "operations" "I") (List.mem_of_getElem? (i := 2) rfl)) (fun _ h9 => h9) rfl dX2_epilogue_13 ?_
      refine z_icge (a := ((x : Nat) : Int)) (b := ((Ln L : Nat) : Int)) (tgt := 36) hx hb dX2_epilogue_16 (by decide) (by omega) (fun c_16 => ?_) (fun c_16 => ?_)
      · obtain rfl : x = Ln L := by omega
        refine lv_iload_n hx hb dX2_epilogue_36 rfl (lv_at hl 1 rfl) ?_
        exact x_iret (w := (wX a g L att T hs tm tk lt)) (v := (iI (epi T tm (Ln L)))) hQ hx hb hr hlocks ⟨by omega, rfl, rfl⟩ hK hP hD hS (Nat.le_of_ble_eq_true rfl) (Nat.le_of_ble_eq_true rfl) dX2_epilogue_37
      · refine lv_iload_n hx hb dX2_epilogue_19 rfl (lv_at hl 1 rfl) ?_
        refine lv_aload_n hx hb dX2_epilogue_20 rfl (lv_at hl 0 rfl) ?_
        refine va_get (D := D) (ci := 2) (v := .ref (a 2)) (C := RX2) (T := TX2) (N := 3) hx hb hts hinX2 hown hK hP 0 rfl rfl 1 (by decide) (hts (.fieldLink RX2 21 "LoopScheduler" "table" "LLoopScheduler$Timetable;") (List.mem_of_getElem? (i := 3) rfl)) (fun _ h9 => h9) rfl dX2_epilogue_21 ?_
        refine lv_iload_n hx hb dX2_epilogue_24 rfl (lv_at hl 2 rfl) ?_
        refine z_calli (va_runV (As := [.int (iI ((x : Nat) : Int))]) (rest := [.int (iI (epi T tm x))]) ⟨hx, hb, hml, hown, hts⟩ (c_X1_stageOf l D g a L att T hs tm tk lt 1000000 x hw hTT hB1 hbt (by omega) (hb0 _ (by omega)) _) (cwV 1 hts gX2_epilogue_X1_stageOf rfl rfl rfl (by decide +kernel) ⟨Nat.le_of_ble_eq_true rfl, Nat.le_of_ble_eq_true rfl⟩) (z_preV 2 hK hP hD rfl rfl) rfl rfl hl.1 rfl (lv_room (Nat.le_of_ble_eq_true rfl)) dX2_epilogue_25 ⟨Nat.le_of_ble_eq_true rfl, Nat.le_of_ble_eq_true rfl⟩) hS hD hA (fun r w1 H locs hw1 hP hD hS => ?_)
        obtain ⟨rfl, rfl⟩ := hw1
        refine z_add (a := (epi T tm x)) (b := (tm x / ((T : Nat) : Int))) hx hb dX2_epilogue_28 ?_
        refine lv_istore_n (lv' := [(1, .int (iI ((epi T tm x) + (tm x / ((T : Nat) : Int))))), (0, .ref (a 0)), (2, .int (iI ((x : Nat) : Int)))]) hx hb dX2_epilogue_29 rfl hl (by decide) rfl (fun ls hl => ?_)
        refine z_iinc (a := ((x : Nat) : Int)) (b := ((x + 1 : Nat) : Int)) (lv' := [(2, .int (iI ((x + 1 : Nat) : Int))), (1, .int (iI ((epi T tm x) + (tm x / ((T : Nat) : Int))))), (0, .ref (a 0))]) hx hb 2 dX2_epilogue_30 hl rfl rfl (by decide) rfl (fun ls hl => ?_)
        refine lv_goto (tgt := 8) hx hb dX2_epilogue_33 (by decide) ?_
        exact ih8 (x + 1) _ _ _ (by omega) (by omega) hP hD hS (lv_sub hl [2, 1, 0] rfl)
  exact loop8 ((Ln L - 0) + 1) 0 _ _ _ (Nat.lt_succ_self _) (by omega) hP hD hS (lv_sub hl [2, 1, 0] rfl)
set_option maxHeartbeats 4000000 in
set_option maxRecDepth 100000 in
theorem c_X2_digestWith (l : Launch) (D : va_G) (g : Nat → ClassId) (a : Nat → Nat) (L : LD) (att T : Nat) (hs tm : Nat → Int) (tk : Nat → Nat → Int) (lt : Nat → Int) (d : Int64) (z : Int) : zMl l D (zT g) yX2_digestWith wsX2_digestWith 1 12 (wX a g L att T hs tm tk lt) [.long (d), .int (iI (z))] (fun r w1 => r = dw d z ∧ w1 = wX a g L att T hs tm tk lt) := by
  refine z_ofL (cc := cX2_digestWith) (maxL := 3) (ret := (some .long)) (by decide) rfl (Nat.le_of_ble_eq_true rfl) ?_
  intro p e s m args below meth c A ls hx hb hr hts hown hlocks hml hP hK hD hS hA hl Q hQ
  have hown : s.vm.findClass RX2 = some m.cls := hown
  have hl : lv_has ls 3 [(0, .long (d)), (2, .int (iI (z)))] := hl
  refine lv_lload_n hx hb dX2_digestWith_0 rfl (lv_at hl 0 rfl) ?_
  refine lv_ldc2 (v := 31) hx hb hown (hts (.constantLong RX2 210 (31)) (List.mem_of_getElem? (i := 1) rfl)) dX2_digestWith_1 ?_
  refine lv_lmul hx hb dX2_digestWith_4 ?_
  refine lv_iload_n hx hb dX2_digestWith_5 rfl (lv_at hl 1 rfl) ?_
  refine lv_i2l (v := (iI z).toInt64) hx hb dX2_digestWith_6 rfl ?_
  refine lv_ladd hx hb dX2_digestWith_7 ?_
  exact z_lret (w := (wX a g L att T hs tm tk lt)) (v := (((d) * (31)) + ((iI z).toInt64))) hQ hx hb hr hlocks ⟨rfl, rfl⟩ hK hP hD hS dX2_digestWith_8
set_option maxHeartbeats 4000000 in
set_option maxRecDepth 100000 in
theorem c_X2_digest (l : Launch) (D : va_G) (g : Nat → ClassId) (a : Nat → Nat) (L : LD) (att T : Nat) (hs tm : Nat → Int) (tk : Nat → Nat → Int) (lt : Nat → Int)  (hw : wf L) (hT2 : T ≤ 200) : zMl l D (zT g) yX2_digest wsX2_digest 2 34 (wX a g L att T hs tm tk lt) [.ref (a 0)] (fun r w1 => r = dg L T tm ∧ w1 = wX a g L att T hs tm tk lt) := by
  refine z_ofL (cc := cX2_digest) (maxL := 4) (ret := (some .long)) (by decide) rfl (Nat.le_of_ble_eq_true rfl) ?_
  intro p e s m args below meth c A ls hx hb hr hts hown hlocks hml hP hK hD hS hA hl Q hQ
  have hown : s.vm.findClass RX2 = some m.cls := hown
  have hinX0 : ∀ w ∈ u_ws RX0 TX0 10, w ∈ wsX2_digest := by decide +kernel
  have hinX1 : ∀ w ∈ u_ws RX1 TX1 5, w ∈ wsX2_digest := by decide +kernel
  have hinX2 : ∀ w ∈ u_ws RX2 TX2 3, w ∈ wsX2_digest := by decide +kernel
  have hl : lv_has ls 4 [(0, .ref (a 0))] := hl
  have hwn := wf_n hw
  have hwm := wf_m hw
  refine lv_ldc2 (v := 79) hx hb hown (hts (.constantLong RX2 190 (79)) (List.mem_of_getElem? (i := 1) rfl)) dX2_digest_0 ?_
  refine lv_lstore_n (lv' := [(1, .long (79)), (0, .ref (a 0))]) hx hb dX2_digest_3 rfl hl (by decide) rfl (fun ls hl => ?_)
  refine z_ic hx hb dX2_digest_4 ?_
  refine lv_istore_n (lv' := [(3, .int (iI ((0 : Nat) : Int))), (1, .long (79)), (0, .ref (a 0))]) hx hb dX2_digest_5 rfl hl (by decide) rfl (fun ls hl => ?_)
  have loop6 : ∀ (n6 : Nat) (x : Nat) (H : Heap) (locs : List Loc) (ls : Array Slot), 3 - x < n6 → (x ≤ 3) → va_P D vwCl (wX a g L att T hs tm tk lt) H → va_D A (wX a g L att T hs tm tk lt) → va_S A s.heap H locs → lv_has ls 4 [(0, .ref (a 0)), (1, .long (dgU L x)), (3, .int (iI ((x : Nat) : Int)))] → W p l e ({ frames := 2, cells := 0, slots := 0, locals := 34 } : Room) s m args below meth c H locs 0 0 Q (F0 m 6 ls []) := by
    intro n6
    induction n6 with
    | zero => exact fun _ H locs ls hn => absurd hn (Nat.not_lt_zero _)
    | succ n6 ih6 =>
      intro x H locs ls hn6 hx2 hP hD hS hl
      refine lv_iload_n hx hb dX2_digest_6 rfl (lv_at hl 2 rfl) ?_
      refine z_ic hx hb dX2_digest_7 ?_
      refine z_icge (a := ((x : Nat) : Int)) (b := 3) (tgt := 31) hx hb dX2_digest_8 (by decide) (by omega) (fun c_8 => ?_) (fun c_8 => ?_)
      · obtain rfl : x = 3 := by omega
        refine lv_lload_n hx hb dX2_digest_31 rfl (lv_at hl 1 rfl) ?_
        refine lv_aload_n hx hb dX2_digest_32 rfl (lv_at hl 0 rfl) ?_
        refine va_get (D := D) (ci := 2) (v := .ref (a 1)) (C := RX2) (T := TX2) (N := 3) hx hb hts hinX2 hown hK hP 0 rfl rfl 0 (by decide) (hts (.fieldLink RX2 10 "LoopScheduler" "loop" "LLoopScheduler$Loop;") (List.mem_of_getElem? (i := 2) rfl)) (fun _ h9 => h9) rfl dX2_digest_33 ?_
        refine va_get (D := D) (ci := 0) (v := .int (iI ((Ln L : Nat) : Int))) (C := RX0) (T := TX0) (N := 10) hx hb hts hinX0 hown hK hP 1 rfl rfl 8 (by decide) (hts (.fieldLink RX2 51 "LoopScheduler$Loop" "operations" "I") (List.mem_of_getElem? (i := 4) rfl)) (fun _ h9 => h9) rfl dX2_digest_36 ?_
        refine z_calll (va_runS (As := [.long (dgU L 3), .int (iI ((Ln L : Nat) : Int))]) (rest := []) ⟨hx, hb, hml, hown, hts⟩ (c_X2_digestWith l D g a L att T hs tm tk lt (dgU L 3) ((Ln L : Nat) : Int) _) (va_cwS 2 hts gX2_digest_X2_digestWith rfl rfl rfl (by decide +kernel) ⟨Nat.le_of_ble_eq_true rfl, Nat.le_of_ble_eq_true rfl⟩) (z_preS hK hP hD) rfl rfl hl.1 rfl (lv_room (Nat.le_of_ble_eq_true rfl)) dX2_digest_39 ⟨Nat.zero_le _, Nat.zero_le _⟩) hS hD hA (fun r w1 H locs hw1 hP hD hS => ?_)
        obtain ⟨rfl, rfl⟩ := hw1
        refine lv_lstore_n (lv' := [(1, .long (dw (dgU L 3) ((Ln L : Nat) : Int))), (0, .ref (a 0)), (3, .int (iI ((3 : Nat) : Int)))]) hx hb dX2_digest_42 rfl hl (by decide) rfl (fun ls hl => ?_)
        refine z_ic hx hb dX2_digest_43 ?_
        refine lv_istore_n (lv' := [(3, .int (iI ((0 : Nat) : Int))), (1, .long (dw (dgU L 3) ((Ln L : Nat) : Int))), (0, .ref (a 0))]) hx hb dX2_digest_44 rfl hl (by decide) rfl (fun ls hl => ?_)
        have loop45 : ∀ (n45 : Nat) (x : Nat) (H : Heap) (locs : List Loc) (ls : Array Slot), Ln L - x < n45 → (x ≤ Ln L) → va_P D vwCl (wX a g L att T hs tm tk lt) H → va_D A (wX a g L att T hs tm tk lt) → va_S A s.heap H locs → lv_has ls 4 [(0, .ref (a 0)), (1, .long (dgO L x)), (3, .int (iI ((x : Nat) : Int)))] → W p l e ({ frames := 2, cells := 0, slots := 0, locals := 34 } : Room) s m args below meth c H locs 0 0 Q (F0 m 45 ls []) := by
          intro n45
          induction n45 with
          | zero => exact fun _ H locs ls hn => absurd hn (Nat.not_lt_zero _)
          | succ n45 ih45 =>
            intro x H locs ls hn45 hx2 hP hD hS hl
            refine lv_iload_n hx hb dX2_digest_45 rfl (lv_at hl 2 rfl) ?_
            refine lv_aload_n hx hb dX2_digest_46 rfl (lv_at hl 0 rfl) ?_
            refine va_get (D := D) (ci := 2) (v := .ref (a 1)) (C := RX2) (T := TX2) (N := 3) hx hb hts hinX2 hown hK hP 0 rfl rfl 0 (by decide) (hts (.fieldLink RX2 10 "LoopScheduler" "loop" "LLoopScheduler$Loop;") (List.mem_of_getElem? (i := 2) rfl)) (fun _ h9 => h9) rfl dX2_digest_47 ?_
            refine va_get (D := D) (ci := 0) (v := .int (iI ((Ln L : Nat) : Int))) (C := RX0) (T := TX0) (N := 10) hx hb hts hinX0 hown hK hP 1 rfl rfl 8 (by decide) (hts (.fieldLink RX2 51 "LoopScheduler$Loop" "operations" "I") (List.mem_of_getElem? (i := 4) rfl)) (fun _ h9 => h9) rfl dX2_digest_50 ?_
            refine z_icge (a := ((x : Nat) : Int)) (b := ((Ln L : Nat) : Int)) (tgt := 88) hx hb dX2_digest_53 (by decide) (by omega) (fun c_53 => ?_) (fun c_53 => ?_)
            · obtain rfl : x = Ln L := by omega
              refine lv_lload_n hx hb dX2_digest_88 rfl (lv_at hl 1 rfl) ?_
              refine lv_aload_n hx hb dX2_digest_89 rfl (lv_at hl 0 rfl) ?_
              refine va_get (D := D) (ci := 2) (v := .ref (a 1)) (C := RX2) (T := TX2) (N := 3) hx hb hts hinX2 hown hK hP 0 rfl rfl 0 (by decide) (hts (.fieldLink RX2 10 "LoopScheduler" "loop" "LLoopScheduler$Loop;") (List.mem_of_getElem? (i := 2) rfl)) (fun _ h9 => h9) rfl dX2_digest_90 ?_
              refine va_get (D := D) (ci := 0) (v := .int (iI ((Lm L : Nat) : Int))) (C := RX0) (T := TX0) (N := 10) hx hb hts hinX0 hown hK hP 1 rfl rfl 9 (by decide) (hts (.fieldLink RX2 72 "LoopScheduler$Loop" "dependences" "I") (List.mem_of_getElem? (i := 7) rfl)) (fun _ h9 => h9) rfl dX2_digest_93 ?_
              refine z_calll (va_runS (As := [.long (dgO L (Ln L)), .int (iI ((Lm L : Nat) : Int))]) (rest := []) ⟨hx, hb, hml, hown, hts⟩ (c_X2_digestWith l D g a L att T hs tm tk lt (dgO L (Ln L)) ((Lm L : Nat) : Int) _) (va_cwS 2 hts gX2_digest_X2_digestWith rfl rfl rfl (by decide +kernel) ⟨Nat.le_of_ble_eq_true rfl, Nat.le_of_ble_eq_true rfl⟩) (z_preS hK hP hD) rfl rfl hl.1 rfl (lv_room (Nat.le_of_ble_eq_true rfl)) dX2_digest_96 ⟨Nat.zero_le _, Nat.zero_le _⟩) hS hD hA (fun r w1 H locs hw1 hP hD hS => ?_)
              obtain ⟨rfl, rfl⟩ := hw1
              refine lv_lstore_n (lv' := [(1, .long (dw (dgO L (Ln L)) ((Lm L : Nat) : Int))), (0, .ref (a 0)), (3, .int (iI (((Ln L) : Nat) : Int)))]) hx hb dX2_digest_99 rfl hl (by decide) rfl (fun ls hl => ?_)
              refine z_ic hx hb dX2_digest_100 ?_
              refine lv_istore_n (lv' := [(3, .int (iI ((0 : Nat) : Int))), (1, .long (dw (dgO L (Ln L)) ((Lm L : Nat) : Int))), (0, .ref (a 0))]) hx hb dX2_digest_101 rfl hl (by decide) rfl (fun ls hl => ?_)
              have loop102 : ∀ (n102 : Nat) (x : Nat) (H : Heap) (locs : List Loc) (ls : Array Slot), Lm L - x < n102 → (x ≤ Lm L) → va_P D vwCl (wX a g L att T hs tm tk lt) H → va_D A (wX a g L att T hs tm tk lt) → va_S A s.heap H locs → lv_has ls 4 [(0, .ref (a 0)), (1, .long (dgD L x)), (3, .int (iI ((x : Nat) : Int)))] → W p l e ({ frames := 2, cells := 0, slots := 0, locals := 34 } : Room) s m args below meth c H locs 0 0 Q (F0 m 102 ls []) := by
                intro n102
                induction n102 with
                | zero => exact fun _ H locs ls hn => absurd hn (Nat.not_lt_zero _)
                | succ n102 ih102 =>
                  intro x H locs ls hn102 hx2 hP hD hS hl
                  refine lv_iload_n hx hb dX2_digest_102 rfl (lv_at hl 2 rfl) ?_
                  refine lv_aload_n hx hb dX2_digest_103 rfl (lv_at hl 0 rfl) ?_
                  refine va_get (D := D) (ci := 2) (v := .ref (a 1)) (C := RX2) (T := TX2) (N := 3) hx hb hts hinX2 hown hK hP 0 rfl rfl 0 (by decide) (hts (.fieldLink RX2 10 "LoopScheduler" "loop" "LLoopScheduler$Loop;") (List.mem_of_getElem? (i := 2) rfl)) (fun _ h9 => h9) rfl dX2_digest_104 ?_
                  refine va_get (D := D) (ci := 0) (v := .int (iI ((Lm L : Nat) : Int))) (C := RX0) (T := TX0) (N := 10) hx hb hts hinX0 hown hK hP 1 rfl rfl 9 (by decide) (hts (.fieldLink RX2 72 "LoopScheduler$Loop" "dependences" "I") (List.mem_of_getElem? (i := 7) rfl)) (fun _ h9 => h9) rfl dX2_digest_107 ?_
                  refine z_icge (a := ((x : Nat) : Int)) (b := ((Lm L : Nat) : Int)) (tgt := 171) hx hb dX2_digest_110 (by decide) (by omega) (fun c_110 => ?_) (fun c_110 => ?_)
                  · obtain rfl : x = Lm L := by omega
                    refine lv_lload_n hx hb dX2_digest_171 rfl (lv_at hl 1 rfl) ?_
                    refine lv_aload_n hx hb dX2_digest_172 rfl (lv_at hl 0 rfl) ?_
                    refine va_get (D := D) (ci := 2) (v := .ref (a 2)) (C := RX2) (T := TX2) (N := 3) hx hb hts hinX2 hown hK hP 0 rfl rfl 1 (by decide) (hts (.fieldLink RX2 21 "LoopScheduler" "table" "LLoopScheduler$Timetable;") (List.mem_of_getElem? (i := 12) rfl)) (fun _ h9 => h9) rfl dX2_digest_173 ?_
                    refine va_get (D := D) (ci := 1) (v := .int (iI ((T : Nat) : Int))) (C := RX1) (T := TX1) (N := 5) hx hb hts hinX1 hown hK hP 2 rfl rfl 4 (by decide) (hts (.fieldLink RX2 117 "LoopScheduler$Timetable" "interval" "I") (List.mem_of_getElem? (i := 13) rfl)) (fun _ h9 => h9) rfl dX2_digest_176 ?_
                    refine z_calll (va_runS (As := [.long (dgD L (Lm L)), .int (iI ((T : Nat) : Int))]) (rest := []) ⟨hx, hb, hml, hown, hts⟩ (c_X2_digestWith l D g a L att T hs tm tk lt (dgD L (Lm L)) ((T : Nat) : Int) _) (va_cwS 2 hts gX2_digest_X2_digestWith rfl rfl rfl (by decide +kernel) ⟨Nat.le_of_ble_eq_true rfl, Nat.le_of_ble_eq_true rfl⟩) (z_preS hK hP hD) rfl rfl hl.1 rfl (lv_room (Nat.le_of_ble_eq_true rfl)) dX2_digest_179 ⟨Nat.zero_le _, Nat.zero_le _⟩) hS hD hA (fun r w1 H locs hw1 hP hD hS => ?_)
                    obtain ⟨rfl, rfl⟩ := hw1
                    refine lv_lstore_n (lv' := [(1, .long (dw (dgD L (Lm L)) ((T : Nat) : Int))), (0, .ref (a 0)), (3, .int (iI (((Lm L) : Nat) : Int)))]) hx hb dX2_digest_182 rfl hl (by decide) rfl (fun ls hl => ?_)
                    refine lv_aload_n hx hb dX2_digest_183 rfl (lv_at hl 1 rfl) ?_
                    refine va_get (D := D) (ci := 2) (v := .ref (a 2)) (C := RX2) (T := TX2) (N := 3) hx hb hts hinX2 hown hK hP 0 rfl rfl 1 (by decide) (hts (.fieldLink RX2 21 "LoopScheduler" "table" "LLoopScheduler$Timetable;") (List.mem_of_getElem? (i := 12) rfl)) (fun _ h9 => h9) rfl dX2_digest_184 ?_
                    refine va_get (D := D) (ci := 1) (v := .int (iI ((T : Nat) : Int))) (C := RX1) (T := TX1) (N := 5) hx hb hts hinX1 hown hK hP 2 rfl rfl 4 (by decide) (hts (.fieldLink RX2 117 "LoopScheduler$Timetable" "interval" "I") (List.mem_of_getElem? (i := 13) rfl)) (fun _ h9 => h9) rfl dX2_digest_187 ?_
                    refine z_ifle (a := ((T : Nat) : Int)) (tgt := 226) hx hb dX2_digest_190 (by decide) (by omega) (fun c_190 => ?_) (fun c_190 => ?_)
                    · refine lv_lload_n hx hb dX2_digest_226 rfl (lv_at hl 0 rfl) ?_
                      exact z_lret (w := (wX a g L att T hs tm tk lt)) (v := (dw (dgD L (Lm L)) ((T : Nat) : Int))) hQ hx hb hr hlocks ⟨by unfold dg; rw [if_neg (show ¬ 0 < T by omega)]; rfl, rfl⟩ hK hP hD hS dX2_digest_227
                    · refine z_ic hx hb dX2_digest_193 ?_
                      refine lv_istore_n (lv' := [(3, .int (iI ((0 : Nat) : Int))), (1, .long (dw (dgD L (Lm L)) ((T : Nat) : Int))), (0, .ref (a 0))]) hx hb dX2_digest_194 rfl hl (by decide) rfl (fun ls hl => ?_)
                      have loop195 : ∀ (n195 : Nat) (x : Nat) (H : Heap) (locs : List Loc) (ls : Array Slot), Ln L - x < n195 → (x ≤ Ln L) → va_P D vwCl (wX a g L att T hs tm tk lt) H → va_D A (wX a g L att T hs tm tk lt) → va_S A s.heap H locs → lv_has ls 4 [(0, .ref (a 0)), (1, .long (dgT L T tm x)), (3, .int (iI ((x : Nat) : Int)))] → W p l e ({ frames := 2, cells := 0, slots := 0, locals := 34 } : Room) s m args below meth c H locs 0 0 Q (F0 m 195 ls []) := by
                        intro n195
                        induction n195 with
                        | zero => exact fun _ H locs ls hn => absurd hn (Nat.not_lt_zero _)
                        | succ n195 ih195 =>
                          intro x H locs ls hn195 hx2 hP hD hS hl
                          refine lv_iload_n hx hb dX2_digest_195 rfl (lv_at hl 2 rfl) ?_
                          refine lv_aload_n hx hb dX2_digest_196 rfl (lv_at hl 0 rfl) ?_
                          refine va_get (D := D) (ci := 2) (v := .ref (a 1)) (C := RX2) (T := TX2) (N := 3) hx hb hts hinX2 hown hK hP 0 rfl rfl 0 (by decide) (hts (.fieldLink RX2 10 "LoopScheduler" "loop" "LLoopScheduler$Loop;") (List.mem_of_getElem? (i := 2) rfl)) (fun _ h9 => h9) rfl dX2_digest_197 ?_
                          refine va_get (D := D) (ci := 0) (v := .int (iI ((Ln L : Nat) : Int))) (C := RX0) (T := TX0) (N := 10) hx hb hts hinX0 hown hK hP 1 rfl rfl 8 (by decide) (hts (.fieldLink RX2 51 "LoopScheduler$Loop" "operations" "I") (List.mem_of_getElem? (i := 4) rfl)) (fun _ h9 => h9) rfl dX2_digest_200 ?_
                          refine z_icge (a := ((x : Nat) : Int)) (b := ((Ln L : Nat) : Int)) (tgt := 226) hx hb dX2_digest_203 (by decide) (by omega) (fun c_203 => ?_) (fun c_203 => ?_)
                          · obtain rfl : x = Ln L := by omega
                            refine lv_lload_n hx hb dX2_digest_226 rfl (lv_at hl 1 rfl) ?_
                            exact z_lret (w := (wX a g L att T hs tm tk lt)) (v := (dgT L T tm (Ln L))) hQ hx hb hr hlocks ⟨by unfold dg; rw [if_pos (show 0 < T by omega)], rfl⟩ hK hP hD hS dX2_digest_227
                          · refine lv_lload_n hx hb dX2_digest_206 rfl (lv_at hl 1 rfl) ?_
                            refine lv_aload_n hx hb dX2_digest_207 rfl (lv_at hl 0 rfl) ?_
                            refine va_get (D := D) (ci := 2) (v := .ref (a 2)) (C := RX2) (T := TX2) (N := 3) hx hb hts hinX2 hown hK hP 0 rfl rfl 1 (by decide) (hts (.fieldLink RX2 21 "LoopScheduler" "table" "LLoopScheduler$Timetable;") (List.mem_of_getElem? (i := 12) rfl)) (fun _ h9 => h9) rfl dX2_digest_208 ?_
                            refine va_get (D := D) (ci := 1) (v := .ref (a 11)) (C := RX1) (T := TX1) (N := 5) hx hb hts hinX1 hown hK hP 2 rfl rfl 1 (by decide) (hts (.fieldLink RX2 123 "LoopScheduler$Timetable" "times" "[I") (List.mem_of_getElem? (i := 14) rfl)) (fun _ h9 => h9) rfl dX2_digest_211 ?_
                            refine lv_iload_n hx hb dX2_digest_214 rfl (lv_at hl 2 rfl) ?_
                            refine z_ialdN (f := tm) (z := x) hx hb hK hP 11 0 rfl rfl (by omega) (by decide) dX2_digest_215 ?_
                            refine z_calll (va_runS (As := [.long (dgT L T tm x), .int (iI (tm x))]) (rest := []) ⟨hx, hb, hml, hown, hts⟩ (c_X2_digestWith l D g a L att T hs tm tk lt (dgT L T tm x) (tm x) _) (va_cwS 2 hts gX2_digest_X2_digestWith rfl rfl rfl (by decide +kernel) ⟨Nat.le_of_ble_eq_true rfl, Nat.le_of_ble_eq_true rfl⟩) (z_preS hK hP hD) rfl rfl hl.1 rfl (lv_room (Nat.le_of_ble_eq_true rfl)) dX2_digest_216 ⟨Nat.zero_le _, Nat.zero_le _⟩) hS hD hA (fun r w1 H locs hw1 hP hD hS => ?_)
                            obtain ⟨rfl, rfl⟩ := hw1
                            refine lv_lstore_n (lv' := [(1, .long (dw (dgT L T tm x) (tm x))), (0, .ref (a 0)), (3, .int (iI ((x : Nat) : Int)))]) hx hb dX2_digest_219 rfl hl (by decide) rfl (fun ls hl => ?_)
                            refine z_iinc (a := ((x : Nat) : Int)) (b := ((x + 1 : Nat) : Int)) (lv' := [(3, .int (iI ((x + 1 : Nat) : Int))), (1, .long (dw (dgT L T tm x) (tm x))), (0, .ref (a 0))]) hx hb 2 dX2_digest_220 hl rfl rfl (by decide) rfl (fun ls hl => ?_)
                            refine lv_goto (tgt := 195) hx hb dX2_digest_223 (by decide) ?_
                            exact ih195 (x + 1) _ _ _ (by omega) (by omega) hP hD hS (lv_sub hl [2, 1, 0] rfl)
                      exact loop195 ((Ln L - 0) + 1) 0 _ _ _ (Nat.lt_succ_self _) (by omega) hP hD hS (lv_sub hl [2, 1, 0] rfl)
                  · refine lv_lload_n hx hb dX2_digest_113 rfl (lv_at hl 1 rfl) ?_
                    refine lv_aload_n hx hb dX2_digest_114 rfl (lv_at hl 0 rfl) ?_
                    refine va_get (D := D) (ci := 2) (v := .ref (a 1)) (C := RX2) (T := TX2) (N := 3) hx hb hts hinX2 hown hK hP 0 rfl rfl 0 (by decide) (hts (.fieldLink RX2 10 "LoopScheduler" "loop" "LLoopScheduler$Loop;") (List.mem_of_getElem? (i := 2) rfl)) (fun _ h9 => h9) rfl dX2_digest_115 ?_
                    refine va_get (D := D) (ci := 0) (v := .ref (a 6)) (C := RX0) (T := TX0) (N := 10) hx hb hts hinX0 hown hK hP 1 rfl rfl 3 (by decide) (hts (.fieldLink RX2 201 "LoopScheduler$Loop" "sources" "[I") (List.mem_of_getElem? (i := 8) rfl)) (fun _ h9 => h9) rfl dX2_digest_118 ?_
                    refine lv_iload_n hx hb dX2_digest_121 rfl (lv_at hl 2 rfl) ?_
                    refine z_ialdZ (f := Lsr L) (z := x) hx hb hK hP 6 0 rfl rfl (by omega) (by decide) dX2_digest_122 ?_
                    refine z_calll (va_runS (As := [.long (dgD L x), .int (iI ((Lsr L x : Nat) : Int))]) (rest := []) ⟨hx, hb, hml, hown, hts⟩ (c_X2_digestWith l D g a L att T hs tm tk lt (dgD L x) ((Lsr L x : Nat) : Int) _) (va_cwS 2 hts gX2_digest_X2_digestWith rfl rfl rfl (by decide +kernel) ⟨Nat.le_of_ble_eq_true rfl, Nat.le_of_ble_eq_true rfl⟩) (z_preS hK hP hD) rfl rfl hl.1 rfl (lv_room (Nat.le_of_ble_eq_true rfl)) dX2_digest_123 ⟨Nat.zero_le _, Nat.zero_le _⟩) hS hD hA (fun r w1 H locs hw1 hP hD hS => ?_)
                    obtain ⟨rfl, rfl⟩ := hw1
                    refine lv_aload_n hx hb dX2_digest_126 rfl (lv_at hl 0 rfl) ?_
                    refine va_get (D := D) (ci := 2) (v := .ref (a 1)) (C := RX2) (T := TX2) (N := 3) hx hb hts hinX2 hown hK hP 0 rfl rfl 0 (by decide) (hts (.fieldLink RX2 10 "LoopScheduler" "loop" "LLoopScheduler$Loop;") (List.mem_of_getElem? (i := 2) rfl)) (fun _ h9 => h9) rfl dX2_digest_127 ?_
                    refine va_get (D := D) (ci := 0) (v := .ref (a 7)) (C := RX0) (T := TX0) (N := 10) hx hb hts hinX0 hown hK hP 1 rfl rfl 4 (by decide) (hts (.fieldLink RX2 204 "LoopScheduler$Loop" "targets" "[I") (List.mem_of_getElem? (i := 9) rfl)) (fun _ h9 => h9) rfl dX2_digest_130 ?_
                    refine lv_iload_n hx hb dX2_digest_133 rfl (lv_at hl 2 rfl) ?_
                    refine z_ialdZ (f := Lds L) (z := x) hx hb hK hP 7 0 rfl rfl (by omega) (by decide) dX2_digest_134 ?_
                    refine z_calll (va_runS (As := [.long (dw (dgD L x) ((Lsr L x : Nat) : Int)), .int (iI ((Lds L x : Nat) : Int))]) (rest := []) ⟨hx, hb, hml, hown, hts⟩ (c_X2_digestWith l D g a L att T hs tm tk lt (dw (dgD L x) ((Lsr L x : Nat) : Int)) ((Lds L x : Nat) : Int) _) (va_cwS 2 hts gX2_digest_X2_digestWith rfl rfl rfl (by decide +kernel) ⟨Nat.le_of_ble_eq_true rfl, Nat.le_of_ble_eq_true rfl⟩) (z_preS hK hP hD) rfl rfl hl.1 rfl (lv_room (Nat.le_of_ble_eq_true rfl)) dX2_digest_135 ⟨Nat.zero_le _, Nat.zero_le _⟩) hS hD hA (fun r w1 H locs hw1 hP hD hS => ?_)
                    obtain ⟨rfl, rfl⟩ := hw1
                    refine lv_lstore_n (lv' := [(1, .long (dw (dw (dgD L x) ((Lsr L x : Nat) : Int)) ((Lds L x : Nat) : Int))), (0, .ref (a 0)), (3, .int (iI ((x : Nat) : Int)))]) hx hb dX2_digest_138 rfl hl (by decide) rfl (fun ls hl => ?_)
                    refine lv_lload_n hx hb dX2_digest_139 rfl (lv_at hl 0 rfl) ?_
                    refine lv_aload_n hx hb dX2_digest_140 rfl (lv_at hl 1 rfl) ?_
                    refine va_get (D := D) (ci := 2) (v := .ref (a 1)) (C := RX2) (T := TX2) (N := 3) hx hb hts hinX2 hown hK hP 0 rfl rfl 0 (by decide) (hts (.fieldLink RX2 10 "LoopScheduler" "loop" "LLoopScheduler$Loop;") (List.mem_of_getElem? (i := 2) rfl)) (fun _ h9 => h9) rfl dX2_digest_141 ?_
                    refine va_get (D := D) (ci := 0) (v := .ref (a 8)) (C := RX0) (T := TX0) (N := 10) hx hb hts hinX0 hown hK hP 1 rfl rfl 5 (by decide) (hts (.fieldLink RX2 86 "LoopScheduler$Loop" "delays" "[I") (List.mem_of_getElem? (i := 10) rfl)) (fun _ h9 => h9) rfl dX2_digest_144 ?_
                    refine lv_iload_n hx hb dX2_digest_147 rfl (lv_at hl 2 rfl) ?_
                    refine z_ialdZ (f := Ldl L) (z := x) hx hb hK hP 8 0 rfl rfl (by omega) (by decide) dX2_digest_148 ?_
                    refine z_calll (va_runS (As := [.long (dw (dw (dgD L x) ((Lsr L x : Nat) : Int)) ((Lds L x : Nat) : Int)), .int (iI ((Ldl L x : Nat) : Int))]) (rest := []) ⟨hx, hb, hml, hown, hts⟩ (c_X2_digestWith l D g a L att T hs tm tk lt (dw (dw (dgD L x) ((Lsr L x : Nat) : Int)) ((Lds L x : Nat) : Int)) ((Ldl L x : Nat) : Int) _) (va_cwS 2 hts gX2_digest_X2_digestWith rfl rfl rfl (by decide +kernel) ⟨Nat.le_of_ble_eq_true rfl, Nat.le_of_ble_eq_true rfl⟩) (z_preS hK hP hD) rfl rfl hl.1 rfl (lv_room (Nat.le_of_ble_eq_true rfl)) dX2_digest_149 ⟨Nat.zero_le _, Nat.zero_le _⟩) hS hD hA (fun r w1 H locs hw1 hP hD hS => ?_)
                    obtain ⟨rfl, rfl⟩ := hw1
                    refine lv_aload_n hx hb dX2_digest_152 rfl (lv_at hl 1 rfl) ?_
                    refine va_get (D := D) (ci := 2) (v := .ref (a 1)) (C := RX2) (T := TX2) (N := 3) hx hb hts hinX2 hown hK hP 0 rfl rfl 0 (by decide) (hts (.fieldLink RX2 10 "LoopScheduler" "loop" "LLoopScheduler$Loop;") (List.mem_of_getElem? (i := 2) rfl)) (fun _ h9 => h9) rfl dX2_digest_153 ?_
                    refine va_get (D := D) (ci := 0) (v := .ref (a 9)) (C := RX0) (T := TX0) (N := 10) hx hb hts hinX0 hown hK hP 1 rfl rfl 6 (by decide) (hts (.fieldLink RX2 207 "LoopScheduler$Loop" "distances" "[I") (List.mem_of_getElem? (i := 11) rfl)) (fun _ h9 => h9) rfl dX2_digest_156 ?_
                    refine lv_iload_n hx hb dX2_digest_159 rfl (lv_at hl 2 rfl) ?_
                    refine z_ialdZ (f := Ldi L) (z := x) hx hb hK hP 9 0 rfl rfl (by omega) (by decide) dX2_digest_160 ?_
                    refine z_calll (va_runS (As := [.long (dw (dw (dw (dgD L x) ((Lsr L x : Nat) : Int)) ((Lds L x : Nat) : Int)) ((Ldl L x : Nat) : Int)), .int (iI ((Ldi L x : Nat) : Int))]) (rest := []) ⟨hx, hb, hml, hown, hts⟩ (c_X2_digestWith l D g a L att T hs tm tk lt (dw (dw (dw (dgD L x) ((Lsr L x : Nat) : Int)) ((Lds L x : Nat) : Int)) ((Ldl L x : Nat) : Int)) ((Ldi L x : Nat) : Int) _) (va_cwS 2 hts gX2_digest_X2_digestWith rfl rfl rfl (by decide +kernel) ⟨Nat.le_of_ble_eq_true rfl, Nat.le_of_ble_eq_true rfl⟩) (z_preS hK hP hD) rfl rfl hl.1 rfl (lv_room (Nat.le_of_ble_eq_true rfl)) dX2_digest_161 ⟨Nat.zero_le _, Nat.zero_le _⟩) hS hD hA (fun r w1 H locs hw1 hP hD hS => ?_)
                    obtain ⟨rfl, rfl⟩ := hw1
                    refine lv_lstore_n (lv' := [(1, .long (dw (dw (dw (dw (dgD L x) ((Lsr L x : Nat) : Int)) ((Lds L x : Nat) : Int)) ((Ldl L x : Nat) : Int)) ((Ldi L x : Nat) : Int))), (0, .ref (a 0)), (3, .int (iI ((x : Nat) : Int)))]) hx hb dX2_digest_164 rfl hl (by decide) rfl (fun ls hl => ?_)
                    refine z_iinc (a := ((x : Nat) : Int)) (b := ((x + 1 : Nat) : Int)) (lv' := [(3, .int (iI ((x + 1 : Nat) : Int))), (1, .long (dw (dw (dw (dw (dgD L x) ((Lsr L x : Nat) : Int)) ((Lds L x : Nat) : Int)) ((Ldl L x : Nat) : Int)) ((Ldi L x : Nat) : Int))), (0, .ref (a 0))]) hx hb 2 dX2_digest_165 hl rfl rfl (by decide) rfl (fun ls hl => ?_)
                    refine lv_goto (tgt := 102) hx hb dX2_digest_168 (by decide) ?_
                    exact ih102 (x + 1) _ _ _ (by omega) (by omega) hP hD hS (lv_sub hl [2, 1, 0] rfl)
              exact loop102 ((Lm L - 0) + 1) 0 _ _ _ (Nat.lt_succ_self _) (by omega) hP hD hS (lv_sub hl [2, 1, 0] rfl)
            · refine lv_lload_n hx hb dX2_digest_56 rfl (lv_at hl 1 rfl) ?_
              refine lv_aload_n hx hb dX2_digest_57 rfl (lv_at hl 0 rfl) ?_
              refine va_get (D := D) (ci := 2) (v := .ref (a 1)) (C := RX2) (T := TX2) (N := 3) hx hb hts hinX2 hown hK hP 0 rfl rfl 0 (by decide) (hts (.fieldLink RX2 10 "LoopScheduler" "loop" "LLoopScheduler$Loop;") (List.mem_of_getElem? (i := 2) rfl)) (fun _ h9 => h9) rfl dX2_digest_58 ?_
              refine va_get (D := D) (ci := 0) (v := .ref (a 4)) (C := RX0) (T := TX0) (N := 10) hx hb hts hinX0 hown hK hP 1 rfl rfl 1 (by decide) (hts (.fieldLink RX2 195 "LoopScheduler$Loop" "kinds" "[I") (List.mem_of_getElem? (i := 5) rfl)) (fun _ h9 => h9) rfl dX2_digest_61 ?_
              refine lv_iload_n hx hb dX2_digest_64 rfl (lv_at hl 2 rfl) ?_
              refine z_ialdZ (f := Lkd L) (z := x) hx hb hK hP 4 0 rfl rfl (by omega) (by decide) dX2_digest_65 ?_
              refine z_calll (va_runS (As := [.long (dgO L x), .int (iI ((Lkd L x : Nat) : Int))]) (rest := []) ⟨hx, hb, hml, hown, hts⟩ (c_X2_digestWith l D g a L att T hs tm tk lt (dgO L x) ((Lkd L x : Nat) : Int) _) (va_cwS 2 hts gX2_digest_X2_digestWith rfl rfl rfl (by decide +kernel) ⟨Nat.le_of_ble_eq_true rfl, Nat.le_of_ble_eq_true rfl⟩) (z_preS hK hP hD) rfl rfl hl.1 rfl (lv_room (Nat.le_of_ble_eq_true rfl)) dX2_digest_66 ⟨Nat.zero_le _, Nat.zero_le _⟩) hS hD hA (fun r w1 H locs hw1 hP hD hS => ?_)
              obtain ⟨rfl, rfl⟩ := hw1
              refine lv_aload_n hx hb dX2_digest_69 rfl (lv_at hl 0 rfl) ?_
              refine va_get (D := D) (ci := 2) (v := .ref (a 1)) (C := RX2) (T := TX2) (N := 3) hx hb hts hinX2 hown hK hP 0 rfl rfl 0 (by decide) (hts (.fieldLink RX2 10 "LoopScheduler" "loop" "LLoopScheduler$Loop;") (List.mem_of_getElem? (i := 2) rfl)) (fun _ h9 => h9) rfl dX2_digest_70 ?_
              refine va_get (D := D) (ci := 0) (v := .ref (a 5)) (C := RX0) (T := TX0) (N := 10) hx hb hts hinX0 hown hK hP 1 rfl rfl 2 (by decide) (hts (.fieldLink RX2 198 "LoopScheduler$Loop" "busy" "[I") (List.mem_of_getElem? (i := 6) rfl)) (fun _ h9 => h9) rfl dX2_digest_73 ?_
              refine lv_iload_n hx hb dX2_digest_76 rfl (lv_at hl 2 rfl) ?_
              refine z_ialdZ (f := Lby L) (z := x) hx hb hK hP 5 0 rfl rfl (by omega) (by decide) dX2_digest_77 ?_
              refine z_calll (va_runS (As := [.long (dw (dgO L x) ((Lkd L x : Nat) : Int)), .int (iI ((Lby L x : Nat) : Int))]) (rest := []) ⟨hx, hb, hml, hown, hts⟩ (c_X2_digestWith l D g a L att T hs tm tk lt (dw (dgO L x) ((Lkd L x : Nat) : Int)) ((Lby L x : Nat) : Int) _) (va_cwS 2 hts gX2_digest_X2_digestWith rfl rfl rfl (by decide +kernel) ⟨Nat.le_of_ble_eq_true rfl, Nat.le_of_ble_eq_true rfl⟩) (z_preS hK hP hD) rfl rfl hl.1 rfl (lv_room (Nat.le_of_ble_eq_true rfl)) dX2_digest_78 ⟨Nat.zero_le _, Nat.zero_le _⟩) hS hD hA (fun r w1 H locs hw1 hP hD hS => ?_)
              obtain ⟨rfl, rfl⟩ := hw1
              refine lv_lstore_n (lv' := [(1, .long (dw (dw (dgO L x) ((Lkd L x : Nat) : Int)) ((Lby L x : Nat) : Int))), (0, .ref (a 0)), (3, .int (iI ((x : Nat) : Int)))]) hx hb dX2_digest_81 rfl hl (by decide) rfl (fun ls hl => ?_)
              refine z_iinc (a := ((x : Nat) : Int)) (b := ((x + 1 : Nat) : Int)) (lv' := [(3, .int (iI ((x + 1 : Nat) : Int))), (1, .long (dw (dw (dgO L x) ((Lkd L x : Nat) : Int)) ((Lby L x : Nat) : Int))), (0, .ref (a 0))]) hx hb 2 dX2_digest_82 hl rfl rfl (by decide) rfl (fun ls hl => ?_)
              refine lv_goto (tgt := 45) hx hb dX2_digest_85 (by decide) ?_
              exact ih45 (x + 1) _ _ _ (by omega) (by omega) hP hD hS (lv_sub hl [2, 1, 0] rfl)
        exact loop45 ((Ln L - 0) + 1) 0 _ _ _ (Nat.lt_succ_self _) (by omega) hP hD hS (lv_sub hl [2, 1, 0] rfl)
      · refine lv_lload_n hx hb dX2_digest_11 rfl (lv_at hl 1 rfl) ?_
        refine lv_aload_n hx hb dX2_digest_12 rfl (lv_at hl 0 rfl) ?_
        refine va_get (D := D) (ci := 2) (v := .ref (a 1)) (C := RX2) (T := TX2) (N := 3) hx hb hts hinX2 hown hK hP 0 rfl rfl 0 (by decide) (hts (.fieldLink RX2 10 "LoopScheduler" "loop" "LLoopScheduler$Loop;") (List.mem_of_getElem? (i := 2) rfl)) (fun _ h9 => h9) rfl dX2_digest_13 ?_
        refine va_get (D := D) (ci := 0) (v := .ref (a 3)) (C := RX0) (T := TX0) (N := 10) hx hb hts hinX0 hown hK hP 1 rfl rfl 0 (by decide) (hts (.fieldLink RX2 36 "LoopScheduler$Loop" "units" "[I") (List.mem_of_getElem? (i := 3) rfl)) (fun _ h9 => h9) rfl dX2_digest_16 ?_
        refine lv_iload_n hx hb dX2_digest_19 rfl (lv_at hl 2 rfl) ?_
        refine z_ialdZ (f := Lu L) (z := x) hx hb hK hP 3 0 rfl rfl (by omega) (by decide) dX2_digest_20 ?_
        refine z_calll (va_runS (As := [.long (dgU L x), .int (iI ((Lu L x : Nat) : Int))]) (rest := []) ⟨hx, hb, hml, hown, hts⟩ (c_X2_digestWith l D g a L att T hs tm tk lt (dgU L x) ((Lu L x : Nat) : Int) _) (va_cwS 2 hts gX2_digest_X2_digestWith rfl rfl rfl (by decide +kernel) ⟨Nat.le_of_ble_eq_true rfl, Nat.le_of_ble_eq_true rfl⟩) (z_preS hK hP hD) rfl rfl hl.1 rfl (lv_room (Nat.le_of_ble_eq_true rfl)) dX2_digest_21 ⟨Nat.zero_le _, Nat.zero_le _⟩) hS hD hA (fun r w1 H locs hw1 hP hD hS => ?_)
        obtain ⟨rfl, rfl⟩ := hw1
        refine lv_lstore_n (lv' := [(1, .long (dw (dgU L x) ((Lu L x : Nat) : Int))), (0, .ref (a 0)), (3, .int (iI ((x : Nat) : Int)))]) hx hb dX2_digest_24 rfl hl (by decide) rfl (fun ls hl => ?_)
        refine z_iinc (a := ((x : Nat) : Int)) (b := ((x + 1 : Nat) : Int)) (lv' := [(3, .int (iI ((x + 1 : Nat) : Int))), (1, .long (dw (dgU L x) ((Lu L x : Nat) : Int))), (0, .ref (a 0))]) hx hb 2 dX2_digest_25 hl rfl rfl (by decide) rfl (fun ls hl => ?_)
        refine lv_goto (tgt := 6) hx hb dX2_digest_28 (by decide) ?_
        exact ih6 (x + 1) _ _ _ (by omega) (by omega) hP hD hS (lv_sub hl [2, 1, 0] rfl)
  exact loop6 ((3 - 0) + 1) 0 _ _ _ (Nat.lt_succ_self _) (by omega) hP hD hS (lv_sub hl [2, 1, 0] rfl)

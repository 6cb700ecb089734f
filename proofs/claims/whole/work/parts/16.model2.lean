set_option maxHeartbeats 4000000 in
set_option maxRecDepth 100000 in
theorem c_X3_has (l : Launch) (D : va_G) (g : Nat → ClassId) (a : Nat → Nat) (th : Int) (L : LD) (att T : Nat) (hs : Nat → Int) (tm : Nat → Nat) (pl : Nat → Bool)  (hT2 : T ≤ 200) : zMi l D (zT g) yX3_has wsX3_has 1 12 (wM a g th L att T hs tm pl (fun _ => 0)) [.ref (a 0)] (fun r w1 => r = iI (bI (decide (0 < T))) ∧ w1 = wM a g (if 0 < T then 0 else 1) L att T hs tm pl (fun _ => 0)) := by
  refine z_ofI (cc := cX3_has) (maxL := 1) (ret := (some .boolean)) (by decide) rfl (Nat.le_of_ble_eq_true rfl) ?_
  intro p e s m args below meth c A ls hx hb hr hts hown hlocks hml hP hK hD hS hA hl Q hQ
  have hown : s.vm.findClass RX3 = some m.cls := hown
  have hinX3 : ∀ w ∈ u_ws RX3 TX3 16, w ∈ wsX3_has := by decide +kernel
  have hl : lv_has ls 1 [(0, .ref (a 0))] := hl
  refine lv_aload_n hx hb dX3_has_0 rfl (lv_at hl 0 rfl) ?_
  refine lv_aload_n hx hb dX3_has_1 rfl (lv_at hl 0 rfl) ?_
  refine va_get (D := D) (ci := 3) (v := .int (iI ((T : Nat) : Int))) (C := RX3) (T := TX3) (N := 16) hx hb hts hinX3 hown hK hP 0 rfl rfl 10 (by decide) (hts (.fieldLink RX3 59 "LoopSchedulerModel" "interval" "I") (List.mem_of_getElem? (i := 1) rfl)) (fun _ h9 => h9) rfl dX3_has_2 ?_
  refine z_ifle (a := ((T : Nat) : Int)) (tgt := 12) hx hb dX3_has_5 (by decide) (by omega) (fun c_5 => ?_) (fun c_5 => ?_)
  · refine z_ic hx hb dX3_has_12 ?_
    refine va_put (D := D) (ci := 3) (v := .int (iI ((1 : Nat) : Int))) (ty := .int) (C := RX3) (T := TX3) (N := 16) hx hb hts hinX3 tyX3 tyX3_ok nmX3 hown hK hP hD hS 0 rfl rfl 0 (by decide) (hts (.fieldLink RX3 44 "LoopSchedulerModel" "thrown" "I") (List.mem_of_getElem? (i := 2) rfl)) (fun _ h9 => h9) rfl (by decide +kernel) rfl rfl (Nat.le_of_ble_eq_true rfl) dX3_has_13 (fun H locs hP hD hS => ?_)
    have hP : va_P D vwCl (wM a g 1 L att T hs tm pl (fun _ => 0)) H := hP
    have hD : va_D A (wM a g 1 L att T hs tm pl (fun _ => 0)) := hD
    refine lv_aload_n hx hb dX3_has_16 rfl (lv_at hl 0 rfl) ?_
    refine va_get (D := D) (ci := 3) (v := .int (iI (1))) (C := RX3) (T := TX3) (N := 16) hx hb hts hinX3 hown hK hP 0 rfl rfl 0 (by decide) (hts (.fieldLink RX3 44 "LoopSchedulerModel" "thrown" "I") (List.mem_of_getElem? (i := 2) rfl)) (fun _ h9 => h9) rfl dX3_has_17 ?_
    refine z_ifne (a := 1) (tgt := 27) hx hb dX3_has_20 (by decide) (by omega) (fun c_20 => ?_) (fun c_20 => ?_)
    · refine z_ic hx hb dX3_has_27 ?_
      exact z_zret (w := (wM a g 1 L att T hs tm pl (fun _ => 0))) (v := (iI ((0 : Nat) : Int))) z_nb0 hQ hx hb hr hlocks ⟨by rw [decide_eq_false (show ¬ 0 < T by omega)]; rfl, by rw [if_neg (show ¬ 0 < T by omega)]⟩ hK hP hD hS dX3_has_28
    · exact absurd c_20 (by decide)
  · refine z_ic hx hb dX3_has_8 ?_
    refine lv_goto (tgt := 13) hx hb dX3_has_9 (by decide) ?_
    refine va_put (D := D) (ci := 3) (v := .int (iI ((0 : Nat) : Int))) (ty := .int) (C := RX3) (T := TX3) (N := 16) hx hb hts hinX3 tyX3 tyX3_ok nmX3 hown hK hP hD hS 0 rfl rfl 0 (by decide) (hts (.fieldLink RX3 44 "LoopSchedulerModel" "thrown" "I") (List.mem_of_getElem? (i := 2) rfl)) (fun _ h9 => h9) rfl (by decide +kernel) rfl rfl (Nat.le_of_ble_eq_true rfl) dX3_has_13 (fun H locs hP hD hS => ?_)
    have hP : va_P D vwCl (wM a g 0 L att T hs tm pl (fun _ => 0)) H := hP
    have hD : va_D A (wM a g 0 L att T hs tm pl (fun _ => 0)) := hD
    refine lv_aload_n hx hb dX3_has_16 rfl (lv_at hl 0 rfl) ?_
    refine va_get (D := D) (ci := 3) (v := .int (iI (0))) (C := RX3) (T := TX3) (N := 16) hx hb hts hinX3 hown hK hP 0 rfl rfl 0 (by decide) (hts (.fieldLink RX3 44 "LoopSchedulerModel" "thrown" "I") (List.mem_of_getElem? (i := 2) rfl)) (fun _ h9 => h9) rfl dX3_has_17 ?_
    refine z_ifne (a := 0) (tgt := 27) hx hb dX3_has_20 (by decide) (by omega) (fun c_20 => ?_) (fun c_20 => ?_)
    · exact absurd c_20 (by decide)
    · refine z_ic hx hb dX3_has_23 ?_
      refine lv_goto (tgt := 28) hx hb dX3_has_24 (by decide) ?_
      exact z_zret (w := (wM a g 0 L att T hs tm pl (fun _ => 0))) (v := (iI ((1 : Nat) : Int))) z_nb1 hQ hx hb hr hlocks ⟨by rw [decide_eq_true (show 0 < T by omega)]; rfl, by rw [if_pos (show 0 < T by omega)]⟩ hK hP hD hS dX3_has_28
set_option maxHeartbeats 4000000 in
set_option maxRecDepth 100000 in
theorem c_X3_asks (l : Launch) (D : va_G) (g : Nat → ClassId) (a : Nat → Nat) (th : Int) (L : LD) (att T : Nat) (hs : Nat → Int) (tm : Nat → Nat) (pl : Nat → Bool) (i : Int) (hw : wf L) (hT2 : T ≤ 200) (hri : -2147483648 ≤ i ∧ i < 2147483648) : zMi l D (zT g) yX3_asks wsX3_asks 3 55 (wM a g th L att T hs tm pl (fun _ => 0)) [.ref (a 0), .int (iI (i))] (fun r w1 => (¬ (0 ≤ i ∧ i < (Ln L : Int)) ∧ r = iI 0 ∧ w1 = wM a g 1 L att T hs tm pl (fun _ => 0)) ∨ ((0 ≤ i ∧ i < (Ln L : Int)) ∧ T = 0 ∧ r = iI 0 ∧ w1 = wM a g 2 L att T hs tm pl (fun _ => 0)) ∨ ((0 ≤ i ∧ i < (Ln L : Int)) ∧ 0 < T ∧ r = iI 1 ∧ w1 = wM a g 0 L att T hs tm pl (fun _ => 0))) := by
  refine z_ofI (cc := cX3_asks) (maxL := 2) (ret := (some .boolean)) (by decide) rfl (Nat.le_of_ble_eq_true rfl) ?_
  intro p e s m args below meth c A ls hx hb hr hts hown hlocks hml hP hK hD hS hA hl Q hQ
  have hown : s.vm.findClass RX3 = some m.cls := hown
  have hinX3 : ∀ w ∈ u_ws RX3 TX3 16, w ∈ wsX3_asks := by decide +kernel
  have hl : lv_has ls 2 [(0, .ref (a 0)), (1, .int (iI (i)))] := hl
  have hwn := wf_n hw
  refine lv_aload_n hx hb dX3_asks_0 rfl (lv_at hl 0 rfl) ?_
  refine lv_aload_n hx hb dX3_asks_1 rfl (lv_at hl 0 rfl) ?_
  refine lv_iload_n hx hb dX3_asks_2 rfl (lv_at hl 1 rfl) ?_
  refine z_calli (va_runV (As := [.int (iI (i))]) (rest := [.ref (a 0)]) ⟨hx, hb, hml, hown, hts⟩ (c_X3_isOperation l D g a th L att T hs tm pl i hw (by omega) _) (cwV 1 hts gX3_asks_X3_isOperation rfl rfl rfl (by decide +kernel) ⟨Nat.le_of_ble_eq_true rfl, Nat.le_of_ble_eq_true rfl⟩) (z_preV 0 hK hP hD rfl rfl) rfl rfl hl.1 rfl (lv_room (Nat.le_of_ble_eq_true rfl)) dX3_asks_3 ⟨Nat.zero_le _, Nat.zero_le _⟩) hS hD hA (fun r w1 H locs hw1 hP hD hS => ?_)
  obtain ⟨rfl, rfl⟩ := hw1
  refine z_ifne (a := (bI (decide (0 ≤ i ∧ i < ((Ln L : Nat) : Int))))) (tgt := 13) hx hb dX3_asks_6 (by decide) (bI_r _) (fun c_6 => ?_) (fun c_6 => ?_)
  · have d_6 := of_decide_eq_true (bI_t c_6)
    refine lv_aload_n hx hb dX3_asks_13 rfl (lv_at hl 0 rfl) ?_
    refine va_get (D := D) (ci := 3) (v := .int (iI ((T : Nat) : Int))) (C := RX3) (T := TX3) (N := 16) hx hb hts hinX3 hown hK hP 0 rfl rfl 10 (by decide) (hts (.fieldLink RX3 59 "LoopSchedulerModel" "interval" "I") (List.mem_of_getElem? (i := 1) rfl)) (fun _ h9 => h9) rfl dX3_asks_14 ?_
    refine z_ifne (a := ((T : Nat) : Int)) (tgt := 24) hx hb dX3_asks_17 (by decide) (by omega) (fun c_17 => ?_) (fun c_17 => ?_)
    · refine z_ic hx hb dX3_asks_24 ?_
      refine va_put (D := D) (ci := 3) (v := .int (iI ((0 : Nat) : Int))) (ty := .int) (C := RX3) (T := TX3) (N := 16) hx hb hts hinX3 tyX3 tyX3_ok nmX3 hown hK hP hD hS 0 rfl rfl 0 (by decide) (hts (.fieldLink RX3 44 "LoopSchedulerModel" "thrown" "I") (List.mem_of_getElem? (i := 2) rfl)) (fun _ h9 => h9) rfl (by decide +kernel) rfl rfl (Nat.le_of_ble_eq_true rfl) dX3_asks_25 (fun H locs hP hD hS => ?_)
      have hP : va_P D vwCl (wM a g 0 L att T hs tm pl (fun _ => 0)) H := hP
      have hD : va_D A (wM a g 0 L att T hs tm pl (fun _ => 0)) := hD
      refine lv_aload_n hx hb dX3_asks_28 rfl (lv_at hl 0 rfl) ?_
      refine va_get (D := D) (ci := 3) (v := .int (iI (0))) (C := RX3) (T := TX3) (N := 16) hx hb hts hinX3 hown hK hP 0 rfl rfl 0 (by decide) (hts (.fieldLink RX3 44 "LoopSchedulerModel" "thrown" "I") (List.mem_of_getElem? (i := 2) rfl)) (fun _ h9 => h9) rfl dX3_asks_29 ?_
      refine z_ifne (a := 0) (tgt := 39) hx hb dX3_asks_32 (by decide) (by omega) (fun c_32 => ?_) (fun c_32 => ?_)
      · exact absurd c_32 (by decide)
      · refine z_ic hx hb dX3_asks_35 ?_
        refine lv_goto (tgt := 40) hx hb dX3_asks_36 (by decide) ?_
        exact z_zret (w := (wM a g 0 L att T hs tm pl (fun _ => 0))) (v := (iI ((1 : Nat) : Int))) z_nb1 hQ hx hb hr hlocks (Or.inr (Or.inr ⟨by omega, by omega, rfl, rfl⟩)) hK hP hD hS dX3_asks_40
    · refine z_ic hx hb dX3_asks_20 ?_
      refine lv_goto (tgt := 25) hx hb dX3_asks_21 (by decide) ?_
      refine va_put (D := D) (ci := 3) (v := .int (iI ((2 : Nat) : Int))) (ty := .int) (C := RX3) (T := TX3) (N := 16) hx hb hts hinX3 tyX3 tyX3_ok nmX3 hown hK hP hD hS 0 rfl rfl 0 (by decide) (hts (.fieldLink RX3 44 "LoopSchedulerModel" "thrown" "I") (List.mem_of_getElem? (i := 2) rfl)) (fun _ h9 => h9) rfl (by decide +kernel) rfl rfl (Nat.le_of_ble_eq_true rfl) dX3_asks_25 (fun H locs hP hD hS => ?_)
      have hP : va_P D vwCl (wM a g 2 L att T hs tm pl (fun _ => 0)) H := hP
      have hD : va_D A (wM a g 2 L att T hs tm pl (fun _ => 0)) := hD
      refine lv_aload_n hx hb dX3_asks_28 rfl (lv_at hl 0 rfl) ?_
      refine va_get (D := D) (ci := 3) (v := .int (iI (2))) (C := RX3) (T := TX3) (N := 16) hx hb hts hinX3 hown hK hP 0 rfl rfl 0 (by decide) (hts (.fieldLink RX3 44 "LoopSchedulerModel" "thrown" "I") (List.mem_of_getElem? (i := 2) rfl)) (fun _ h9 => h9) rfl dX3_asks_29 ?_
      refine z_ifne (a := 2) (tgt := 39) hx hb dX3_asks_32 (by decide) (by omega) (fun c_32 => ?_) (fun c_32 => ?_)
      · refine z_ic hx hb dX3_asks_39 ?_
        exact z_zret (w := (wM a g 2 L att T hs tm pl (fun _ => 0))) (v := (iI ((0 : Nat) : Int))) z_nb0 hQ hx hb hr hlocks (Or.inr (Or.inl ⟨by omega, by omega, rfl, rfl⟩)) hK hP hD hS dX3_asks_40
      · exact absurd c_32 (by decide)
  · have d_6 := of_decide_eq_false (bI_f c_6)
    refine z_ic hx hb dX3_asks_9 ?_
    refine lv_goto (tgt := 25) hx hb dX3_asks_10 (by decide) ?_
    refine va_put (D := D) (ci := 3) (v := .int (iI ((1 : Nat) : Int))) (ty := .int) (C := RX3) (T := TX3) (N := 16) hx hb hts hinX3 tyX3 tyX3_ok nmX3 hown hK hP hD hS 0 rfl rfl 0 (by decide) (hts (.fieldLink RX3 44 "LoopSchedulerModel" "thrown" "I") (List.mem_of_getElem? (i := 2) rfl)) (fun _ h9 => h9) rfl (by decide +kernel) rfl rfl (Nat.le_of_ble_eq_true rfl) dX3_asks_25 (fun H locs hP hD hS => ?_)
    have hP : va_P D vwCl (wM a g 1 L att T hs tm pl (fun _ => 0)) H := hP
    have hD : va_D A (wM a g 1 L att T hs tm pl (fun _ => 0)) := hD
    refine lv_aload_n hx hb dX3_asks_28 rfl (lv_at hl 0 rfl) ?_
    refine va_get (D := D) (ci := 3) (v := .int (iI (1))) (C := RX3) (T := TX3) (N := 16) hx hb hts hinX3 hown hK hP 0 rfl rfl 0 (by decide) (hts (.fieldLink RX3 44 "LoopSchedulerModel" "thrown" "I") (List.mem_of_getElem? (i := 2) rfl)) (fun _ h9 => h9) rfl dX3_asks_29 ?_
    refine z_ifne (a := 1) (tgt := 39) hx hb dX3_asks_32 (by decide) (by omega) (fun c_32 => ?_) (fun c_32 => ?_)
    · refine z_ic hx hb dX3_asks_39 ?_
      exact z_zret (w := (wM a g 1 L att T hs tm pl (fun _ => 0))) (v := (iI ((0 : Nat) : Int))) z_nb0 hQ hx hb hr hlocks (Or.inl ⟨by omega, rfl, rfl⟩) hK hP hD hS dX3_asks_40
    · exact absurd c_32 (by decide)

set_option maxHeartbeats 4000000 in
set_option maxRecDepth 100000 in
theorem c_X3_attempt (l : Launch) (D : va_G) (g : Nat → ClassId) (a : Nat → Nat) (th : Int) (L : LD) (att T : Nat) (hs : Nat → Int) (tm : Nat → Nat) (pl : Nat → Bool) (t : Nat) (hw : wf L) (htt : 0 < t ∧ t ≤ 200) (hz : ∀ j, Ln L ≤ j → hs j = 0) (hcv : cv L t = true) (htA0 : ∀ j, tm j ≤ 1000000) : zMi l D (zT g) yX3_attempt wsX3_attempt 4 86 (wM a g th L att T hs tm pl (fun _ => 0)) [.ref (a 0), .int (iI ((t : Nat) : Int))] (fun r w1 => ∃ tm' pl', w1 = wM a g th L att T (hF L t) tm' pl' (fun _ => 0) ∧ (∀ j, tm' j ≤ 1000000) ∧ ((r = iI 1 ∧ ∃ q, atp L t (Ln L) = some q ∧ JX L t q.1 q.2 tm') ∨ (r = iI 0 ∧ atp L t (Ln L) = none))) := by
  refine z_ofI (cc := cX3_attempt) (maxL := 3) (ret := (some .boolean)) (by decide) rfl (Nat.le_of_ble_eq_true rfl) ?_
  intro p e s m args below meth c A ls hx hb hr hts hown hlocks hml hP hK hD hS hA hl Q hQ
  have hown : s.vm.findClass RX3 = some m.cls := hown
  have hinX3 : ∀ w ∈ u_ws RX3 TX3 16, w ∈ wsX3_attempt := by decide +kernel
  have hl : lv_has ls 3 [(0, .ref (a 0)), (1, .int (iI ((t : Nat) : Int)))] := hl
  have hwn := wf_n hw
  have hgb : gB 100000 (hF L t) := fun j => by have q9 := hit_bd hw t (Ln L + 1) j; exact ⟨q9.1, by have q8 := q9.2; show hit L t (Ln L + 1) j ≤ 100000; omega⟩
  refine lv_aload_n hx hb dX3_attempt_0 rfl (lv_at hl 0 rfl) ?_
  refine lv_iload_n hx hb dX3_attempt_1 rfl (lv_at hl 1 rfl) ?_
  refine z_calli (va_runV (As := [.int (iI ((t : Nat) : Int))]) (rest := []) ⟨hx, hb, hml, hown, hts⟩ (c_X3_findHeights l D g a th L att T hs tm pl t hw (by omega) hz _) (cwV 1 hts gX3_attempt_X3_findHeights rfl rfl rfl (by decide +kernel) ⟨Nat.le_of_ble_eq_true rfl, Nat.le_of_ble_eq_true rfl⟩) (z_preV 0 hK hP hD rfl rfl) rfl rfl hl.1 rfl (lv_room (Nat.le_of_ble_eq_true rfl)) dX3_attempt_2 ⟨Nat.zero_le _, Nat.zero_le _⟩) hS hD hA (fun r w1 H locs hw1 hP hD hS => ?_)
  obtain ⟨rfl, rfl⟩ := hw1
  refine lv_pop hx hb dX3_attempt_5 rfl ?_
  refine z_ic hx hb dX3_attempt_6 ?_
  refine lv_istore_n (lv' := [(2, .int (iI ((0 : Nat) : Int))), (0, .ref (a 0)), (1, .int (iI ((t : Nat) : Int)))]) hx hb dX3_attempt_7 rfl hl (by decide) rfl (fun ls hl => ?_)
  have loop8 : ∀ (n8 : Nat) (x : Nat) (pl' : Nat → Bool) (H : Heap) (locs : List Loc) (ls : Array Slot), Ln L - x < n8 → (x ≤ Ln L) → (∀ j, j < x → pl' j = false) → va_P D vwCl (wM a g th L att T (hF L t) tm pl' (fun _ => 0)) H → va_D A (wM a g th L att T (hF L t) tm pl' (fun _ => 0)) → va_S A s.heap H locs → lv_has ls 3 [(0, .ref (a 0)), (1, .int (iI ((t : Nat) : Int))), (2, .int (iI ((x : Nat) : Int)))] → W p l e ({ frames := 4, cells := 0, slots := 0, locals := 86 } : Room) s m args below meth c H locs 0 0 Q (F0 m 8 ls []) := by
    intro n8
    induction n8 with
    | zero => exact fun _ _ H locs ls hn => absurd hn (Nat.not_lt_zero _)
    | succ n8 ih8 =>
      intro x pl' H locs ls hn8 hx2 hno hP hD hS hl
      have hwn := wf_n hw
      refine lv_iload_n hx hb dX3_attempt_8 rfl (lv_at hl 2 rfl) ?_
      refine lv_aload_n hx hb dX3_attempt_9 rfl (lv_at hl 0 rfl) ?_
      refine va_get (D := D) (ci := 3) (v := .int (iI ((Ln L : Nat) : Int))) (C := RX3) (T := TX3) (N := 16) hx hb hts hinX3 hown hK hP 0 rfl rfl 2 (by decide) (hts (.fieldLink RX3 48 "LoopSchedulerModel" "operations" "I") (List.mem_of_getElem? (i := 1) rfl)) (fun _ h9 => h9) rfl dX3_attempt_10 ?_
      refine z_icge (a := ((x : Nat) : Int)) (b := ((Ln L : Nat) : Int)) (tgt := 29) hx hb dX3_attempt_13 (by decide) (by omega) (fun c_13 => ?_) (fun c_13 => ?_)
      · obtain rfl : x = Ln L := by omega
        refine z_ic hx hb dX3_attempt_29 ?_
        refine lv_istore_n (lv' := [(2, .int (iI ((0 : Nat) : Int))), (0, .ref (a 0)), (1, .int (iI ((t : Nat) : Int)))]) hx hb dX3_attempt_30 rfl hl (by decide) rfl (fun ls hl => ?_)
        have loop31 : ∀ (n31 : Nat) (k : Nat) (tm' : Nat → Nat) (pl' : Nat → Bool) (H : Heap) (locs : List Loc) (ls : Array Slot), Ln L - k < n31 → (k ≤ Ln L) → (AX L t k tm' pl') → (∀ j, tm' j ≤ 1000000) → va_P D vwCl (wM a g th L att T (hF L t) tm' pl' (fun _ => 0)) H → va_D A (wM a g th L att T (hF L t) tm' pl' (fun _ => 0)) → va_S A s.heap H locs → lv_has ls 3 [(0, .ref (a 0)), (1, .int (iI ((t : Nat) : Int))), (2, .int (iI ((k : Nat) : Int)))] → W p l e ({ frames := 4, cells := 0, slots := 0, locals := 86 } : Room) s m args below meth c H locs 0 0 Q (F0 m 31 ls []) := by
          intro n31
          induction n31 with
          | zero => exact fun _ _ _ H locs ls hn => absurd hn (Nat.not_lt_zero _)
          | succ n31 ih31 =>
            intro k tm' pl' H locs ls hn31 hk hAX htA hP hD hS hl
            have hwn := wf_n hw
            refine lv_iload_n hx hb dX3_attempt_31 rfl (lv_at hl 2 rfl) ?_
            refine lv_aload_n hx hb dX3_attempt_32 rfl (lv_at hl 0 rfl) ?_
            refine va_get (D := D) (ci := 3) (v := .int (iI ((Ln L : Nat) : Int))) (C := RX3) (T := TX3) (N := 16) hx hb hts hinX3 hown hK hP 0 rfl rfl 2 (by decide) (hts (.fieldLink RX3 48 "LoopSchedulerModel" "operations" "I") (List.mem_of_getElem? (i := 1) rfl)) (fun _ h9 => h9) rfl dX3_attempt_33 ?_
            refine z_icge (a := ((k : Nat) : Int)) (b := ((Ln L : Nat) : Int)) (tgt := 59) hx hb dX3_attempt_36 (by decide) (by omega) (fun c_36 => ?_) (fun c_36 => ?_)
            · obtain rfl : k = Ln L := by omega
              refine z_ic hx hb dX3_attempt_59 ?_
              exact z_zret (w := (wM a g th L att T (hF L t) tm' pl' (fun _ => 0))) (v := (iI ((1 : Nat) : Int))) z_nb1 hQ hx hb hr hlocks ⟨_, _, rfl, htA, Or.inl ⟨rfl, AX_end hw htt hcv hAX⟩⟩ hK hP hD hS dX3_attempt_60
            · refine lv_aload_n hx hb dX3_attempt_39 rfl (lv_at hl 0 rfl) ?_
              refine lv_aload_n hx hb dX3_attempt_40 rfl (lv_at hl 0 rfl) ?_
              refine z_calli (va_runV (As := []) (rest := [.ref (a 0)]) ⟨hx, hb, hml, hown, hts⟩ (c_X3_next l D g a th L att T (hF L t) tm' pl' hw hgb _) (cwV 0 hts gX3_attempt_X3_next rfl rfl rfl (by decide +kernel) ⟨Nat.le_of_ble_eq_true rfl, Nat.le_of_ble_eq_true rfl⟩) (z_preV 0 hK hP hD rfl rfl) rfl rfl hl.1 rfl (lv_room (Nat.le_of_ble_eq_true rfl)) dX3_attempt_41 ⟨Nat.zero_le _, Nat.zero_le _⟩) hS hD hA (fun r w1 H locs hw1 hP hD hS => ?_)
              obtain ⟨rfl, rfl⟩ := hw1
              obtain ⟨i, hi1, hi2, hi3⟩ := AX_nx hAX (show k < Ln L by omega)
              refine z_eqI (y := (iI ((i : Nat) : Int))) (congrArg iI hi1) ?_
              refine lv_iload_n hx hb dX3_attempt_44 rfl (lv_at hl 1 rfl) ?_
              refine z_calli (va_runV (As := [.int (iI ((i : Nat) : Int)), .int (iI ((t : Nat) : Int))]) (rest := []) ⟨hx, hb, hml, hown, hts⟩ (c_X3_place l D g a th L att T (hF L t) tm' pl' i t hw (by omega) htt (fun j hj hp => by have q9 := hAX.2.2.2 j hj hp; have q8 : (11 + t) * k ≤ 211 * 14 := Nat.mul_le_mul (by omega) (by omega); omega) _) (cwV 2 hts gX3_attempt_X3_place rfl rfl rfl (by decide +kernel) ⟨Nat.le_of_ble_eq_true rfl, Nat.le_of_ble_eq_true rfl⟩) (z_preV 0 hK hP hD rfl rfl) rfl rfl hl.1 rfl (lv_room (Nat.le_of_ble_eq_true rfl)) dX3_attempt_45 ⟨Nat.zero_le _, Nat.zero_le _⟩) hS hD hA (fun r w1 H locs hw1 hP hD hS => ?_)
              obtain ⟨rfl, tm3, h3, h4, h5, rfl⟩ := hw1
              refine z_ifne (a := (bI (oM L t tm' pl' i).isSome)) (tgt := 53) hx hb dX3_attempt_48 (by decide) (bI_r _) (fun c_48 => ?_) (fun c_48 => ?_)
              · have b_48 := bI_t c_48
                have htA3 : ∀ j, tm3 j ≤ 1000000 := fun j => by by_cases e : j = i; rw [e]; have q7 := htA i; omega; rw [h3 j e]; exact htA j
                obtain ⟨x9, hx9⟩ := Option.isSome_iff_exists.mp b_48
                have hAX2 : AX L t (k + 1) tm3 (upB pl' i true) := AX_put hw htt hcv hAX (by omega) hi1 hi3 hx9 h3 (h4 x9 hx9)
                refine z_iinc (a := ((k : Nat) : Int)) (b := ((k + 1 : Nat) : Int)) (lv' := [(2, .int (iI ((k + 1 : Nat) : Int))), (0, .ref (a 0)), (1, .int (iI ((t : Nat) : Int)))]) hx hb 2 dX3_attempt_53 hl rfl rfl (by decide) rfl (fun ls hl => ?_)
                refine lv_goto (tgt := 31) hx hb dX3_attempt_56 (by decide) ?_
                exact ih31 (k + 1) tm3 (upB pl' i true) _ _ _ (by omega) (by omega) hAX2 htA3 hP hD hS (lv_sub hl [1, 2, 0] rfl)
              · have b_48 := bI_f c_48
                have htA3 : ∀ j, tm3 j ≤ 1000000 := fun j => by by_cases e : j = i; rw [e]; have q7 := htA i; omega; rw [h3 j e]; exact htA j
                have hN : oM L t tm' pl' i = none := by cases hq9 : oM L t tm' pl' i with | none => rfl | some y9 => rw [hq9] at b_48; cases b_48
                refine z_ic hx hb dX3_attempt_51 ?_
                exact z_zret (w := (wM a g th L att T (hF L t) tm3 (upB pl' i true) (fun _ => 0))) (v := (iI ((0 : Nat) : Int))) z_nb0 hQ hx hb hr hlocks ⟨_, _, rfl, htA3, Or.inr ⟨rfl, AX_no hw htt hAX (by omega) hi1 hi3 hN⟩⟩ hK hP hD hS dX3_attempt_52
        exact loop31 ((Ln L - 0) + 1) 0 tm pl' _ _ _ (Nat.lt_succ_self _) (by omega) (AX_0 hw hno) htA0 hP hD hS (lv_sub hl [1, 2, 0] rfl)
      · refine lv_aload_n hx hb dX3_attempt_16 rfl (lv_at hl 0 rfl) ?_
        refine va_get (D := D) (ci := 3) (v := .ref (a 10)) (C := RX3) (T := TX3) (N := 16) hx hb hts hinX3 hown hK hP 0 rfl rfl 14 (by decide) (hts (.fieldLink RX3 37 "LoopSchedulerModel" "isPlaced" "[Z") (List.mem_of_getElem? (i := 2) rfl)) (fun _ h9 => h9) rfl dX3_attempt_17 ?_
        refine lv_iload_n hx hb dX3_attempt_20 rfl (lv_at hl 2 rfl) ?_
        refine z_ic hx hb dX3_attempt_21 ?_
        refine z_bast (f := pl') (z := x) hx hb hK hP hD hS 10 2 rfl rfl false (by omega) (by decide) dX3_attempt_22 (fun H locs hP hD hS => ?_)
        have hP : va_P D vwCl (wM a g th L att T (hF L t) tm (upB pl' x false) (fun _ => 0)) H := hP
        have hD : va_D A (wM a g th L att T (hF L t) tm (upB pl' x false) (fun _ => 0)) := hD
        refine z_iinc (a := ((x : Nat) : Int)) (b := ((x + 1 : Nat) : Int)) (lv' := [(2, .int (iI ((x + 1 : Nat) : Int))), (0, .ref (a 0)), (1, .int (iI ((t : Nat) : Int)))]) hx hb 2 dX3_attempt_23 hl rfl rfl (by decide) rfl (fun ls hl => ?_)
        refine lv_goto (tgt := 8) hx hb dX3_attempt_26 (by decide) ?_
        exact ih8 (x + 1) (upB pl' x false) _ _ _ (by omega) (by omega) (fun j h => by by_cases e : j = x; rw [e, upB_s]; rw [upB_n _ _ e]; exact hno j (by omega)) hP hD hS (lv_sub hl [1, 2, 0] rfl)
  exact loop8 ((Ln L - 0) + 1) 0 pl _ _ _ (Nat.lt_succ_self _) (by omega) (fun j h => absurd h (Nat.not_lt_zero j)) hP hD hS (lv_sub hl [1, 2, 0] rfl)
set_option maxHeartbeats 4000000 in
set_option maxRecDepth 100000 in
theorem c_X3_schedule (l : Launch) (D : va_G) (g : Nat → ClassId) (a : Nat → Nat) (th : Int) (L : LD) (att T : Nat) (hs : Nat → Int) (tm : Nat → Nat) (pl : Nat → Bool) (gr : Int) (hw : wf L) (hz : ∀ j, Ln L ≤ j → hs j = 0) (htA0 : ∀ j, tm j ≤ 1000000) (hrgr : -2147483648 ≤ gr ∧ gr < 2147483648) : zMi l D (zT g) yX3_schedule wsX3_schedule 5 108 (wM a g th L att T hs tm pl (fun _ => 0)) [.ref (a 0), .int (iI (gr))] (fun r w1 => (¬ (1 ≤ gr ∧ gr ≤ 200) ∧ w1 = wM a g 1 L att T hs tm pl (fun _ => 0)) ∨ ((1 ≤ gr ∧ gr ≤ 200) ∧ ∃ hs' tm' pl' att' T', (∀ j, Ln L ≤ j → hs' j = 0) ∧ (∀ j, tm' j ≤ 1000000) ∧ w1 = wM a g 0 L att' T' hs' tm' pl' (fun _ => 0) ∧ ((rBz L = -1 ∧ r = iI (-1) ∧ att' = 0 ∧ T' = 0) ∨ (rBz L ≠ -1 ∧ att' = (sch L (lst L) (gr.toNat + 1 - lst L)).2 ∧ (((sch L (lst L) (gr.toNat + 1 - lst L)).1 = none ∧ r = iI (-1) ∧ T' = 0) ∨ (∃ q, (sch L (lst L) (gr.toNat + 1 - lst L)).1 = some (T', q) ∧ r = iI (T' : Int) ∧ JX L T' q.1 q.2 tm')))))) := by
  refine z_ofI (cc := cX3_schedule) (maxL := 4) (ret := (some .int)) (by decide) rfl (Nat.le_of_ble_eq_true rfl) ?_
  intro p e s m args below meth c A ls hx hb hr hts hown hlocks hml hP hK hD hS hA hl Q hQ
  have hown : s.vm.findClass RX3 = some m.cls := hown
  have hinX3 : ∀ w ∈ u_ws RX3 TX3 16, w ∈ wsX3_schedule := by decide +kernel
  have hl : lv_has ls 4 [(0, .ref (a 0)), (1, .int (iI (gr)))] := hl
  have hwn := wf_n hw
  have hLB := rLB hw
  have hrb := rLz_bd L
  have hsb := rsk_bd hw 3
  have hsp := rsk_pos L 3
  have hlst : lst L = max (rLz L).toNat (rs L) := by unfold lst; rw [hLB]
  have hrs : rs L = rsk L 3 := rfl
  refine lv_aload_n hx hb dX3_schedule_0 rfl (lv_at hl 0 rfl) ?_
  refine z_ic hx hb dX3_schedule_1 ?_
  refine va_put (D := D) (ci := 3) (v := .int (iI ((0 : Nat) : Int))) (ty := .int) (C := RX3) (T := TX3) (N := 16) hx hb hts hinX3 tyX3 tyX3_ok nmX3 hown hK hP hD hS 0 rfl rfl 0 (by decide) (hts (.fieldLink RX3 44 "LoopSchedulerModel" "thrown" "I") (List.mem_of_getElem? (i := 1) rfl)) (fun _ h9 => h9) rfl (by decide +kernel) rfl rfl (Nat.le_of_ble_eq_true rfl) dX3_schedule_2 (fun H locs hP hD hS => ?_)
  have hP : va_P D vwCl (wM a g 0 L att T hs tm pl (fun _ => 0)) H := hP
  have hD : va_D A (wM a g 0 L att T hs tm pl (fun _ => 0)) := hD
  refine lv_iload_n hx hb dX3_schedule_5 rfl (lv_at hl 1 rfl) ?_
  refine z_ic hx hb dX3_schedule_6 ?_
  refine z_sip hx hb dX3_schedule_7 (by decide) ?_
  refine z_calli (va_runS (As := [.int (iI (gr)), .int (iI ((1 : Nat) : Int)), .int (iI ((200 : Nat) : Int))]) (rest := []) ⟨hx, hb, hml, hown, hts⟩ (c_X3_isIn l D g a 0 L att T hs tm pl gr 1 200 (by omega) (by omega) (by omega) _) (va_cwS 3 hts gX3_schedule_X3_isIn rfl rfl rfl (by decide +kernel) ⟨Nat.le_of_ble_eq_true rfl, Nat.le_of_ble_eq_true rfl⟩) (z_preS hK hP hD) rfl rfl hl.1 rfl (lv_room (Nat.le_of_ble_eq_true rfl)) dX3_schedule_10 ⟨Nat.zero_le _, Nat.zero_le _⟩) hS hD hA (fun r w1 H locs hw1 hP hD hS => ?_)
  obtain ⟨rfl, rfl⟩ := hw1
  refine z_ifne (a := (bI (decide (1 ≤ gr ∧ gr ≤ 200)))) (tgt := 22) hx hb dX3_schedule_13 (by decide) (bI_r _) (fun c_13 => ?_) (fun c_13 => ?_)
  · have d_13 := of_decide_eq_true (bI_t c_13)
    obtain ⟨v, rfl⟩ : ∃ v : Nat, gr = (v : Int) := ⟨gr.toNat, by omega⟩
    refine lv_aload_n hx hb dX3_schedule_22 rfl (lv_at hl 0 rfl) ?_
    refine z_ic hx hb dX3_schedule_23 ?_
    refine va_put (D := D) (ci := 3) (v := .int (iI ((0 : Nat) : Int))) (ty := .int) (C := RX3) (T := TX3) (N := 16) hx hb hts hinX3 tyX3 tyX3_ok nmX3 hown hK hP hD hS 0 rfl rfl 12 (by decide) (hts (.fieldLink RX3 108 "LoopSchedulerModel" "attempts" "I") (List.mem_of_getElem? (i := 2) rfl)) (fun _ h9 => h9) rfl (by decide +kernel) rfl rfl (Nat.le_of_ble_eq_true rfl) dX3_schedule_24 (fun H locs hP hD hS => ?_)
    have hP : va_P D vwCl (wM a g 0 L 0 T hs tm pl (fun _ => 0)) H := hP
    have hD : va_D A (wM a g 0 L 0 T hs tm pl (fun _ => 0)) := hD
    refine lv_aload_n hx hb dX3_schedule_27 rfl (lv_at hl 0 rfl) ?_
    refine z_ic hx hb dX3_schedule_28 ?_
    refine va_put (D := D) (ci := 3) (v := .int (iI ((0 : Nat) : Int))) (ty := .int) (C := RX3) (T := TX3) (N := 16) hx hb hts hinX3 tyX3 tyX3_ok nmX3 hown hK hP hD hS 0 rfl rfl 10 (by decide) (hts (.fieldLink RX3 59 "LoopSchedulerModel" "interval" "I") (List.mem_of_getElem? (i := 3) rfl)) (fun _ h9 => h9) rfl (by decide +kernel) rfl rfl (Nat.le_of_ble_eq_true rfl) dX3_schedule_29 (fun H locs hP hD hS => ?_)
    have hP : va_P D vwCl (wM a g 0 L 0 0 hs tm pl (fun _ => 0)) H := hP
    have hD : va_D A (wM a g 0 L 0 0 hs tm pl (fun _ => 0)) := hD
    refine lv_aload_n hx hb dX3_schedule_32 rfl (lv_at hl 0 rfl) ?_
    refine z_calli (va_runV (As := []) (rest := []) ⟨hx, hb, hml, hown, hts⟩ (c_X3_byRecurrences l D g a 0 L 0 0 hs tm pl hw hz _) (cwV 0 hts gX3_schedule_X3_byRecurrences rfl rfl rfl (by decide +kernel) ⟨Nat.le_of_ble_eq_true rfl, Nat.le_of_ble_eq_true rfl⟩) (z_preV 0 hK hP hD rfl rfl) rfl rfl hl.1 rfl (lv_room (Nat.le_of_ble_eq_true rfl)) dX3_schedule_33 ⟨Nat.zero_le _, Nat.zero_le _⟩) hS hD hA (fun r w1 H locs hw1 hP hD hS => ?_)
    obtain ⟨rfl, h', hz', rfl⟩ := hw1
    refine lv_istore_n (lv' := [(2, .int (iI (rLz L))), (0, .ref (a 0)), (1, .int (iI ((v : Nat) : Int)))]) hx hb dX3_schedule_36 rfl hl (by decide) rfl (fun ls hl => ?_)
    refine lv_iload_n hx hb dX3_schedule_37 rfl (lv_at hl 0 rfl) ?_
    refine z_ic hx hb dX3_schedule_38 ?_
    refine z_icne (a := (rLz L)) (b := (-1)) (tgt := 44) hx hb dX3_schedule_39 (by decide) (by omega) (fun c_39 => ?_) (fun c_39 => ?_)
    · refine lv_iload_n hx hb dX3_schedule_44 rfl (lv_at hl 0 rfl) ?_
      refine lv_aload_n hx hb dX3_schedule_45 rfl (lv_at hl 1 rfl) ?_
      refine z_calli (va_runV (As := []) (rest := [.int (iI (rLz L))]) ⟨hx, hb, hml, hown, hts⟩ (c_X3_byResources l D g a 0 L 0 0 h' tm pl hw _) (cwV 0 hts gX3_schedule_X3_byResources rfl rfl rfl (by decide +kernel) ⟨Nat.le_of_ble_eq_true rfl, Nat.le_of_ble_eq_true rfl⟩) (z_preV 0 hK hP hD rfl rfl) rfl rfl hl.1 rfl (lv_room (Nat.le_of_ble_eq_true rfl)) dX3_schedule_46 ⟨Nat.zero_le _, Nat.zero_le _⟩) hS hD hA (fun r w1 H locs hw1 hP hD hS => ?_)
      obtain ⟨rfl, rfl⟩ := hw1
      refine z_mmax (a := (rLz L)) (b := ((rs L : Nat) : Int)) hx hb hml hl.1 hown (hts (.methodLink RX3 97 Lib.Math.max.name) (List.mem_of_getElem? (i := 4) rfl)) (hts (.static Lib.Math.max.name) (List.mem_of_getElem? (i := 5) rfl)) (hts (.initialized "java/lang/Math") (List.mem_of_getElem? (i := 6) rfl)) (hts (.code Lib.Math.max.name Lib.Math.max.code 2 (some .int)) (List.mem_of_getElem? (i := 7) rfl)) (Nat.le_of_ble_eq_true rfl) (Nat.le_of_ble_eq_true rfl) (Nat.zero_le _) (Nat.zero_le _) (by omega) dX3_schedule_49 ?_
      refine z_eqI (y := iI ((lst L : Nat) : Int)) (congrArg iI (by rw [hlst]; omega)) ?_
      refine lv_istore_n (lv' := [(3, .int (iI ((lst L : Nat) : Int))), (2, .int (iI (rLz L))), (0, .ref (a 0)), (1, .int (iI ((v : Nat) : Int)))]) hx hb dX3_schedule_52 rfl hl (by decide) rfl (fun ls hl => ?_)
      have loop53 : ∀ (n53 : Nat) (t : Nat) (q : Nat) (hs' : Nat → Int) (tm' : Nat → Nat) (pl' : Nat → Bool) (H : Heap) (locs : List Loc) (ls : Array Slot), v + 1 - t < n53 → (1 ≤ t ∧ t ≤ 255) → (lst L ≤ t) → (q ≤ t) → (∀ j, Ln L ≤ j → hs' j = 0) → (∀ j, tm' j ≤ 1000000) → (q + (sch L t (v + 1 - t)).2 = (sch L (lst L) (v + 1 - lst L)).2 ∧ (sch L t (v + 1 - t)).1 = (sch L (lst L) (v + 1 - lst L)).1) → va_P D vwCl (wM a g 0 L q 0 hs' tm' pl' (fun _ => 0)) H → va_D A (wM a g 0 L q 0 hs' tm' pl' (fun _ => 0)) → va_S A s.heap H locs → lv_has ls 4 [(0, .ref (a 0)), (1, .int (iI ((v : Nat) : Int))), (3, .int (iI ((t : Nat) : Int)))] → W p l e ({ frames := 5, cells := 0, slots := 0, locals := 108 } : Room) s m args below meth c H locs 0 0 Q (F0 m 53 ls []) := by
        intro n53
        induction n53 with
        | zero => exact fun _ _ _ _ _ H locs ls hn => absurd hn (Nat.not_lt_zero _)
        | succ n53 ih53 =>
          intro t q hs' tm' pl' H locs ls hn53 ht1 htl hq hz2 htA hsc hP hD hS hl
          refine lv_iload_n hx hb dX3_schedule_53 rfl (lv_at hl 2 rfl) ?_
          refine lv_iload_n hx hb dX3_schedule_54 rfl (lv_at hl 1 rfl) ?_
          refine z_icgt (a := ((t : Nat) : Int)) (b := ((v : Nat) : Int)) (tgt := 92) hx hb dX3_schedule_55 (by decide) (by omega) (fun c_55 => ?_) (fun c_55 => ?_)
          · have hz0 : v + 1 - t = 0 := by omega
            rw [hz0] at hsc
            refine z_ic hx hb dX3_schedule_92 ?_
            exact z_iret (w := (wM a g 0 L q 0 hs' tm' pl' (fun _ => 0))) (v := (iI (-1))) hQ hx hb hr hlocks (Or.inr ⟨by omega, _, _, _, _, _, hz2, htA, rfl, Or.inr ⟨by rw [← hLB]; omega, (Nat.add_zero q).symm.trans hsc.1, Or.inl ⟨hsc.2.symm, rfl, rfl⟩⟩⟩) hK hP hD hS dX3_schedule_93
          · have hcv : cv L t = true := rBz_cv hw (by rw [← hLB]; omega) (by rw [← hLB]; omega)
            refine lv_aload_n hx hb dX3_schedule_58 rfl (lv_at hl 0 rfl) ?_
            refine lv_dup hx hb dX3_schedule_59 rfl ?_
            refine va_get (D := D) (ci := 3) (v := .int (iI ((q : Nat) : Int))) (C := RX3) (T := TX3) (N := 16) hx hb hts hinX3 hown hK hP 0 rfl rfl 12 (by decide) (hts (.fieldLink RX3 108 "LoopSchedulerModel" "attempts" "I") (List.mem_of_getElem? (i := 2) rfl)) (fun _ h9 => h9) rfl dX3_schedule_60 ?_
            refine z_ic hx hb dX3_schedule_63 ?_
            refine z_add (a := ((q : Nat) : Int)) (b := 1) hx hb dX3_schedule_64 ?_
            refine z_eqI (y := iI ((q + 1 : Nat) : Int)) (congrArg iI (by omega)) ?_
            refine va_put (D := D) (ci := 3) (v := .int (iI ((q + 1 : Nat) : Int))) (ty := .int) (C := RX3) (T := TX3) (N := 16) hx hb hts hinX3 tyX3 tyX3_ok nmX3 hown hK hP hD hS 0 rfl rfl 12 (by decide) (hts (.fieldLink RX3 108 "LoopSchedulerModel" "attempts" "I") (List.mem_of_getElem? (i := 2) rfl)) (fun _ h9 => h9) rfl (by decide +kernel) rfl rfl (Nat.le_of_ble_eq_true rfl) dX3_schedule_65 (fun H locs hP hD hS => ?_)
            have hP : va_P D vwCl (wM a g 0 L (q + 1) 0 hs' tm' pl' (fun _ => 0)) H := hP
            have hD : va_D A (wM a g 0 L (q + 1) 0 hs' tm' pl' (fun _ => 0)) := hD
            refine lv_aload_n hx hb dX3_schedule_68 rfl (lv_at hl 0 rfl) ?_
            refine lv_iload_n hx hb dX3_schedule_69 rfl (lv_at hl 2 rfl) ?_
            refine z_calli (va_runV (As := [.int (iI ((t : Nat) : Int))]) (rest := []) ⟨hx, hb, hml, hown, hts⟩ (c_X3_attempt l D g a 0 L (q + 1) 0 hs' tm' pl' t hw ⟨by omega, by omega⟩ hz2 hcv htA _) (cwV 1 hts gX3_schedule_X3_attempt rfl rfl rfl (by decide +kernel) ⟨Nat.le_of_ble_eq_true rfl, Nat.le_of_ble_eq_true rfl⟩) (z_preV 0 hK hP hD rfl rfl) rfl rfl hl.1 rfl (lv_room (Nat.le_of_ble_eq_true rfl)) dX3_schedule_70 ⟨Nat.zero_le _, Nat.zero_le _⟩) hS hD hA (fun r w1 H locs hw1 hP hD hS => ?_)
            obtain ⟨b2, tm2, pl2, hr2, hat, htA2, rfl⟩ : ∃ (b2 : Bool) (tm2 : Nat → Nat) (pl2 : Nat → Bool), r = iI (bI b2) ∧ ((b2 = true ∧ ∃ q, atp L t (Ln L) = some q ∧ JX L t q.1 q.2 tm2) ∨ (b2 = false ∧ atp L t (Ln L) = none)) ∧ (∀ j, tm2 j ≤ 1000000) ∧ w1 = (wM a g 0 L (q + 1) 0 (hF L t) tm2 pl2 (fun _ => 0)) := by
              obtain ⟨x2, x3, h5, h6, h1 | h1⟩ := hw1
              · exact ⟨true, x2, x3, h1.1, Or.inl ⟨rfl, h1.2⟩, h6, h5⟩
              · exact ⟨false, x2, x3, h1.1, Or.inr ⟨rfl, h1.2⟩, h6, h5⟩
            subst hr2
            refine z_ifne (a := (bI b2)) (tgt := 79) hx hb dX3_schedule_73 (by decide) (bI_r _) (fun c_73 => ?_) (fun c_73 => ?_)
            · have b_73 := bI_t c_73
              have hyes : b2 = true := b_73
              have hat2 : ∃ q, atp L t (Ln L) = some q ∧ JX L t q.1 q.2 tm2 := by rcases hat with h | h; exact h.2; rw [hyes] at h; exact absurd h.1 (by decide)
              obtain ⟨q8, hq8, hJ⟩ := hat2
              have hstep : v + 1 - t = (v + 1 - (t + 1)) + 1 := by omega
              rw [hstep, sch_s hq8] at hsc
              refine lv_aload_n hx hb dX3_schedule_79 rfl (lv_at hl 0 rfl) ?_
              refine lv_iload_n hx hb dX3_schedule_80 rfl (lv_at hl 2 rfl) ?_
              refine va_put (D := D) (ci := 3) (v := .int (iI ((t : Nat) : Int))) (ty := .int) (C := RX3) (T := TX3) (N := 16) hx hb hts hinX3 tyX3 tyX3_ok nmX3 hown hK hP hD hS 0 rfl rfl 10 (by decide) (hts (.fieldLink RX3 59 "LoopSchedulerModel" "interval" "I") (List.mem_of_getElem? (i := 3) rfl)) (fun _ h9 => h9) rfl (by decide +kernel) rfl rfl (Nat.le_of_ble_eq_true rfl) dX3_schedule_81 (fun H locs hP hD hS => ?_)
              have hP : va_P D vwCl (wM a g 0 L (q + 1) t (hF L t) tm2 pl2 (fun _ => 0)) H := hP
              have hD : va_D A (wM a g 0 L (q + 1) t (hF L t) tm2 pl2 (fun _ => 0)) := hD
              refine lv_iload_n hx hb dX3_schedule_84 rfl (lv_at hl 2 rfl) ?_
              exact z_iret (w := (wM a g 0 L (q + 1) t (hF L t) tm2 pl2 (fun _ => 0))) (v := (iI ((t : Nat) : Int))) hQ hx hb hr hlocks (Or.inr ⟨by omega, _, _, _, _, _, hF_z hw t, htA2, rfl, Or.inr ⟨by rw [← hLB]; omega, hsc.1, Or.inr ⟨q8, hsc.2.symm, rfl, hJ⟩⟩⟩) hK hP hD hS dX3_schedule_85
            · have b_73 := bI_f c_73
              refine lv_goto (tgt := 86) hx hb dX3_schedule_76 (by decide) ?_
              refine z_iinc (a := ((t : Nat) : Int)) (b := ((t + 1 : Nat) : Int)) (lv' := [(3, .int (iI ((t + 1 : Nat) : Int))), (0, .ref (a 0)), (1, .int (iI ((v : Nat) : Int)))]) hx hb 2 dX3_schedule_86 hl rfl rfl (by decide) rfl (fun ls hl => ?_)
              refine lv_goto (tgt := 53) hx hb dX3_schedule_89 (by decide) ?_
              have hno : b2 = false := b_73
              have hat2 : atp L t (Ln L) = none := by rcases hat with h | h; rw [hno] at h; exact absurd h.1 (by decide); exact h.2
              have hstep : v + 1 - t = (v + 1 - (t + 1)) + 1 := by omega
              rw [hstep, sch_n hat2] at hsc
              exact ih53 (t + 1) (q + 1) (hF L t) tm2 pl2 _ _ _ (by omega) (by omega) (by omega) (by omega) (hF_z hw t) htA2 (by have h1 := hsc.1; have h2 := hsc.2; exact ⟨by dsimp only at h1; omega, h2⟩) hP hD hS (lv_sub hl [1, 2, 0] rfl)
      exact loop53 ((v + 1 - (lst L)) + 1) (lst L) 0 h' tm pl _ _ _ (Nat.lt_succ_self _) (by omega) (by omega) (by omega) hz' htA0 ⟨Nat.zero_add _, rfl⟩ hP hD hS (lv_sub hl [2, 3, 0] rfl)
    · refine z_ic hx hb dX3_schedule_42 ?_
      exact z_iret (w := (wM a g 0 L 0 0 h' tm pl (fun _ => 0))) (v := (iI (-1))) hQ hx hb hr hlocks (Or.inr ⟨by omega, _, _, _, _, _, hz', htA0, rfl, Or.inl ⟨by rw [← hLB]; omega, rfl, rfl, rfl⟩⟩) hK hP hD hS dX3_schedule_43
  · have d_13 := of_decide_eq_false (bI_f c_13)
    refine lv_aload_n hx hb dX3_schedule_16 rfl (lv_at hl 0 rfl) ?_
    refine z_ic hx hb dX3_schedule_17 ?_
    refine z_calli (va_runV (As := [.int (iI ((1 : Nat) : Int))]) (rest := []) ⟨hx, hb, hml, hown, hts⟩ (c_X3_no l D g a 0 L att T hs tm pl 1 _) (cwV 1 hts gX3_schedule_X3_no rfl rfl rfl (by decide +kernel) ⟨Nat.le_of_ble_eq_true rfl, Nat.le_of_ble_eq_true rfl⟩) (z_preV 0 hK hP hD rfl rfl) rfl rfl hl.1 rfl (lv_room (Nat.le_of_ble_eq_true rfl)) dX3_schedule_18 ⟨Nat.zero_le _, Nat.zero_le _⟩) hS hD hA (fun r w1 H locs hw1 hP hD hS => ?_)
    obtain ⟨rfl, rfl⟩ := hw1
    exact z_iret (w := (wM a g 1 L att T hs tm pl (fun _ => 0))) (v := (iI ((0 : Nat) : Int))) hQ hx hb hr hlocks (Or.inl ⟨by omega, rfl⟩) hK hP hD hS dX3_schedule_21

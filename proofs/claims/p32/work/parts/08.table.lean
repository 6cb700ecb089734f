set_option maxHeartbeats 4000000 in
set_option maxRecDepth 100000 in
theorem c_X1_drop (l : Launch) (D : va_G) (g : Nat → ClassId) (a : Nat → Nat) (L : LD) (att T : Nat) (hs tm : Nat → Int) (tk : Nat → Nat → Int) (lt : Nat → Int)  : zMv l D (zT g) yX1_drop wsX1_drop 1 12 (wX a g L att T hs tm tk lt) [.ref (a 2)] (fun w1 => w1 = wX a g L att 0 hs tm tk lt) := by
  refine z_ofV (cc := cX1_drop) (maxL := 1) (ret := none) (by decide) rfl (Nat.le_of_ble_eq_true rfl) ?_
  intro p e s m args below meth c A ls hx hb hr hts hown hlocks hml hP hK hD hS hA hl Q hQ
  have hown : s.vm.findClass RX1 = some m.cls := hown
  have hinX1 : ∀ w ∈ u_ws RX1 TX1 5, w ∈ wsX1_drop := by decide +kernel
  have hl : lv_has ls 1 [(0, .ref (a 2))] := hl
  refine lv_aload_n hx hb dX1_drop_0 rfl (lv_at hl 0 rfl) ?_
  refine z_ic hx hb dX1_drop_1 ?_
  refine va_put (D := D) (ci := 1) (v := .int (iI ((0 : Nat) : Int))) (ty := .int) (C := RX1) (T := TX1) (N := 5) hx hb hts hinX1 tyX1 tyX1_ok nmX1 hown hK hP hD hS 2 rfl rfl 4 (by decide) (hts (.fieldLink RX1 27 "LoopScheduler$Timetable" "interval" "I") (List.mem_of_getElem? (i := 1) rfl)) (fun _ h9 => h9) rfl (by decide +kernel) rfl rfl (Nat.le_of_ble_eq_true rfl) dX1_drop_2 (fun H locs hP hD hS => ?_)
  have hP : va_P D vwCl (wX a g L att 0 hs tm tk lt) H := hP
  have hD : va_D A (wX a g L att 0 hs tm tk lt) := hD
  exact z_vret (w := (wX a g L att 0 hs tm tk lt)) hQ hx hb hr hlocks rfl hK hP hD hS dX1_drop_5
set_option maxHeartbeats 4000000 in
set_option maxRecDepth 100000 in
theorem c_X1_earliestAllowed (l : Launch) (D : va_G) (g : Nat → ClassId) (a : Nat → Nat) (L : LD) (att T : Nat) (hs tm : Nat → Int) (tk : Nat → Nat → Int) (lt : Nat → Int) (B : Int) (op : Nat) (hw : wf L) (hT : 0 < T ∧ T ≤ 200) (hB : 0 ≤ B ∧ B ≤ 1000000) (ht : tB B tm) (hop : op < 14) : zMi l D (zT g) yX1_earliestAllowed wsX1_earliestAllowed 1 13 (wX a g L att T hs tm tk lt) [.ref (a 2), .int (iI ((op : Nat) : Int))] (fun r w1 => r = iI (eA L T tm op (Lm L)) ∧ w1 = wX a g L att T hs tm tk lt) := by
  refine z_ofI (cc := cX1_earliestAllowed) (maxL := 5) (ret := (some .int)) (by decide) rfl (Nat.le_of_ble_eq_true rfl) ?_
  intro p e s m args below meth c A ls hx hb hr hts hown hlocks hml hP hK hD hS hA hl Q hQ
  have hown : s.vm.findClass RX1 = some m.cls := hown
  have hinX0 : ∀ w ∈ u_ws RX0 TX0 10, w ∈ wsX1_earliestAllowed := by decide +kernel
  have hinX1 : ∀ w ∈ u_ws RX1 TX1 5, w ∈ wsX1_earliestAllowed := by decide +kernel
  have hl : lv_has ls 5 [(0, .ref (a 2)), (1, .int (iI ((op : Nat) : Int)))] := hl
  refine z_ic hx hb dX1_earliestAllowed_0 ?_
  refine lv_istore_n (lv' := [(2, .int (iI ((0 : Nat) : Int))), (0, .ref (a 2)), (1, .int (iI ((op : Nat) : Int)))]) hx hb dX1_earliestAllowed_1 rfl hl (by decide) rfl (fun ls hl => ?_)
  refine z_ic hx hb dX1_earliestAllowed_2 ?_
  refine lv_istore_n (lv' := [(3, .int (iI ((0 : Nat) : Int))), (2, .int (iI ((0 : Nat) : Int))), (0, .ref (a 2)), (1, .int (iI ((op : Nat) : Int)))]) hx hb dX1_earliestAllowed_3 rfl hl (by decide) rfl (fun ls hl => ?_)
  have loop4 : ∀ (n4 : Nat) (k : Nat) (H : Heap) (locs : List Loc) (ls : Array Slot), Lm L - k < n4 → (k ≤ Lm L) → va_P D vwCl (wX a g L att T hs tm tk lt) H → va_D A (wX a g L att T hs tm tk lt) → va_S A s.heap H locs → lv_has ls 5 [(0, .ref (a 2)), (1, .int (iI ((op : Nat) : Int))), (2, .int (iI (eA L T tm op k))), (3, .int (iI ((k : Nat) : Int)))] → W p l e ({ frames := 1, cells := 0, slots := 0, locals := 13 } : Room) s m args below meth c H locs 0 0 Q (F0 m 4 ls []) := by
    intro n4
    induction n4 with
    | zero => exact fun _ H locs ls hn => absurd hn (Nat.not_lt_zero _)
    | succ n4 ih4 =>
      intro k H locs ls hn4 hk hP hD hS hl
      have hwm := wf_m hw
      have hm1 := mul_nn T (Ldi L k)
      have hm2 := mul_bd hT.2 (wf_di hw k)
      have hdl := wf_dl hw k
      have hsd := wf_sd hw k
      have hb1 := eA_bd hw (T := T) ht hB.1 op k
      have hb2 := ht (Lsr L k)
      have hb3 := ht (Lds L k)
      refine lv_iload_n hx hb dX1_earliestAllowed_4 rfl (lv_at hl 3 rfl) ?_
      refine lv_aload_n hx hb dX1_earliestAllowed_5 rfl (lv_at hl 0 rfl) ?_
      refine va_get (D := D) (ci := 1) (v := .ref (a 1)) (C := RX1) (T := TX1) (N := 5) hx hb hts hinX1 hown hK hP 2 rfl rfl 0 (by decide) (hts (.fieldLink RX1 23 "LoopScheduler$Timetable" "loop" "LLoopScheduler$Loop;") (List.mem_of_getElem? (i := 1) rfl)) (fun _ h9 => h9) rfl dX1_earliestAllowed_6 ?_
      refine va_get (D := D) (ci := 0) (v := .int (iI ((Lm L : Nat) : Int))) (C := RX0) (T := TX0) (N := 10) hx hb hts hinX0 hown hK hP 1 rfl rfl 9 (by decide) (hts (.fieldLink RX1 75 "LoopScheduler$Loop" "dependences" "I") (List.mem_of_getElem? (i := 2) rfl)) (fun _ h9 => h9) rfl dX1_earliestAllowed_9 ?_
      refine z_icge (a := ((k : Nat) : Int)) (b := ((Lm L : Nat) : Int)) (tgt := 93) hx hb dX1_earliestAllowed_12 (by decide) (by omega) (fun c_12 => ?_) (fun c_12 => ?_)
      · obtain rfl : k = Lm L := by omega
        refine lv_iload_n hx hb dX1_earliestAllowed_93 rfl (lv_at hl 2 rfl) ?_
        exact z_iret (w := (wX a g L att T hs tm tk lt)) (v := (iI (eA L T tm op (Lm L)))) hQ hx hb hr hlocks ⟨rfl, rfl⟩ hK hP hD hS dX1_earliestAllowed_94
      · refine lv_aload_n hx hb dX1_earliestAllowed_15 rfl (lv_at hl 0 rfl) ?_
        refine va_get (D := D) (ci := 1) (v := .ref (a 1)) (C := RX1) (T := TX1) (N := 5) hx hb hts hinX1 hown hK hP 2 rfl rfl 0 (by decide) (hts (.fieldLink RX1 23 "LoopScheduler$Timetable" "loop" "LLoopScheduler$Loop;") (List.mem_of_getElem? (i := 1) rfl)) (fun _ h9 => h9) rfl dX1_earliestAllowed_16 ?_
        refine va_get (D := D) (ci := 0) (v := .ref (a 6)) (C := RX0) (T := TX0) (N := 10) hx hb hts hinX0 hown hK hP 1 rfl rfl 3 (by decide) (hts (.fieldLink RX1 78 "LoopScheduler$Loop" "sources" "[I") (List.mem_of_getElem? (i := 3) rfl)) (fun _ h9 => h9) rfl dX1_earliestAllowed_19 ?_
        refine lv_iload_n hx hb dX1_earliestAllowed_22 rfl (lv_at hl 3 rfl) ?_
        refine z_ialdZ (f := Lsr L) (z := k) hx hb hK hP 6 0 rfl rfl (by omega) (by decide) dX1_earliestAllowed_23 ?_
        refine lv_istore (lv' := [(4, .int (iI ((Lsr L k : Nat) : Int))), (0, .ref (a 2)), (1, .int (iI ((op : Nat) : Int))), (2, .int (iI (eA L T tm op k))), (3, .int (iI ((k : Nat) : Int)))]) hx hb dX1_earliestAllowed_24 hl (by decide) rfl (fun ls hl => ?_)
        refine lv_aload_n hx hb dX1_earliestAllowed_26 rfl (lv_at hl 1 rfl) ?_
        refine va_get (D := D) (ci := 1) (v := .ref (a 1)) (C := RX1) (T := TX1) (N := 5) hx hb hts hinX1 hown hK hP 2 rfl rfl 0 (by decide) (hts (.fieldLink RX1 23 "LoopScheduler$Timetable" "loop" "LLoopScheduler$Loop;") (List.mem_of_getElem? (i := 1) rfl)) (fun _ h9 => h9) rfl dX1_earliestAllowed_27 ?_
        refine va_get (D := D) (ci := 0) (v := .ref (a 7)) (C := RX0) (T := TX0) (N := 10) hx hb hts hinX0 hown hK hP 1 rfl rfl 4 (by decide) (hts (.fieldLink RX1 81 "LoopScheduler$Loop" "targets" "[I") (List.mem_of_getElem? (i := 4) rfl)) (fun _ h9 => h9) rfl dX1_earliestAllowed_30 ?_
        refine lv_iload_n hx hb dX1_earliestAllowed_33 rfl (lv_at hl 4 rfl) ?_
        refine z_ialdZ (f := Lds L) (z := k) hx hb hK hP 7 0 rfl rfl (by omega) (by decide) dX1_earliestAllowed_34 ?_
        refine lv_iload_n hx hb dX1_earliestAllowed_35 rfl (lv_at hl 2 rfl) ?_
        refine z_icne (a := ((Lds L k : Nat) : Int)) (b := ((op : Nat) : Int)) (tgt := 87) hx hb dX1_earliestAllowed_36 (by decide) (by omega) (fun c_36 => ?_) (fun c_36 => ?_)
        · refine z_iinc (a := ((k : Nat) : Int)) (b := ((k + 1 : Nat) : Int)) (lv' := [(3, .int (iI ((k + 1 : Nat) : Int))), (4, .int (iI ((Lsr L k : Nat) : Int))), (0, .ref (a 2)), (1, .int (iI ((op : Nat) : Int))), (2, .int (iI (eA L T tm op k)))]) hx hb 4 dX1_earliestAllowed_87 hl rfl rfl (by decide) rfl (fun ls hl => ?_)
          refine lv_goto (tgt := 4) hx hb dX1_earliestAllowed_90 (by decide) ?_
          exact ih4 (k + 1) _ _ _ (by omega) (by omega) hP hD hS (by rw [show eA L T tm op (k + 1) = _ from eA_f (fun q => c_36 (by rw [q.1]))]; exact lv_sub hl [2, 3, 4, 0] rfl)
        · refine lv_aload_n hx hb dX1_earliestAllowed_39 rfl (lv_at hl 1 rfl) ?_
          refine va_get (D := D) (ci := 1) (v := .ref (a 11)) (C := RX1) (T := TX1) (N := 5) hx hb hts hinX1 hown hK hP 2 rfl rfl 1 (by decide) (hts (.fieldLink RX1 9 "LoopScheduler$Timetable" "times" "[I") (List.mem_of_getElem? (i := 5) rfl)) (fun _ h9 => h9) rfl dX1_earliestAllowed_40 ?_
          refine lv_iload hx hb dX1_earliestAllowed_43 (lv_at hl 0 rfl) ?_
          refine z_ialdN (f := tm) (z := Lsr L k) hx hb hK hP 11 0 rfl rfl (by omega) (by decide) dX1_earliestAllowed_45 ?_
          refine z_ic hx hb dX1_earliestAllowed_46 ?_
          refine z_iceq (a := (tm (Lsr L k))) (b := (-1)) (tgt := 87) hx hb dX1_earliestAllowed_47 (by decide) (by omega) (fun c_47 => ?_) (fun c_47 => ?_)
          · refine z_iinc (a := ((k : Nat) : Int)) (b := ((k + 1 : Nat) : Int)) (lv' := [(3, .int (iI ((k + 1 : Nat) : Int))), (4, .int (iI ((Lsr L k : Nat) : Int))), (0, .ref (a 2)), (1, .int (iI ((op : Nat) : Int))), (2, .int (iI (eA L T tm op k)))]) hx hb 4 dX1_earliestAllowed_87 hl rfl rfl (by decide) rfl (fun ls hl => ?_)
            refine lv_goto (tgt := 4) hx hb dX1_earliestAllowed_90 (by decide) ?_
            exact ih4 (k + 1) _ _ _ (by omega) (by omega) hP hD hS (by rw [show eA L T tm op (k + 1) = _ from eA_f (fun q => q.2 c_47)]; exact lv_sub hl [2, 3, 4, 0] rfl)
          · refine lv_iload_n hx hb dX1_earliestAllowed_50 rfl (lv_at hl 3 rfl) ?_
            refine lv_aload_n hx hb dX1_earliestAllowed_51 rfl (lv_at hl 1 rfl) ?_
            refine va_get (D := D) (ci := 1) (v := .ref (a 11)) (C := RX1) (T := TX1) (N := 5) hx hb hts hinX1 hown hK hP 2 rfl rfl 1 (by decide) (hts (.fieldLink RX1 9 "LoopScheduler$Timetable" "times" "[I") (List.mem_of_getElem? (i := 5) rfl)) (fun _ h9 => h9) rfl dX1_earliestAllowed_52 ?_
            refine lv_iload hx hb dX1_earliestAllowed_55 (lv_at hl 0 rfl) ?_
            refine z_ialdN (f := tm) (z := Lsr L k) hx hb hK hP 11 0 rfl rfl (by omega) (by decide) dX1_earliestAllowed_57 ?_
            refine lv_aload_n hx hb dX1_earliestAllowed_58 rfl (lv_at hl 1 rfl) ?_
            refine va_get (D := D) (ci := 1) (v := .ref (a 1)) (C := RX1) (T := TX1) (N := 5) hx hb hts hinX1 hown hK hP 2 rfl rfl 0 (by decide) (hts (.fieldLink RX1 23 "LoopScheduler$Timetable" "loop" "LLoopScheduler$Loop;") (List.mem_of_getElem? (i := 1) rfl)) (fun _ h9 => h9) rfl dX1_earliestAllowed_59 ?_
            refine va_get (D := D) (ci := 0) (v := .ref (a 8)) (C := RX0) (T := TX0) (N := 10) hx hb hts hinX0 hown hK hP 1 rfl rfl 5 (by decide) (hts (.fieldLink RX1 84 "LoopScheduler$Loop" "delays" "[I") (List.mem_of_getElem? (i := 6) rfl)) (fun _ h9 => h9) rfl dX1_earliestAllowed_62 ?_
            refine lv_iload_n hx hb dX1_earliestAllowed_65 rfl (lv_at hl 4 rfl) ?_
            refine z_ialdZ (f := Ldl L) (z := k) hx hb hK hP 8 0 rfl rfl (by omega) (by decide) dX1_earliestAllowed_66 ?_
            refine z_add (a := (tm (Lsr L k))) (b := ((Ldl L k : Nat) : Int)) hx hb dX1_earliestAllowed_67 ?_
            refine lv_aload_n hx hb dX1_earliestAllowed_68 rfl (lv_at hl 1 rfl) ?_
            refine va_get (D := D) (ci := 1) (v := .int (iI ((T : Nat) : Int))) (C := RX1) (T := TX1) (N := 5) hx hb hts hinX1 hown hK hP 2 rfl rfl 4 (by decide) (hts (.fieldLink RX1 27 "LoopScheduler$Timetable" "interval" "I") (List.mem_of_getElem? (i := 7) rfl)) (fun _ h9 => h9) rfl dX1_earliestAllowed_69 ?_
            refine lv_aload_n hx hb dX1_earliestAllowed_72 rfl (lv_at hl 1 rfl) ?_
            refine va_get (D := D) (ci := 1) (v := .ref (a 1)) (C := RX1) (T := TX1) (N := 5) hx hb hts hinX1 hown hK hP 2 rfl rfl 0 (by decide) (hts (.fieldLink RX1 23 "LoopScheduler$Timetable" "loop" "LLoopScheduler$Loop;") (List.mem_of_getElem? (i := 1) rfl)) (fun _ h9 => h9) rfl dX1_earliestAllowed_73 ?_
            refine va_get (D := D) (ci := 0) (v := .ref (a 9)) (C := RX0) (T := TX0) (N := 10) hx hb hts hinX0 hown hK hP 1 rfl rfl 6 (by decide) (hts (.fieldLink RX1 87 "LoopScheduler$Loop" "distances" "[I") (List.mem_of_getElem? (i := 8) rfl)) (fun _ h9 => h9) rfl dX1_earliestAllowed_76 ?_
            refine lv_iload_n hx hb dX1_earliestAllowed_79 rfl (lv_at hl 4 rfl) ?_
            refine z_ialdZ (f := Ldi L) (z := k) hx hb hK hP 9 0 rfl rfl (by omega) (by decide) dX1_earliestAllowed_80 ?_
            refine z_mul (a := ((T : Nat) : Int)) (b := ((Ldi L k : Nat) : Int)) hx hb dX1_earliestAllowed_81 ?_
            refine z_sub (a := ((tm (Lsr L k)) + ((Ldl L k : Nat) : Int))) (b := (((T : Nat) : Int) * ((Ldi L k : Nat) : Int))) hx hb dX1_earliestAllowed_82 ?_
            refine z_mmax (a := (eA L T tm op k)) (b := (((tm (Lsr L k)) + ((Ldl L k : Nat) : Int)) - (((T : Nat) : Int) * ((Ldi L k : Nat) : Int)))) hx hb hml hl.1 hown (hts (.methodLink RX1 90 Lib.Math.max.name) (List.mem_of_getElem? (i := 9) rfl)) (hts (.static Lib.Math.max.name) (List.mem_of_getElem? (i := 10) rfl)) (hts (.initialized "java/lang/Math") (List.mem_of_getElem? (i := 11) rfl)) (hts (.code Lib.Math.max.name Lib.Math.max.code 2 (some .int)) (List.mem_of_getElem? (i := 12) rfl)) (Nat.le_of_ble_eq_true rfl) (Nat.le_of_ble_eq_true rfl) (Nat.zero_le _) (Nat.zero_le _) (by omega) dX1_earliestAllowed_83 ?_
            refine lv_istore_n (lv' := [(2, .int (iI (max (eA L T tm op k) (((tm (Lsr L k)) + ((Ldl L k : Nat) : Int)) - (((T : Nat) : Int) * ((Ldi L k : Nat) : Int)))))), (4, .int (iI ((Lsr L k : Nat) : Int))), (0, .ref (a 2)), (1, .int (iI ((op : Nat) : Int))), (3, .int (iI ((k : Nat) : Int)))]) hx hb dX1_earliestAllowed_86 rfl hl (by decide) rfl (fun ls hl => ?_)
            refine z_iinc (a := ((k : Nat) : Int)) (b := ((k + 1 : Nat) : Int)) (lv' := [(3, .int (iI ((k + 1 : Nat) : Int))), (2, .int (iI (max (eA L T tm op k) (((tm (Lsr L k)) + ((Ldl L k : Nat) : Int)) - (((T : Nat) : Int) * ((Ldi L k : Nat) : Int)))))), (4, .int (iI ((Lsr L k : Nat) : Int))), (0, .ref (a 2)), (1, .int (iI ((op : Nat) : Int)))]) hx hb 4 dX1_earliestAllowed_87 hl rfl rfl (by decide) rfl (fun ls hl => ?_)
            refine lv_goto (tgt := 4) hx hb dX1_earliestAllowed_90 (by decide) ?_
            exact ih4 (k + 1) _ _ _ (by omega) (by omega) hP hD hS (by rw [show eA L T tm op (k + 1) = _ from eA_t (show Lds L k = op by omega) c_47]; exact lv_sub hl [3, 4, 1, 0] rfl)
  exact loop4 ((Lm L - 0) + 1) 0 _ _ _ (Nat.lt_succ_self _) (by omega) hP hD hS (lv_sub hl [2, 3, 1, 0] rfl)
def lB (L : LD) (T : Nat) (tm : Nat → Int) (op : Nat) (lim : Int) (k : Nat) : Int := min (lA L T tm op k) lim
theorem lB_0 {L : LD} {T : Nat} {tm : Nat → Int} {op : Nat} {lim : Int} (h : lim ≤ 2147483647) : lB L T tm op lim 0 = lim := by
  show min (2147483647 : Int) lim = lim
  omega
theorem lB_t {L : LD} {T : Nat} {tm : Nat → Int} {op k : Nat} {lim : Int} (h1 : Lsr L k = op) (h2 : tm (Lds L k) ≠ -1) : lB L T tm op lim (k + 1) = min (lB L T tm op lim k) (tm (Lds L k) - (Ldl L k : Int) + (T : Int) * (Ldi L k : Int)) := by
  unfold lB
  rw [lA_t h1 h2]
  omega
theorem lB_f {L : LD} {T : Nat} {tm : Nat → Int} {op k : Nat} {lim : Int} (h : ¬ (Lsr L k = op ∧ tm (Lds L k) ≠ -1)) : lB L T tm op lim (k + 1) = lB L T tm op lim k := by
  unfold lB
  rw [lA_f h]
theorem lB_bd {L : LD} (hw : wf L) {T : Nat} {B : Int} {tm : Nat → Int} (ht : tB B tm) (op k : Nat) {lim : Int} (hl : -13 ≤ lim ∧ lim ≤ 2147483647) : -13 ≤ lB L T tm op lim k ∧ lB L T tm op lim k ≤ 2147483647 := by
  have h := lA_bd hw (T := T) ht op k
  unfold lB
  omega
set_option maxHeartbeats 4000000 in
set_option maxRecDepth 100000 in
theorem c_X1_latestAllowed (l : Launch) (D : va_G) (g : Nat → ClassId) (a : Nat → Nat) (L : LD) (att T : Nat) (hs tm : Nat → Int) (tk : Nat → Nat → Int) (lt : Nat → Int) (B : Int) (op : Nat) (lim : Int) (hw : wf L) (hT : 0 < T ∧ T ≤ 200) (hB : 0 ≤ B ∧ B ≤ 1000000) (ht : tB B tm) (hop : op < 14) (hlim : -13 ≤ lim ∧ lim ≤ 2147483647) : zMi l D (zT g) yX1_latestAllowed wsX1_latestAllowed 1 13 (wX a g L att T hs tm tk lt) [.ref (a 2), .int (iI ((op : Nat) : Int)), .int (iI (lim))] (fun r w1 => r = iI (lB L T tm op lim (Lm L)) ∧ w1 = wX a g L att T hs tm tk lt) := by
  refine z_ofI (cc := cX1_latestAllowed) (maxL := 6) (ret := (some .int)) (by decide) rfl (Nat.le_of_ble_eq_true rfl) ?_
  intro p e s m args below meth c A ls hx hb hr hts hown hlocks hml hP hK hD hS hA hl Q hQ
  have hown : s.vm.findClass RX1 = some m.cls := hown
  have hinX0 : ∀ w ∈ u_ws RX0 TX0 10, w ∈ wsX1_latestAllowed := by decide +kernel
  have hinX1 : ∀ w ∈ u_ws RX1 TX1 5, w ∈ wsX1_latestAllowed := by decide +kernel
  have hl : lv_has ls 6 [(0, .ref (a 2)), (1, .int (iI ((op : Nat) : Int))), (2, .int (iI (lim)))] := hl
  refine lv_iload_n hx hb dX1_latestAllowed_0 rfl (lv_at hl 2 rfl) ?_
  refine lv_istore_n (lv' := [(3, .int (iI (lim))), (0, .ref (a 2)), (1, .int (iI ((op : Nat) : Int))), (2, .int (iI (lim)))]) hx hb dX1_latestAllowed_1 rfl hl (by decide) rfl (fun ls hl => ?_)
  have hl : lv_has ls 6 [(3, .int (iI (lB L T tm op lim 0))), (0, .ref (a 2)), (1, .int (iI ((op : Nat) : Int))), (2, .int (iI (lim)))] := by rw [show ((lB L T tm op lim 0) : Int) = lim from lB_0 hlim.2]; exact hl
  refine z_ic hx hb dX1_latestAllowed_2 ?_
  refine lv_istore (lv' := [(4, .int (iI ((0 : Nat) : Int))), (3, .int (iI (lB L T tm op lim 0))), (0, .ref (a 2)), (1, .int (iI ((op : Nat) : Int))), (2, .int (iI (lim)))]) hx hb dX1_latestAllowed_3 hl (by decide) rfl (fun ls hl => ?_)
  have loop5 : ∀ (n5 : Nat) (k : Nat) (H : Heap) (locs : List Loc) (ls : Array Slot), Lm L - k < n5 → (k ≤ Lm L) → va_P D vwCl (wX a g L att T hs tm tk lt) H → va_D A (wX a g L att T hs tm tk lt) → va_S A s.heap H locs → lv_has ls 6 [(0, .ref (a 2)), (1, .int (iI ((op : Nat) : Int))), (3, .int (iI (lB L T tm op lim k))), (4, .int (iI ((k : Nat) : Int)))] → W p l e ({ frames := 1, cells := 0, slots := 0, locals := 13 } : Room) s m args below meth c H locs 0 0 Q (F0 m 5 ls []) := by
    intro n5
    induction n5 with
    | zero => exact fun _ H locs ls hn => absurd hn (Nat.not_lt_zero _)
    | succ n5 ih5 =>
      intro k H locs ls hn5 hk hP hD hS hl
      have hwm := wf_m hw
      have hm1 := mul_nn T (Ldi L k)
      have hm2 := mul_bd hT.2 (wf_di hw k)
      have hdl := wf_dl hw k
      have hsd := wf_sd hw k
      have hb1 := lB_bd hw (T := T) ht op k hlim
      have hb2 := ht (Lsr L k)
      have hb3 := ht (Lds L k)
      refine lv_iload hx hb dX1_latestAllowed_5 (lv_at hl 3 rfl) ?_
      refine lv_aload_n hx hb dX1_latestAllowed_7 rfl (lv_at hl 0 rfl) ?_
      refine va_get (D := D) (ci := 1) (v := .ref (a 1)) (C := RX1) (T := TX1) (N := 5) hx hb hts hinX1 hown hK hP 2 rfl rfl 0 (by decide) (hts (.fieldLink RX1 23 "LoopScheduler$Timetable" "loop" "LLoopScheduler$Loop;") (List.mem_of_getElem? (i := 1) rfl)) (fun _ h9 => h9) rfl dX1_latestAllowed_8 ?_
      refine va_get (D := D) (ci := 0) (v := .int (iI ((Lm L : Nat) : Int))) (C := RX0) (T := TX0) (N := 10) hx hb hts hinX0 hown hK hP 1 rfl rfl 9 (by decide) (hts (.fieldLink RX1 75 "LoopScheduler$Loop" "dependences" "I") (List.mem_of_getElem? (i := 2) rfl)) (fun _ h9 => h9) rfl dX1_latestAllowed_11 ?_
      refine z_icge (a := ((k : Nat) : Int)) (b := ((Lm L : Nat) : Int)) (tgt := 99) hx hb dX1_latestAllowed_14 (by decide) (by omega) (fun c_14 => ?_) (fun c_14 => ?_)
      · obtain rfl : k = Lm L := by omega
        refine lv_iload_n hx hb dX1_latestAllowed_99 rfl (lv_at hl 2 rfl) ?_
        exact z_iret (w := (wX a g L att T hs tm tk lt)) (v := (iI (lB L T tm op lim (Lm L)))) hQ hx hb hr hlocks ⟨rfl, rfl⟩ hK hP hD hS dX1_latestAllowed_100
      · refine lv_aload_n hx hb dX1_latestAllowed_17 rfl (lv_at hl 0 rfl) ?_
        refine va_get (D := D) (ci := 1) (v := .ref (a 1)) (C := RX1) (T := TX1) (N := 5) hx hb hts hinX1 hown hK hP 2 rfl rfl 0 (by decide) (hts (.fieldLink RX1 23 "LoopScheduler$Timetable" "loop" "LLoopScheduler$Loop;") (List.mem_of_getElem? (i := 1) rfl)) (fun _ h9 => h9) rfl dX1_latestAllowed_18 ?_
        refine va_get (D := D) (ci := 0) (v := .ref (a 7)) (C := RX0) (T := TX0) (N := 10) hx hb hts hinX0 hown hK hP 1 rfl rfl 4 (by decide) (hts (.fieldLink RX1 81 "LoopScheduler$Loop" "targets" "[I") (List.mem_of_getElem? (i := 3) rfl)) (fun _ h9 => h9) rfl dX1_latestAllowed_21 ?_
        refine lv_iload hx hb dX1_latestAllowed_24 (lv_at hl 3 rfl) ?_
        refine z_ialdZ (f := Lds L) (z := k) hx hb hK hP 7 0 rfl rfl (by omega) (by decide) dX1_latestAllowed_26 ?_
        refine lv_istore (lv' := [(5, .int (iI ((Lds L k : Nat) : Int))), (0, .ref (a 2)), (1, .int (iI ((op : Nat) : Int))), (3, .int (iI (lB L T tm op lim k))), (4, .int (iI ((k : Nat) : Int)))]) hx hb dX1_latestAllowed_27 hl (by decide) rfl (fun ls hl => ?_)
        refine lv_aload_n hx hb dX1_latestAllowed_29 rfl (lv_at hl 1 rfl) ?_
        refine va_get (D := D) (ci := 1) (v := .ref (a 1)) (C := RX1) (T := TX1) (N := 5) hx hb hts hinX1 hown hK hP 2 rfl rfl 0 (by decide) (hts (.fieldLink RX1 23 "LoopScheduler$Timetable" "loop" "LLoopScheduler$Loop;") (List.mem_of_getElem? (i := 1) rfl)) (fun _ h9 => h9) rfl dX1_latestAllowed_30 ?_
        refine va_get (D := D) (ci := 0) (v := .ref (a 6)) (C := RX0) (T := TX0) (N := 10) hx hb hts hinX0 hown hK hP 1 rfl rfl 3 (by decide) (hts (.fieldLink RX1 78 "LoopScheduler$Loop" "sources" "[I") (List.mem_of_getElem? (i := 4) rfl)) (fun _ h9 => h9) rfl dX1_latestAllowed_33 ?_
        refine lv_iload hx hb dX1_latestAllowed_36 (lv_at hl 4 rfl) ?_
        refine z_ialdZ (f := Lsr L) (z := k) hx hb hK hP 6 0 rfl rfl (by omega) (by decide) dX1_latestAllowed_38 ?_
        refine lv_iload_n hx hb dX1_latestAllowed_39 rfl (lv_at hl 2 rfl) ?_
        refine z_icne (a := ((Lsr L k : Nat) : Int)) (b := ((op : Nat) : Int)) (tgt := 93) hx hb dX1_latestAllowed_40 (by decide) (by omega) (fun c_40 => ?_) (fun c_40 => ?_)
        · refine z_iinc (a := ((k : Nat) : Int)) (b := ((k + 1 : Nat) : Int)) (lv' := [(4, .int (iI ((k + 1 : Nat) : Int))), (5, .int (iI ((Lds L k : Nat) : Int))), (0, .ref (a 2)), (1, .int (iI ((op : Nat) : Int))), (3, .int (iI (lB L T tm op lim k)))]) hx hb 4 dX1_latestAllowed_93 hl rfl rfl (by decide) rfl (fun ls hl => ?_)
          refine lv_goto (tgt := 5) hx hb dX1_latestAllowed_96 (by decide) ?_
          exact ih5 (k + 1) _ _ _ (by omega) (by omega) hP hD hS (by rw [show lB L T tm op lim (k + 1) = _ from lB_f (fun q => c_40 (by rw [q.1]))]; exact lv_sub hl [2, 3, 4, 0] rfl)
        · refine lv_aload_n hx hb dX1_latestAllowed_43 rfl (lv_at hl 1 rfl) ?_
          refine va_get (D := D) (ci := 1) (v := .ref (a 11)) (C := RX1) (T := TX1) (N := 5) hx hb hts hinX1 hown hK hP 2 rfl rfl 1 (by decide) (hts (.fieldLink RX1 9 "LoopScheduler$Timetable" "times" "[I") (List.mem_of_getElem? (i := 5) rfl)) (fun _ h9 => h9) rfl dX1_latestAllowed_44 ?_
          refine lv_iload hx hb dX1_latestAllowed_47 (lv_at hl 0 rfl) ?_
          refine z_ialdN (f := tm) (z := Lds L k) hx hb hK hP 11 0 rfl rfl (by omega) (by decide) dX1_latestAllowed_49 ?_
          refine z_ic hx hb dX1_latestAllowed_50 ?_
          refine z_iceq (a := (tm (Lds L k))) (b := (-1)) (tgt := 93) hx hb dX1_latestAllowed_51 (by decide) (by omega) (fun c_51 => ?_) (fun c_51 => ?_)
          · refine z_iinc (a := ((k : Nat) : Int)) (b := ((k + 1 : Nat) : Int)) (lv' := [(4, .int (iI ((k + 1 : Nat) : Int))), (5, .int (iI ((Lds L k : Nat) : Int))), (0, .ref (a 2)), (1, .int (iI ((op : Nat) : Int))), (3, .int (iI (lB L T tm op lim k)))]) hx hb 4 dX1_latestAllowed_93 hl rfl rfl (by decide) rfl (fun ls hl => ?_)
            refine lv_goto (tgt := 5) hx hb dX1_latestAllowed_96 (by decide) ?_
            exact ih5 (k + 1) _ _ _ (by omega) (by omega) hP hD hS (by rw [show lB L T tm op lim (k + 1) = _ from lB_f (fun q => q.2 c_51)]; exact lv_sub hl [2, 3, 4, 0] rfl)
          · refine lv_iload_n hx hb dX1_latestAllowed_54 rfl (lv_at hl 3 rfl) ?_
            refine lv_aload_n hx hb dX1_latestAllowed_55 rfl (lv_at hl 1 rfl) ?_
            refine va_get (D := D) (ci := 1) (v := .ref (a 11)) (C := RX1) (T := TX1) (N := 5) hx hb hts hinX1 hown hK hP 2 rfl rfl 1 (by decide) (hts (.fieldLink RX1 9 "LoopScheduler$Timetable" "times" "[I") (List.mem_of_getElem? (i := 5) rfl)) (fun _ h9 => h9) rfl dX1_latestAllowed_56 ?_
            refine lv_iload hx hb dX1_latestAllowed_59 (lv_at hl 0 rfl) ?_
            refine z_ialdN (f := tm) (z := Lds L k) hx hb hK hP 11 0 rfl rfl (by omega) (by decide) dX1_latestAllowed_61 ?_
            refine lv_aload_n hx hb dX1_latestAllowed_62 rfl (lv_at hl 1 rfl) ?_
            refine va_get (D := D) (ci := 1) (v := .ref (a 1)) (C := RX1) (T := TX1) (N := 5) hx hb hts hinX1 hown hK hP 2 rfl rfl 0 (by decide) (hts (.fieldLink RX1 23 "LoopScheduler$Timetable" "loop" "LLoopScheduler$Loop;") (List.mem_of_getElem? (i := 1) rfl)) (fun _ h9 => h9) rfl dX1_latestAllowed_63 ?_
            refine va_get (D := D) (ci := 0) (v := .ref (a 8)) (C := RX0) (T := TX0) (N := 10) hx hb hts hinX0 hown hK hP 1 rfl rfl 5 (by decide) (hts (.fieldLink RX1 84 "LoopScheduler$Loop" "delays" "[I") (List.mem_of_getElem? (i := 6) rfl)) (fun _ h9 => h9) rfl dX1_latestAllowed_66 ?_
            refine lv_iload hx hb dX1_latestAllowed_69 (lv_at hl 4 rfl) ?_
            refine z_ialdZ (f := Ldl L) (z := k) hx hb hK hP 8 0 rfl rfl (by omega) (by decide) dX1_latestAllowed_71 ?_
            refine z_sub (a := (tm (Lds L k))) (b := ((Ldl L k : Nat) : Int)) hx hb dX1_latestAllowed_72 ?_
            refine lv_aload_n hx hb dX1_latestAllowed_73 rfl (lv_at hl 1 rfl) ?_
            refine va_get (D := D) (ci := 1) (v := .int (iI ((T : Nat) : Int))) (C := RX1) (T := TX1) (N := 5) hx hb hts hinX1 hown hK hP 2 rfl rfl 4 (by decide) (hts (.fieldLink RX1 27 "LoopScheduler$Timetable" "interval" "I") (List.mem_of_getElem? (i := 7) rfl)) (fun _ h9 => h9) rfl dX1_latestAllowed_74 ?_
            refine lv_aload_n hx hb dX1_latestAllowed_77 rfl (lv_at hl 1 rfl) ?_
            refine va_get (D := D) (ci := 1) (v := .ref (a 1)) (C := RX1) (T := TX1) (N := 5) hx hb hts hinX1 hown hK hP 2 rfl rfl 0 (by decide) (hts (.fieldLink RX1 23 "LoopScheduler$Timetable" "loop" "LLoopScheduler$Loop;") (List.mem_of_getElem? (i := 1) rfl)) (fun _ h9 => h9) rfl dX1_latestAllowed_78 ?_
            refine va_get (D := D) (ci := 0) (v := .ref (a 9)) (C := RX0) (T := TX0) (N := 10) hx hb hts hinX0 hown hK hP 1 rfl rfl 6 (by decide) (hts (.fieldLink RX1 87 "LoopScheduler$Loop" "distances" "[I") (List.mem_of_getElem? (i := 8) rfl)) (fun _ h9 => h9) rfl dX1_latestAllowed_81 ?_
            refine lv_iload hx hb dX1_latestAllowed_84 (lv_at hl 4 rfl) ?_
            refine z_ialdZ (f := Ldi L) (z := k) hx hb hK hP 9 0 rfl rfl (by omega) (by decide) dX1_latestAllowed_86 ?_
            refine z_mul (a := ((T : Nat) : Int)) (b := ((Ldi L k : Nat) : Int)) hx hb dX1_latestAllowed_87 ?_
            refine z_add (a := ((tm (Lds L k)) - ((Ldl L k : Nat) : Int))) (b := (((T : Nat) : Int) * ((Ldi L k : Nat) : Int))) hx hb dX1_latestAllowed_88 ?_
            refine z_mmin (a := (lB L T tm op lim k)) (b := (((tm (Lds L k)) - ((Ldl L k : Nat) : Int)) + (((T : Nat) : Int) * ((Ldi L k : Nat) : Int)))) hx hb hml hl.1 hown (hts (.methodLink RX1 95 Lib.Math.min.name) (List.mem_of_getElem? (i := 9) rfl)) (hts (.static Lib.Math.min.name) (List.mem_of_getElem? (i := 10) rfl)) (hts (.initialized "java/lang/Math") (List.mem_of_getElem? (i := 11) rfl)) (hts (.code Lib.Math.min.name Lib.Math.min.code 2 (some .int)) (List.mem_of_getElem? (i := 12) rfl)) (Nat.le_of_ble_eq_true rfl) (Nat.le_of_ble_eq_true rfl) (Nat.zero_le _) (Nat.zero_le _) (by omega) dX1_latestAllowed_89 ?_
            refine lv_istore_n (lv' := [(3, .int (iI (min (lB L T tm op lim k) (((tm (Lds L k)) - ((Ldl L k : Nat) : Int)) + (((T : Nat) : Int) * ((Ldi L k : Nat) : Int)))))), (5, .int (iI ((Lds L k : Nat) : Int))), (0, .ref (a 2)), (1, .int (iI ((op : Nat) : Int))), (4, .int (iI ((k : Nat) : Int)))]) hx hb dX1_latestAllowed_92 rfl hl (by decide) rfl (fun ls hl => ?_)
            refine z_iinc (a := ((k : Nat) : Int)) (b := ((k + 1 : Nat) : Int)) (lv' := [(4, .int (iI ((k + 1 : Nat) : Int))), (3, .int (iI (min (lB L T tm op lim k) (((tm (Lds L k)) - ((Ldl L k : Nat) : Int)) + (((T : Nat) : Int) * ((Ldi L k : Nat) : Int)))))), (5, .int (iI ((Lds L k : Nat) : Int))), (0, .ref (a 2)), (1, .int (iI ((op : Nat) : Int)))]) hx hb 4 dX1_latestAllowed_93 hl rfl rfl (by decide) rfl (fun ls hl => ?_)
            refine lv_goto (tgt := 5) hx hb dX1_latestAllowed_96 (by decide) ?_
            exact ih5 (k + 1) _ _ _ (by omega) (by omega) hP hD hS (by rw [show lB L T tm op lim (k + 1) = _ from lB_t (show Lsr L k = op by omega) c_51]; exact lv_sub hl [3, 4, 1, 0] rfl)
  exact loop5 ((Lm L - 0) + 1) 0 _ _ _ (Nat.lt_succ_self _) (by omega) hP hD hS (lv_sub hl [2, 3, 1, 0] rfl)
set_option maxHeartbeats 4000000 in
set_option maxRecDepth 100000 in
theorem c_X1_hasUnits (l : Launch) (D : va_G) (g : Nat → ClassId) (a : Nat → Nat) (L : LD) (att T : Nat) (hs tm : Nat → Int) (tk : Nat → Nat → Int) (lt : Nat → Int) (C : Int) (op t : Nat) (hw : wf L) (hT : 0 < T ∧ T ≤ 200) (hC : C ≤ 10000) (hk : kB C tk) (hop : op < 14) (htt : t ≤ 2000000) : zMi l D (zT g) yX1_hasUnits wsX1_hasUnits 1 12 (wX a g L att T hs tm tk lt) [.ref (a 2), .int (iI ((op : Nat) : Int)), .int (iI ((t : Nat) : Int))] (fun r w1 => r = iI (bI (hUb L T tk op t)) ∧ w1 = wX a g L att T hs tm tk lt) := by
  refine z_ofI (cc := cX1_hasUnits) (maxL := 6) (ret := (some .boolean)) (by decide) rfl (Nat.le_of_ble_eq_true rfl) ?_
  intro p e s m args below meth c A ls hx hb hr hts hown hlocks hml hP hK hD hS hA hl Q hQ
  have hown : s.vm.findClass RX1 = some m.cls := hown
  have hinX0 : ∀ w ∈ u_ws RX0 TX0 10, w ∈ wsX1_hasUnits := by decide +kernel
  have hinX1 : ∀ w ∈ u_ws RX1 TX1 5, w ∈ wsX1_hasUnits := by decide +kernel
  have hl : lv_has ls 6 [(0, .ref (a 2)), (1, .int (iI ((op : Nat) : Int))), (2, .int (iI ((t : Nat) : Int)))] := hl
  have hkd0 := wf_kd hw op
  refine lv_aload_n hx hb dX1_hasUnits_0 rfl (lv_at hl 0 rfl) ?_
  refine va_get (D := D) (ci := 1) (v := .ref (a 1)) (C := RX1) (T := TX1) (N := 5) hx hb hts hinX1 hown hK hP 2 rfl rfl 0 (by decide) (hts (.fieldLink RX1 23 "LoopScheduler$Timetable" "loop" "LLoopScheduler$Loop;") (List.mem_of_getElem? (i := 1) rfl)) (fun _ h9 => h9) rfl dX1_hasUnits_1 ?_
  refine va_get (D := D) (ci := 0) (v := .ref (a 4)) (C := RX0) (T := TX0) (N := 10) hx hb hts hinX0 hown hK hP 1 rfl rfl 1 (by decide) (hts (.fieldLink RX1 98 "LoopScheduler$Loop" "kinds" "[I") (List.mem_of_getElem? (i := 2) rfl)) (fun _ h9 => h9) rfl dX1_hasUnits_4 ?_
  refine lv_iload_n hx hb dX1_hasUnits_7 rfl (lv_at hl 1 rfl) ?_
  refine z_ialdZ (f := Lkd L) (z := op) hx hb hK hP 4 0 rfl rfl (by omega) (by decide) dX1_hasUnits_8 ?_
  refine lv_istore_n (lv' := [(3, .int (iI ((Lkd L op : Nat) : Int))), (0, .ref (a 2)), (1, .int (iI ((op : Nat) : Int))), (2, .int (iI ((t : Nat) : Int)))]) hx hb dX1_hasUnits_9 rfl hl (by decide) rfl (fun ls hl => ?_)
  refine z_ic hx hb dX1_hasUnits_10 ?_
  refine lv_istore (lv' := [(4, .int (iI ((0 : Nat) : Int))), (3, .int (iI ((Lkd L op : Nat) : Int))), (0, .ref (a 2)), (1, .int (iI ((op : Nat) : Int))), (2, .int (iI ((t : Nat) : Int)))]) hx hb dX1_hasUnits_11 hl (by decide) rfl (fun ls hl => ?_)
  have loop13 : ∀ (n13 : Nat) (q : Nat) (H : Heap) (locs : List Loc) (ls : Array Slot), Lby L op - q < n13 → (q ≤ Lby L op) → (∀ i, i < q → tk (Lkd L op) ((t + i) % T) + ((i / T : Nat) : Int) < (Lu L (Lkd L op) : Int)) → va_P D vwCl (wX a g L att T hs tm tk lt) H → va_D A (wX a g L att T hs tm tk lt) → va_S A s.heap H locs → lv_has ls 6 [(0, .ref (a 2)), (1, .int (iI ((op : Nat) : Int))), (2, .int (iI ((t : Nat) : Int))), (3, .int (iI ((Lkd L op : Nat) : Int))), (4, .int (iI ((q : Nat) : Int)))] → W p l e ({ frames := 1, cells := 0, slots := 0, locals := 12 } : Room) s m args below meth c H locs 0 0 Q (F0 m 13 ls []) := by
    intro n13
    induction n13 with
    | zero => exact fun _ H locs ls hn => absurd hn (Nat.not_lt_zero _)
    | succ n13 ih13 =>
      intro q H locs ls hn13 hc hi hP hD hS hl
      have hby := wf_by hw op
      have hkd := wf_kd hw op
      have hu := wf_u hw _ hkd
      have hmod := Nat.mod_lt (t + q) hT.1
      have hdv := Nat.div_le_self q T
      have hdv0 := Int.natCast_nonneg (q / T)
      have hkk := hk (Lkd L op) ((t + q) % T)
      refine lv_iload hx hb dX1_hasUnits_13 (lv_at hl 4 rfl) ?_
      refine lv_aload_n hx hb dX1_hasUnits_15 rfl (lv_at hl 0 rfl) ?_
      refine va_get (D := D) (ci := 1) (v := .ref (a 1)) (C := RX1) (T := TX1) (N := 5) hx hb hts hinX1 hown hK hP 2 rfl rfl 0 (by decide) (hts (.fieldLink RX1 23 "LoopScheduler$Timetable" "loop" "LLoopScheduler$Loop;") (List.mem_of_getElem? (i := 1) rfl)) (fun _ h9 => h9) rfl dX1_hasUnits_16 ?_
      refine va_get (D := D) (ci := 0) (v := .ref (a 5)) (C := RX0) (T := TX0) (N := 10) hx hb hts hinX0 hown hK hP 1 rfl rfl 2 (by decide) (hts (.fieldLink RX1 101 "LoopScheduler$Loop" "busy" "[I") (List.mem_of_getElem? (i := 3) rfl)) (fun _ h9 => h9) rfl dX1_hasUnits_19 ?_
      refine lv_iload_n hx hb dX1_hasUnits_22 rfl (lv_at hl 1 rfl) ?_
      refine z_ialdZ (f := Lby L) (z := op) hx hb hK hP 5 0 rfl rfl (by omega) (by decide) dX1_hasUnits_23 ?_
      refine z_icge (a := ((q : Nat) : Int)) (b := ((Lby L op : Nat) : Int)) (tgt := 75) hx hb dX1_hasUnits_24 (by decide) (by omega) (fun c_24 => ?_) (fun c_24 => ?_)
      · obtain rfl : q = Lby L op := by omega
        refine z_ic hx hb dX1_hasUnits_75 ?_
        exact z_zret (w := (wX a g L att T hs tm tk lt)) (v := (iI ((1 : Nat) : Int))) z_nb1 hQ hx hb hr hlocks ⟨by rw [hUb_i.mpr hi]; rfl, rfl⟩ hK hP hD hS dX1_hasUnits_76
      · refine lv_aload_n hx hb dX1_hasUnits_27 rfl (lv_at hl 0 rfl) ?_
        refine va_get (D := D) (ci := 1) (v := .ref (a 12)) (C := RX1) (T := TX1) (N := 5) hx hb hts hinX1 hown hK hP 2 rfl rfl 2 (by decide) (hts (.fieldLink RX1 17 "LoopScheduler$Timetable" "takenUnits" "[[I") (List.mem_of_getElem? (i := 4) rfl)) (fun _ h9 => h9) rfl dX1_hasUnits_28 ?_
        refine lv_iload_n hx hb dX1_hasUnits_31 rfl (lv_at hl 3 rfl) ?_
        refine z_aald (z := Lkd L op) (a1 := a (13 + (Lkd L op))) hx hb hK hP 12 1 rfl rfl (by omega) (by decide) (if_pos (by omega)) dX1_hasUnits_32 ?_
        refine lv_iload_n hx hb dX1_hasUnits_33 rfl (lv_at hl 2 rfl) ?_
        refine lv_iload hx hb dX1_hasUnits_34 (lv_at hl 4 rfl) ?_
        refine z_add (a := ((t : Nat) : Int)) (b := ((q : Nat) : Int)) hx hb dX1_hasUnits_36 ?_
        refine z_eqI (y := iI ((t + q : Nat) : Int)) (congrArg iI (by omega)) ?_
        refine lv_aload_n hx hb dX1_hasUnits_37 rfl (lv_at hl 0 rfl) ?_
        refine va_get (D := D) (ci := 1) (v := .int (iI ((T : Nat) : Int))) (C := RX1) (T := TX1) (N := 5) hx hb hts hinX1 hown hK hP 2 rfl rfl 4 (by decide) (hts (.fieldLink RX1 27 "LoopScheduler$Timetable" "interval" "I") (List.mem_of_getElem? (i := 5) rfl)) (fun _ h9 => h9) rfl dX1_hasUnits_38 ?_
        refine z_rem (a := ((t + q : Nat) : Int)) (b := ((T : Nat) : Int)) hx hb (by omega) dX1_hasUnits_41 ?_
        refine z_eqI (y := iI (((t + q) % T : Nat) : Int)) (congrArg iI (Int.natCast_emod _ _).symm) ?_
        refine z_ialdN (f := tk (Lkd L op)) (z := (t + q) % T) hx hb hK hP (13 + (Lkd L op)) 0 (wX_row hkd) rfl (by omega) (by decide) dX1_hasUnits_42 ?_
        refine lv_istore (lv' := [(5, .int (iI (tk (Lkd L op) ((t + q) % T)))), (0, .ref (a 2)), (1, .int (iI ((op : Nat) : Int))), (2, .int (iI ((t : Nat) : Int))), (3, .int (iI ((Lkd L op : Nat) : Int))), (4, .int (iI ((q : Nat) : Int)))]) hx hb dX1_hasUnits_43 hl (by decide) rfl (fun ls hl => ?_)
        refine lv_iload hx hb dX1_hasUnits_45 (lv_at hl 0 rfl) ?_
        refine lv_iload hx hb dX1_hasUnits_47 (lv_at hl 5 rfl) ?_
        refine lv_aload_n hx hb dX1_hasUnits_49 rfl (lv_at hl 1 rfl) ?_
        refine va_get (D := D) (ci := 1) (v := .int (iI ((T : Nat) : Int))) (C := RX1) (T := TX1) (N := 5) hx hb hts hinX1 hown hK hP 2 rfl rfl 4 (by decide) (hts (.fieldLink RX1 27 "LoopScheduler$Timetable" "interval" "I") (List.mem_of_getElem? (i := 5) rfl)) (fun _ h9 => h9) rfl dX1_hasUnits_50 ?_
        refine z_div (a := ((q : Nat) : Int)) (b := ((T : Nat) : Int)) hx hb (by omega) dX1_hasUnits_53 ?_
        refine z_eqI (y := iI ((q / T : Nat) : Int)) (congrArg iI (Int.natCast_ediv _ _).symm) ?_
        refine z_add (a := (tk (Lkd L op) ((t + q) % T))) (b := ((q / T : Nat) : Int)) hx hb dX1_hasUnits_54 ?_
        refine lv_aload_n hx hb dX1_hasUnits_55 rfl (lv_at hl 1 rfl) ?_
        refine va_get (D := D) (ci := 1) (v := .ref (a 1)) (C := RX1) (T := TX1) (N := 5) hx hb hts hinX1 hown hK hP 2 rfl rfl 0 (by decide) (hts (.fieldLink RX1 23 "LoopScheduler$Timetable" "loop" "LLoopScheduler$Loop;") (List.mem_of_getElem? (i := 1) rfl)) (fun _ h9 => h9) rfl dX1_hasUnits_56 ?_
        refine va_get (D := D) (ci := 0) (v := .ref (a 3)) (C := RX0) (T := TX0) (N := 10) hx hb hts hinX0 hown hK hP 1 rfl rfl 0 (by decide) (hts (.fieldLink RX1 104 "LoopScheduler$Loop" "units" "[I") (List.mem_of_getElem? (i := 6) rfl)) (fun _ h9 => h9) rfl dX1_hasUnits_59 ?_
        refine lv_iload_n hx hb dX1_hasUnits_62 rfl (lv_at hl 4 rfl) ?_
        refine z_ialdZ (f := Lu L) (z := Lkd L op) hx hb hK hP 3 0 rfl rfl (by omega) (by decide) dX1_hasUnits_63 ?_
        refine z_iclt (a := ((tk (Lkd L op) ((t + q) % T)) + ((q / T : Nat) : Int))) (b := ((Lu L (Lkd L op) : Nat) : Int)) (tgt := 69) hx hb dX1_hasUnits_64 (by decide) (by omega) (fun c_64 => ?_) (fun c_64 => ?_)
        · refine z_iinc (a := ((q : Nat) : Int)) (b := ((q + 1 : Nat) : Int)) (lv' := [(4, .int (iI ((q + 1 : Nat) : Int))), (5, .int (iI (tk (Lkd L op) ((t + q) % T)))), (0, .ref (a 2)), (1, .int (iI ((op : Nat) : Int))), (2, .int (iI ((t : Nat) : Int))), (3, .int (iI ((Lkd L op : Nat) : Int)))]) hx hb 5 dX1_hasUnits_69 hl rfl rfl (by decide) rfl (fun ls hl => ?_)
          refine lv_goto (tgt := 13) hx hb dX1_hasUnits_72 (by decide) ?_
          exact ih13 (q + 1) _ _ _ (by omega) (by omega) (fun j h => (Nat.lt_or_ge j q).elim (hi j) (fun e9 => (show q = j by omega) ▸ c_64)) hP hD hS (lv_sub hl [2, 3, 4, 5, 0] rfl)
        · refine z_ic hx hb dX1_hasUnits_67 ?_
          exact z_zret (w := (wX a g L att T hs tm tk lt)) (v := (iI ((0 : Nat) : Int))) z_nb0 hQ hx hb hr hlocks ⟨by rw [hUb_f (show q < Lby L op by omega) c_64]; rfl, rfl⟩ hK hP hD hS dX1_hasUnits_68
  exact loop13 ((Lby L op - 0) + 1) 0 _ _ _ (Nat.lt_succ_self _) (by omega) (fun j h => absurd h (Nat.not_lt_zero j)) hP hD hS (lv_sub hl [2, 3, 4, 1, 0] rfl)
set_option maxHeartbeats 4000000 in
set_option maxRecDepth 100000 in
theorem c_X1_changeTaken (l : Launch) (D : va_G) (g : Nat → ClassId) (a : Nat → Nat) (L : LD) (att T : Nat) (hs tm : Nat → Int) (tk : Nat → Nat → Int) (lt : Nat → Int) (op t : Nat) (ch : Int) (hw : wf L) (hT : 0 < T ∧ T ≤ 200) (hop : op < 14) (htt : t ≤ 2000000) : zMv l D (zT g) yX1_changeTaken wsX1_changeTaken 1 12 (wX a g L att T hs tm tk lt) [.ref (a 2), .int (iI ((op : Nat) : Int)), .int (iI ((t : Nat) : Int)), .int (iI (ch))] (fun w1 => w1 = wX a g L att T hs tm (cT L T op t ch tk (Lby L op)) lt) := by
  refine z_ofV (cc := cX1_changeTaken) (maxL := 6) (ret := none) (by decide) rfl (Nat.le_of_ble_eq_true rfl) ?_
  intro p e s m args below meth c A ls hx hb hr hts hown hlocks hml hP hK hD hS hA hl Q hQ
  have hown : s.vm.findClass RX1 = some m.cls := hown
  have hinX0 : ∀ w ∈ u_ws RX0 TX0 10, w ∈ wsX1_changeTaken := by decide +kernel
  have hinX1 : ∀ w ∈ u_ws RX1 TX1 5, w ∈ wsX1_changeTaken := by decide +kernel
  have hl : lv_has ls 6 [(0, .ref (a 2)), (1, .int (iI ((op : Nat) : Int))), (2, .int (iI ((t : Nat) : Int))), (3, .int (iI (ch)))] := hl
  have hkd0 := wf_kd hw op
  refine lv_aload_n hx hb dX1_changeTaken_0 rfl (lv_at hl 0 rfl) ?_
  refine va_get (D := D) (ci := 1) (v := .ref (a 1)) (C := RX1) (T := TX1) (N := 5) hx hb hts hinX1 hown hK hP 2 rfl rfl 0 (by decide) (hts (.fieldLink RX1 23 "LoopScheduler$Timetable" "loop" "LLoopScheduler$Loop;") (List.mem_of_getElem? (i := 1) rfl)) (fun _ h9 => h9) rfl dX1_changeTaken_1 ?_
  refine va_get (D := D) (ci := 0) (v := .ref (a 4)) (C := RX0) (T := TX0) (N := 10) hx hb hts hinX0 hown hK hP 1 rfl rfl 1 (by decide) (hts (.fieldLink RX1 98 "LoopScheduler$Loop" "kinds" "[I") (List.mem_of_getElem? (i := 2) rfl)) (fun _ h9 => h9) rfl dX1_changeTaken_4 ?_
  refine lv_iload_n hx hb dX1_changeTaken_7 rfl (lv_at hl 1 rfl) ?_
  refine z_ialdZ (f := Lkd L) (z := op) hx hb hK hP 4 0 rfl rfl (by omega) (by decide) dX1_changeTaken_8 ?_
  refine lv_istore (lv' := [(4, .int (iI ((Lkd L op : Nat) : Int))), (0, .ref (a 2)), (1, .int (iI ((op : Nat) : Int))), (2, .int (iI ((t : Nat) : Int))), (3, .int (iI (ch)))]) hx hb dX1_changeTaken_9 hl (by decide) rfl (fun ls hl => ?_)
  refine z_ic hx hb dX1_changeTaken_11 ?_
  refine lv_istore (lv' := [(5, .int (iI ((0 : Nat) : Int))), (4, .int (iI ((Lkd L op : Nat) : Int))), (0, .ref (a 2)), (1, .int (iI ((op : Nat) : Int))), (2, .int (iI ((t : Nat) : Int))), (3, .int (iI (ch)))]) hx hb dX1_changeTaken_12 hl (by decide) rfl (fun ls hl => ?_)
  have loop14 : ∀ (n14 : Nat) (q : Nat) (H : Heap) (locs : List Loc) (ls : Array Slot), Lby L op - q < n14 → (q ≤ Lby L op) → va_P D vwCl (wX a g L att T hs tm (cT L T op t ch tk q) lt) H → va_D A (wX a g L att T hs tm (cT L T op t ch tk q) lt) → va_S A s.heap H locs → lv_has ls 6 [(0, .ref (a 2)), (1, .int (iI ((op : Nat) : Int))), (2, .int (iI ((t : Nat) : Int))), (3, .int (iI (ch))), (4, .int (iI ((Lkd L op : Nat) : Int))), (5, .int (iI ((q : Nat) : Int)))] → W p l e ({ frames := 1, cells := 0, slots := 0, locals := 12 } : Room) s m args below meth c H locs 0 0 Q (F0 m 14 ls []) := by
    intro n14
    induction n14 with
    | zero => exact fun _ H locs ls hn => absurd hn (Nat.not_lt_zero _)
    | succ n14 ih14 =>
      intro q H locs ls hn14 hc hP hD hS hl
      have hby := wf_by hw op
      have hkd := wf_kd hw op
      have hmod := Nat.mod_lt (t + q) hT.1
      refine lv_iload hx hb dX1_changeTaken_14 (lv_at hl 5 rfl) ?_
      refine lv_aload_n hx hb dX1_changeTaken_16 rfl (lv_at hl 0 rfl) ?_
      refine va_get (D := D) (ci := 1) (v := .ref (a 1)) (C := RX1) (T := TX1) (N := 5) hx hb hts hinX1 hown hK hP 2 rfl rfl 0 (by decide) (hts (.fieldLink RX1 23 "LoopScheduler$Timetable" "loop" "LLoopScheduler$Loop;") (List.mem_of_getElem? (i := 1) rfl)) (fun _ h9 => h9) rfl dX1_changeTaken_17 ?_
      refine va_get (D := D) (ci := 0) (v := .ref (a 5)) (C := RX0) (T := TX0) (N := 10) hx hb hts hinX0 hown hK hP 1 rfl rfl 2 (by decide) (hts (.fieldLink RX1 101 "LoopScheduler$Loop" "busy" "[I") (List.mem_of_getElem? (i := 3) rfl)) (fun _ h9 => h9) rfl dX1_changeTaken_20 ?_
      refine lv_iload_n hx hb dX1_changeTaken_23 rfl (lv_at hl 1 rfl) ?_
      refine z_ialdZ (f := Lby L) (z := op) hx hb hK hP 5 0 rfl rfl (by omega) (by decide) dX1_changeTaken_24 ?_
      refine z_icge (a := ((q : Nat) : Int)) (b := ((Lby L op : Nat) : Int)) (tgt := 55) hx hb dX1_changeTaken_25 (by decide) (by omega) (fun c_25 => ?_) (fun c_25 => ?_)
      · obtain rfl : q = Lby L op := by omega
        exact z_vret (w := (wX a g L att T hs tm (cT L T op t ch tk (Lby L op)) lt)) hQ hx hb hr hlocks rfl hK hP hD hS dX1_changeTaken_55
      · refine lv_aload_n hx hb dX1_changeTaken_28 rfl (lv_at hl 0 rfl) ?_
        refine va_get (D := D) (ci := 1) (v := .ref (a 12)) (C := RX1) (T := TX1) (N := 5) hx hb hts hinX1 hown hK hP 2 rfl rfl 2 (by decide) (hts (.fieldLink RX1 17 "LoopScheduler$Timetable" "takenUnits" "[[I") (List.mem_of_getElem? (i := 4) rfl)) (fun _ h9 => h9) rfl dX1_changeTaken_29 ?_
        refine lv_iload hx hb dX1_changeTaken_32 (lv_at hl 4 rfl) ?_
        refine z_aald (z := Lkd L op) (a1 := a (13 + (Lkd L op))) hx hb hK hP 12 1 rfl rfl (by omega) (by decide) (if_pos (by omega)) dX1_changeTaken_34 ?_
        refine lv_iload_n hx hb dX1_changeTaken_35 rfl (lv_at hl 2 rfl) ?_
        refine lv_iload hx hb dX1_changeTaken_36 (lv_at hl 5 rfl) ?_
        refine z_add (a := ((t : Nat) : Int)) (b := ((q : Nat) : Int)) hx hb dX1_changeTaken_38 ?_
        refine z_eqI (y := iI ((t + q : Nat) : Int)) (congrArg iI (by omega)) ?_
        refine lv_aload_n hx hb dX1_changeTaken_39 rfl (lv_at hl 0 rfl) ?_
        refine va_get (D := D) (ci := 1) (v := .int (iI ((T : Nat) : Int))) (C := RX1) (T := TX1) (N := 5) hx hb hts hinX1 hown hK hP 2 rfl rfl 4 (by decide) (hts (.fieldLink RX1 27 "LoopScheduler$Timetable" "interval" "I") (List.mem_of_getElem? (i := 5) rfl)) (fun _ h9 => h9) rfl dX1_changeTaken_40 ?_
        refine z_rem (a := ((t + q : Nat) : Int)) (b := ((T : Nat) : Int)) hx hb (by omega) dX1_changeTaken_43 ?_
        refine z_eqI (y := iI (((t + q) % T : Nat) : Int)) (congrArg iI (Int.natCast_emod _ _).symm) ?_
        refine lv_dup2_11 hx hb dX1_changeTaken_44 rfl rfl ?_
        refine z_ialdN (f := (cT L T op t ch tk q) (Lkd L op)) (z := (t + q) % T) hx hb hK hP (13 + (Lkd L op)) 0 (wX_row hkd) rfl (by omega) (by decide) dX1_changeTaken_45 ?_
        refine lv_iload_n hx hb dX1_changeTaken_46 rfl (lv_at hl 3 rfl) ?_
        refine z_add (a := ((cT L T op t ch tk q) (Lkd L op) ((t + q) % T))) (b := ch) hx hb dX1_changeTaken_47 ?_
        refine z_iastN (f := (cT L T op t ch tk q) (Lkd L op)) (z := (t + q) % T) (v := (((cT L T op t ch tk q) (Lkd L op) ((t + q) % T)) + ch)) hx hb hK hP hD hS (13 + (Lkd L op)) 0 (wX_row hkd) rfl (by omega) (by decide) dX1_changeTaken_48 (fun H locs hP hD hS => ?_)
        rw [wX_put hkd] at hP hD
        have hP : va_P D vwCl (wX a g L att T hs tm (up2 (cT L T op t ch tk q) (Lkd L op) ((t + q) % T) (((cT L T op t ch tk q) (Lkd L op) ((t + q) % T)) + ch)) lt) H := hP
        have hD : va_D A (wX a g L att T hs tm (up2 (cT L T op t ch tk q) (Lkd L op) ((t + q) % T) (((cT L T op t ch tk q) (Lkd L op) ((t + q) % T)) + ch)) lt) := hD
        refine z_iinc (a := ((q : Nat) : Int)) (b := ((q + 1 : Nat) : Int)) (lv' := [(5, .int (iI ((q + 1 : Nat) : Int))), (0, .ref (a 2)), (1, .int (iI ((op : Nat) : Int))), (2, .int (iI ((t : Nat) : Int))), (3, .int (iI (ch))), (4, .int (iI ((Lkd L op : Nat) : Int)))]) hx hb 5 dX1_changeTaken_49 hl rfl rfl (by decide) rfl (fun ls hl => ?_)
        refine lv_goto (tgt := 14) hx hb dX1_changeTaken_52 (by decide) ?_
        exact ih14 (q + 1) _ _ _ (by omega) (by omega) hP hD hS (lv_sub hl [1, 2, 3, 4, 5, 0] rfl)
  exact loop14 ((Lby L op - 0) + 1) 0 _ _ _ (Nat.lt_succ_self _) (by omega) hP hD hS (lv_sub hl [2, 3, 4, 5, 1, 0] rfl)
set_option maxHeartbeats 4000000 in
set_option maxRecDepth 100000 in
theorem c_X1_place (l : Launch) (D : va_G) (g : Nat → ClassId) (a : Nat → Nat) (L : LD) (att T : Nat) (hs tm : Nat → Int) (tk : Nat → Nat → Int) (lt : Nat → Int) (op t : Nat) (hw : wf L) (hT : 0 < T ∧ T ≤ 200) (hop : op < 14) (htt : t ≤ 2000000) : zMv l D (zT g) yX1_place wsX1_place 2 37 (wX a g L att T hs tm tk lt) [.ref (a 2), .int (iI ((op : Nat) : Int)), .int (iI ((t : Nat) : Int))] (fun w1 => w1 = wX a g L att T hs (upZ tm op (t : Int)) (pTk L T tk op t) lt) := by
  refine z_ofV (cc := cX1_place) (maxL := 3) (ret := none) (by decide) rfl (Nat.le_of_ble_eq_true rfl) ?_
  intro p e s m args below meth c A ls hx hb hr hts hown hlocks hml hP hK hD hS hA hl Q hQ
  have hown : s.vm.findClass RX1 = some m.cls := hown
  have hinX0 : ∀ w ∈ u_ws RX0 TX0 10, w ∈ wsX1_place := by decide +kernel
  have hinX1 : ∀ w ∈ u_ws RX1 TX1 5, w ∈ wsX1_place := by decide +kernel
  have hl : lv_has ls 3 [(0, .ref (a 2)), (1, .int (iI ((op : Nat) : Int))), (2, .int (iI ((t : Nat) : Int)))] := hl
  refine lv_aload_n hx hb dX1_place_0 rfl (lv_at hl 0 rfl) ?_
  refine va_get (D := D) (ci := 1) (v := .ref (a 11)) (C := RX1) (T := TX1) (N := 5) hx hb hts hinX1 hown hK hP 2 rfl rfl 1 (by decide) (hts (.fieldLink RX1 9 "LoopScheduler$Timetable" "times" "[I") (List.mem_of_getElem? (i := 1) rfl)) (fun _ h9 => h9) rfl dX1_place_1 ?_
  refine lv_iload_n hx hb dX1_place_4 rfl (lv_at hl 1 rfl) ?_
  refine lv_iload_n hx hb dX1_place_5 rfl (lv_at hl 2 rfl) ?_
  refine z_iastN (f := tm) (z := op) (v := ((t : Nat) : Int)) hx hb hK hP hD hS 11 0 rfl rfl (by omega) (by decide) dX1_place_6 (fun H locs hP hD hS => ?_)
  have hP : va_P D vwCl (wX a g L att T hs (upZ tm op ((t : Nat) : Int)) tk lt) H := hP
  have hD : va_D A (wX a g L att T hs (upZ tm op ((t : Nat) : Int)) tk lt) := hD
  refine lv_aload_n hx hb dX1_place_7 rfl (lv_at hl 0 rfl) ?_
  refine lv_iload_n hx hb dX1_place_8 rfl (lv_at hl 1 rfl) ?_
  refine lv_iload_n hx hb dX1_place_9 rfl (lv_at hl 2 rfl) ?_
  refine z_ic hx hb dX1_place_10 ?_
  refine z_callv (va_runV (As := [.int (iI ((op : Nat) : Int)), .int (iI ((t : Nat) : Int)), .int (iI ((1 : Nat) : Int))]) (rest := []) ⟨hx, hb, hml, hown, hts⟩ (c_X1_changeTaken l D g a L att T hs (upZ tm op ((t : Nat) : Int)) tk lt op t 1 hw hT hop htt _) (cwV 3 hts gX1_place_X1_changeTaken rfl rfl rfl (by decide +kernel) ⟨Nat.le_of_ble_eq_true rfl, Nat.le_of_ble_eq_true rfl⟩) (z_preV 2 hK hP hD rfl rfl) rfl rfl hl.1 rfl (lv_room (Nat.le_of_ble_eq_true rfl)) dX1_place_11 ⟨Nat.zero_le _, Nat.zero_le _⟩) hS hD hA (fun w1 H locs hw1 hP hD hS => ?_)
  subst hw1
  have hP : va_P D vwCl (wX a g L att T hs (upZ tm op ((t : Nat) : Int)) (pTk L T tk op t) lt) H := hP
  have hD : va_D A (wX a g L att T hs (upZ tm op ((t : Nat) : Int)) (pTk L T tk op t) lt) := hD
  exact z_vret (w := (wX a g L att T hs (upZ tm op ((t : Nat) : Int)) (pTk L T tk op t) lt)) hQ hx hb hr hlocks rfl hK hP hD hS dX1_place_14
set_option maxHeartbeats 4000000 in
set_option maxRecDepth 100000 in
theorem c_X1_lift (l : Launch) (D : va_G) (g : Nat → ClassId) (a : Nat → Nat) (L : LD) (att T : Nat) (hs tm : Nat → Int) (tk : Nat → Nat → Int) (lt : Nat → Int) (op t : Nat) (hw : wf L) (hT : 0 < T ∧ T ≤ 200) (hop : op < 14) (htt : t ≤ 2000000) (h0 : tm op = (t : Int)) : zMv l D (zT g) yX1_lift wsX1_lift 2 37 (wX a g L att T hs tm tk lt) [.ref (a 2), .int (iI ((op : Nat) : Int))] (fun w1 => w1 = wX a g L att T hs (lTm tm op) (lTk L T tk op t) lt) := by
  refine z_ofV (cc := cX1_lift) (maxL := 2) (ret := none) (by decide) rfl (Nat.le_of_ble_eq_true rfl) ?_
  intro p e s m args below meth c A ls hx hb hr hts hown hlocks hml hP hK hD hS hA hl Q hQ
  have hown : s.vm.findClass RX1 = some m.cls := hown
  have hinX0 : ∀ w ∈ u_ws RX0 TX0 10, w ∈ wsX1_lift := by decide +kernel
  have hinX1 : ∀ w ∈ u_ws RX1 TX1 5, w ∈ wsX1_lift := by decide +kernel
  have hl : lv_has ls 2 [(0, .ref (a 2)), (1, .int (iI ((op : Nat) : Int)))] := hl
  refine lv_aload_n hx hb dX1_lift_0 rfl (lv_at hl 0 rfl) ?_
  refine lv_iload_n hx hb dX1_lift_1 rfl (lv_at hl 1 rfl) ?_
  refine lv_aload_n hx hb dX1_lift_2 rfl (lv_at hl 0 rfl) ?_
  refine va_get (D := D) (ci := 1) (v := .ref (a 11)) (C := RX1) (T := TX1) (N := 5) hx hb hts hinX1 hown hK hP 2 rfl rfl 1 (by decide) (hts (.fieldLink RX1 9 "LoopScheduler$Timetable" "times" "[I") (List.mem_of_getElem? (i := 1) rfl)) (fun _ h9 => h9) rfl dX1_lift_3 ?_
  refine lv_iload_n hx hb dX1_lift_6 rfl (lv_at hl 1 rfl) ?_
  refine z_ialdN (f := tm) (z := op) hx hb hK hP 11 0 rfl rfl (by omega) (by decide) dX1_lift_7 ?_
  refine z_eqI (y := (iI ((t : Nat) : Int))) (congrArg iI h0) ?_
  refine z_ic hx hb dX1_lift_8 ?_
  refine z_callv (va_runV (As := [.int (iI ((op : Nat) : Int)), .int (iI ((t : Nat) : Int)), .int (iI (-1))]) (rest := []) ⟨hx, hb, hml, hown, hts⟩ (c_X1_changeTaken l D g a L att T hs tm tk lt op t (-1) hw hT hop htt _) (cwV 3 hts gX1_lift_X1_changeTaken rfl rfl rfl (by decide +kernel) ⟨Nat.le_of_ble_eq_true rfl, Nat.le_of_ble_eq_true rfl⟩) (z_preV 2 hK hP hD rfl rfl) rfl rfl hl.1 rfl (lv_room (Nat.le_of_ble_eq_true rfl)) dX1_lift_9 ⟨Nat.zero_le _, Nat.zero_le _⟩) hS hD hA (fun w1 H locs hw1 hP hD hS => ?_)
  subst hw1
  have hP : va_P D vwCl (wX a g L att T hs tm (lTk L T tk op t) lt) H := hP
  have hD : va_D A (wX a g L att T hs tm (lTk L T tk op t) lt) := hD
  refine lv_aload_n hx hb dX1_lift_12 rfl (lv_at hl 0 rfl) ?_
  refine va_get (D := D) (ci := 1) (v := .ref (a 11)) (C := RX1) (T := TX1) (N := 5) hx hb hts hinX1 hown hK hP 2 rfl rfl 1 (by decide) (hts (.fieldLink RX1 9 "LoopScheduler$Timetable" "times" "[I") (List.mem_of_getElem? (i := 1) rfl)) (fun _ h9 => h9) rfl dX1_lift_13 ?_
  refine lv_iload_n hx hb dX1_lift_16 rfl (lv_at hl 1 rfl) ?_
  refine z_ic hx hb dX1_lift_17 ?_
  refine z_iastN (f := tm) (z := op) (v := (-1)) hx hb hK hP hD hS 11 0 rfl rfl (by omega) (by decide) dX1_lift_18 (fun H locs hP hD hS => ?_)
  have hP : va_P D vwCl (wX a g L att T hs (upZ tm op (-1)) (lTk L T tk op t) lt) H := hP
  have hD : va_D A (wX a g L att T hs (upZ tm op (-1)) (lTk L T tk op t) lt) := hD
  exact z_vret (w := (wX a g L att T hs (upZ tm op (-1)) (lTk L T tk op t) lt)) hQ hx hb hr hlocks rfl hK hP hD hS dX1_lift_19
set_option maxHeartbeats 4000000 in
set_option maxRecDepth 100000 in
theorem c_X1_highestUnplaced (l : Launch) (D : va_G) (g : Nat → ClassId) (a : Nat → Nat) (L : LD) (att T : Nat) (hs tm : Nat → Int) (tk : Nat → Nat → Int) (lt : Nat → Int) (B : Int)  (hw : wf L) (hB : 0 ≤ B ∧ B ≤ 1000000) (ht : tB B tm) (hh : gB 100000 hs) : zMi l D (zT g) yX1_highestUnplaced wsX1_highestUnplaced 1 12 (wX a g L att T hs tm tk lt) [.ref (a 2)] (fun r w1 => r = iI (hiU hs tm (Ln L)) ∧ w1 = wX a g L att T hs tm tk lt) := by
  refine z_ofI (cc := cX1_highestUnplaced) (maxL := 3) (ret := (some .int)) (by decide) rfl (Nat.le_of_ble_eq_true rfl) ?_
  intro p e s m args below meth c A ls hx hb hr hts hown hlocks hml hP hK hD hS hA hl Q hQ
  have hown : s.vm.findClass RX1 = some m.cls := hown
  have hinX0 : ∀ w ∈ u_ws RX0 TX0 10, w ∈ wsX1_highestUnplaced := by decide +kernel
  have hinX1 : ∀ w ∈ u_ws RX1 TX1 5, w ∈ wsX1_highestUnplaced := by decide +kernel
  have hl : lv_has ls 3 [(0, .ref (a 2))] := hl
  refine z_ic hx hb dX1_highestUnplaced_0 ?_
  refine lv_istore_n (lv' := [(1, .int (iI (-1))), (0, .ref (a 2))]) hx hb dX1_highestUnplaced_1 rfl hl (by decide) rfl (fun ls hl => ?_)
  refine z_ic hx hb dX1_highestUnplaced_2 ?_
  refine lv_istore_n (lv' := [(2, .int (iI ((0 : Nat) : Int))), (1, .int (iI (-1))), (0, .ref (a 2))]) hx hb dX1_highestUnplaced_3 rfl hl (by decide) rfl (fun ls hl => ?_)
  have loop4 : ∀ (n4 : Nat) (i : Nat) (H : Heap) (locs : List Loc) (ls : Array Slot), Ln L - i < n4 → (i ≤ Ln L) → va_P D vwCl (wX a g L att T hs tm tk lt) H → va_D A (wX a g L att T hs tm tk lt) → va_S A s.heap H locs → lv_has ls 3 [(0, .ref (a 2)), (1, .int (iI (hiU hs tm i))), (2, .int (iI ((i : Nat) : Int)))] → W p l e ({ frames := 1, cells := 0, slots := 0, locals := 12 } : Room) s m args below meth c H locs 0 0 Q (F0 m 4 ls []) := by
    intro n4
    induction n4 with
    | zero => exact fun _ H locs ls hn => absurd hn (Nat.not_lt_zero _)
    | succ n4 ih4 =>
      intro i H locs ls hn4 hi hP hD hS hl
      have hwn := wf_n hw
      have hb1 := hiU_bd hs tm i
      have hb2 := ht i
      have hb3 := hh i
      have hb4 := hh (hiU hs tm i).toNat
      refine lv_iload_n hx hb dX1_highestUnplaced_4 rfl (lv_at hl 2 rfl) ?_
      refine lv_aload_n hx hb dX1_highestUnplaced_5 rfl (lv_at hl 0 rfl) ?_
      refine va_get (D := D) (ci := 1) (v := .ref (a 1)) (C := RX1) (T := TX1) (N := 5) hx hb hts hinX1 hown hK hP 2 rfl rfl 0 (by decide) (hts (.fieldLink RX1 23 "LoopScheduler$Timetable" "loop" "LLoopScheduler$Loop;") (List.mem_of_getElem? (i := 1) rfl)) (fun _ h9 => h9) rfl dX1_highestUnplaced_6 ?_
      refine va_get (D := D) (ci := 0) (v := .int (iI ((Ln L : Nat) : Int))) (C := RX0) (T := TX0) (N := 10) hx hb hts hinX0 hown hK hP 1 rfl rfl 8 (by decide) (hts (.fieldLink RX1 43 "LoopScheduler$Loop" "operations" "I") (List.mem_of_getElem? (i := 2) rfl)) (fun _ h9 => h9) rfl dX1_highestUnplaced_9 ?_
      refine z_icge (a := ((i : Nat) : Int)) (b := ((Ln L : Nat) : Int)) (tgt := 59) hx hb dX1_highestUnplaced_12 (by decide) (by omega) (fun c_12 => ?_) (fun c_12 => ?_)
      · obtain rfl : i = Ln L := by omega
        refine lv_iload_n hx hb dX1_highestUnplaced_59 rfl (lv_at hl 1 rfl) ?_
        exact z_iret (w := (wX a g L att T hs tm tk lt)) (v := (iI (hiU hs tm (Ln L)))) hQ hx hb hr hlocks ⟨rfl, rfl⟩ hK hP hD hS dX1_highestUnplaced_60
      · refine lv_aload_n hx hb dX1_highestUnplaced_15 rfl (lv_at hl 0 rfl) ?_
        refine va_get (D := D) (ci := 1) (v := .ref (a 11)) (C := RX1) (T := TX1) (N := 5) hx hb hts hinX1 hown hK hP 2 rfl rfl 1 (by decide) (hts (.fieldLink RX1 9 "LoopScheduler$Timetable" "times" "[I") (List.mem_of_getElem? (i := 3) rfl)) (fun _ h9 => h9) rfl dX1_highestUnplaced_16 ?_
        refine lv_iload_n hx hb dX1_highestUnplaced_19 rfl (lv_at hl 2 rfl) ?_
        refine z_ialdN (f := tm) (z := i) hx hb hK hP 11 0 rfl rfl (by omega) (by decide) dX1_highestUnplaced_20 ?_
        refine z_ic hx hb dX1_highestUnplaced_21 ?_
        refine z_icne (a := (tm i)) (b := (-1)) (tgt := 53) hx hb dX1_highestUnplaced_22 (by decide) (by omega) (fun c_22 => ?_) (fun c_22 => ?_)
        · refine z_iinc (a := ((i : Nat) : Int)) (b := ((i + 1 : Nat) : Int)) (lv' := [(2, .int (iI ((i + 1 : Nat) : Int))), (0, .ref (a 2)), (1, .int (iI (hiU hs tm i)))]) hx hb 2 dX1_highestUnplaced_53 hl rfl rfl (by decide) rfl (fun ls hl => ?_)
          refine lv_goto (tgt := 4) hx hb dX1_highestUnplaced_56 (by decide) ?_
          exact ih4 (i + 1) _ _ _ (by omega) (by omega) hP hD hS (by rw [show hiU hs tm (i + 1) = _ from hiU_f (fun q => c_22 q.1)]; exact lv_sub hl [1, 2, 0] rfl)
        · refine lv_iload_n hx hb dX1_highestUnplaced_25 rfl (lv_at hl 1 rfl) ?_
          refine z_ic hx hb dX1_highestUnplaced_26 ?_
          refine z_iceq (a := (hiU hs tm i)) (b := (-1)) (tgt := 51) hx hb dX1_highestUnplaced_27 (by decide) (by omega) (fun c_27 => ?_) (fun c_27 => ?_)
          · refine lv_iload_n hx hb dX1_highestUnplaced_51 rfl (lv_at hl 2 rfl) ?_
            refine lv_istore_n (lv' := [(1, .int (iI ((i : Nat) : Int))), (0, .ref (a 2)), (2, .int (iI ((i : Nat) : Int)))]) hx hb dX1_highestUnplaced_52 rfl hl (by decide) rfl (fun ls hl => ?_)
            refine z_iinc (a := ((i : Nat) : Int)) (b := ((i + 1 : Nat) : Int)) (lv' := [(2, .int (iI ((i + 1 : Nat) : Int))), (1, .int (iI ((i : Nat) : Int))), (0, .ref (a 2))]) hx hb 2 dX1_highestUnplaced_53 hl rfl rfl (by decide) rfl (fun ls hl => ?_)
            refine lv_goto (tgt := 4) hx hb dX1_highestUnplaced_56 (by decide) ?_
            exact ih4 (i + 1) _ _ _ (by omega) (by omega) hP hD hS (by rw [show hiU hs tm (i + 1) = _ from hiU_t c_22 (Or.inl c_27)]; exact lv_sub hl [2, 1, 0] rfl)
          · refine lv_aload_n hx hb dX1_highestUnplaced_30 rfl (lv_at hl 0 rfl) ?_
            refine va_get (D := D) (ci := 1) (v := .ref (a 1)) (C := RX1) (T := TX1) (N := 5) hx hb hts hinX1 hown hK hP 2 rfl rfl 0 (by decide) (hts (.fieldLink RX1 23 "LoopScheduler$Timetable" "loop" "LLoopScheduler$Loop;") (List.mem_of_getElem? (i := 1) rfl)) (fun _ h9 => h9) rfl dX1_highestUnplaced_31 ?_
            refine va_get (D := D) (ci := 0) (v := .ref (a 10)) (C := RX0) (T := TX0) (N := 10) hx hb hts hinX0 hown hK hP 1 rfl rfl 7 (by decide) (hts (.fieldLink RX1 56 "LoopScheduler$Loop" "heights" "[I") (List.mem_of_getElem? (i := 4) rfl)) (fun _ h9 => h9) rfl dX1_highestUnplaced_34 ?_
            refine lv_iload_n hx hb dX1_highestUnplaced_37 rfl (lv_at hl 2 rfl) ?_
            refine z_ialdN (f := hs) (z := i) hx hb hK hP 10 0 rfl rfl (by omega) (by decide) dX1_highestUnplaced_38 ?_
            refine lv_aload_n hx hb dX1_highestUnplaced_39 rfl (lv_at hl 0 rfl) ?_
            refine va_get (D := D) (ci := 1) (v := .ref (a 1)) (C := RX1) (T := TX1) (N := 5) hx hb hts hinX1 hown hK hP 2 rfl rfl 0 (by decide) (hts (.fieldLink RX1 23 "LoopScheduler$Timetable" "loop" "LLoopScheduler$Loop;") (List.mem_of_getElem? (i := 1) rfl)) (fun _ h9 => h9) rfl dX1_highestUnplaced_40 ?_
            refine va_get (D := D) (ci := 0) (v := .ref (a 10)) (C := RX0) (T := TX0) (N := 10) hx hb hts hinX0 hown hK hP 1 rfl rfl 7 (by decide) (hts (.fieldLink RX1 56 "LoopScheduler$Loop" "heights" "[I") (List.mem_of_getElem? (i := 4) rfl)) (fun _ h9 => h9) rfl dX1_highestUnplaced_43 ?_
            refine lv_iload_n hx hb dX1_highestUnplaced_46 rfl (lv_at hl 1 rfl) ?_
            refine z_iald (f := hs) (z := (hiU hs tm i)) hx hb hK hP 10 0 rfl rfl (by omega) (by decide) dX1_highestUnplaced_47 ?_
            refine z_icle (a := (hs i)) (b := (hs ((hiU hs tm i)).toNat)) (tgt := 53) hx hb dX1_highestUnplaced_48 (by decide) (by omega) (fun c_48 => ?_) (fun c_48 => ?_)
            · refine z_iinc (a := ((i : Nat) : Int)) (b := ((i + 1 : Nat) : Int)) (lv' := [(2, .int (iI ((i + 1 : Nat) : Int))), (0, .ref (a 2)), (1, .int (iI (hiU hs tm i)))]) hx hb 2 dX1_highestUnplaced_53 hl rfl rfl (by decide) rfl (fun ls hl => ?_)
              refine lv_goto (tgt := 4) hx hb dX1_highestUnplaced_56 (by decide) ?_
              exact ih4 (i + 1) _ _ _ (by omega) (by omega) hP hD hS (by rw [show hiU hs tm (i + 1) = _ from hiU_f (fun q => q.2.elim c_27 (fun r => by omega))]; exact lv_sub hl [1, 2, 0] rfl)
            · refine lv_iload_n hx hb dX1_highestUnplaced_51 rfl (lv_at hl 2 rfl) ?_
              refine lv_istore_n (lv' := [(1, .int (iI ((i : Nat) : Int))), (0, .ref (a 2)), (2, .int (iI ((i : Nat) : Int)))]) hx hb dX1_highestUnplaced_52 rfl hl (by decide) rfl (fun ls hl => ?_)
              refine z_iinc (a := ((i : Nat) : Int)) (b := ((i + 1 : Nat) : Int)) (lv' := [(2, .int (iI ((i + 1 : Nat) : Int))), (1, .int (iI ((i : Nat) : Int))), (0, .ref (a 2))]) hx hb 2 dX1_highestUnplaced_53 hl rfl rfl (by decide) rfl (fun ls hl => ?_)
              refine lv_goto (tgt := 4) hx hb dX1_highestUnplaced_56 (by decide) ?_
              exact ih4 (i + 1) _ _ _ (by omega) (by omega) hP hD hS (by rw [show hiU hs tm (i + 1) = _ from hiU_t c_22 (Or.inr (by omega))]; exact lv_sub hl [2, 1, 0] rfl)
  exact loop4 ((Ln L - 0) + 1) 0 _ _ _ (Nat.lt_succ_self _) (by omega) hP hD hS (lv_sub hl [2, 1, 0] rfl)
set_option maxHeartbeats 4000000 in
set_option maxRecDepth 100000 in
theorem c_X1_placeAtFirst (l : Launch) (D : va_G) (g : Nat → ClassId) (a : Nat → Nat) (L : LD) (att T : Nat) (hs tm : Nat → Int) (tk : Nat → Nat → Int) (lt : Nat → Int) (B : Int) (C : Int) (op : Nat) (hw : wf L) (hT : 0 < T ∧ T ≤ 200) (hB : 0 ≤ B ∧ B ≤ 1000000) (ht : tB B tm) (hC : C ≤ 1000) (hk : kB C tk) (hop : op < 14) : zMi l D (zT g) yX1_placeAtFirst wsX1_placeAtFirst 3 59 (wX a g L att T hs tm tk lt) [.ref (a 2), .int (iI ((op : Nat) : Int))] (fun r w1 => r = iI (bI (pF L T tm tk op).isSome) ∧ w1 = wX a g L att T hs (paT (pF L T tm tk op) tm op) (paK L T (pF L T tm tk op) tk op) lt) := by
  refine z_ofI (cc := cX1_placeAtFirst) (maxL := 5) (ret := (some .boolean)) (by decide) rfl (Nat.le_of_ble_eq_true rfl) ?_
  intro p e s m args below meth c A ls hx hb hr hts hown hlocks hml hP hK hD hS hA hl Q hQ
  have hown : s.vm.findClass RX1 = some m.cls := hown
  have hinX0 : ∀ w ∈ u_ws RX0 TX0 10, w ∈ wsX1_placeAtFirst := by decide +kernel
  have hinX1 : ∀ w ∈ u_ws RX1 TX1 5, w ∈ wsX1_placeAtFirst := by decide +kernel
  have hl : lv_has ls 5 [(0, .ref (a 2)), (1, .int (iI ((op : Nat) : Int)))] := hl
  have hE := pE_e hw (T := T) ht hB.1 op
  have hEb := eA_bd hw (T := T) ht hB.1 op (Lm L)
  have hLb := lA_bd hw (T := T) ht op (Lm L)
  refine lv_aload_n hx hb dX1_placeAtFirst_0 rfl (lv_at hl 0 rfl) ?_
  refine lv_iload_n hx hb dX1_placeAtFirst_1 rfl (lv_at hl 1 rfl) ?_
  refine z_calli (va_runV (As := [.int (iI ((op : Nat) : Int))]) (rest := []) ⟨hx, hb, hml, hown, hts⟩ (c_X1_earliestAllowed l D g a L att T hs tm tk lt B op hw hT hB ht (by omega) _) (cwV 1 hts gX1_placeAtFirst_X1_earliestAllowed rfl rfl rfl (by decide +kernel) ⟨Nat.le_of_ble_eq_true rfl, Nat.le_of_ble_eq_true rfl⟩) (z_preV 2 hK hP hD rfl rfl) rfl rfl hl.1 rfl (lv_room (Nat.le_of_ble_eq_true rfl)) dX1_placeAtFirst_2 ⟨Nat.zero_le _, Nat.zero_le _⟩) hS hD hA (fun r w1 H locs hw1 hP hD hS => ?_)
  obtain ⟨rfl, rfl⟩ := hw1
  refine z_eqI (y := iI ((pE L T tm op : Nat) : Int)) (congrArg iI (pE_e hw ht hB.1 op)) ?_
  refine lv_istore_n (lv' := [(2, .int (iI ((pE L T tm op : Nat) : Int))), (0, .ref (a 2)), (1, .int (iI ((op : Nat) : Int)))]) hx hb dX1_placeAtFirst_5 rfl hl (by decide) rfl (fun ls hl => ?_)
  refine lv_aload_n hx hb dX1_placeAtFirst_6 rfl (lv_at hl 1 rfl) ?_
  refine lv_iload_n hx hb dX1_placeAtFirst_7 rfl (lv_at hl 2 rfl) ?_
  refine lv_iload_n hx hb dX1_placeAtFirst_8 rfl (lv_at hl 0 rfl) ?_
  refine lv_aload_n hx hb dX1_placeAtFirst_9 rfl (lv_at hl 1 rfl) ?_
  refine va_get (D := D) (ci := 1) (v := .int (iI ((T : Nat) : Int))) (C := RX1) (T := TX1) (N := 5) hx hb hts hinX1 hown hK hP 2 rfl rfl 4 (by decide) (hts (.fieldLink RX1 27 "LoopScheduler$Timetable" "interval" "I") (List.mem_of_getElem? (i := 1) rfl)) (fun _ h9 => h9) rfl dX1_placeAtFirst_10 ?_
  refine z_add (a := ((pE L T tm op : Nat) : Int)) (b := ((T : Nat) : Int)) hx hb dX1_placeAtFirst_13 ?_
  refine z_ic hx hb dX1_placeAtFirst_14 ?_
  refine z_sub (a := (((pE L T tm op : Nat) : Int) + ((T : Nat) : Int))) (b := 1) hx hb dX1_placeAtFirst_15 ?_
  refine z_calli (va_runV (As := [.int (iI ((op : Nat) : Int)), .int (iI ((((pE L T tm op : Nat) : Int) + ((T : Nat) : Int)) - 1))]) (rest := []) ⟨hx, hb, hml, hown, hts⟩ (c_X1_latestAllowed l D g a L att T hs tm tk lt B op ((((pE L T tm op : Nat) : Int) + ((T : Nat) : Int)) - 1) hw hT hB ht (by omega) (by omega) _) (cwV 2 hts gX1_placeAtFirst_X1_latestAllowed rfl rfl rfl (by decide +kernel) ⟨Nat.le_of_ble_eq_true rfl, Nat.le_of_ble_eq_true rfl⟩) (z_preV 2 hK hP hD rfl rfl) rfl rfl hl.1 rfl (lv_room (Nat.le_of_ble_eq_true rfl)) dX1_placeAtFirst_16 ⟨Nat.zero_le _, Nat.zero_le _⟩) hS hD hA (fun r w1 H locs hw1 hP hD hS => ?_)
  obtain ⟨rfl, rfl⟩ := hw1
  refine lv_istore_n (lv' := [(3, .int (iI (min (lA L T tm op (Lm L)) ((((pE L T tm op : Nat) : Int) + ((T : Nat) : Int)) - 1)))), (2, .int (iI ((pE L T tm op : Nat) : Int))), (0, .ref (a 2)), (1, .int (iI ((op : Nat) : Int)))]) hx hb dX1_placeAtFirst_19 rfl hl (by decide) rfl (fun ls hl => ?_)
  refine lv_iload_n hx hb dX1_placeAtFirst_20 rfl (lv_at hl 1 rfl) ?_
  refine lv_istore (lv' := [(4, .int (iI ((pE L T tm op : Nat) : Int))), (3, .int (iI (min (lA L T tm op (Lm L)) ((((pE L T tm op : Nat) : Int) + ((T : Nat) : Int)) - 1)))), (2, .int (iI ((pE L T tm op : Nat) : Int))), (0, .ref (a 2)), (1, .int (iI ((op : Nat) : Int)))]) hx hb dX1_placeAtFirst_21 hl (by decide) rfl (fun ls hl => ?_)
  have loop23 : ∀ (n23 : Nat) (j : Nat) (H : Heap) (locs : List Loc) (ls : Array Slot), ((min (lA L T tm op (Lm L)) (((pE L T tm op : Nat) : Int) + (T : Int) - 1)) - (j : Int) + 1).toNat < n23 → ((j : Int) ≤ ((pE L T tm op : Nat) : Int) + (T : Int)) → (pE L T tm op ≤ j) → (ffst (hUb L T tk op) j ((min (lA L T tm op (Lm L)) (((pE L T tm op : Nat) : Int) + (T : Int) - 1)) - (j : Int) + 1).toNat = pF L T tm tk op) → va_P D vwCl (wX a g L att T hs tm tk lt) H → va_D A (wX a g L att T hs tm tk lt) → va_S A s.heap H locs → lv_has ls 5 [(0, .ref (a 2)), (1, .int (iI ((op : Nat) : Int))), (2, .int (iI ((pE L T tm op : Nat) : Int))), (3, .int (iI (min (lA L T tm op (Lm L)) (((pE L T tm op : Nat) : Int) + (T : Int) - 1)))), (4, .int (iI ((j : Nat) : Int)))] → W p l e ({ frames := 3, cells := 0, slots := 0, locals := 59 } : Room) s m args below meth c H locs 0 0 Q (F0 m 23 ls []) := by
    intro n23
    induction n23 with
    | zero => exact fun _ H locs ls hn => absurd hn (Nat.not_lt_zero _)
    | succ n23 ih23 =>
      intro j H locs ls hn23 hs2 hs1 hf hP hD hS hl
      have hlb := lA_bd hw (T := T) ht op (Lm L)
      refine lv_iload hx hb dX1_placeAtFirst_23 (lv_at hl 4 rfl) ?_
      refine lv_iload_n hx hb dX1_placeAtFirst_25 rfl (lv_at hl 3 rfl) ?_
      refine z_icgt (a := ((j : Nat) : Int)) (b := (min (lA L T tm op (Lm L)) (((pE L T tm op : Nat) : Int) + (T : Int) - 1))) (tgt := 54) hx hb dX1_placeAtFirst_26 (by decide) (by omega) (fun c_26 => ?_) (fun c_26 => ?_)
      · have hN : pF L T tm tk op = none := by rw [← hf, show ((min (lA L T tm op (Lm L)) (((pE L T tm op : Nat) : Int) + (T : Int) - 1)) - (j : Int) + 1).toNat = 0 by omega]; rfl
        refine z_ic hx hb dX1_placeAtFirst_54 ?_
        exact z_zret (w := (wX a g L att T hs tm tk lt)) (v := (iI ((0 : Nat) : Int))) z_nb0 hQ hx hb hr hlocks ⟨by rw [hN]; rfl, by rw [hN]; rfl⟩ hK hP hD hS dX1_placeAtFirst_55
      · have hstep : ((min (lA L T tm op (Lm L)) (((pE L T tm op : Nat) : Int) + (T : Int) - 1)) - (j : Int) + 1).toNat = ((min (lA L T tm op (Lm L)) (((pE L T tm op : Nat) : Int) + (T : Int) - 1)) - ((j + 1 : Nat) : Int) + 1).toNat + 1 := by omega
        refine lv_aload_n hx hb dX1_placeAtFirst_29 rfl (lv_at hl 0 rfl) ?_
        refine lv_iload_n hx hb dX1_placeAtFirst_30 rfl (lv_at hl 1 rfl) ?_
        refine lv_iload hx hb dX1_placeAtFirst_31 (lv_at hl 4 rfl) ?_
        refine z_calli (va_runV (As := [.int (iI ((op : Nat) : Int)), .int (iI ((j : Nat) : Int))]) (rest := []) ⟨hx, hb, hml, hown, hts⟩ (c_X1_hasUnits l D g a L att T hs tm tk lt C op j hw hT (by omega) hk (by omega) (by omega) _) (cwV 2 hts gX1_placeAtFirst_X1_hasUnits rfl rfl rfl (by decide +kernel) ⟨Nat.le_of_ble_eq_true rfl, Nat.le_of_ble_eq_true rfl⟩) (z_preV 2 hK hP hD rfl rfl) rfl rfl hl.1 rfl (lv_room (Nat.le_of_ble_eq_true rfl)) dX1_placeAtFirst_33 ⟨Nat.zero_le _, Nat.zero_le _⟩) hS hD hA (fun r w1 H locs hw1 hP hD hS => ?_)
        obtain ⟨rfl, rfl⟩ := hw1
        refine z_ifeq (a := (bI (hUb L T tk op j))) (tgt := 48) hx hb dX1_placeAtFirst_36 (by decide) (bI_r _) (fun c_36 => ?_) (fun c_36 => ?_)
        · have b_36 := bI_f c_36
          refine z_iinc (a := ((j : Nat) : Int)) (b := ((j + 1 : Nat) : Int)) (lv' := [(4, .int (iI ((j + 1 : Nat) : Int))), (0, .ref (a 2)), (1, .int (iI ((op : Nat) : Int))), (2, .int (iI ((pE L T tm op : Nat) : Int))), (3, .int (iI (min (lA L T tm op (Lm L)) (((pE L T tm op : Nat) : Int) + (T : Int) - 1))))]) hx hb 4 dX1_placeAtFirst_48 hl rfl rfl (by decide) rfl (fun ls hl => ?_)
          refine lv_goto (tgt := 23) hx hb dX1_placeAtFirst_51 (by decide) ?_
          exact ih23 (j + 1) _ _ _ (by omega) (by omega) (by omega) (by rw [← hf, hstep]; exact (ffst_f (bI_f c_36)).symm) hP hD hS (lv_sub hl [1, 2, 3, 4, 0] rfl)
        · have b_36 := bI_t c_36
          have hSm : pF L T tm tk op = some j := by rw [← hf, hstep]; exact ffst_t (bI_t c_36)
          refine lv_aload_n hx hb dX1_placeAtFirst_39 rfl (lv_at hl 0 rfl) ?_
          refine lv_iload_n hx hb dX1_placeAtFirst_40 rfl (lv_at hl 1 rfl) ?_
          refine lv_iload hx hb dX1_placeAtFirst_41 (lv_at hl 4 rfl) ?_
          refine z_callv (va_runV (As := [.int (iI ((op : Nat) : Int)), .int (iI ((j : Nat) : Int))]) (rest := []) ⟨hx, hb, hml, hown, hts⟩ (c_X1_place l D g a L att T hs tm tk lt op j hw hT (by omega) (by omega) _) (cwV 2 hts gX1_placeAtFirst_X1_place rfl rfl rfl (by decide +kernel) ⟨Nat.le_of_ble_eq_true rfl, Nat.le_of_ble_eq_true rfl⟩) (z_preV 2 hK hP hD rfl rfl) rfl rfl hl.1 rfl (lv_room (Nat.le_of_ble_eq_true rfl)) dX1_placeAtFirst_43 ⟨Nat.zero_le _, Nat.zero_le _⟩) hS hD hA (fun w1 H locs hw1 hP hD hS => ?_)
          subst hw1
          refine z_ic hx hb dX1_placeAtFirst_46 ?_
          exact z_zret (w := (wX a g L att T hs (upZ tm op (j : Int)) (pTk L T tk op j) lt)) (v := (iI ((1 : Nat) : Int))) z_nb1 hQ hx hb hr hlocks ⟨by rw [hSm]; rfl, by rw [hSm]; rfl⟩ hK hP hD hS dX1_placeAtFirst_47
  exact loop23 ((((min (lA L T tm op (Lm L)) (((pE L T tm op : Nat) : Int) + (T : Int) - 1)) - ((pE L T tm op) : Int) + 1).toNat) + 1) (pE L T tm op) _ _ _ (Nat.lt_succ_self _) (by omega) (Nat.le_refl _) (by unfold pF pN; rw [hE]) hP hD hS (lv_sub hl [3, 4, 2, 1, 0] rfl)
set_option maxHeartbeats 4000000 in
set_option maxRecDepth 100000 in
theorem c_X1_attempt (l : Launch) (D : va_G) (g : Nat → ClassId) (a : Nat → Nat) (L : LD) (att T : Nat) (hs tm : Nat → Int) (tk : Nat → Nat → Int) (lt : Nat → Int) (t : Nat) (hw : wf L) (htt : 0 < t ∧ t ≤ 200) : zMi l D (zT g) yX1_attempt wsX1_attempt 4 83 (wX a g L att T hs tm tk lt) [.ref (a 2), .int (iI ((t : Nat) : Int))] (fun r w1 => (r = iI 1 ∧ ∃ tm' tk', atp L t (Ln L) = some (tm', tk') ∧ w1 = wX a g L att t (hF L t) tm' tk' lt) ∨ (r = iI 0 ∧ atp L t (Ln L) = none ∧ ∃ tm' tk', w1 = wX a g L att 0 (hF L t) tm' tk' lt)) := by
  refine z_ofI (cc := cX1_attempt) (maxL := 4) (ret := (some .boolean)) (by decide) rfl (Nat.le_of_ble_eq_true rfl) ?_
  intro p e s m args below meth c A ls hx hb hr hts hown hlocks hml hP hK hD hS hA hl Q hQ
  have hown : s.vm.findClass RX1 = some m.cls := hown
  have hinX0 : ∀ w ∈ u_ws RX0 TX0 10, w ∈ wsX1_attempt := by decide +kernel
  have hinX1 : ∀ w ∈ u_ws RX1 TX1 5, w ∈ wsX1_attempt := by decide +kernel
  have hl : lv_has ls 4 [(0, .ref (a 2)), (1, .int (iI ((t : Nat) : Int)))] := hl
  refine lv_aload_n hx hb dX1_attempt_0 rfl (lv_at hl 0 rfl) ?_
  refine lv_iload_n hx hb dX1_attempt_1 rfl (lv_at hl 1 rfl) ?_
  refine va_put (D := D) (ci := 1) (v := .int (iI ((t : Nat) : Int))) (ty := .int) (C := RX1) (T := TX1) (N := 5) hx hb hts hinX1 tyX1 tyX1_ok nmX1 hown hK hP hD hS 2 rfl rfl 4 (by decide) (hts (.fieldLink RX1 27 "LoopScheduler$Timetable" "interval" "I") (List.mem_of_getElem? (i := 1) rfl)) (fun _ h9 => h9) rfl (by decide +kernel) rfl rfl (Nat.le_of_ble_eq_true rfl) dX1_attempt_2 (fun H locs hP hD hS => ?_)
  have hP : va_P D vwCl (wX a g L att t hs tm tk lt) H := hP
  have hD : va_D A (wX a g L att t hs tm tk lt) := hD
  refine lv_aload_n hx hb dX1_attempt_5 rfl (lv_at hl 0 rfl) ?_
  refine va_get (D := D) (ci := 1) (v := .ref (a 1)) (C := RX1) (T := TX1) (N := 5) hx hb hts hinX1 hown hK hP 2 rfl rfl 0 (by decide) (hts (.fieldLink RX1 23 "LoopScheduler$Timetable" "loop" "LLoopScheduler$Loop;") (List.mem_of_getElem? (i := 2) rfl)) (fun _ h9 => h9) rfl dX1_attempt_6 ?_
  refine lv_iload_n hx hb dX1_attempt_9 rfl (lv_at hl 1 rfl) ?_
  refine z_calli (va_runV (As := [.int (iI ((t : Nat) : Int))]) (rest := []) ⟨hx, hb, hml, hown, hts⟩ (c_X0_findHeights l D g a L att t hs tm tk lt t hw (by omega) _) (cwV 1 hts gX1_attempt_X0_findHeights rfl rfl rfl (by decide +kernel) ⟨Nat.le_of_ble_eq_true rfl, Nat.le_of_ble_eq_true rfl⟩) (z_preV 1 hK hP hD rfl rfl) rfl rfl hl.1 rfl (lv_room (Nat.le_of_ble_eq_true rfl)) dX1_attempt_10 ⟨Nat.zero_le _, Nat.zero_le _⟩) hS hD hA (fun r w1 H locs hw1 hP hD hS => ?_)
  obtain ⟨rfl, rfl⟩ := hw1
  refine lv_pop hx hb dX1_attempt_13 rfl ?_
  refine lv_aload_n hx hb dX1_attempt_14 rfl (lv_at hl 0 rfl) ?_
  refine va_get (D := D) (ci := 1) (v := .ref (a 11)) (C := RX1) (T := TX1) (N := 5) hx hb hts hinX1 hown hK hP 2 rfl rfl 1 (by decide) (hts (.fieldLink RX1 9 "LoopScheduler$Timetable" "times" "[I") (List.mem_of_getElem? (i := 3) rfl)) (fun _ h9 => h9) rfl dX1_attempt_15 ?_
  refine z_ic hx hb dX1_attempt_18 ?_
  refine z_callv (va_runS (As := [.ref (a 11), .int (iI (-1))]) (rest := []) ⟨hx, hb, hml, hown, hts⟩ (c_fill l D g (wX a g L att t (hF L t) tm tk lt) 11 14 (a 11) tm (-1) rfl (by decide) _) (va_cwS 2 hts gX1_attempt_J7_fill_53178 rfl rfl rfl (by decide +kernel) ⟨Nat.le_of_ble_eq_true rfl, Nat.le_of_ble_eq_true rfl⟩) (z_preS hK hP hD) rfl rfl hl.1 rfl (lv_room (Nat.le_of_ble_eq_true rfl)) dX1_attempt_19 ⟨Nat.zero_le _, Nat.zero_le _⟩) hS hD hA (fun w1 H locs hw1 hP hD hS => ?_)
  subst hw1
  have hP : va_P D vwCl (wX a g L att t (hF L t) (fun _ => (-1)) tk lt) H := hP
  have hD : va_D A (wX a g L att t (hF L t) (fun _ => (-1)) tk lt) := hD
  refine z_ic hx hb dX1_attempt_22 ?_
  refine lv_istore_n (lv' := [(2, .int (iI ((0 : Nat) : Int))), (0, .ref (a 2)), (1, .int (iI ((t : Nat) : Int)))]) hx hb dX1_attempt_23 rfl hl (by decide) rfl (fun ls hl => ?_)
  refine lv_iload_n hx hb dX1_attempt_24 rfl (lv_at hl 0 rfl) ?_
  refine z_ic hx hb dX1_attempt_25 ?_
  refine z_icge (a := 0) (b := 3) (tgt := 45) hx hb dX1_attempt_26 (by decide) (by omega) (fun c_26 => ?_) (fun c_26 => ?_)
  · exact absurd c_26 (by decide)
  · refine lv_aload_n hx hb dX1_attempt_29 rfl (lv_at hl 1 rfl) ?_
    refine va_get (D := D) (ci := 1) (v := .ref (a 12)) (C := RX1) (T := TX1) (N := 5) hx hb hts hinX1 hown hK hP 2 rfl rfl 2 (by decide) (hts (.fieldLink RX1 17 "LoopScheduler$Timetable" "takenUnits" "[[I") (List.mem_of_getElem? (i := 4) rfl)) (fun _ h9 => h9) rfl dX1_attempt_30 ?_
    refine lv_iload_n hx hb dX1_attempt_33 rfl (lv_at hl 0 rfl) ?_
    refine z_aald (z := 0) (a1 := a (13 + 0)) hx hb hK hP 12 1 rfl rfl (by omega) (by decide) (if_pos (by omega)) dX1_attempt_34 ?_
    refine z_ic hx hb dX1_attempt_35 ?_
    refine z_callv (va_runS (As := [.ref (a (13 + 0)), .int (iI ((0 : Nat) : Int))]) (rest := []) ⟨hx, hb, hml, hown, hts⟩ (c_fill l D g (wX a g L att t (hF L t) (fun _ => (-1)) tk lt) 13 200 (a (13 + 0)) (tk 0) 0 rfl (by decide) _) (va_cwS 2 hts gX1_attempt_J7_fill_53178 rfl rfl rfl (by decide +kernel) ⟨Nat.le_of_ble_eq_true rfl, Nat.le_of_ble_eq_true rfl⟩) (z_preS hK hP hD) rfl rfl hl.1 rfl (lv_room (Nat.le_of_ble_eq_true rfl)) dX1_attempt_36 ⟨Nat.zero_le _, Nat.zero_le _⟩) hS hD hA (fun w1 H locs hw1 hP hD hS => ?_)
    subst hw1
    have hP : va_P D vwCl (wX a g L att t (hF L t) (fun _ => (-1)) (upR tk 0 (fun _ => 0)) lt) H := hP
    have hD : va_D A (wX a g L att t (hF L t) (fun _ => (-1)) (upR tk 0 (fun _ => 0)) lt) := hD
    refine z_iinc (a := 0) (b := 1) (lv' := [(2, .int (iI ((1 : Nat) : Int))), (0, .ref (a 2)), (1, .int (iI ((t : Nat) : Int)))]) hx hb 0 dX1_attempt_39 hl rfl rfl (by decide) rfl (fun ls hl => ?_)
    refine lv_goto (tgt := 24) hx hb dX1_attempt_42 (by decide) ?_
    refine lv_iload_n hx hb dX1_attempt_24 rfl (lv_at hl 0 rfl) ?_
    refine z_ic hx hb dX1_attempt_25 ?_
    refine z_icge (a := 1) (b := 3) (tgt := 45) hx hb dX1_attempt_26 (by decide) (by omega) (fun c_26 => ?_) (fun c_26 => ?_)
    · exact absurd c_26 (by decide)
    · refine lv_aload_n hx hb dX1_attempt_29 rfl (lv_at hl 1 rfl) ?_
      refine va_get (D := D) (ci := 1) (v := .ref (a 12)) (C := RX1) (T := TX1) (N := 5) hx hb hts hinX1 hown hK hP 2 rfl rfl 2 (by decide) (hts (.fieldLink RX1 17 "LoopScheduler$Timetable" "takenUnits" "[[I") (List.mem_of_getElem? (i := 4) rfl)) (fun _ h9 => h9) rfl dX1_attempt_30 ?_
      refine lv_iload_n hx hb dX1_attempt_33 rfl (lv_at hl 0 rfl) ?_
      refine z_aald (z := 1) (a1 := a (13 + 1)) hx hb hK hP 12 1 rfl rfl (by omega) (by decide) (if_pos (by omega)) dX1_attempt_34 ?_
      refine z_ic hx hb dX1_attempt_35 ?_
      refine z_callv (va_runS (As := [.ref (a (13 + 1)), .int (iI ((0 : Nat) : Int))]) (rest := []) ⟨hx, hb, hml, hown, hts⟩ (c_fill l D g (wX a g L att t (hF L t) (fun _ => (-1)) (upR tk 0 (fun _ => 0)) lt) 14 200 (a (13 + 1)) ((upR tk 0 (fun _ => 0)) 1) 0 rfl (by decide) _) (va_cwS 2 hts gX1_attempt_J7_fill_53178 rfl rfl rfl (by decide +kernel) ⟨Nat.le_of_ble_eq_true rfl, Nat.le_of_ble_eq_true rfl⟩) (z_preS hK hP hD) rfl rfl hl.1 rfl (lv_room (Nat.le_of_ble_eq_true rfl)) dX1_attempt_36 ⟨Nat.zero_le _, Nat.zero_le _⟩) hS hD hA (fun w1 H locs hw1 hP hD hS => ?_)
      subst hw1
      have hP : va_P D vwCl (wX a g L att t (hF L t) (fun _ => (-1)) (upR (upR tk 0 (fun _ => 0)) 1 (fun _ => 0)) lt) H := hP
      have hD : va_D A (wX a g L att t (hF L t) (fun _ => (-1)) (upR (upR tk 0 (fun _ => 0)) 1 (fun _ => 0)) lt) := hD
      refine z_iinc (a := 1) (b := 2) (lv' := [(2, .int (iI ((2 : Nat) : Int))), (0, .ref (a 2)), (1, .int (iI ((t : Nat) : Int)))]) hx hb 0 dX1_attempt_39 hl rfl rfl (by decide) rfl (fun ls hl => ?_)
      refine lv_goto (tgt := 24) hx hb dX1_attempt_42 (by decide) ?_
      refine lv_iload_n hx hb dX1_attempt_24 rfl (lv_at hl 0 rfl) ?_
      refine z_ic hx hb dX1_attempt_25 ?_
      refine z_icge (a := 2) (b := 3) (tgt := 45) hx hb dX1_attempt_26 (by decide) (by omega) (fun c_26 => ?_) (fun c_26 => ?_)
      · exact absurd c_26 (by decide)
      · refine lv_aload_n hx hb dX1_attempt_29 rfl (lv_at hl 1 rfl) ?_
        refine va_get (D := D) (ci := 1) (v := .ref (a 12)) (C := RX1) (T := TX1) (N := 5) hx hb hts hinX1 hown hK hP 2 rfl rfl 2 (by decide) (hts (.fieldLink RX1 17 "LoopScheduler$Timetable" "takenUnits" "[[I") (List.mem_of_getElem? (i := 4) rfl)) (fun _ h9 => h9) rfl dX1_attempt_30 ?_
        refine lv_iload_n hx hb dX1_attempt_33 rfl (lv_at hl 0 rfl) ?_
        refine z_aald (z := 2) (a1 := a (13 + 2)) hx hb hK hP 12 1 rfl rfl (by omega) (by decide) (if_pos (by omega)) dX1_attempt_34 ?_
        refine z_ic hx hb dX1_attempt_35 ?_
        refine z_callv (va_runS (As := [.ref (a (13 + 2)), .int (iI ((0 : Nat) : Int))]) (rest := []) ⟨hx, hb, hml, hown, hts⟩ (c_fill l D g (wX a g L att t (hF L t) (fun _ => (-1)) (upR (upR tk 0 (fun _ => 0)) 1 (fun _ => 0)) lt) 15 200 (a (13 + 2)) ((upR (upR tk 0 (fun _ => 0)) 1 (fun _ => 0)) 2) 0 rfl (by decide) _) (va_cwS 2 hts gX1_attempt_J7_fill_53178 rfl rfl rfl (by decide +kernel) ⟨Nat.le_of_ble_eq_true rfl, Nat.le_of_ble_eq_true rfl⟩) (z_preS hK hP hD) rfl rfl hl.1 rfl (lv_room (Nat.le_of_ble_eq_true rfl)) dX1_attempt_36 ⟨Nat.zero_le _, Nat.zero_le _⟩) hS hD hA (fun w1 H locs hw1 hP hD hS => ?_)
        subst hw1
        have hP : va_P D vwCl (wX a g L att t (hF L t) (fun _ => (-1)) (upR (upR (upR tk 0 (fun _ => 0)) 1 (fun _ => 0)) 2 (fun _ => 0)) lt) H := hP
        have hD : va_D A (wX a g L att t (hF L t) (fun _ => (-1)) (upR (upR (upR tk 0 (fun _ => 0)) 1 (fun _ => 0)) 2 (fun _ => 0)) lt) := hD
        refine z_iinc (a := 2) (b := 3) (lv' := [(2, .int (iI ((3 : Nat) : Int))), (0, .ref (a 2)), (1, .int (iI ((t : Nat) : Int)))]) hx hb 0 dX1_attempt_39 hl rfl rfl (by decide) rfl (fun ls hl => ?_)
        refine lv_goto (tgt := 24) hx hb dX1_attempt_42 (by decide) ?_
        refine lv_iload_n hx hb dX1_attempt_24 rfl (lv_at hl 0 rfl) ?_
        refine z_ic hx hb dX1_attempt_25 ?_
        refine z_icge (a := 3) (b := 3) (tgt := 45) hx hb dX1_attempt_26 (by decide) (by omega) (fun c_26 => ?_) (fun c_26 => ?_)
        · refine z_ic hx hb dX1_attempt_45 ?_
          refine lv_istore_n (lv' := [(2, .int (iI ((0 : Nat) : Int))), (0, .ref (a 2)), (1, .int (iI ((t : Nat) : Int)))]) hx hb dX1_attempt_46 rfl hl (by decide) rfl (fun ls hl => ?_)
          have loop47 : ∀ (n47 : Nat) (q : Nat) (tm' : Nat → Int) (tk' : Nat → Nat → Int) (H : Heap) (locs : List Loc) (ls : Array Slot), Ln L - q < n47 → (q ≤ Ln L) → (atp L t q = some (tm', tk')) → va_P D vwCl (wX a g L att t (hF L t) tm' tk' lt) H → va_D A (wX a g L att t (hF L t) tm' tk' lt) → va_S A s.heap H locs → lv_has ls 4 [(0, .ref (a 2)), (1, .int (iI ((t : Nat) : Int))), (2, .int (iI ((q : Nat) : Int)))] → W p l e ({ frames := 4, cells := 0, slots := 0, locals := 83 } : Room) s m args below meth c H locs 0 0 Q (F0 m 47 ls []) := by
            intro n47
            induction n47 with
            | zero => exact fun _ _ _ H locs ls hn => absurd hn (Nat.not_lt_zero _)
            | succ n47 ih47 =>
              intro q tm' tk' H locs ls hn47 hc hat hP hD hS hl
              have hwn := wf_n hw
              have hbd := atp_bd hw (T := t) (by omega) q _ hat
              have hgb : gB 100000 (hF L t) := fun i => by have := hit_bd hw t (Ln L + 1) i; unfold hF; omega
              have hhb := hiU_bd (hF L t) tm' (Ln L)
              refine lv_iload_n hx hb dX1_attempt_47 rfl (lv_at hl 2 rfl) ?_
              refine lv_aload_n hx hb dX1_attempt_48 rfl (lv_at hl 0 rfl) ?_
              refine va_get (D := D) (ci := 1) (v := .ref (a 1)) (C := RX1) (T := TX1) (N := 5) hx hb hts hinX1 hown hK hP 2 rfl rfl 0 (by decide) (hts (.fieldLink RX1 23 "LoopScheduler$Timetable" "loop" "LLoopScheduler$Loop;") (List.mem_of_getElem? (i := 2) rfl)) (fun _ h9 => h9) rfl dX1_attempt_49 ?_
              refine va_get (D := D) (ci := 0) (v := .int (iI ((Ln L : Nat) : Int))) (C := RX0) (T := TX0) (N := 10) hx hb hts hinX0 hown hK hP 1 rfl rfl 8 (by decide) (hts (.fieldLink RX1 43 "LoopScheduler$Loop" "operations" "I") (List.mem_of_getElem? (i := 5) rfl)) (fun _ h9 => h9) rfl dX1_attempt_52 ?_
              refine z_icge (a := ((q : Nat) : Int)) (b := ((Ln L : Nat) : Int)) (tgt := 88) hx hb dX1_attempt_55 (by decide) (by omega) (fun c_55 => ?_) (fun c_55 => ?_)
              · obtain rfl : q = Ln L := by omega
                refine z_ic hx hb dX1_attempt_88 ?_
                exact z_zret (w := (wX a g L att t (hF L t) tm' tk' lt)) (v := (iI ((1 : Nat) : Int))) z_nb1 hQ hx hb hr hlocks (Or.inl ⟨rfl, _, _, hat, rfl⟩) hK hP hD hS dX1_attempt_89
              · refine lv_aload_n hx hb dX1_attempt_58 rfl (lv_at hl 0 rfl) ?_
                refine z_calli (va_runV (As := []) (rest := []) ⟨hx, hb, hml, hown, hts⟩ (c_X1_highestUnplaced l D g a L att t (hF L t) tm' tk' lt (212 * (q : Int)) hw (by omega) hbd.1 hgb _) (cwV 0 hts gX1_attempt_X1_highestUnplaced rfl rfl rfl (by decide +kernel) ⟨Nat.le_of_ble_eq_true rfl, Nat.le_of_ble_eq_true rfl⟩) (z_preV 2 hK hP hD rfl rfl) rfl rfl hl.1 rfl (lv_room (Nat.le_of_ble_eq_true rfl)) dX1_attempt_59 ⟨Nat.zero_le _, Nat.zero_le _⟩) hS hD hA (fun r w1 H locs hw1 hP hD hS => ?_)
                obtain ⟨rfl, rfl⟩ := hw1
                refine lv_istore_n (lv' := [(3, .int (iI (hiU (hF L t) tm' (Ln L)))), (0, .ref (a 2)), (1, .int (iI ((t : Nat) : Int))), (2, .int (iI ((q : Nat) : Int)))]) hx hb dX1_attempt_62 rfl hl (by decide) rfl (fun ls hl => ?_)
                refine lv_iload_n hx hb dX1_attempt_63 rfl (lv_at hl 0 rfl) ?_
                refine z_ic hx hb dX1_attempt_64 ?_
                refine z_iceq (a := (hiU (hF L t) tm' (Ln L))) (b := (-1)) (tgt := 76) hx hb dX1_attempt_65 (by decide) (by omega) (fun c_65 => ?_) (fun c_65 => ?_)
                · have hend := atp_end hat (by omega) (at1_h c_65)
                  refine lv_aload_n hx hb dX1_attempt_76 rfl (lv_at hl 1 rfl) ?_
                  refine z_callv (va_runV (As := []) (rest := []) ⟨hx, hb, hml, hown, hts⟩ (c_X1_drop l D g a L att t (hF L t) tm' tk' lt _) (cwV 0 hts gX1_attempt_X1_drop rfl rfl rfl (by decide +kernel) ⟨Nat.le_of_ble_eq_true rfl, Nat.le_of_ble_eq_true rfl⟩) (z_preV 2 hK hP hD rfl rfl) rfl rfl hl.1 rfl (lv_room (Nat.le_of_ble_eq_true rfl)) dX1_attempt_77 ⟨Nat.zero_le _, Nat.zero_le _⟩) hS hD hA (fun w1 H locs hw1 hP hD hS => ?_)
                  subst hw1
                  refine z_ic hx hb dX1_attempt_80 ?_
                  exact z_zret (w := (wX a g L att 0 (hF L t) tm' tk' lt)) (v := (iI ((0 : Nat) : Int))) z_nb0 hQ hx hb hr hlocks (Or.inr ⟨rfl, hend, _, _, rfl⟩) hK hP hD hS dX1_attempt_81
                · obtain ⟨op, hop⟩ : ∃ op : Nat, hiU (hF L t) tm' (Ln L) = ((op : Nat) : Int) := ⟨(hiU (hF L t) tm' (Ln L)).toNat, by omega⟩
                  have hl : lv_has ls 4 [(3, .int (iI ((op : Nat) : Int))), (0, .ref (a 2)), (1, .int (iI ((t : Nat) : Int))), (2, .int (iI ((q : Nat) : Int)))] := by rw [show (((op : Nat) : Int) : Int) = (hiU (hF L t) tm' (Ln L)) from hop.symm]; exact hl
                  refine lv_aload_n hx hb dX1_attempt_68 rfl (lv_at hl 1 rfl) ?_
                  refine lv_iload_n hx hb dX1_attempt_69 rfl (lv_at hl 0 rfl) ?_
                  refine z_calli (va_runV (As := [.int (iI ((op : Nat) : Int))]) (rest := []) ⟨hx, hb, hml, hown, hts⟩ (c_X1_placeAtFirst l D g a L att t (hF L t) tm' tk' lt (212 * (q : Int)) (4 * (q : Int)) op hw ⟨by omega, by omega⟩ (by omega) hbd.1 (by omega) hbd.2 (by omega) _) (cwV 1 hts gX1_attempt_X1_placeAtFirst rfl rfl rfl (by decide +kernel) ⟨Nat.le_of_ble_eq_true rfl, Nat.le_of_ble_eq_true rfl⟩) (z_preV 2 hK hP hD rfl rfl) rfl rfl hl.1 rfl (lv_room (Nat.le_of_ble_eq_true rfl)) dX1_attempt_70 ⟨Nat.zero_le _, Nat.zero_le _⟩) hS hD hA (fun r w1 H locs hw1 hP hD hS => ?_)
                  obtain ⟨rfl, rfl⟩ := hw1
                  refine z_ifne (a := (bI (pF L t tm' tk' op).isSome)) (tgt := 82) hx hb dX1_attempt_73 (by decide) (bI_r _) (fun c_73 => ?_) (fun c_73 => ?_)
                  · have b_73 := bI_t c_73
                    obtain ⟨j, hps⟩ := Option.isSome_iff_exists.mp (bI_t c_73)
                    have hP : va_P D vwCl (wX a g L att t (hF L t) (upZ tm' op (j : Int)) (cT L t op j 1 tk' (Lby L op)) lt) H := by rw [hps] at hP; exact hP
                    have hD : va_D A (wX a g L att t (hF L t) (upZ tm' op (j : Int)) (cT L t op j 1 tk' (Lby L op)) lt) := by rw [hps] at hD; exact hD
                    refine z_iinc (a := ((q : Nat) : Int)) (b := ((q + 1 : Nat) : Int)) (lv' := [(2, .int (iI ((q + 1 : Nat) : Int))), (3, .int (iI ((op : Nat) : Int))), (0, .ref (a 2)), (1, .int (iI ((t : Nat) : Int)))]) hx hb 3 dX1_attempt_82 hl rfl rfl (by decide) rfl (fun ls hl => ?_)
                    refine lv_goto (tgt := 47) hx hb dX1_attempt_85 (by decide) ?_
                    exact ih47 (q + 1) (upZ tm' op (j : Int)) (cT L t op j 1 tk' (Lby L op)) _ _ _ (by omega) (by omega) ((atp_s hat).trans (at1_s hop hps)) hP hD hS (lv_sub hl [2, 3, 0] rfl)
                  · have b_73 := bI_f c_73
                    have hpn : pF L t tm' tk' op = none := Option.not_isSome_iff_eq_none.mp (by rw [bI_f c_73]; decide)
                    have hend := atp_end hat (by omega) (at1_n hop hpn)
                    refine lv_aload_n hx hb dX1_attempt_76 rfl (lv_at hl 1 rfl) ?_
                    refine z_callv (va_runV (As := []) (rest := []) ⟨hx, hb, hml, hown, hts⟩ (c_X1_drop l D g a L att t (hF L t) (paT (pF L t tm' tk' op) tm' op) (paK L t (pF L t tm' tk' op) tk' op) lt _) (cwV 0 hts gX1_attempt_X1_drop rfl rfl rfl (by decide +kernel) ⟨Nat.le_of_ble_eq_true rfl, Nat.le_of_ble_eq_true rfl⟩) (z_preV 2 hK hP hD rfl rfl) rfl rfl hl.1 rfl (lv_room (Nat.le_of_ble_eq_true rfl)) dX1_attempt_77 ⟨Nat.zero_le _, Nat.zero_le _⟩) hS hD hA (fun w1 H locs hw1 hP hD hS => ?_)
                    subst hw1
                    refine z_ic hx hb dX1_attempt_80 ?_
                    exact z_zret (w := (wX a g L att 0 (hF L t) (paT (pF L t tm' tk' op) tm' op) (paK L t (pF L t tm' tk' op) tk' op) lt)) (v := (iI ((0 : Nat) : Int))) z_nb0 hQ hx hb hr hlocks (Or.inr ⟨rfl, hend, _, _, rfl⟩) hK hP hD hS dX1_attempt_81
          have hP : va_P D vwCl (wX a g L att t (hF L t) (fun _ => -1) (fun _ _ => 0) lt) H := hP
          have hD : va_D A (wX a g L att t (hF L t) (fun _ => -1) (fun _ _ => 0) lt) := hD
          exact loop47 ((Ln L - 0) + 1) 0 (fun _ => -1) (fun _ _ => 0) _ _ _ (Nat.lt_succ_self _) (by omega) rfl hP hD hS (lv_sub hl [1, 2, 0] rfl)
        · exact absurd c_26 (by decide)
set_option maxHeartbeats 4000000 in
set_option maxRecDepth 100000 in
theorem c_X1_replace (l : Launch) (D : va_G) (g : Nat → ClassId) (a : Nat → Nat) (L : LD) (att T : Nat) (hs tm : Nat → Int) (tk : Nat → Nat → Int) (lt : Nat → Int) (B : Int) (C : Int) (op t t0 : Nat) (hw : wf L) (hT : 0 < T ∧ T ≤ 200) (hB : 0 ≤ B ∧ B ≤ 1000000) (ht : tB B tm) (hC : C ≤ 1000) (hk : kB C tk) (hop : op < 14) (htt : t ≤ 1000) (h0 : tm op = (t0 : Int)) : zMi l D (zT g) yX1_replace wsX1_replace 3 59 (wX a g L att T hs tm tk lt) [.ref (a 2), .int (iI ((op : Nat) : Int)), .int (iI ((t : Nat) : Int))] (fun r w1 => r = iI (bI (vR L T (lTm tm op) (lTk L T tk op t0) op t)) ∧ w1 = wX a g L att T hs (upZ (lTm tm op) op ((rT L T tm tk op t t0 : Nat) : Int)) (pTk L T (lTk L T tk op t0) op (rT L T tm tk op t t0)) lt) := by
  refine z_ofI (cc := cX1_replace) (maxL := 5) (ret := (some .boolean)) (by decide) rfl (Nat.le_of_ble_eq_true rfl) ?_
  intro p e s m args below meth c A ls hx hb hr hts hown hlocks hml hP hK hD hS hA hl Q hQ
  have hown : s.vm.findClass RX1 = some m.cls := hown
  have hinX0 : ∀ w ∈ u_ws RX0 TX0 10, w ∈ wsX1_replace := by decide +kernel
  have hinX1 : ∀ w ∈ u_ws RX1 TX1 5, w ∈ wsX1_replace := by decide +kernel
  have hl : lv_has ls 5 [(0, .ref (a 2)), (1, .int (iI ((op : Nat) : Int))), (2, .int (iI ((t : Nat) : Int)))] := hl
  have h00 := ht op
  have hl1 := lTm_b ht hB.1 op
  have hl2 := lTk_b hw (T := T) hk op t0
  have hE := pE_e hw (T := T) hl1 hB.1 op
  have hEb := eA_bd hw (T := T) hl1 hB.1 op (Lm L)
  have hLb := lA_bd hw (T := T) hl1 op (Lm L)
  refine lv_aload_n hx hb dX1_replace_0 rfl (lv_at hl 0 rfl) ?_
  refine va_get (D := D) (ci := 1) (v := .ref (a 11)) (C := RX1) (T := TX1) (N := 5) hx hb hts hinX1 hown hK hP 2 rfl rfl 1 (by decide) (hts (.fieldLink RX1 9 "LoopScheduler$Timetable" "times" "[I") (List.mem_of_getElem? (i := 1) rfl)) (fun _ h9 => h9) rfl dX1_replace_1 ?_
  refine lv_iload_n hx hb dX1_replace_4 rfl (lv_at hl 1 rfl) ?_
  refine z_ialdN (f := tm) (z := op) hx hb hK hP 11 0 rfl rfl (by omega) (by decide) dX1_replace_5 ?_
  refine z_eqI (y := (iI ((t0 : Nat) : Int))) (congrArg iI h0) ?_
  refine lv_istore_n (lv' := [(3, .int (iI ((t0 : Nat) : Int))), (0, .ref (a 2)), (1, .int (iI ((op : Nat) : Int))), (2, .int (iI ((t : Nat) : Int)))]) hx hb dX1_replace_6 rfl hl (by decide) rfl (fun ls hl => ?_)
  refine lv_aload_n hx hb dX1_replace_7 rfl (lv_at hl 1 rfl) ?_
  refine lv_iload_n hx hb dX1_replace_8 rfl (lv_at hl 2 rfl) ?_
  refine z_callv (va_runV (As := [.int (iI ((op : Nat) : Int))]) (rest := []) ⟨hx, hb, hml, hown, hts⟩ (c_X1_lift l D g a L att T hs tm tk lt op t0 hw hT hop (by omega) h0 _) (cwV 1 hts gX1_replace_X1_lift rfl rfl rfl (by decide +kernel) ⟨Nat.le_of_ble_eq_true rfl, Nat.le_of_ble_eq_true rfl⟩) (z_preV 2 hK hP hD rfl rfl) rfl rfl hl.1 rfl (lv_room (Nat.le_of_ble_eq_true rfl)) dX1_replace_9 ⟨Nat.zero_le _, Nat.zero_le _⟩) hS hD hA (fun w1 H locs hw1 hP hD hS => ?_)
  subst hw1
  refine lv_iload_n hx hb dX1_replace_12 rfl (lv_at hl 3 rfl) ?_
  refine lv_aload_n hx hb dX1_replace_13 rfl (lv_at hl 1 rfl) ?_
  refine lv_iload_n hx hb dX1_replace_14 rfl (lv_at hl 2 rfl) ?_
  refine z_calli (va_runV (As := [.int (iI ((op : Nat) : Int))]) (rest := [.int (iI ((t : Nat) : Int))]) ⟨hx, hb, hml, hown, hts⟩ (c_X1_earliestAllowed l D g a L att T hs (lTm tm op) (lTk L T tk op t0) lt B op hw hT hB hl1 (by omega) _) (cwV 1 hts gX1_replace_X1_earliestAllowed rfl rfl rfl (by decide +kernel) ⟨Nat.le_of_ble_eq_true rfl, Nat.le_of_ble_eq_true rfl⟩) (z_preV 2 hK hP hD rfl rfl) rfl rfl hl.1 rfl (lv_room (Nat.le_of_ble_eq_true rfl)) dX1_replace_15 ⟨Nat.zero_le _, Nat.zero_le _⟩) hS hD hA (fun r w1 H locs hw1 hP hD hS => ?_)
  obtain ⟨rfl, rfl⟩ := hw1
  refine z_eqI (y := iI ((pE L T (lTm tm op) op : Nat) : Int)) (congrArg iI (pE_e hw hl1 hB.1 op)) ?_
  refine z_iclt (a := ((t : Nat) : Int)) (b := ((pE L T (lTm tm op) op : Nat) : Int)) (tgt := 46) hx hb dX1_replace_18 (by decide) (by omega) (fun c_18 => ?_) (fun c_18 => ?_)
  · have hv := vR_f (L := L) (T := T) (tm := lTm tm op) (tk := lTk L T tk op t0) (op := op) (t := t) (fun q => by have := q.1; omega)
    refine z_ic hx hb dX1_replace_46 ?_
    refine lv_istore (lv' := [(4, .int (iI ((0 : Nat) : Int))), (3, .int (iI ((t0 : Nat) : Int))), (0, .ref (a 2)), (1, .int (iI ((op : Nat) : Int))), (2, .int (iI ((t : Nat) : Int)))]) hx hb dX1_replace_47 hl (by decide) rfl (fun ls hl => ?_)
    refine lv_aload_n hx hb dX1_replace_49 rfl (lv_at hl 2 rfl) ?_
    refine lv_iload_n hx hb dX1_replace_50 rfl (lv_at hl 3 rfl) ?_
    refine lv_iload hx hb dX1_replace_51 (lv_at hl 0 rfl) ?_
    refine z_ifeq (a := 0) (tgt := 60) hx hb dX1_replace_53 (by decide) (by omega) (fun c_53 => ?_) (fun c_53 => ?_)
    · refine lv_iload_n hx hb dX1_replace_60 rfl (lv_at hl 1 rfl) ?_
      refine z_callv (va_runV (As := [.int (iI ((op : Nat) : Int)), .int (iI ((t0 : Nat) : Int))]) (rest := []) ⟨hx, hb, hml, hown, hts⟩ (c_X1_place l D g a L att T hs (lTm tm op) (lTk L T tk op t0) lt op t0 hw hT (by omega) (by omega) _) (cwV 2 hts gX1_replace_X1_place rfl rfl rfl (by decide +kernel) ⟨Nat.le_of_ble_eq_true rfl, Nat.le_of_ble_eq_true rfl⟩) (z_preV 2 hK hP hD rfl rfl) rfl rfl hl.1 rfl (lv_room (Nat.le_of_ble_eq_true rfl)) dX1_replace_61 ⟨Nat.zero_le _, Nat.zero_le _⟩) hS hD hA (fun w1 H locs hw1 hP hD hS => ?_)
      subst hw1
      refine lv_iload hx hb dX1_replace_64 (lv_at hl 0 rfl) ?_
      exact z_zret (w := (wX a g L att T hs (upZ (lTm tm op) op (t0 : Int)) (pTk L T (lTk L T tk op t0) op t0) lt)) (v := (iI ((0 : Nat) : Int))) z_nb0 hQ hx hb hr hlocks ⟨by rw [hv]; rfl, by rw [show rT L T tm tk op t t0 = _ from if_neg (by rw [hv]; decide)]⟩ hK hP hD hS dX1_replace_66
    · exact absurd c_53 (by decide)
  · refine lv_iload_n hx hb dX1_replace_21 rfl (lv_at hl 3 rfl) ?_
    refine lv_aload_n hx hb dX1_replace_22 rfl (lv_at hl 1 rfl) ?_
    refine lv_iload_n hx hb dX1_replace_23 rfl (lv_at hl 2 rfl) ?_
    refine z_sip hx hb dX1_replace_24 (by decide) ?_
    refine z_calli (va_runV (As := [.int (iI ((op : Nat) : Int)), .int (iI ((1000 : Nat) : Int))]) (rest := [.int (iI ((t : Nat) : Int))]) ⟨hx, hb, hml, hown, hts⟩ (c_X1_latestAllowed l D g a L att T hs (lTm tm op) (lTk L T tk op t0) lt B op 1000 hw hT hB hl1 (by omega) (by omega) _) (cwV 2 hts gX1_replace_X1_latestAllowed rfl rfl rfl (by decide +kernel) ⟨Nat.le_of_ble_eq_true rfl, Nat.le_of_ble_eq_true rfl⟩) (z_preV 2 hK hP hD rfl rfl) rfl rfl hl.1 rfl (lv_room (Nat.le_of_ble_eq_true rfl)) dX1_replace_27 ⟨Nat.zero_le _, Nat.zero_le _⟩) hS hD hA (fun r w1 H locs hw1 hP hD hS => ?_)
    obtain ⟨rfl, rfl⟩ := hw1
    refine z_icgt (a := ((t : Nat) : Int)) (b := (min (lA L T (lTm tm op) op (Lm L)) 1000)) (tgt := 46) hx hb dX1_replace_30 (by decide) (by omega) (fun c_30 => ?_) (fun c_30 => ?_)
    · have hv := vR_f (L := L) (T := T) (tm := lTm tm op) (tk := lTk L T tk op t0) (op := op) (t := t) (fun q => by have := q.2.1; omega)
      refine z_ic hx hb dX1_replace_46 ?_
      refine lv_istore (lv' := [(4, .int (iI ((0 : Nat) : Int))), (3, .int (iI ((t0 : Nat) : Int))), (0, .ref (a 2)), (1, .int (iI ((op : Nat) : Int))), (2, .int (iI ((t : Nat) : Int)))]) hx hb dX1_replace_47 hl (by decide) rfl (fun ls hl => ?_)
      refine lv_aload_n hx hb dX1_replace_49 rfl (lv_at hl 2 rfl) ?_
      refine lv_iload_n hx hb dX1_replace_50 rfl (lv_at hl 3 rfl) ?_
      refine lv_iload hx hb dX1_replace_51 (lv_at hl 0 rfl) ?_
      refine z_ifeq (a := 0) (tgt := 60) hx hb dX1_replace_53 (by decide) (by omega) (fun c_53 => ?_) (fun c_53 => ?_)
      · refine lv_iload_n hx hb dX1_replace_60 rfl (lv_at hl 1 rfl) ?_
        refine z_callv (va_runV (As := [.int (iI ((op : Nat) : Int)), .int (iI ((t0 : Nat) : Int))]) (rest := []) ⟨hx, hb, hml, hown, hts⟩ (c_X1_place l D g a L att T hs (lTm tm op) (lTk L T tk op t0) lt op t0 hw hT (by omega) (by omega) _) (cwV 2 hts gX1_replace_X1_place rfl rfl rfl (by decide +kernel) ⟨Nat.le_of_ble_eq_true rfl, Nat.le_of_ble_eq_true rfl⟩) (z_preV 2 hK hP hD rfl rfl) rfl rfl hl.1 rfl (lv_room (Nat.le_of_ble_eq_true rfl)) dX1_replace_61 ⟨Nat.zero_le _, Nat.zero_le _⟩) hS hD hA (fun w1 H locs hw1 hP hD hS => ?_)
        subst hw1
        refine lv_iload hx hb dX1_replace_64 (lv_at hl 0 rfl) ?_
        exact z_zret (w := (wX a g L att T hs (upZ (lTm tm op) op (t0 : Int)) (pTk L T (lTk L T tk op t0) op t0) lt)) (v := (iI ((0 : Nat) : Int))) z_nb0 hQ hx hb hr hlocks ⟨by rw [hv]; rfl, by rw [show rT L T tm tk op t t0 = _ from if_neg (by rw [hv]; decide)]⟩ hK hP hD hS dX1_replace_66
      · exact absurd c_53 (by decide)
    · refine lv_aload_n hx hb dX1_replace_33 rfl (lv_at hl 1 rfl) ?_
      refine lv_iload_n hx hb dX1_replace_34 rfl (lv_at hl 2 rfl) ?_
      refine lv_iload_n hx hb dX1_replace_35 rfl (lv_at hl 3 rfl) ?_
      refine z_calli (va_runV (As := [.int (iI ((op : Nat) : Int)), .int (iI ((t : Nat) : Int))]) (rest := []) ⟨hx, hb, hml, hown, hts⟩ (c_X1_hasUnits l D g a L att T hs (lTm tm op) (lTk L T tk op t0) lt (C + 4) op t hw hT (by omega) hl2 (by omega) (by omega) _) (cwV 2 hts gX1_replace_X1_hasUnits rfl rfl rfl (by decide +kernel) ⟨Nat.le_of_ble_eq_true rfl, Nat.le_of_ble_eq_true rfl⟩) (z_preV 2 hK hP hD rfl rfl) rfl rfl hl.1 rfl (lv_room (Nat.le_of_ble_eq_true rfl)) dX1_replace_36 ⟨Nat.zero_le _, Nat.zero_le _⟩) hS hD hA (fun r w1 H locs hw1 hP hD hS => ?_)
      obtain ⟨rfl, rfl⟩ := hw1
      refine z_ifeq (a := (bI (hUb L T (lTk L T tk op t0) op t))) (tgt := 46) hx hb dX1_replace_39 (by decide) (bI_r _) (fun c_39 => ?_) (fun c_39 => ?_)
      · have b_39 := bI_f c_39
        have hv := vR_f (L := L) (T := T) (tm := lTm tm op) (tk := lTk L T tk op t0) (op := op) (t := t) (fun q => by rw [bI_f c_39] at q; exact absurd q.2.2 (by decide))
        refine z_ic hx hb dX1_replace_46 ?_
        refine lv_istore (lv' := [(4, .int (iI ((0 : Nat) : Int))), (3, .int (iI ((t0 : Nat) : Int))), (0, .ref (a 2)), (1, .int (iI ((op : Nat) : Int))), (2, .int (iI ((t : Nat) : Int)))]) hx hb dX1_replace_47 hl (by decide) rfl (fun ls hl => ?_)
        refine lv_aload_n hx hb dX1_replace_49 rfl (lv_at hl 2 rfl) ?_
        refine lv_iload_n hx hb dX1_replace_50 rfl (lv_at hl 3 rfl) ?_
        refine lv_iload hx hb dX1_replace_51 (lv_at hl 0 rfl) ?_
        refine z_ifeq (a := 0) (tgt := 60) hx hb dX1_replace_53 (by decide) (by omega) (fun c_53 => ?_) (fun c_53 => ?_)
        · refine lv_iload_n hx hb dX1_replace_60 rfl (lv_at hl 1 rfl) ?_
          refine z_callv (va_runV (As := [.int (iI ((op : Nat) : Int)), .int (iI ((t0 : Nat) : Int))]) (rest := []) ⟨hx, hb, hml, hown, hts⟩ (c_X1_place l D g a L att T hs (lTm tm op) (lTk L T tk op t0) lt op t0 hw hT (by omega) (by omega) _) (cwV 2 hts gX1_replace_X1_place rfl rfl rfl (by decide +kernel) ⟨Nat.le_of_ble_eq_true rfl, Nat.le_of_ble_eq_true rfl⟩) (z_preV 2 hK hP hD rfl rfl) rfl rfl hl.1 rfl (lv_room (Nat.le_of_ble_eq_true rfl)) dX1_replace_61 ⟨Nat.zero_le _, Nat.zero_le _⟩) hS hD hA (fun w1 H locs hw1 hP hD hS => ?_)
          subst hw1
          refine lv_iload hx hb dX1_replace_64 (lv_at hl 0 rfl) ?_
          exact z_zret (w := (wX a g L att T hs (upZ (lTm tm op) op (t0 : Int)) (pTk L T (lTk L T tk op t0) op t0) lt)) (v := (iI ((0 : Nat) : Int))) z_nb0 hQ hx hb hr hlocks ⟨by rw [hv]; rfl, by rw [show rT L T tm tk op t t0 = _ from if_neg (by rw [hv]; decide)]⟩ hK hP hD hS dX1_replace_66
        · exact absurd c_53 (by decide)
      · have b_39 := bI_t c_39
        have hv := vR_t (L := L) (T := T) (tm := lTm tm op) (tk := lTk L T tk op t0) (op := op) (t := t) (by omega) (by omega) (bI_t c_39)
        refine z_ic hx hb dX1_replace_42 ?_
        refine lv_goto (tgt := 47) hx hb dX1_replace_43 (by decide) ?_
        refine lv_istore (lv' := [(4, .int (iI ((1 : Nat) : Int))), (3, .int (iI ((t0 : Nat) : Int))), (0, .ref (a 2)), (1, .int (iI ((op : Nat) : Int))), (2, .int (iI ((t : Nat) : Int)))]) hx hb dX1_replace_47 hl (by decide) rfl (fun ls hl => ?_)
        refine lv_aload_n hx hb dX1_replace_49 rfl (lv_at hl 2 rfl) ?_
        refine lv_iload_n hx hb dX1_replace_50 rfl (lv_at hl 3 rfl) ?_
        refine lv_iload hx hb dX1_replace_51 (lv_at hl 0 rfl) ?_
        refine z_ifeq (a := 1) (tgt := 60) hx hb dX1_replace_53 (by decide) (by omega) (fun c_53 => ?_) (fun c_53 => ?_)
        · exact absurd c_53 (by decide)
        · refine lv_iload_n hx hb dX1_replace_56 rfl (lv_at hl 4 rfl) ?_
          refine lv_goto (tgt := 61) hx hb dX1_replace_57 (by decide) ?_
          refine z_callv (va_runV (As := [.int (iI ((op : Nat) : Int)), .int (iI ((t : Nat) : Int))]) (rest := []) ⟨hx, hb, hml, hown, hts⟩ (c_X1_place l D g a L att T hs (lTm tm op) (lTk L T tk op t0) lt op t hw hT (by omega) (by omega) _) (cwV 2 hts gX1_replace_X1_place rfl rfl rfl (by decide +kernel) ⟨Nat.le_of_ble_eq_true rfl, Nat.le_of_ble_eq_true rfl⟩) (z_preV 2 hK hP hD rfl rfl) rfl rfl hl.1 rfl (lv_room (Nat.le_of_ble_eq_true rfl)) dX1_replace_61 ⟨Nat.zero_le _, Nat.zero_le _⟩) hS hD hA (fun w1 H locs hw1 hP hD hS => ?_)
          subst hw1
          refine lv_iload hx hb dX1_replace_64 (lv_at hl 0 rfl) ?_
          exact z_zret (w := (wX a g L att T hs (upZ (lTm tm op) op (t : Int)) (pTk L T (lTk L T tk op t0) op t) lt)) (v := (iI ((1 : Nat) : Int))) z_nb1 hQ hx hb hr hlocks ⟨by rw [hv]; rfl, by rw [show rT L T tm tk op t t0 = _ from if_pos hv]⟩ hK hP hD hS dX1_replace_66
set_option maxHeartbeats 4000000 in
set_option maxRecDepth 100000 in
theorem c_X1_greatestTime (l : Launch) (D : va_G) (g : Nat → ClassId) (a : Nat → Nat) (L : LD) (att T : Nat) (hs tm : Nat → Int) (tk : Nat → Nat → Int) (lt : Nat → Int) (B : Int)  (hw : wf L) (hB : 0 ≤ B ∧ B ≤ 1000000) (ht : tB B tm) : zMi l D (zT g) yX1_greatestTime wsX1_greatestTime 1 13 (wX a g L att T hs tm tk lt) [.ref (a 2)] (fun r w1 => r = iI (gT tm (Ln L)) ∧ w1 = wX a g L att T hs tm tk lt) := by
  refine z_ofI (cc := cX1_greatestTime) (maxL := 3) (ret := (some .int)) (by decide) rfl (Nat.le_of_ble_eq_true rfl) ?_
  intro p e s m args below meth c A ls hx hb hr hts hown hlocks hml hP hK hD hS hA hl Q hQ
  have hown : s.vm.findClass RX1 = some m.cls := hown
  have hinX0 : ∀ w ∈ u_ws RX0 TX0 10, w ∈ wsX1_greatestTime := by decide +kernel
  have hinX1 : ∀ w ∈ u_ws RX1 TX1 5, w ∈ wsX1_greatestTime := by decide +kernel
  have hl : lv_has ls 3 [(0, .ref (a 2))] := hl
  refine z_ic hx hb dX1_greatestTime_0 ?_
  refine lv_istore_n (lv' := [(1, .int (iI ((0 : Nat) : Int))), (0, .ref (a 2))]) hx hb dX1_greatestTime_1 rfl hl (by decide) rfl (fun ls hl => ?_)
  refine z_ic hx hb dX1_greatestTime_2 ?_
  refine lv_istore_n (lv' := [(2, .int (iI ((0 : Nat) : Int))), (1, .int (iI ((0 : Nat) : Int))), (0, .ref (a 2))]) hx hb dX1_greatestTime_3 rfl hl (by decide) rfl (fun ls hl => ?_)
  have loop4 : ∀ (n4 : Nat) (i : Nat) (H : Heap) (locs : List Loc) (ls : Array Slot), Ln L - i < n4 → (i ≤ Ln L) → va_P D vwCl (wX a g L att T hs tm tk lt) H → va_D A (wX a g L att T hs tm tk lt) → va_S A s.heap H locs → lv_has ls 3 [(0, .ref (a 2)), (1, .int (iI (gT tm i))), (2, .int (iI ((i : Nat) : Int)))] → W p l e ({ frames := 1, cells := 0, slots := 0, locals := 13 } : Room) s m args below meth c H locs 0 0 Q (F0 m 4 ls []) := by
    intro n4
    induction n4 with
    | zero => exact fun _ H locs ls hn => absurd hn (Nat.not_lt_zero _)
    | succ n4 ih4 =>
      intro i H locs ls hn4 hi hP hD hS hl
      have hwn := wf_n hw
      have hb1 := gT_bd ht hB.1 i
      have hb2 := ht i
      refine lv_iload_n hx hb dX1_greatestTime_4 rfl (lv_at hl 2 rfl) ?_
      refine lv_aload_n hx hb dX1_greatestTime_5 rfl (lv_at hl 0 rfl) ?_
      refine va_get (D := D) (ci := 1) (v := .ref (a 1)) (C := RX1) (T := TX1) (N := 5) hx hb hts hinX1 hown hK hP 2 rfl rfl 0 (by decide) (hts (.fieldLink RX1 23 "LoopScheduler$Timetable" "loop" "LLoopScheduler$Loop;") (List.mem_of_getElem? (i := 1) rfl)) (fun _ h9 => h9) rfl dX1_greatestTime_6 ?_
      refine va_get (D := D) (ci := 0) (v := .int (iI ((Ln L : Nat) : Int))) (C := RX0) (T := TX0) (N := 10) hx hb hts hinX0 hown hK hP 1 rfl rfl 8 (by decide) (hts (.fieldLink RX1 43 "LoopScheduler$Loop" "operations" "I") (List.mem_of_getElem? (i := 2) rfl)) (fun _ h9 => h9) rfl dX1_greatestTime_9 ?_
      refine z_icge (a := ((i : Nat) : Int)) (b := ((Ln L : Nat) : Int)) (tgt := 32) hx hb dX1_greatestTime_12 (by decide) (by omega) (fun c_12 => ?_) (fun c_12 => ?_)
      · obtain rfl : i = Ln L := by omega
        refine lv_iload_n hx hb dX1_greatestTime_32 rfl (lv_at hl 1 rfl) ?_
        exact z_iret (w := (wX a g L att T hs tm tk lt)) (v := (iI (gT tm (Ln L)))) hQ hx hb hr hlocks ⟨rfl, rfl⟩ hK hP hD hS dX1_greatestTime_33
      · refine lv_iload_n hx hb dX1_greatestTime_15 rfl (lv_at hl 1 rfl) ?_
        refine lv_aload_n hx hb dX1_greatestTime_16 rfl (lv_at hl 0 rfl) ?_
        refine va_get (D := D) (ci := 1) (v := .ref (a 11)) (C := RX1) (T := TX1) (N := 5) hx hb hts hinX1 hown hK hP 2 rfl rfl 1 (by decide) (hts (.fieldLink RX1 9 "LoopScheduler$Timetable" "times" "[I") (List.mem_of_getElem? (i := 3) rfl)) (fun _ h9 => h9) rfl dX1_greatestTime_17 ?_
        refine lv_iload_n hx hb dX1_greatestTime_20 rfl (lv_at hl 2 rfl) ?_
        refine z_ialdN (f := tm) (z := i) hx hb hK hP 11 0 rfl rfl (by omega) (by decide) dX1_greatestTime_21 ?_
        refine z_mmax (a := (gT tm i)) (b := (tm i)) hx hb hml hl.1 hown (hts (.methodLink RX1 90 Lib.Math.max.name) (List.mem_of_getElem? (i := 4) rfl)) (hts (.static Lib.Math.max.name) (List.mem_of_getElem? (i := 5) rfl)) (hts (.initialized "java/lang/Math") (List.mem_of_getElem? (i := 6) rfl)) (hts (.code Lib.Math.max.name Lib.Math.max.code 2 (some .int)) (List.mem_of_getElem? (i := 7) rfl)) (Nat.le_of_ble_eq_true rfl) (Nat.le_of_ble_eq_true rfl) (Nat.zero_le _) (Nat.zero_le _) (by omega) dX1_greatestTime_22 ?_
        refine lv_istore_n (lv' := [(1, .int (iI (max (gT tm i) (tm i)))), (0, .ref (a 2)), (2, .int (iI ((i : Nat) : Int)))]) hx hb dX1_greatestTime_25 rfl hl (by decide) rfl (fun ls hl => ?_)
        refine z_iinc (a := ((i : Nat) : Int)) (b := ((i + 1 : Nat) : Int)) (lv' := [(2, .int (iI ((i + 1 : Nat) : Int))), (1, .int (iI (max (gT tm i) (tm i)))), (0, .ref (a 2))]) hx hb 2 dX1_greatestTime_26 hl rfl rfl (by decide) rfl (fun ls hl => ?_)
        refine lv_goto (tgt := 4) hx hb dX1_greatestTime_29 (by decide) ?_
        exact ih4 (i + 1) _ _ _ (by omega) (by omega) hP hD hS (lv_sub hl [2, 1, 0] rfl)
  exact loop4 ((Ln L - 0) + 1) 0 _ _ _ (Nat.lt_succ_self _) (by omega) hP hD hS (lv_sub hl [2, 1, 0] rfl)
set_option maxHeartbeats 4000000 in
set_option maxRecDepth 100000 in
theorem c_X1_countStages (l : Launch) (D : va_G) (g : Nat → ClassId) (a : Nat → Nat) (L : LD) (att T : Nat) (hs tm : Nat → Int) (tk : Nat → Nat → Int) (lt : Nat → Int) (B : Int)  (hw : wf L) (hT : 0 < T ∧ T ≤ 200) (hB : 0 ≤ B ∧ B ≤ 1000000) (ht : tB B tm) : zMi l D (zT g) yX1_countStages wsX1_countStages 2 35 (wX a g L att T hs tm tk lt) [.ref (a 2)] (fun r w1 => r = iI (sG L T tm) ∧ w1 = wX a g L att T hs tm tk lt) := by
  refine z_ofI (cc := cX1_countStages) (maxL := 1) (ret := (some .int)) (by decide) rfl (Nat.le_of_ble_eq_true rfl) ?_
  intro p e s m args below meth c A ls hx hb hr hts hown hlocks hml hP hK hD hS hA hl Q hQ
  have hown : s.vm.findClass RX1 = some m.cls := hown
  have hinX0 : ∀ w ∈ u_ws RX0 TX0 10, w ∈ wsX1_countStages := by decide +kernel
  have hinX1 : ∀ w ∈ u_ws RX1 TX1 5, w ∈ wsX1_countStages := by decide +kernel
  have hl : lv_has ls 1 [(0, .ref (a 2))] := hl
  have hwn := wf_n hw
  have hgb := gT_bd ht hB.1 (Ln L)
  refine lv_aload_n hx hb dX1_countStages_0 rfl (lv_at hl 0 rfl) ?_
  refine va_get (D := D) (ci := 1) (v := .ref (a 1)) (C := RX1) (T := TX1) (N := 5) hx hb hts hinX1 hown hK hP 2 rfl rfl 0 (by decide) (hts (.fieldLink RX1 23 "LoopScheduler$Timetable" "loop" "LLoopScheduler$Loop;") (List.mem_of_getElem? (i := 1) rfl)) (fun _ h9 => h9) rfl dX1_countStages_1 ?_
  refine va_get (D := D) (ci := 0) (v := .int (iI ((Ln L : Nat) : Int))) (C := RX0) (T := TX0) (N := 10) hx hb hts hinX0 hown hK hP 1 rfl rfl 8 (by decide) (hts (.fieldLink RX1 43 "LoopScheduler$Loop" "operations" "I") (List.mem_of_getElem? (i := 2) rfl)) (fun _ h9 => h9) rfl dX1_countStages_4 ?_
  refine z_ifne (a := ((Ln L : Nat) : Int)) (tgt := 14) hx hb dX1_countStages_7 (by decide) (by omega) (fun c_7 => ?_) (fun c_7 => ?_)
  · refine lv_aload_n hx hb dX1_countStages_14 rfl (lv_at hl 0 rfl) ?_
    refine z_calli (va_runV (As := []) (rest := []) ⟨hx, hb, hml, hown, hts⟩ (c_X1_greatestTime l D g a L att T hs tm tk lt B hw hB ht _) (cwV 0 hts gX1_countStages_X1_greatestTime rfl rfl rfl (by decide +kernel) ⟨Nat.le_of_ble_eq_true rfl, Nat.le_of_ble_eq_true rfl⟩) (z_preV 2 hK hP hD rfl rfl) rfl rfl hl.1 rfl (lv_room (Nat.le_of_ble_eq_true rfl)) dX1_countStages_15 ⟨Nat.zero_le _, Nat.zero_le _⟩) hS hD hA (fun r w1 H locs hw1 hP hD hS => ?_)
    obtain ⟨rfl, rfl⟩ := hw1
    refine lv_aload_n hx hb dX1_countStages_18 rfl (lv_at hl 0 rfl) ?_
    refine va_get (D := D) (ci := 1) (v := .int (iI ((T : Nat) : Int))) (C := RX1) (T := TX1) (N := 5) hx hb hts hinX1 hown hK hP 2 rfl rfl 4 (by decide) (hts (.fieldLink RX1 27 "LoopScheduler$Timetable" "interval" "I") (List.mem_of_getElem? (i := 3) rfl)) (fun _ h9 => h9) rfl dX1_countStages_19 ?_
    refine z_div (a := (gT tm (Ln L))) (b := ((T : Nat) : Int)) hx hb (by omega) dX1_countStages_22 ?_
    refine z_ic hx hb dX1_countStages_23 ?_
    refine z_add (a := ((gT tm (Ln L)) / ((T : Nat) : Int))) (b := 1) hx hb dX1_countStages_24 ?_
    exact z_iret (w := (wX a g L att T hs tm tk lt)) (v := (iI (((gT tm (Ln L)) / ((T : Nat) : Int)) + 1))) hQ hx hb hr hlocks ⟨congrArg iI (if_neg (by omega)).symm, rfl⟩ hK hP hD hS dX1_countStages_25
  · refine z_ic hx hb dX1_countStages_10 ?_
    refine lv_goto (tgt := 25) hx hb dX1_countStages_11 (by decide) ?_
    exact z_iret (w := (wX a g L att T hs tm tk lt)) (v := (iI ((0 : Nat) : Int))) hQ hx hb hr hlocks ⟨congrArg iI (if_pos (by omega)).symm, rfl⟩ hK hP hD hS dX1_countStages_25

def flN (f : Nat → Int) (k : Nat) (v : Int) : Nat → Int := fun j => if j < k then v else f j
theorem flN_s (f : Nat → Int) (k : Nat) (v : Int) : upZ (flN f k v) k v = flN f (k + 1) v := by
  funext j
  unfold upZ flN
  by_cases h : j = k
  · rw [if_pos h, if_pos (by omega)]
  · rw [if_neg h]
    by_cases h2 : j < k
    · rw [if_pos h2, if_pos (by omega)]
    · rw [if_neg h2, if_neg (by omega)]
theorem setset {w : va_W} {q : Nat} {x y : Nat × va_E} : (w.set q x).set q y = w.set q y := by rw [List.set_set]
theorem setget {w : va_W} {q : Nat} {x y : Nat × va_E} (h : w[q]? = some x) : (w.set q y)[q]? = some y := by
  rw [List.getElem?_set_self (List.getElem?_eq_some_iff.mp h).1]
theorem setself {w : va_W} {q : Nat} {x : Nat × va_E} (h : w[q]? = some x) : w.set q x = w := by
  obtain ⟨h1, h2⟩ := List.getElem?_eq_some_iff.mp h
  rw [← h2]
  exact List.set_getElem_self h1
set_option maxHeartbeats 4000000 in
set_option maxRecDepth 100000 in
theorem c_fill (l : Launch) (D : va_G) (g : Nat → ClassId) (w : va_W) (q0 n : Nat) (ad : Nat) (f : Nat → Int) (v : Int) (hq : w[q0]? = some (ad, .inl (g 0, n, .inl (aI f)))) (hn : n < 1000) : zMv l D (zT g) yJ7_fill_53178 wsJ7_fill_53178 1 12 w [.ref ad, .int (iI v)] (fun w1 => w1 = w.set q0 (ad, .inl (g 0, n, .inl (aI (fun _ => v))))) := by
  refine z_ofV (cc := cJ7_fill_53178) (maxL := 4) (ret := none) (by decide) rfl (Nat.le_of_ble_eq_true rfl) ?_
  intro p e s m args below meth c A ls hx hb hr hts hown hlocks hml hP hK hD hS hA hl Q hQ
  have hl : lv_has ls 4 [(0, .ref ad), (1, .int (iI v))] := hl
  refine z_ic hx hb dJ7_fill_53178_0 ?_
  refine lv_istore_n (lv' := [(2, .int (iI ((0 : Nat) : Int))), (0, .ref ad), (1, .int (iI v))]) hx hb dJ7_fill_53178_1 rfl hl (by decide) rfl (fun ls hl => ?_)
  refine lv_aload_n hx hb dJ7_fill_53178_2 rfl (lv_at hl 1 rfl) ?_
  refine z_alen hx hb hK hP q0 0 hq rfl rfl dJ7_fill_53178_3 ?_
  refine lv_istore_n (lv' := [(3, .int (iI ((n : Nat) : Int))), (2, .int (iI ((0 : Nat) : Int))), (0, .ref ad), (1, .int (iI v))]) hx hb dJ7_fill_53178_4 rfl hl (by decide) rfl (fun ls hl => ?_)
  have loop5 : ∀ (n5 : Nat) (k : Nat) (H : Heap) (locs : List Loc) (ls : Array Slot), n - k < n5 → k ≤ n → va_P D vwCl (w.set q0 (ad, .inl (g 0, n, .inl (aI (flN f k v))))) H → va_D A (w.set q0 (ad, .inl (g 0, n, .inl (aI (flN f k v))))) → va_S A s.heap H locs → lv_has ls 4 [(3, .int (iI ((n : Nat) : Int))), (2, .int (iI ((k : Nat) : Int))), (0, .ref ad), (1, .int (iI v))] → W p l e ({ frames := 1, cells := 0, slots := 0, locals := 12 } : Room) s m args below meth c H locs 0 0 Q (F0 m 5 ls []) := by
    intro n5
    induction n5 with
    | zero => exact fun _ H locs ls hn => absurd hn (Nat.not_lt_zero _)
    | succ n5 ih =>
      intro k H locs ls hn5 hk hP hD hS hl
      refine lv_iload_n hx hb dJ7_fill_53178_5 rfl (lv_at hl 1 rfl) ?_
      refine lv_iload_n hx hb dJ7_fill_53178_6 rfl (lv_at hl 0 rfl) ?_
      refine z_icge (a := (k : Int)) (b := (n : Int)) (tgt := 20) hx hb dJ7_fill_53178_7 (by decide) (by omega) (fun c_7 => ?_) (fun c_7 => ?_)
      · obtain rfl : k = n := by omega
        have hP := z_ext (f' := fun _ => v) hP hD (setget hq) (fun j hj => if_pos hj)
        have hD := hD.set (e := .inl (g 0, k, .inl (aI (fun _ => v)))) (setget hq)
        rw [setset] at hP hD
        exact z_vret hQ hx hb hr hlocks rfl hK hP hD hS dJ7_fill_53178_20
      · refine lv_aload_n hx hb dJ7_fill_53178_10 rfl (lv_at hl 2 rfl) ?_
        refine lv_iload_n hx hb dJ7_fill_53178_11 rfl (lv_at hl 1 rfl) ?_
        refine lv_iload_n hx hb dJ7_fill_53178_12 rfl (lv_at hl 3 rfl) ?_
        refine z_iastN (f := flN f k v) (z := k) (v := v) hx hb hK hP hD hS q0 0 (setget hq) rfl (by omega) (by omega) dJ7_fill_53178_13 (fun H locs hP hD hS => ?_)
        rw [setset, flN_s] at hP hD
        refine z_iinc (a := ((k : Nat) : Int)) (b := ((k + 1 : Nat) : Int)) (lv' := [(2, .int (iI ((k + 1 : Nat) : Int))), (3, .int (iI ((n : Nat) : Int))), (0, .ref ad), (1, .int (iI v))]) hx hb 1 dJ7_fill_53178_14 hl rfl rfl (by decide) rfl (fun ls hl => ?_)
        refine lv_goto (tgt := 5) hx hb dJ7_fill_53178_17 (by decide) ?_
        exact ih (k + 1) _ _ _ (by omega) (by omega) hP hD hS (lv_sub hl [1, 0, 2, 3] rfl)
  have e0 : flN f 0 v = f := funext fun j => if_neg (Nat.not_lt_zero j)
  exact loop5 (n + 1) 0 _ _ _ (by omega) (Nat.zero_le n) (by rw [e0, setself hq]; exact hP) (by rw [e0, setself hq]; exact hD) hS hl
set_option maxHeartbeats 4000000 in
set_option maxRecDepth 100000 in
theorem c_X0_raiseHeights (l : Launch) (D : va_G) (g : Nat → ClassId) (a : Nat → Nat) (L : LD) (att T : Nat) (hs tm : Nat → Int) (tk : Nat → Nat → Int) (lt : Nat → Int) (t : Nat) (B : Int) (hw : wf L) (ht : t ≤ 255) (hB : B ≤ 10000) (hh : gB B hs) : zMi l D (zT g) yX0_raiseHeights wsX0_raiseHeights 1 12 (wX a g L att T hs tm tk lt) [.ref (a 1), .int (iI ((t : Nat) : Int))] (fun r w1 => r = iI (bI (gr L t (Lm L) (hs, false)).2) ∧ w1 = wX a g L att T (gr L t (Lm L) (hs, false)).1 tm tk lt) := by
  refine z_ofI (cc := cX0_raiseHeights) (maxL := 5) (ret := (some .boolean)) (by decide) rfl (Nat.le_of_ble_eq_true rfl) ?_
  intro p e s m args below meth c A ls hx hb hr hts hown hlocks hml hP hK hD hS hA hl Q hQ
  have hown : s.vm.findClass RX0 = some m.cls := hown
  have hinX0 : ∀ w ∈ u_ws RX0 TX0 10, w ∈ wsX0_raiseHeights := by decide +kernel
  have hl : lv_has ls 5 [(0, .ref (a 1)), (1, .int (iI ((t : Nat) : Int)))] := hl
  refine z_ic hx hb dX0_raiseHeights_0 ?_
  refine lv_istore_n (lv' := [(2, .int (iI ((0 : Nat) : Int))), (0, .ref (a 1)), (1, .int (iI ((t : Nat) : Int)))]) hx hb dX0_raiseHeights_1 rfl hl (by decide) rfl (fun ls hl => ?_)
  refine z_ic hx hb dX0_raiseHeights_2 ?_
  refine lv_istore_n (lv' := [(3, .int (iI ((0 : Nat) : Int))), (2, .int (iI ((0 : Nat) : Int))), (0, .ref (a 1)), (1, .int (iI ((t : Nat) : Int)))]) hx hb dX0_raiseHeights_3 rfl hl (by decide) rfl (fun ls hl => ?_)
  have loop4 : ∀ (n4 : Nat) (k : Nat) (h' : Nat → Int) (b : Bool) (H : Heap) (locs : List Loc) (ls : Array Slot), Lm L - k < n4 → (k ≤ Lm L) → (gr L t k (hs, false) = (h', b)) → va_P D vwCl (wX a g L att T h' tm tk lt) H → va_D A (wX a g L att T h' tm tk lt) → va_S A s.heap H locs → lv_has ls 5 [(0, .ref (a 1)), (1, .int (iI ((t : Nat) : Int))), (2, .int (iI (bI b))), (3, .int (iI ((k : Nat) : Int)))] → W p l e ({ frames := 1, cells := 0, slots := 0, locals := 12 } : Room) s m args below meth c H locs 0 0 Q (F0 m 4 ls []) := by
    intro n4
    induction n4 with
    | zero => exact fun _ _ _ H locs ls hn => absurd hn (Nat.not_lt_zero _)
    | succ n4 ih4 =>
      intro k h' b H locs ls hn4 hk hi hP hD hS hl
      have hwm := wf_m hw
      have hbd : gB (B + 12 * (k : Int)) h' := by have q := gr_bd hw (t := t) (b := false) hh k; rw [hi] at q; exact q
      have hsd := wf_sd hw k
      have b1 := hbd (Lds L k)
      have b2 := hbd (Lsr L k)
      have hdl := wf_dl hw k
      have hmn := mul_nn t (Ldi L k)
      have hmb := mul_bd ht (wf_di hw k)
      refine lv_iload_n hx hb dX0_raiseHeights_4 rfl (lv_at hl 3 rfl) ?_
      refine lv_aload_n hx hb dX0_raiseHeights_5 rfl (lv_at hl 0 rfl) ?_
      refine va_get (D := D) (ci := 0) (v := .int (iI ((Lm L : Nat) : Int))) (C := RX0) (T := TX0) (N := 10) hx hb hts hinX0 hown hK hP 1 rfl rfl 9 (by decide) (hts (.fieldLink RX0 40 "LoopScheduler$Loop" "dependences" "I") (List.mem_of_getElem? (i := 1) rfl)) (fun _ h9 => h9) rfl dX0_raiseHeights_6 ?_
      refine z_icge (a := ((k : Nat) : Int)) (b := ((Lm L : Nat) : Int)) (tgt := 78) hx hb dX0_raiseHeights_9 (by decide) (by omega) (fun c_9 => ?_) (fun c_9 => ?_)
      · obtain rfl : k = Lm L := by omega
        refine lv_iload_n hx hb dX0_raiseHeights_78 rfl (lv_at hl 2 rfl) ?_
        exact z_zret (w := (wX a g L att T h' tm tk lt)) (v := (iI (bI b))) (z_nb _) hQ hx hb hr hlocks ⟨by rw [hi], by rw [hi]⟩ hK hP hD hS dX0_raiseHeights_79
      · refine lv_aload_n hx hb dX0_raiseHeights_12 rfl (lv_at hl 0 rfl) ?_
        refine va_get (D := D) (ci := 0) (v := .ref (a 10)) (C := RX0) (T := TX0) (N := 10) hx hb hts hinX0 hown hK hP 1 rfl rfl 7 (by decide) (hts (.fieldLink RX0 33 "LoopScheduler$Loop" "heights" "[I") (List.mem_of_getElem? (i := 2) rfl)) (fun _ h9 => h9) rfl dX0_raiseHeights_13 ?_
        refine lv_aload_n hx hb dX0_raiseHeights_16 rfl (lv_at hl 0 rfl) ?_
        refine va_get (D := D) (ci := 0) (v := .ref (a 7)) (C := RX0) (T := TX0) (N := 10) hx hb hts hinX0 hown hK hP 1 rfl rfl 4 (by decide) (hts (.fieldLink RX0 24 "LoopScheduler$Loop" "targets" "[I") (List.mem_of_getElem? (i := 3) rfl)) (fun _ h9 => h9) rfl dX0_raiseHeights_17 ?_
        refine lv_iload_n hx hb dX0_raiseHeights_20 rfl (lv_at hl 3 rfl) ?_
        refine z_ialdZ (f := Lds L) (z := k) hx hb hK hP 7 0 rfl rfl (by omega) (by decide) dX0_raiseHeights_21 ?_
        refine z_ialdN (f := h') (z := Lds L k) hx hb hK hP 10 0 rfl rfl (by omega) (by decide) dX0_raiseHeights_22 ?_
        refine lv_aload_n hx hb dX0_raiseHeights_23 rfl (lv_at hl 0 rfl) ?_
        refine va_get (D := D) (ci := 0) (v := .ref (a 8)) (C := RX0) (T := TX0) (N := 10) hx hb hts hinX0 hown hK hP 1 rfl rfl 5 (by decide) (hts (.fieldLink RX0 27 "LoopScheduler$Loop" "delays" "[I") (List.mem_of_getElem? (i := 4) rfl)) (fun _ h9 => h9) rfl dX0_raiseHeights_24 ?_
        refine lv_iload_n hx hb dX0_raiseHeights_27 rfl (lv_at hl 3 rfl) ?_
        refine z_ialdZ (f := Ldl L) (z := k) hx hb hK hP 8 0 rfl rfl (by omega) (by decide) dX0_raiseHeights_28 ?_
        refine z_add (a := (h' (Lds L k))) (b := ((Ldl L k : Nat) : Int)) hx hb dX0_raiseHeights_29 ?_
        refine lv_iload_n hx hb dX0_raiseHeights_30 rfl (lv_at hl 1 rfl) ?_
        refine lv_aload_n hx hb dX0_raiseHeights_31 rfl (lv_at hl 0 rfl) ?_
        refine va_get (D := D) (ci := 0) (v := .ref (a 9)) (C := RX0) (T := TX0) (N := 10) hx hb hts hinX0 hown hK hP 1 rfl rfl 6 (by decide) (hts (.fieldLink RX0 30 "LoopScheduler$Loop" "distances" "[I") (List.mem_of_getElem? (i := 5) rfl)) (fun _ h9 => h9) rfl dX0_raiseHeights_32 ?_
        refine lv_iload_n hx hb dX0_raiseHeights_35 rfl (lv_at hl 3 rfl) ?_
        refine z_ialdZ (f := Ldi L) (z := k) hx hb hK hP 9 0 rfl rfl (by omega) (by decide) dX0_raiseHeights_36 ?_
        refine z_mul (a := ((t : Nat) : Int)) (b := ((Ldi L k : Nat) : Int)) hx hb dX0_raiseHeights_37 ?_
        refine z_sub (a := ((h' (Lds L k)) + ((Ldl L k : Nat) : Int))) (b := (((t : Nat) : Int) * ((Ldi L k : Nat) : Int))) hx hb dX0_raiseHeights_38 ?_
        refine lv_istore (lv' := [(4, .int (iI (((h' (Lds L k)) + ((Ldl L k : Nat) : Int)) - (((t : Nat) : Int) * ((Ldi L k : Nat) : Int))))), (0, .ref (a 1)), (1, .int (iI ((t : Nat) : Int))), (2, .int (iI (bI b))), (3, .int (iI ((k : Nat) : Int)))]) hx hb dX0_raiseHeights_39 hl (by decide) rfl (fun ls hl => ?_)
        refine lv_iload hx hb dX0_raiseHeights_41 (lv_at hl 0 rfl) ?_
        refine lv_aload_n hx hb dX0_raiseHeights_43 rfl (lv_at hl 1 rfl) ?_
        refine va_get (D := D) (ci := 0) (v := .ref (a 10)) (C := RX0) (T := TX0) (N := 10) hx hb hts hinX0 hown hK hP 1 rfl rfl 7 (by decide) (hts (.fieldLink RX0 33 "LoopScheduler$Loop" "heights" "[I") (List.mem_of_getElem? (i := 2) rfl)) (fun _ h9 => h9) rfl dX0_raiseHeights_44 ?_
        refine lv_aload_n hx hb dX0_raiseHeights_47 rfl (lv_at hl 1 rfl) ?_
        refine va_get (D := D) (ci := 0) (v := .ref (a 6)) (C := RX0) (T := TX0) (N := 10) hx hb hts hinX0 hown hK hP 1 rfl rfl 3 (by decide) (hts (.fieldLink RX0 21 "LoopScheduler$Loop" "sources" "[I") (List.mem_of_getElem? (i := 6) rfl)) (fun _ h9 => h9) rfl dX0_raiseHeights_48 ?_
        refine lv_iload_n hx hb dX0_raiseHeights_51 rfl (lv_at hl 4 rfl) ?_
        refine z_ialdZ (f := Lsr L) (z := k) hx hb hK hP 6 0 rfl rfl (by omega) (by decide) dX0_raiseHeights_52 ?_
        refine z_ialdN (f := h') (z := Lsr L k) hx hb hK hP 10 0 rfl rfl (by omega) (by decide) dX0_raiseHeights_53 ?_
        refine z_icle (a := (((h' (Lds L k)) + ((Ldl L k : Nat) : Int)) - (((t : Nat) : Int) * ((Ldi L k : Nat) : Int)))) (b := (h' (Lsr L k))) (tgt := 72) hx hb dX0_raiseHeights_54 (by decide) (by omega) (fun c_54 => ?_) (fun c_54 => ?_)
        · refine z_iinc (a := ((k : Nat) : Int)) (b := ((k + 1 : Nat) : Int)) (lv' := [(3, .int (iI ((k + 1 : Nat) : Int))), (4, .int (iI (((h' (Lds L k)) + ((Ldl L k : Nat) : Int)) - (((t : Nat) : Int) * ((Ldi L k : Nat) : Int))))), (0, .ref (a 1)), (1, .int (iI ((t : Nat) : Int))), (2, .int (iI (bI b)))]) hx hb 4 dX0_raiseHeights_72 hl rfl rfl (by decide) rfl (fun ls hl => ?_)
          refine lv_goto (tgt := 4) hx hb dX0_raiseHeights_75 (by decide) ?_
          exact ih4 (k + 1) h' b _ _ _ (by omega) (by omega) (by rw [gr_s, hi]; exact gr1_f (by omega)) hP hD hS (lv_sub hl [2, 3, 4, 0] rfl)
        · refine lv_aload_n hx hb dX0_raiseHeights_57 rfl (lv_at hl 1 rfl) ?_
          refine va_get (D := D) (ci := 0) (v := .ref (a 10)) (C := RX0) (T := TX0) (N := 10) hx hb hts hinX0 hown hK hP 1 rfl rfl 7 (by decide) (hts (.fieldLink RX0 33 "LoopScheduler$Loop" "heights" "[I") (List.mem_of_getElem? (i := 2) rfl)) (fun _ h9 => h9) rfl dX0_raiseHeights_58 ?_
          refine lv_aload_n hx hb dX0_raiseHeights_61 rfl (lv_at hl 1 rfl) ?_
          refine va_get (D := D) (ci := 0) (v := .ref (a 6)) (C := RX0) (T := TX0) (N := 10) hx hb hts hinX0 hown hK hP 1 rfl rfl 3 (by decide) (hts (.fieldLink RX0 21 "LoopScheduler$Loop" "sources" "[I") (List.mem_of_getElem? (i := 6) rfl)) (fun _ h9 => h9) rfl dX0_raiseHeights_62 ?_
          refine lv_iload_n hx hb dX0_raiseHeights_65 rfl (lv_at hl 4 rfl) ?_
          refine z_ialdZ (f := Lsr L) (z := k) hx hb hK hP 6 0 rfl rfl (by omega) (by decide) dX0_raiseHeights_66 ?_
          refine lv_iload hx hb dX0_raiseHeights_67 (lv_at hl 0 rfl) ?_
          refine z_iastN (f := h') (z := Lsr L k) (v := (((h' (Lds L k)) + ((Ldl L k : Nat) : Int)) - (((t : Nat) : Int) * ((Ldi L k : Nat) : Int)))) hx hb hK hP hD hS 10 0 rfl rfl (by omega) (by decide) dX0_raiseHeights_69 (fun H locs hP hD hS => ?_)
          have hP : va_P D vwCl (wX a g L att T (upZ h' (Lsr L k) (((h' (Lds L k)) + ((Ldl L k : Nat) : Int)) - (((t : Nat) : Int) * ((Ldi L k : Nat) : Int)))) tm tk lt) H := hP
          have hD : va_D A (wX a g L att T (upZ h' (Lsr L k) (((h' (Lds L k)) + ((Ldl L k : Nat) : Int)) - (((t : Nat) : Int) * ((Ldi L k : Nat) : Int)))) tm tk lt) := hD
          refine z_ic hx hb dX0_raiseHeights_70 ?_
          refine lv_istore_n (lv' := [(2, .int (iI ((1 : Nat) : Int))), (4, .int (iI (((h' (Lds L k)) + ((Ldl L k : Nat) : Int)) - (((t : Nat) : Int) * ((Ldi L k : Nat) : Int))))), (0, .ref (a 1)), (1, .int (iI ((t : Nat) : Int))), (3, .int (iI ((k : Nat) : Int)))]) hx hb dX0_raiseHeights_71 rfl hl (by decide) rfl (fun ls hl => ?_)
          refine z_iinc (a := ((k : Nat) : Int)) (b := ((k + 1 : Nat) : Int)) (lv' := [(3, .int (iI ((k + 1 : Nat) : Int))), (2, .int (iI ((1 : Nat) : Int))), (4, .int (iI (((h' (Lds L k)) + ((Ldl L k : Nat) : Int)) - (((t : Nat) : Int) * ((Ldi L k : Nat) : Int))))), (0, .ref (a 1)), (1, .int (iI ((t : Nat) : Int)))]) hx hb 4 dX0_raiseHeights_72 hl rfl rfl (by decide) rfl (fun ls hl => ?_)
          refine lv_goto (tgt := 4) hx hb dX0_raiseHeights_75 (by decide) ?_
          exact ih4 (k + 1) (upZ h' (Lsr L k) (((h' (Lds L k)) + ((Ldl L k : Nat) : Int)) - (((t : Nat) : Int) * ((Ldi L k : Nat) : Int)))) true _ _ _ (by omega) (by omega) (by rw [gr_s, hi]; exact gr1_t (by omega)) hP hD hS (lv_sub hl [3, 4, 1, 0] rfl)
  exact loop4 ((Lm L - 0) + 1) 0 hs false _ _ _ (Nat.lt_succ_self _) (by omega) rfl hP hD hS (lv_sub hl [2, 3, 1, 0] rfl)
set_option maxHeartbeats 4000000 in
set_option maxRecDepth 100000 in
theorem c_X0_findHeights (l : Launch) (D : va_G) (g : Nat → ClassId) (a : Nat → Nat) (L : LD) (att T : Nat) (hs tm : Nat → Int) (tk : Nat → Nat → Int) (lt : Nat → Int) (t : Nat) (hw : wf L) (ht : t ≤ 255) : zMi l D (zT g) yX0_findHeights wsX0_findHeights 2 36 (wX a g L att T hs tm tk lt) [.ref (a 1), .int (iI ((t : Nat) : Int))] (fun r w1 => r = iI (bI (cv L t)) ∧ w1 = wX a g L att T (hF L t) tm tk lt) := by
  refine z_ofI (cc := cX0_findHeights) (maxL := 3) (ret := (some .boolean)) (by decide) rfl (Nat.le_of_ble_eq_true rfl) ?_
  intro p e s m args below meth c A ls hx hb hr hts hown hlocks hml hP hK hD hS hA hl Q hQ
  have hown : s.vm.findClass RX0 = some m.cls := hown
  have hinX0 : ∀ w ∈ u_ws RX0 TX0 10, w ∈ wsX0_findHeights := by decide +kernel
  have hl : lv_has ls 3 [(0, .ref (a 1)), (1, .int (iI ((t : Nat) : Int)))] := hl
  refine lv_aload_n hx hb dX0_findHeights_0 rfl (lv_at hl 0 rfl) ?_
  refine va_get (D := D) (ci := 0) (v := .ref (a 10)) (C := RX0) (T := TX0) (N := 10) hx hb hts hinX0 hown hK hP 1 rfl rfl 7 (by decide) (hts (.fieldLink RX0 33 "LoopScheduler$Loop" "heights" "[I") (List.mem_of_getElem? (i := 1) rfl)) (fun _ h9 => h9) rfl dX0_findHeights_1 ?_
  refine z_ic hx hb dX0_findHeights_4 ?_
  refine z_callv (va_runS (As := [.ref (a 10), .int (iI ((0 : Nat) : Int))]) (rest := []) ⟨hx, hb, hml, hown, hts⟩ (c_fill l D g (wX a g L att T hs tm tk lt) 10 14 (a 10) hs 0 rfl (by decide) _) (va_cwS 2 hts gX0_findHeights_J7_fill_53178 rfl rfl rfl (by decide +kernel) ⟨Nat.le_of_ble_eq_true rfl, Nat.le_of_ble_eq_true rfl⟩) (z_preS hK hP hD) rfl rfl hl.1 rfl (lv_room (Nat.le_of_ble_eq_true rfl)) dX0_findHeights_5 ⟨Nat.zero_le _, Nat.zero_le _⟩) hS hD hA (fun w1 H locs hw1 hP hD hS => ?_)
  subst hw1
  have hP : va_P D vwCl (wX a g L att T (fun _ => 0) tm tk lt) H := hP
  have hD : va_D A (wX a g L att T (fun _ => 0) tm tk lt) := hD
  refine z_ic hx hb dX0_findHeights_8 ?_
  refine lv_istore_n (lv' := [(2, .int (iI ((0 : Nat) : Int))), (0, .ref (a 1)), (1, .int (iI ((t : Nat) : Int)))]) hx hb dX0_findHeights_9 rfl hl (by decide) rfl (fun ls hl => ?_)
  have loop10 : ∀ (n10 : Nat) (q : Nat) (H : Heap) (locs : List Loc) (ls : Array Slot), Ln L + 1 - q < n10 → (q ≤ Ln L + 1) → (∀ j, j < q → fl L t j = true) → va_P D vwCl (wX a g L att T (hit L t q) tm tk lt) H → va_D A (wX a g L att T (hit L t q) tm tk lt) → va_S A s.heap H locs → lv_has ls 3 [(0, .ref (a 1)), (1, .int (iI ((t : Nat) : Int))), (2, .int (iI ((q : Nat) : Int)))] → W p l e ({ frames := 2, cells := 0, slots := 0, locals := 36 } : Room) s m args below meth c H locs 0 0 Q (F0 m 10 ls []) := by
    intro n10
    induction n10 with
    | zero => exact fun _ H locs ls hn => absurd hn (Nat.not_lt_zero _)
    | succ n10 ih10 =>
      intro q H locs ls hn10 hq hfl hP hD hS hl
      have hwn := wf_n hw
      refine lv_iload_n hx hb dX0_findHeights_10 rfl (lv_at hl 2 rfl) ?_
      refine lv_aload_n hx hb dX0_findHeights_11 rfl (lv_at hl 0 rfl) ?_
      refine va_get (D := D) (ci := 0) (v := .int (iI ((Ln L : Nat) : Int))) (C := RX0) (T := TX0) (N := 10) hx hb hts hinX0 hown hK hP 1 rfl rfl 8 (by decide) (hts (.fieldLink RX0 36 "LoopScheduler$Loop" "operations" "I") (List.mem_of_getElem? (i := 2) rfl)) (fun _ h9 => h9) rfl dX0_findHeights_12 ?_
      refine z_icgt (a := ((q : Nat) : Int)) (b := ((Ln L : Nat) : Int)) (tgt := 34) hx hb dX0_findHeights_15 (by decide) (by omega) (fun c_15 => ?_) (fun c_15 => ?_)
      · obtain rfl : q = Ln L + 1 := by omega
        refine z_ic hx hb dX0_findHeights_34 ?_
        exact z_zret (w := (wX a g L att T (hit L t (Ln L + 1)) tm tk lt)) (v := (iI ((0 : Nat) : Int))) z_nb0 hQ hx hb hr hlocks ⟨by unfold cv; rw [hfl (Ln L) (Nat.lt_succ_self _)]; rfl, rfl⟩ hK hP hD hS dX0_findHeights_35
      · refine lv_aload_n hx hb dX0_findHeights_18 rfl (lv_at hl 0 rfl) ?_
        refine lv_iload_n hx hb dX0_findHeights_19 rfl (lv_at hl 1 rfl) ?_
        refine z_calli (va_runV (As := [.int (iI ((t : Nat) : Int))]) (rest := []) ⟨hx, hb, hml, hown, hts⟩ (c_X0_raiseHeights l D g a L att T (hit L t q) tm tk lt t (480 * (q : Int)) hw ht (by have := wf_n hw; omega) (hit_bd hw t q) _) (cwV 1 hts gX0_findHeights_X0_raiseHeights rfl rfl rfl (by decide +kernel) ⟨Nat.le_of_ble_eq_true rfl, Nat.le_of_ble_eq_true rfl⟩) (z_preV 1 hK hP hD rfl rfl) rfl rfl hl.1 rfl (lv_room (Nat.le_of_ble_eq_true rfl)) dX0_findHeights_20 ⟨Nat.zero_le _, Nat.zero_le _⟩) hS hD hA (fun r w1 H locs hw1 hP hD hS => ?_)
        obtain ⟨rfl, rfl⟩ := hw1
        have hP : va_P D vwCl (wX a g L att T (hit L t (q + 1)) tm tk lt) H := hP
        have hD : va_D A (wX a g L att T (hit L t (q + 1)) tm tk lt) := hD
        refine z_ifne (a := (bI (fl L t q))) (tgt := 28) hx hb dX0_findHeights_23 (by decide) (bI_r _) (fun c_23 => ?_) (fun c_23 => ?_)
        · have b_23 := bI_t c_23
          refine z_iinc (a := ((q : Nat) : Int)) (b := ((q + 1 : Nat) : Int)) (lv' := [(2, .int (iI ((q + 1 : Nat) : Int))), (0, .ref (a 1)), (1, .int (iI ((t : Nat) : Int)))]) hx hb 2 dX0_findHeights_28 hl rfl rfl (by decide) rfl (fun ls hl => ?_)
          refine lv_goto (tgt := 10) hx hb dX0_findHeights_31 (by decide) ?_
          exact ih10 (q + 1) _ _ _ (by omega) (by omega) (fun j h => (Nat.lt_or_ge j q).elim (hfl j) (fun e => (show q = j by omega) ▸ bI_t c_23)) hP hD hS (lv_sub hl [1, 2, 0] rfl)
        · have b_23 := bI_f c_23
          refine z_ic hx hb dX0_findHeights_26 ?_
          exact z_zret (w := (wX a g L att T (hit L t (q + 1)) tm tk lt)) (v := (iI ((1 : Nat) : Int))) z_nb1 hQ hx hb hr hlocks ⟨by rw [(fl_end (t := t) (r := q) (by omega) (bI_f c_23)).1]; rfl, by rw [(fl_end (t := t) (r := q) (by omega) (bI_f c_23)).2]⟩ hK hP hD hS dX0_findHeights_27
  exact loop10 ((Ln L + 1 - 0) + 1) 0 _ _ _ (Nat.lt_succ_self _) (by omega) (fun j h => absurd h (Nat.not_lt_zero j)) hP hD hS (lv_sub hl [1, 2, 0] rfl)
set_option maxHeartbeats 4000000 in
set_option maxRecDepth 100000 in
theorem c_X0_leastIntervalOfRecurrences (l : Launch) (D : va_G) (g : Nat → ClassId) (a : Nat → Nat) (L : LD) (att T : Nat) (hs tm : Nat → Int) (tk : Nat → Nat → Int) (lt : Nat → Int)  (hw : wf L) : zMi l D (zT g) yX0_leastIntervalOfRecurrences wsX0_leastIntervalOfRecurrences 3 58 (wX a g L att T hs tm tk lt) [.ref (a 1)] (fun r w1 => r = iI (rBz L) ∧ ∃ h', w1 = wX a g L att T h' tm tk lt) := by
  refine z_ofI (cc := cX0_leastIntervalOfRecurrences) (maxL := 3) (ret := (some .int)) (by decide) rfl (Nat.le_of_ble_eq_true rfl) ?_
  intro p e s m args below meth c A ls hx hb hr hts hown hlocks hml hP hK hD hS hA hl Q hQ
  have hown : s.vm.findClass RX0 = some m.cls := hown
  have hinX0 : ∀ w ∈ u_ws RX0 TX0 10, w ∈ wsX0_leastIntervalOfRecurrences := by decide +kernel
  have hl : lv_has ls 3 [(0, .ref (a 1))] := hl
  refine z_ic hx hb dX0_leastIntervalOfRecurrences_0 ?_
  refine lv_istore_n (lv' := [(1, .int (iI ((0 : Nat) : Int))), (0, .ref (a 1))]) hx hb dX0_leastIntervalOfRecurrences_1 rfl hl (by decide) rfl (fun ls hl => ?_)
  refine z_sip hx hb dX0_leastIntervalOfRecurrences_2 (by decide) ?_
  refine lv_istore_n (lv' := [(2, .int (iI ((128 : Nat) : Int))), (1, .int (iI ((0 : Nat) : Int))), (0, .ref (a 1))]) hx hb dX0_leastIntervalOfRecurrences_5 rfl hl (by decide) rfl (fun ls hl => ?_)
  have loop6 : ∀ (n6 : Nat) (i : Nat) (h' : Nat → Int) (H : Heap) (locs : List Loc) (ls : Array Slot), 9 - i < n6 → (i < 9) → va_P D vwCl (wX a g L att T h' tm tk lt) H → va_D A (wX a g L att T h' tm tk lt) → va_S A s.heap H locs → lv_has ls 3 [(0, .ref (a 1)), (1, .int (iI ((hv L i : Nat) : Int))), (2, .int (iI ((128 / 2 ^ i : Nat) : Int)))] → W p l e ({ frames := 3, cells := 0, slots := 0, locals := 58 } : Room) s m args below meth c H locs 0 0 Q (F0 m 6 ls []) := by
    intro n6
    induction n6 with
    | zero => exact fun _ _ H locs ls hn => absurd hn (Nat.not_lt_zero _)
    | succ n6 ih6 =>
      intro i h' H locs ls hn6 hi hP hD hS hl
      have hpw := pw_all i hi
      have hbd := hv_bd L i hi
      refine lv_iload_n hx hb dX0_leastIntervalOfRecurrences_6 rfl (lv_at hl 2 rfl) ?_
      refine z_ifle (a := ((128 / 2 ^ i : Nat) : Int)) (tgt := 31) hx hb dX0_leastIntervalOfRecurrences_7 (by decide) (by omega) (fun c_7 => ?_) (fun c_7 => ?_)
      · obtain rfl : i = 8 := by omega
        refine lv_iload_n hx hb dX0_leastIntervalOfRecurrences_31 rfl (lv_at hl 1 rfl) ?_
        refine z_sip hx hb dX0_leastIntervalOfRecurrences_32 (by decide) ?_
        refine z_icge (a := ((hv L 8 : Nat) : Int)) (b := 200) (tgt := 44) hx hb dX0_leastIntervalOfRecurrences_35 (by decide) (by omega) (fun c_35 => ?_) (fun c_35 => ?_)
        · refine z_ic hx hb dX0_leastIntervalOfRecurrences_44 ?_
          exact z_iret (w := (wX a g L att T h' tm tk lt)) (v := (iI (-1))) hQ hx hb hr hlocks ⟨by unfold rBz; rw [if_neg (by omega)], _, rfl⟩ hK hP hD hS dX0_leastIntervalOfRecurrences_45
        · refine lv_iload_n hx hb dX0_leastIntervalOfRecurrences_38 rfl (lv_at hl 1 rfl) ?_
          refine z_ic hx hb dX0_leastIntervalOfRecurrences_39 ?_
          refine z_add (a := ((hv L 8 : Nat) : Int)) (b := 1) hx hb dX0_leastIntervalOfRecurrences_40 ?_
          refine z_eqI (y := iI ((hv L 8 + 1 : Nat) : Int)) (congrArg iI (by omega)) ?_
          refine lv_goto (tgt := 45) hx hb dX0_leastIntervalOfRecurrences_41 (by decide) ?_
          exact z_iret (w := (wX a g L att T h' tm tk lt)) (v := (iI ((hv L 8 + 1 : Nat) : Int))) hQ hx hb hr hlocks ⟨by unfold rBz; rw [if_pos (by omega)], _, rfl⟩ hK hP hD hS dX0_leastIntervalOfRecurrences_45
      · refine lv_aload_n hx hb dX0_leastIntervalOfRecurrences_10 rfl (lv_at hl 0 rfl) ?_
        refine lv_iload_n hx hb dX0_leastIntervalOfRecurrences_11 rfl (lv_at hl 1 rfl) ?_
        refine lv_iload_n hx hb dX0_leastIntervalOfRecurrences_12 rfl (lv_at hl 2 rfl) ?_
        refine z_add (a := ((hv L i : Nat) : Int)) (b := ((128 / 2 ^ i : Nat) : Int)) hx hb dX0_leastIntervalOfRecurrences_13 ?_
        refine z_eqI (y := iI ((hv L i + 128 / 2 ^ i : Nat) : Int)) (congrArg iI (by omega)) ?_
        refine z_calli (va_runV (As := [.int (iI ((hv L i + 128 / 2 ^ i : Nat) : Int))]) (rest := []) ⟨hx, hb, hml, hown, hts⟩ (c_X0_findHeights l D g a L att T h' tm tk lt (hv L i + 128 / 2 ^ i) hw (by omega) _) (cwV 1 hts gX0_leastIntervalOfRecurrences_X0_findHeights rfl rfl rfl (by decide +kernel) ⟨Nat.le_of_ble_eq_true rfl, Nat.le_of_ble_eq_true rfl⟩) (z_preV 1 hK hP hD rfl rfl) rfl rfl hl.1 rfl (lv_room (Nat.le_of_ble_eq_true rfl)) dX0_leastIntervalOfRecurrences_14 ⟨Nat.zero_le _, Nat.zero_le _⟩) hS hD hA (fun r w1 H locs hw1 hP hD hS => ?_)
        obtain ⟨rfl, rfl⟩ := hw1
        refine z_ifne (a := (bI (cv L (hv L i + 128 / 2 ^ i)))) (tgt := 24) hx hb dX0_leastIntervalOfRecurrences_17 (by decide) (bI_r _) (fun c_17 => ?_) (fun c_17 => ?_)
        · have b_17 := bI_t c_17
          have c_17 := bI_t c_17
          refine lv_iload_n hx hb dX0_leastIntervalOfRecurrences_24 rfl (lv_at hl 2 rfl) ?_
          refine z_ic hx hb dX0_leastIntervalOfRecurrences_25 ?_
          refine z_div (a := ((128 / 2 ^ i : Nat) : Int)) (b := 2) hx hb (by omega) dX0_leastIntervalOfRecurrences_26 ?_
          refine z_eqI (y := iI ((128 / 2 ^ i / 2 : Nat) : Int)) (congrArg iI (by omega)) ?_
          refine lv_istore_n (lv' := [(2, .int (iI ((128 / 2 ^ i / 2 : Nat) : Int))), (0, .ref (a 1)), (1, .int (iI ((hv L i : Nat) : Int)))]) hx hb dX0_leastIntervalOfRecurrences_27 rfl hl (by decide) rfl (fun ls hl => ?_)
          refine lv_goto (tgt := 6) hx hb dX0_leastIntervalOfRecurrences_28 (by decide) ?_
          exact ih6 (i + 1) (hF L (hv L i + 128 / 2 ^ i)) _ _ _ (by omega) (by omega) hP hD hS (by rw [show hv L (i + 1) = hv L i from hv_t c_17, show 128 / 2 ^ (i + 1) = 128 / 2 ^ i / 2 from hpw.2.2.2.symm]; exact lv_sub hl [1, 2, 0] rfl)
        · have b_17 := bI_f c_17
          have c_17 := bI_f c_17
          refine lv_iload_n hx hb dX0_leastIntervalOfRecurrences_20 rfl (lv_at hl 1 rfl) ?_
          refine lv_iload_n hx hb dX0_leastIntervalOfRecurrences_21 rfl (lv_at hl 2 rfl) ?_
          refine z_add (a := ((hv L i : Nat) : Int)) (b := ((128 / 2 ^ i : Nat) : Int)) hx hb dX0_leastIntervalOfRecurrences_22 ?_
          refine z_eqI (y := iI ((hv L i + 128 / 2 ^ i : Nat) : Int)) (congrArg iI (by omega)) ?_
          refine lv_istore_n (lv' := [(1, .int (iI ((hv L i + 128 / 2 ^ i : Nat) : Int))), (0, .ref (a 1)), (2, .int (iI ((128 / 2 ^ i : Nat) : Int)))]) hx hb dX0_leastIntervalOfRecurrences_23 rfl hl (by decide) rfl (fun ls hl => ?_)
          refine lv_iload_n hx hb dX0_leastIntervalOfRecurrences_24 rfl (lv_at hl 2 rfl) ?_
          refine z_ic hx hb dX0_leastIntervalOfRecurrences_25 ?_
          refine z_div (a := ((128 / 2 ^ i : Nat) : Int)) (b := 2) hx hb (by omega) dX0_leastIntervalOfRecurrences_26 ?_
          refine z_eqI (y := iI ((128 / 2 ^ i / 2 : Nat) : Int)) (congrArg iI (by omega)) ?_
          refine lv_istore_n (lv' := [(2, .int (iI ((128 / 2 ^ i / 2 : Nat) : Int))), (1, .int (iI ((hv L i + 128 / 2 ^ i : Nat) : Int))), (0, .ref (a 1))]) hx hb dX0_leastIntervalOfRecurrences_27 rfl hl (by decide) rfl (fun ls hl => ?_)
          refine lv_goto (tgt := 6) hx hb dX0_leastIntervalOfRecurrences_28 (by decide) ?_
          exact ih6 (i + 1) (hF L (hv L i + 128 / 2 ^ i)) _ _ _ (by omega) (by omega) hP hD hS (by rw [show hv L (i + 1) = hv L i + 128 / 2 ^ i from hv_f c_17, show 128 / 2 ^ (i + 1) = 128 / 2 ^ i / 2 from hpw.2.2.2.symm]; exact lv_sub hl [2, 1, 0] rfl)
  exact loop6 ((9 - 0) + 1) 0 hs _ _ _ (Nat.lt_succ_self _) (by omega) hP hD hS (lv_sub hl [2, 1, 0] rfl)
set_option maxHeartbeats 4000000 in
set_option maxRecDepth 100000 in
theorem c_X0_busyCycles (l : Launch) (D : va_G) (g : Nat → ClassId) (a : Nat → Nat) (L : LD) (att T : Nat) (hs tm : Nat → Int) (tk : Nat → Nat → Int) (lt : Nat → Int) (x : Nat) (hw : wf L) (hx3 : x < 3) : zMi l D (zT g) yX0_busyCycles wsX0_busyCycles 1 12 (wX a g L att T hs tm tk lt) [.ref (a 1), .int (iI ((x : Nat) : Int))] (fun r w1 => r = iI ((bcs L x (Ln L) : Nat) : Int) ∧ w1 = wX a g L att T hs tm tk lt) := by
  refine z_ofI (cc := cX0_busyCycles) (maxL := 4) (ret := (some .int)) (by decide) rfl (Nat.le_of_ble_eq_true rfl) ?_
  intro p e s m args below meth c A ls hx hb hr hts hown hlocks hml hP hK hD hS hA hl Q hQ
  have hown : s.vm.findClass RX0 = some m.cls := hown
  have hinX0 : ∀ w ∈ u_ws RX0 TX0 10, w ∈ wsX0_busyCycles := by decide +kernel
  have hl : lv_has ls 4 [(0, .ref (a 1)), (1, .int (iI ((x : Nat) : Int)))] := hl
  refine z_ic hx hb dX0_busyCycles_0 ?_
  refine lv_istore_n (lv' := [(2, .int (iI ((0 : Nat) : Int))), (0, .ref (a 1)), (1, .int (iI ((x : Nat) : Int)))]) hx hb dX0_busyCycles_1 rfl hl (by decide) rfl (fun ls hl => ?_)
  refine z_ic hx hb dX0_busyCycles_2 ?_
  refine lv_istore_n (lv' := [(3, .int (iI ((0 : Nat) : Int))), (2, .int (iI ((0 : Nat) : Int))), (0, .ref (a 1)), (1, .int (iI ((x : Nat) : Int)))]) hx hb dX0_busyCycles_3 rfl hl (by decide) rfl (fun ls hl => ?_)
  have loop4 : ∀ (n4 : Nat) (i : Nat) (H : Heap) (locs : List Loc) (ls : Array Slot), Ln L - i < n4 → (i ≤ Ln L) → va_P D vwCl (wX a g L att T hs tm tk lt) H → va_D A (wX a g L att T hs tm tk lt) → va_S A s.heap H locs → lv_has ls 4 [(0, .ref (a 1)), (1, .int (iI ((x : Nat) : Int))), (2, .int (iI ((bcs L x i : Nat) : Int))), (3, .int (iI ((i : Nat) : Int)))] → W p l e ({ frames := 1, cells := 0, slots := 0, locals := 12 } : Room) s m args below meth c H locs 0 0 Q (F0 m 4 ls []) := by
    intro n4
    induction n4 with
    | zero => exact fun _ H locs ls hn => absurd hn (Nat.not_lt_zero _)
    | succ n4 ih4 =>
      intro i H locs ls hn4 hi hP hD hS hl
      have hwn := wf_n hw
      have hkd := wf_kd hw i
      have hby := wf_by hw i
      have hbb := bcs_bd hw x i
      refine lv_iload_n hx hb dX0_busyCycles_4 rfl (lv_at hl 3 rfl) ?_
      refine lv_aload_n hx hb dX0_busyCycles_5 rfl (lv_at hl 0 rfl) ?_
      refine va_get (D := D) (ci := 0) (v := .int (iI ((Ln L : Nat) : Int))) (C := RX0) (T := TX0) (N := 10) hx hb hts hinX0 hown hK hP 1 rfl rfl 8 (by decide) (hts (.fieldLink RX0 36 "LoopScheduler$Loop" "operations" "I") (List.mem_of_getElem? (i := 1) rfl)) (fun _ h9 => h9) rfl dX0_busyCycles_6 ?_
      refine z_icge (a := ((i : Nat) : Int)) (b := ((Ln L : Nat) : Int)) (tgt := 37) hx hb dX0_busyCycles_9 (by decide) (by omega) (fun c_9 => ?_) (fun c_9 => ?_)
      · obtain rfl : i = Ln L := by omega
        refine lv_iload_n hx hb dX0_busyCycles_37 rfl (lv_at hl 2 rfl) ?_
        exact z_iret (w := (wX a g L att T hs tm tk lt)) (v := (iI ((bcs L x (Ln L) : Nat) : Int))) hQ hx hb hr hlocks ⟨rfl, rfl⟩ hK hP hD hS dX0_busyCycles_38
      · refine lv_aload_n hx hb dX0_busyCycles_12 rfl (lv_at hl 0 rfl) ?_
        refine va_get (D := D) (ci := 0) (v := .ref (a 4)) (C := RX0) (T := TX0) (N := 10) hx hb hts hinX0 hown hK hP 1 rfl rfl 1 (by decide) (hts (.fieldLink RX0 15 "LoopScheduler$Loop" "kinds" "[I") (List.mem_of_getElem? (i := 2) rfl)) (fun _ h9 => h9) rfl dX0_busyCycles_13 ?_
        refine lv_iload_n hx hb dX0_busyCycles_16 rfl (lv_at hl 3 rfl) ?_
        refine z_ialdZ (f := Lkd L) (z := i) hx hb hK hP 4 0 rfl rfl (by omega) (by decide) dX0_busyCycles_17 ?_
        refine lv_iload_n hx hb dX0_busyCycles_18 rfl (lv_at hl 1 rfl) ?_
        refine z_icne (a := ((Lkd L i : Nat) : Int)) (b := ((x : Nat) : Int)) (tgt := 31) hx hb dX0_busyCycles_19 (by decide) (by omega) (fun c_19 => ?_) (fun c_19 => ?_)
        · have hl : lv_has ls 4 [(0, .ref (a 1)), (1, .int (iI ((x : Nat) : Int))), (2, .int (iI ((bcs L x (i + 1) : Nat) : Int))), (3, .int (iI ((i : Nat) : Int)))] := by rw [show (bcs L x (i + 1) : Nat) = bcs L x i from bcs_f (by omega)]; exact hl
          refine z_iinc (a := ((i : Nat) : Int)) (b := ((i + 1 : Nat) : Int)) (lv' := [(3, .int (iI ((i + 1 : Nat) : Int))), (0, .ref (a 1)), (1, .int (iI ((x : Nat) : Int))), (2, .int (iI ((bcs L x (i + 1) : Nat) : Int)))]) hx hb 3 dX0_busyCycles_31 hl rfl rfl (by decide) rfl (fun ls hl => ?_)
          refine lv_goto (tgt := 4) hx hb dX0_busyCycles_34 (by decide) ?_
          exact ih4 (i + 1) _ _ _ (by omega) (by omega) hP hD hS (lv_sub hl [1, 2, 3, 0] rfl)
        · refine lv_iload_n hx hb dX0_busyCycles_22 rfl (lv_at hl 2 rfl) ?_
          refine lv_aload_n hx hb dX0_busyCycles_23 rfl (lv_at hl 0 rfl) ?_
          refine va_get (D := D) (ci := 0) (v := .ref (a 5)) (C := RX0) (T := TX0) (N := 10) hx hb hts hinX0 hown hK hP 1 rfl rfl 2 (by decide) (hts (.fieldLink RX0 18 "LoopScheduler$Loop" "busy" "[I") (List.mem_of_getElem? (i := 3) rfl)) (fun _ h9 => h9) rfl dX0_busyCycles_24 ?_
          refine lv_iload_n hx hb dX0_busyCycles_27 rfl (lv_at hl 3 rfl) ?_
          refine z_ialdZ (f := Lby L) (z := i) hx hb hK hP 5 0 rfl rfl (by omega) (by decide) dX0_busyCycles_28 ?_
          refine z_add (a := ((bcs L x i : Nat) : Int)) (b := ((Lby L i : Nat) : Int)) hx hb dX0_busyCycles_29 ?_
          refine z_eqI (y := iI ((bcs L x (i + 1) : Nat) : Int)) (congrArg iI (by rw [bcs_t (show Lkd L i = x by omega)]; omega)) ?_
          refine lv_istore_n (lv' := [(2, .int (iI ((bcs L x (i + 1) : Nat) : Int))), (0, .ref (a 1)), (1, .int (iI ((x : Nat) : Int))), (3, .int (iI ((i : Nat) : Int)))]) hx hb dX0_busyCycles_30 rfl hl (by decide) rfl (fun ls hl => ?_)
          refine z_iinc (a := ((i : Nat) : Int)) (b := ((i + 1 : Nat) : Int)) (lv' := [(3, .int (iI ((i + 1 : Nat) : Int))), (2, .int (iI ((bcs L x (i + 1) : Nat) : Int))), (0, .ref (a 1)), (1, .int (iI ((x : Nat) : Int)))]) hx hb 3 dX0_busyCycles_31 hl rfl rfl (by decide) rfl (fun ls hl => ?_)
          refine lv_goto (tgt := 4) hx hb dX0_busyCycles_34 (by decide) ?_
          exact ih4 (i + 1) _ _ _ (by omega) (by omega) hP hD hS (lv_sub hl [2, 3, 1, 0] rfl)
  exact loop4 ((Ln L - 0) + 1) 0 _ _ _ (Nat.lt_succ_self _) (by omega) hP hD hS (lv_sub hl [2, 3, 1, 0] rfl)
set_option maxHeartbeats 4000000 in
set_option maxRecDepth 100000 in
theorem c_X0_leastIntervalOfResources (l : Launch) (D : va_G) (g : Nat → ClassId) (a : Nat → Nat) (L : LD) (att T : Nat) (hs tm : Nat → Int) (tk : Nat → Nat → Int) (lt : Nat → Int)  (hw : wf L) : zMi l D (zT g) yX0_leastIntervalOfResources wsX0_leastIntervalOfResources 2 35 (wX a g L att T hs tm tk lt) [.ref (a 1)] (fun r w1 => r = iI ((rs L : Nat) : Int) ∧ w1 = wX a g L att T hs tm tk lt) := by
  refine z_ofI (cc := cX0_leastIntervalOfResources) (maxL := 3) (ret := (some .int)) (by decide) rfl (Nat.le_of_ble_eq_true rfl) ?_
  intro p e s m args below meth c A ls hx hb hr hts hown hlocks hml hP hK hD hS hA hl Q hQ
  have hown : s.vm.findClass RX0 = some m.cls := hown
  have hinX0 : ∀ w ∈ u_ws RX0 TX0 10, w ∈ wsX0_leastIntervalOfResources := by decide +kernel
  have hl : lv_has ls 3 [(0, .ref (a 1))] := hl
  refine z_ic hx hb dX0_leastIntervalOfResources_0 ?_
  refine lv_istore_n (lv' := [(1, .int (iI ((1 : Nat) : Int))), (0, .ref (a 1))]) hx hb dX0_leastIntervalOfResources_1 rfl hl (by decide) rfl (fun ls hl => ?_)
  refine z_ic hx hb dX0_leastIntervalOfResources_2 ?_
  refine lv_istore_n (lv' := [(2, .int (iI ((0 : Nat) : Int))), (1, .int (iI ((1 : Nat) : Int))), (0, .ref (a 1))]) hx hb dX0_leastIntervalOfResources_3 rfl hl (by decide) rfl (fun ls hl => ?_)
  have loop4 : ∀ (n4 : Nat) (k : Nat) (H : Heap) (locs : List Loc) (ls : Array Slot), 3 - k < n4 → (k ≤ 3) → va_P D vwCl (wX a g L att T hs tm tk lt) H → va_D A (wX a g L att T hs tm tk lt) → va_S A s.heap H locs → lv_has ls 3 [(0, .ref (a 1)), (1, .int (iI ((rsk L k : Nat) : Int))), (2, .int (iI ((k : Nat) : Int)))] → W p l e ({ frames := 2, cells := 0, slots := 0, locals := 35 } : Room) s m args below meth c H locs 0 0 Q (F0 m 4 ls []) := by
    intro n4
    induction n4 with
    | zero => exact fun _ H locs ls hn => absurd hn (Nat.not_lt_zero _)
    | succ n4 ih4 =>
      intro k H locs ls hn4 hk hP hD hS hl
      have hu := wf_u hw k
      have hwn := wf_n hw
      have hbb := bcs_bd hw k (Ln L)
      have hrb := rsk_bd hw k
      have hrb2 := rsk_bd hw (k + 1)
      have hq0 := Int.natCast_nonneg ((bcs L k (Ln L) + Lu L k - 1) / Lu L k)
      have hdv : (bcs L k (Ln L) + Lu L k - 1) / Lu L k ≤ rsk L (k + 1) := Nat.le_max_right _ _
      refine lv_iload_n hx hb dX0_leastIntervalOfResources_4 rfl (lv_at hl 2 rfl) ?_
      refine z_ic hx hb dX0_leastIntervalOfResources_5 ?_
      refine z_icge (a := ((k : Nat) : Int)) (b := 3) (tgt := 41) hx hb dX0_leastIntervalOfResources_6 (by decide) (by omega) (fun c_6 => ?_) (fun c_6 => ?_)
      · obtain rfl : k = 3 := by omega
        refine lv_iload_n hx hb dX0_leastIntervalOfResources_41 rfl (lv_at hl 1 rfl) ?_
        exact z_iret (w := (wX a g L att T hs tm tk lt)) (v := (iI ((rsk L 3 : Nat) : Int))) hQ hx hb hr hlocks ⟨rfl, rfl⟩ hK hP hD hS dX0_leastIntervalOfResources_42
      · refine lv_iload_n hx hb dX0_leastIntervalOfResources_9 rfl (lv_at hl 1 rfl) ?_
        refine lv_aload_n hx hb dX0_leastIntervalOfResources_10 rfl (lv_at hl 0 rfl) ?_
        refine lv_iload_n hx hb dX0_leastIntervalOfResources_11 rfl (lv_at hl 2 rfl) ?_
        refine z_calli (va_runV (As := [.int (iI ((k : Nat) : Int))]) (rest := [.int (iI ((rsk L k : Nat) : Int))]) ⟨hx, hb, hml, hown, hts⟩ (c_X0_busyCycles l D g a L att T hs tm tk lt k hw (by omega) _) (cwV 1 hts gX0_leastIntervalOfResources_X0_busyCycles rfl rfl rfl (by decide +kernel) ⟨Nat.le_of_ble_eq_true rfl, Nat.le_of_ble_eq_true rfl⟩) (z_preV 1 hK hP hD rfl rfl) rfl rfl hl.1 rfl (lv_room (Nat.le_of_ble_eq_true rfl)) dX0_leastIntervalOfResources_12 ⟨Nat.zero_le _, Nat.zero_le _⟩) hS hD hA (fun r w1 H locs hw1 hP hD hS => ?_)
        obtain ⟨rfl, rfl⟩ := hw1
        refine lv_aload_n hx hb dX0_leastIntervalOfResources_15 rfl (lv_at hl 0 rfl) ?_
        refine va_get (D := D) (ci := 0) (v := .ref (a 3)) (C := RX0) (T := TX0) (N := 10) hx hb hts hinX0 hown hK hP 1 rfl rfl 0 (by decide) (hts (.fieldLink RX0 9 "LoopScheduler$Loop" "units" "[I") (List.mem_of_getElem? (i := 1) rfl)) (fun _ h9 => h9) rfl dX0_leastIntervalOfResources_16 ?_
        refine lv_iload_n hx hb dX0_leastIntervalOfResources_19 rfl (lv_at hl 2 rfl) ?_
        refine z_ialdZ (f := Lu L) (z := k) hx hb hK hP 3 0 rfl rfl (by omega) (by decide) dX0_leastIntervalOfResources_20 ?_
        refine z_add (a := ((bcs L k (Ln L) : Nat) : Int)) (b := ((Lu L k : Nat) : Int)) hx hb dX0_leastIntervalOfResources_21 ?_
        refine z_ic hx hb dX0_leastIntervalOfResources_22 ?_
        refine z_sub (a := (((bcs L k (Ln L) : Nat) : Int) + ((Lu L k : Nat) : Int))) (b := 1) hx hb dX0_leastIntervalOfResources_23 ?_
        refine lv_aload_n hx hb dX0_leastIntervalOfResources_24 rfl (lv_at hl 0 rfl) ?_
        refine va_get (D := D) (ci := 0) (v := .ref (a 3)) (C := RX0) (T := TX0) (N := 10) hx hb hts hinX0 hown hK hP 1 rfl rfl 0 (by decide) (hts (.fieldLink RX0 9 "LoopScheduler$Loop" "units" "[I") (List.mem_of_getElem? (i := 1) rfl)) (fun _ h9 => h9) rfl dX0_leastIntervalOfResources_25 ?_
        refine lv_iload_n hx hb dX0_leastIntervalOfResources_28 rfl (lv_at hl 2 rfl) ?_
        refine z_ialdZ (f := Lu L) (z := k) hx hb hK hP 3 0 rfl rfl (by omega) (by decide) dX0_leastIntervalOfResources_29 ?_
        refine z_div (a := ((((bcs L k (Ln L) : Nat) : Int) + ((Lu L k : Nat) : Int)) - 1)) (b := ((Lu L k : Nat) : Int)) hx hb (by omega) dX0_leastIntervalOfResources_30 ?_
        refine z_eqI (y := iI (((bcs L k (Ln L) + Lu L k - 1) / Lu L k : Nat) : Int)) (congrArg iI (by rw [Int.natCast_ediv]; congr 1; omega)) ?_
        refine z_mmax (a := ((rsk L k : Nat) : Int)) (b := (((bcs L k (Ln L) + Lu L k - 1) / Lu L k : Nat) : Int)) hx hb hml hl.1 hown (hts (.methodLink RX0 47 Lib.Math.max.name) (List.mem_of_getElem? (i := 2) rfl)) (hts (.static Lib.Math.max.name) (List.mem_of_getElem? (i := 3) rfl)) (hts (.initialized "java/lang/Math") (List.mem_of_getElem? (i := 4) rfl)) (hts (.code Lib.Math.max.name Lib.Math.max.code 2 (some .int)) (List.mem_of_getElem? (i := 5) rfl)) (Nat.le_of_ble_eq_true rfl) (Nat.le_of_ble_eq_true rfl) (Nat.zero_le _) (Nat.zero_le _) (by omega) dX0_leastIntervalOfResources_31 ?_
        refine z_eqI (y := iI ((rsk L (k + 1) : Nat) : Int)) (congrArg iI (by show max _ _ = ((max _ _ : Nat) : Int); omega)) ?_
        refine lv_istore_n (lv' := [(1, .int (iI ((rsk L (k + 1) : Nat) : Int))), (0, .ref (a 1)), (2, .int (iI ((k : Nat) : Int)))]) hx hb dX0_leastIntervalOfResources_34 rfl hl (by decide) rfl (fun ls hl => ?_)
        refine z_iinc (a := ((k : Nat) : Int)) (b := ((k + 1 : Nat) : Int)) (lv' := [(2, .int (iI ((k + 1 : Nat) : Int))), (1, .int (iI ((rsk L (k + 1) : Nat) : Int))), (0, .ref (a 1))]) hx hb 2 dX0_leastIntervalOfResources_35 hl rfl rfl (by decide) rfl (fun ls hl => ?_)
        refine lv_goto (tgt := 4) hx hb dX0_leastIntervalOfResources_38 (by decide) ?_
        exact ih4 (k + 1) _ _ _ (by omega) (by omega) hP hD hS (lv_sub hl [2, 1, 0] rfl)
  exact loop4 ((3 - 0) + 1) 0 _ _ _ (Nat.lt_succ_self _) (by omega) hP hD hS (lv_sub hl [2, 1, 0] rfl)
set_option maxHeartbeats 4000000 in
set_option maxRecDepth 100000 in
theorem c_X0_appendOperation (l : Launch) (D : va_G) (g : Nat → ClassId) (a : Nat → Nat) (L : LD) (att T : Nat) (hs tm : Nat → Int) (tk : Nat → Nat → Int) (lt : Nat → Int) (kd by_ : Nat) (hn : Ln L < 14) : zMi l D (zT g) yX0_appendOperation wsX0_appendOperation 1 12 (wX a g L att T hs tm tk lt) [.ref (a 1), .int (iI ((kd : Nat) : Int)), .int (iI ((by_ : Nat) : Int))] (fun r w1 => r = iI ((Ln L : Nat) : Int) ∧ w1 = wX a g (Ln L + 1, Lm L, Lu L, upN (Lkd L) (Ln L) kd, upN (Lby L) (Ln L) by_, Lsr L, Lds L, Ldl L, Ldi L) att T hs tm tk lt) := by
  refine z_ofI (cc := cX0_appendOperation) (maxL := 3) (ret := (some .int)) (by decide) rfl (Nat.le_of_ble_eq_true rfl) ?_
  intro p e s m args below meth c A ls hx hb hr hts hown hlocks hml hP hK hD hS hA hl Q hQ
  have hown : s.vm.findClass RX0 = some m.cls := hown
  have hinX0 : ∀ w ∈ u_ws RX0 TX0 10, w ∈ wsX0_appendOperation := by decide +kernel
  have hl : lv_has ls 3 [(0, .ref (a 1)), (1, .int (iI ((kd : Nat) : Int))), (2, .int (iI ((by_ : Nat) : Int)))] := hl
  refine lv_aload_n hx hb dX0_appendOperation_0 rfl (lv_at hl 0 rfl) ?_
  refine va_get (D := D) (ci := 0) (v := .ref (a 4)) (C := RX0) (T := TX0) (N := 10) hx hb hts hinX0 hown hK hP 1 rfl rfl 1 (by decide) (hts (.fieldLink RX0 15 "LoopScheduler$Loop" "kinds" "[I") (List.mem_of_getElem? (i := 1) rfl)) (fun _ h9 => h9) rfl dX0_appendOperation_1 ?_
  refine lv_aload_n hx hb dX0_appendOperation_4 rfl (lv_at hl 0 rfl) ?_
  refine va_get (D := D) (ci := 0) (v := .int (iI ((Ln L : Nat) : Int))) (C := RX0) (T := TX0) (N := 10) hx hb hts hinX0 hown hK hP 1 rfl rfl 8 (by decide) (hts (.fieldLink RX0 36 "LoopScheduler$Loop" "operations" "I") (List.mem_of_getElem? (i := 2) rfl)) (fun _ h9 => h9) rfl dX0_appendOperation_5 ?_
  refine lv_iload_n hx hb dX0_appendOperation_8 rfl (lv_at hl 1 rfl) ?_
  refine z_iastZ (f := Lkd L) (z := Ln L) (v := kd) hx hb hK hP hD hS 4 0 rfl rfl (by omega) (by decide) dX0_appendOperation_9 (fun H locs hP hD hS => ?_)
  have hP : va_P D vwCl (wX a g (Ln L, Lm L, Lu L, upN (Lkd L) (Ln L) kd, Lby L, Lsr L, Lds L, Ldl L, Ldi L) att T hs tm tk lt) H := hP
  have hD : va_D A (wX a g (Ln L, Lm L, Lu L, upN (Lkd L) (Ln L) kd, Lby L, Lsr L, Lds L, Ldl L, Ldi L) att T hs tm tk lt) := hD
  refine lv_aload_n hx hb dX0_appendOperation_10 rfl (lv_at hl 0 rfl) ?_
  refine va_get (D := D) (ci := 0) (v := .ref (a 5)) (C := RX0) (T := TX0) (N := 10) hx hb hts hinX0 hown hK hP 1 rfl rfl 2 (by decide) (hts (.fieldLink RX0 18 "LoopScheduler$Loop" "busy" "[I") (List.mem_of_getElem? (i := 3) rfl)) (fun _ h9 => h9) rfl dX0_appendOperation_11 ?_
  refine lv_aload_n hx hb dX0_appendOperation_14 rfl (lv_at hl 0 rfl) ?_
  refine va_get (D := D) (ci := 0) (v := .int (iI ((Ln L : Nat) : Int))) (C := RX0) (T := TX0) (N := 10) hx hb hts hinX0 hown hK hP 1 rfl rfl 8 (by decide) (hts (.fieldLink RX0 36 "LoopScheduler$Loop" "operations" "I") (List.mem_of_getElem? (i := 2) rfl)) (fun _ h9 => h9) rfl dX0_appendOperation_15 ?_
  refine lv_iload_n hx hb dX0_appendOperation_18 rfl (lv_at hl 2 rfl) ?_
  refine z_iastZ (f := Lby L) (z := Ln L) (v := by_) hx hb hK hP hD hS 5 0 rfl rfl (by omega) (by decide) dX0_appendOperation_19 (fun H locs hP hD hS => ?_)
  have hP : va_P D vwCl (wX a g (Ln L, Lm L, Lu L, upN (Lkd L) (Ln L) kd, upN (Lby L) (Ln L) by_, Lsr L, Lds L, Ldl L, Ldi L) att T hs tm tk lt) H := hP
  have hD : va_D A (wX a g (Ln L, Lm L, Lu L, upN (Lkd L) (Ln L) kd, upN (Lby L) (Ln L) by_, Lsr L, Lds L, Ldl L, Ldi L) att T hs tm tk lt) := hD
  refine lv_aload_n hx hb dX0_appendOperation_20 rfl (lv_at hl 0 rfl) ?_
  refine lv_dup hx hb dX0_appendOperation_21 rfl ?_
  refine va_get (D := D) (ci := 0) (v := .int (iI ((Ln L : Nat) : Int))) (C := RX0) (T := TX0) (N := 10) hx hb hts hinX0 hown hK hP 1 rfl rfl 8 (by decide) (hts (.fieldLink RX0 36 "LoopScheduler$Loop" "operations" "I") (List.mem_of_getElem? (i := 2) rfl)) (fun _ h9 => h9) rfl dX0_appendOperation_22 ?_
  refine z_ic hx hb dX0_appendOperation_25 ?_
  refine z_add (a := ((Ln L : Nat) : Int)) (b := 1) hx hb dX0_appendOperation_26 ?_
  refine z_eqI (y := iI ((Ln L + 1 : Nat) : Int)) (congrArg iI (by omega)) ?_
  refine va_put (D := D) (ci := 0) (v := .int (iI ((Ln L + 1 : Nat) : Int))) (ty := .int) (C := RX0) (T := TX0) (N := 10) hx hb hts hinX0 tyX0 tyX0_ok nmX0 hown hK hP hD hS 1 rfl rfl 8 (by decide) (hts (.fieldLink RX0 36 "LoopScheduler$Loop" "operations" "I") (List.mem_of_getElem? (i := 2) rfl)) (fun _ h9 => h9) rfl (by decide +kernel) rfl rfl (Nat.le_of_ble_eq_true rfl) dX0_appendOperation_27 (fun H locs hP hD hS => ?_)
  have hP : va_P D vwCl (wX a g (Ln L + 1, Lm L, Lu L, upN (Lkd L) (Ln L) kd, upN (Lby L) (Ln L) by_, Lsr L, Lds L, Ldl L, Ldi L) att T hs tm tk lt) H := hP
  have hD : va_D A (wX a g (Ln L + 1, Lm L, Lu L, upN (Lkd L) (Ln L) kd, upN (Lby L) (Ln L) by_, Lsr L, Lds L, Ldl L, Ldi L) att T hs tm tk lt) := hD
  refine lv_aload_n hx hb dX0_appendOperation_30 rfl (lv_at hl 0 rfl) ?_
  refine va_get (D := D) (ci := 0) (v := .int (iI ((Ln L + 1 : Nat) : Int))) (C := RX0) (T := TX0) (N := 10) hx hb hts hinX0 hown hK hP 1 rfl rfl 8 (by decide) (hts (.fieldLink RX0 36 "LoopScheduler$Loop" "operations" "I") (List.mem_of_getElem? (i := 2) rfl)) (fun _ h9 => h9) rfl dX0_appendOperation_31 ?_
  refine z_ic hx hb dX0_appendOperation_34 ?_
  refine z_sub (a := ((Ln L + 1 : Nat) : Int)) (b := 1) hx hb dX0_appendOperation_35 ?_
  refine z_eqI (y := iI ((Ln L : Nat) : Int)) (congrArg iI (by omega)) ?_
  exact z_iret (w := (wX a g (Ln L + 1, Lm L, Lu L, upN (Lkd L) (Ln L) kd, upN (Lby L) (Ln L) by_, Lsr L, Lds L, Ldl L, Ldi L) att T hs tm tk lt)) (v := (iI ((Ln L : Nat) : Int))) hQ hx hb hr hlocks ⟨rfl, rfl⟩ hK hP hD hS dX0_appendOperation_36
set_option maxHeartbeats 4000000 in
set_option maxRecDepth 100000 in
theorem c_X0_appendDependence (l : Launch) (D : va_G) (g : Nat → ClassId) (a : Nat → Nat) (L : LD) (att T : Nat) (hs tm : Nat → Int) (tk : Nat → Nat → Int) (lt : Nat → Int) (f t dl di : Nat) (hm : Lm L < 40) : zMi l D (zT g) yX0_appendDependence wsX0_appendDependence 1 12 (wX a g L att T hs tm tk lt) [.ref (a 1), .int (iI ((f : Nat) : Int)), .int (iI ((t : Nat) : Int)), .int (iI ((dl : Nat) : Int)), .int (iI ((di : Nat) : Int))] (fun r w1 => r = iI ((Lm L : Nat) : Int) ∧ w1 = wX a g (Ln L, Lm L + 1, Lu L, Lkd L, Lby L, upN (Lsr L) (Lm L) f, upN (Lds L) (Lm L) t, upN (Ldl L) (Lm L) dl, upN (Ldi L) (Lm L) di) att T hs tm tk lt) := by
  refine z_ofI (cc := cX0_appendDependence) (maxL := 5) (ret := (some .int)) (by decide) rfl (Nat.le_of_ble_eq_true rfl) ?_
  intro p e s m args below meth c A ls hx hb hr hts hown hlocks hml hP hK hD hS hA hl Q hQ
  have hown : s.vm.findClass RX0 = some m.cls := hown
  have hinX0 : ∀ w ∈ u_ws RX0 TX0 10, w ∈ wsX0_appendDependence := by decide +kernel
  have hl : lv_has ls 5 [(0, .ref (a 1)), (1, .int (iI ((f : Nat) : Int))), (2, .int (iI ((t : Nat) : Int))), (3, .int (iI ((dl : Nat) : Int))), (4, .int (iI ((di : Nat) : Int)))] := hl
  refine lv_aload_n hx hb dX0_appendDependence_0 rfl (lv_at hl 0 rfl) ?_
  refine va_get (D := D) (ci := 0) (v := .ref (a 6)) (C := RX0) (T := TX0) (N := 10) hx hb hts hinX0 hown hK hP 1 rfl rfl 3 (by decide) (hts (.fieldLink RX0 21 "LoopScheduler$Loop" "sources" "[I") (List.mem_of_getElem? (i := 1) rfl)) (fun _ h9 => h9) rfl dX0_appendDependence_1 ?_
  refine lv_aload_n hx hb dX0_appendDependence_4 rfl (lv_at hl 0 rfl) ?_
  refine va_get (D := D) (ci := 0) (v := .int (iI ((Lm L : Nat) : Int))) (C := RX0) (T := TX0) (N := 10) hx hb hts hinX0 hown hK hP 1 rfl rfl 9 (by decide) (hts (.fieldLink RX0 40 "LoopScheduler$Loop" "dependences" "I") (List.mem_of_getElem? (i := 2) rfl)) (fun _ h9 => h9) rfl dX0_appendDependence_5 ?_
  refine lv_iload_n hx hb dX0_appendDependence_8 rfl (lv_at hl 1 rfl) ?_
  refine z_iastZ (f := Lsr L) (z := Lm L) (v := f) hx hb hK hP hD hS 6 0 rfl rfl (by omega) (by decide) dX0_appendDependence_9 (fun H locs hP hD hS => ?_)
  have hP : va_P D vwCl (wX a g (Ln L, Lm L, Lu L, Lkd L, Lby L, upN (Lsr L) (Lm L) f, Lds L, Ldl L, Ldi L) att T hs tm tk lt) H := hP
  have hD : va_D A (wX a g (Ln L, Lm L, Lu L, Lkd L, Lby L, upN (Lsr L) (Lm L) f, Lds L, Ldl L, Ldi L) att T hs tm tk lt) := hD
  refine lv_aload_n hx hb dX0_appendDependence_10 rfl (lv_at hl 0 rfl) ?_
  refine va_get (D := D) (ci := 0) (v := .ref (a 7)) (C := RX0) (T := TX0) (N := 10) hx hb hts hinX0 hown hK hP 1 rfl rfl 4 (by decide) (hts (.fieldLink RX0 24 "LoopScheduler$Loop" "targets" "[I") (List.mem_of_getElem? (i := 3) rfl)) (fun _ h9 => h9) rfl dX0_appendDependence_11 ?_
  refine lv_aload_n hx hb dX0_appendDependence_14 rfl (lv_at hl 0 rfl) ?_
  refine va_get (D := D) (ci := 0) (v := .int (iI ((Lm L : Nat) : Int))) (C := RX0) (T := TX0) (N := 10) hx hb hts hinX0 hown hK hP 1 rfl rfl 9 (by decide) (hts (.fieldLink RX0 40 "LoopScheduler$Loop" "dependences" "I") (List.mem_of_getElem? (i := 2) rfl)) (fun _ h9 => h9) rfl dX0_appendDependence_15 ?_
  refine lv_iload_n hx hb dX0_appendDependence_18 rfl (lv_at hl 2 rfl) ?_
  refine z_iastZ (f := Lds L) (z := Lm L) (v := t) hx hb hK hP hD hS 7 0 rfl rfl (by omega) (by decide) dX0_appendDependence_19 (fun H locs hP hD hS => ?_)
  have hP : va_P D vwCl (wX a g (Ln L, Lm L, Lu L, Lkd L, Lby L, upN (Lsr L) (Lm L) f, upN (Lds L) (Lm L) t, Ldl L, Ldi L) att T hs tm tk lt) H := hP
  have hD : va_D A (wX a g (Ln L, Lm L, Lu L, Lkd L, Lby L, upN (Lsr L) (Lm L) f, upN (Lds L) (Lm L) t, Ldl L, Ldi L) att T hs tm tk lt) := hD
  refine lv_aload_n hx hb dX0_appendDependence_20 rfl (lv_at hl 0 rfl) ?_
  refine va_get (D := D) (ci := 0) (v := .ref (a 8)) (C := RX0) (T := TX0) (N := 10) hx hb hts hinX0 hown hK hP 1 rfl rfl 5 (by decide) (hts (.fieldLink RX0 27 "LoopScheduler$Loop" "delays" "[I") (List.mem_of_getElem? (i := 4) rfl)) (fun _ h9 => h9) rfl dX0_appendDependence_21 ?_
  refine lv_aload_n hx hb dX0_appendDependence_24 rfl (lv_at hl 0 rfl) ?_
  refine va_get (D := D) (ci := 0) (v := .int (iI ((Lm L : Nat) : Int))) (C := RX0) (T := TX0) (N := 10) hx hb hts hinX0 hown hK hP 1 rfl rfl 9 (by decide) (hts (.fieldLink RX0 40 "LoopScheduler$Loop" "dependences" "I") (List.mem_of_getElem? (i := 2) rfl)) (fun _ h9 => h9) rfl dX0_appendDependence_25 ?_
  refine lv_iload_n hx hb dX0_appendDependence_28 rfl (lv_at hl 3 rfl) ?_
  refine z_iastZ (f := Ldl L) (z := Lm L) (v := dl) hx hb hK hP hD hS 8 0 rfl rfl (by omega) (by decide) dX0_appendDependence_29 (fun H locs hP hD hS => ?_)
  have hP : va_P D vwCl (wX a g (Ln L, Lm L, Lu L, Lkd L, Lby L, upN (Lsr L) (Lm L) f, upN (Lds L) (Lm L) t, upN (Ldl L) (Lm L) dl, Ldi L) att T hs tm tk lt) H := hP
  have hD : va_D A (wX a g (Ln L, Lm L, Lu L, Lkd L, Lby L, upN (Lsr L) (Lm L) f, upN (Lds L) (Lm L) t, upN (Ldl L) (Lm L) dl, Ldi L) att T hs tm tk lt) := hD
  refine lv_aload_n hx hb dX0_appendDependence_30 rfl (lv_at hl 0 rfl) ?_
  refine va_get (D := D) (ci := 0) (v := .ref (a 9)) (C := RX0) (T := TX0) (N := 10) hx hb hts hinX0 hown hK hP 1 rfl rfl 6 (by decide) (hts (.fieldLink RX0 30 "LoopScheduler$Loop" "distances" "[I") (List.mem_of_getElem? (i := 5) rfl)) (fun _ h9 => h9) rfl dX0_appendDependence_31 ?_
  refine lv_aload_n hx hb dX0_appendDependence_34 rfl (lv_at hl 0 rfl) ?_
  refine va_get (D := D) (ci := 0) (v := .int (iI ((Lm L : Nat) : Int))) (C := RX0) (T := TX0) (N := 10) hx hb hts hinX0 hown hK hP 1 rfl rfl 9 (by decide) (hts (.fieldLink RX0 40 "LoopScheduler$Loop" "dependences" "I") (List.mem_of_getElem? (i := 2) rfl)) (fun _ h9 => h9) rfl dX0_appendDependence_35 ?_
  refine lv_iload hx hb dX0_appendDependence_38 (lv_at hl 4 rfl) ?_
  refine z_iastZ (f := Ldi L) (z := Lm L) (v := di) hx hb hK hP hD hS 9 0 rfl rfl (by omega) (by decide) dX0_appendDependence_40 (fun H locs hP hD hS => ?_)
  have hP : va_P D vwCl (wX a g (Ln L, Lm L, Lu L, Lkd L, Lby L, upN (Lsr L) (Lm L) f, upN (Lds L) (Lm L) t, upN (Ldl L) (Lm L) dl, upN (Ldi L) (Lm L) di) att T hs tm tk lt) H := hP
  have hD : va_D A (wX a g (Ln L, Lm L, Lu L, Lkd L, Lby L, upN (Lsr L) (Lm L) f, upN (Lds L) (Lm L) t, upN (Ldl L) (Lm L) dl, upN (Ldi L) (Lm L) di) att T hs tm tk lt) := hD
  refine lv_aload_n hx hb dX0_appendDependence_41 rfl (lv_at hl 0 rfl) ?_
  refine lv_dup hx hb dX0_appendDependence_42 rfl ?_
  refine va_get (D := D) (ci := 0) (v := .int (iI ((Lm L : Nat) : Int))) (C := RX0) (T := TX0) (N := 10) hx hb hts hinX0 hown hK hP 1 rfl rfl 9 (by decide) (hts (.fieldLink RX0 40 "LoopScheduler$Loop" "dependences" "I") (List.mem_of_getElem? (i := 2) rfl)) (fun _ h9 => h9) rfl dX0_appendDependence_43 ?_
  refine z_ic hx hb dX0_appendDependence_46 ?_
  refine z_add (a := ((Lm L : Nat) : Int)) (b := 1) hx hb dX0_appendDependence_47 ?_
  refine z_eqI (y := iI ((Lm L + 1 : Nat) : Int)) (congrArg iI (by omega)) ?_
  refine va_put (D := D) (ci := 0) (v := .int (iI ((Lm L + 1 : Nat) : Int))) (ty := .int) (C := RX0) (T := TX0) (N := 10) hx hb hts hinX0 tyX0 tyX0_ok nmX0 hown hK hP hD hS 1 rfl rfl 9 (by decide) (hts (.fieldLink RX0 40 "LoopScheduler$Loop" "dependences" "I") (List.mem_of_getElem? (i := 2) rfl)) (fun _ h9 => h9) rfl (by decide +kernel) rfl rfl (Nat.le_of_ble_eq_true rfl) dX0_appendDependence_48 (fun H locs hP hD hS => ?_)
  have hP : va_P D vwCl (wX a g (Ln L, Lm L + 1, Lu L, Lkd L, Lby L, upN (Lsr L) (Lm L) f, upN (Lds L) (Lm L) t, upN (Ldl L) (Lm L) dl, upN (Ldi L) (Lm L) di) att T hs tm tk lt) H := hP
  have hD : va_D A (wX a g (Ln L, Lm L + 1, Lu L, Lkd L, Lby L, upN (Lsr L) (Lm L) f, upN (Lds L) (Lm L) t, upN (Ldl L) (Lm L) dl, upN (Ldi L) (Lm L) di) att T hs tm tk lt) := hD
  refine lv_aload_n hx hb dX0_appendDependence_51 rfl (lv_at hl 0 rfl) ?_
  refine va_get (D := D) (ci := 0) (v := .int (iI ((Lm L + 1 : Nat) : Int))) (C := RX0) (T := TX0) (N := 10) hx hb hts hinX0 hown hK hP 1 rfl rfl 9 (by decide) (hts (.fieldLink RX0 40 "LoopScheduler$Loop" "dependences" "I") (List.mem_of_getElem? (i := 2) rfl)) (fun _ h9 => h9) rfl dX0_appendDependence_52 ?_
  refine z_ic hx hb dX0_appendDependence_55 ?_
  refine z_sub (a := ((Lm L + 1 : Nat) : Int)) (b := 1) hx hb dX0_appendDependence_56 ?_
  refine z_eqI (y := iI ((Lm L : Nat) : Int)) (congrArg iI (by omega)) ?_
  exact z_iret (w := (wX a g (Ln L, Lm L + 1, Lu L, Lkd L, Lby L, upN (Lsr L) (Lm L) f, upN (Lds L) (Lm L) t, upN (Ldl L) (Lm L) dl, upN (Ldi L) (Lm L) di) att T hs tm tk lt)) (v := (iI ((Lm L : Nat) : Int))) hQ hx hb hr hlocks ⟨rfl, rfl⟩ hK hP hD hS dX0_appendDependence_57

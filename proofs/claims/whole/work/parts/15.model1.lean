theorem cd1 {s b u : Nat} (hu : 1 ≤ u) (h : s ≤ b * u) : (s + u - 1) / u ≤ b := by
  refine Nat.le_of_lt_succ (Nat.div_lt_of_lt_mul ?_)
  have e : u * (b + 1) = b * u + u := by rw [Nat.mul_add, Nat.mul_one, Nat.mul_comm]
  show s + u - 1 < u * (b + 1)
  omega
theorem cd2 {s b u : Nat} (hu : 1 ≤ u) (h : b * u < s) : b + 1 ≤ (s + u - 1) / u := by
  rw [Nat.le_div_iff_mul_le hu, Nat.add_mul, Nat.one_mul]
  omega
theorem gr_z {L : LD} (hw : wf L) {t : Nat} {h : Nat → Int} {b : Bool} (hz : ∀ j, Ln L ≤ j → h j = 0) (k : Nat) (hk : k ≤ Lm L) : ∀ j, Ln L ≤ j → (gr L t k (h, b)).1 j = 0 := by
  induction k with
  | zero => exact hz
  | succ k ih =>
    intro j hj
    have h1 := ih (by omega) j hj
    have h2 := wf_ed hw k (by omega)
    rw [gr_s]
    unfold gr1
    by_cases c : (gr L t k (h, b)).1 (Lsr L k) < (gr L t k (h, b)).1 (Lds L k) + (Ldl L k : Int) - (t : Int) * (Ldi L k : Int)
    · rw [if_pos c]
      show upZ _ _ _ j = 0
      rw [upZ_n _ _ (by omega)]
      exact h1
    · rw [if_neg c]; exact h1
theorem hit_z {L : LD} (hw : wf L) (t r : Nat) : ∀ j, Ln L ≤ j → hit L t r j = 0 := by
  induction r with
  | zero => intro j _; rfl
  | succ r ih => exact gr_z hw ih (Lm L) (Nat.le_refl _)
theorem hF_z {L : LD} (hw : wf L) (t : Nat) : ∀ j, Ln L ≤ j → hF L t j = 0 := hit_z hw t (Ln L + 1)
theorem rLz_bd (L : LD) : -1 ≤ rLz L ∧ rLz L ≤ 200 ∧ rLz L ≠ 0 := by
  unfold rLz
  cases h : ffst (cv L) 1 200 with
  | none => exact ⟨by decide, by decide, by decide⟩
  | some t => have := ffst_bd h; exact ⟨by show (-1 : Int) ≤ (t : Int); omega, by show (t : Int) ≤ 200; omega, by show (t : Int) ≠ 0; omega⟩
set_option maxHeartbeats 4000000 in
set_option maxRecDepth 100000 in
theorem c_X3_isIn (l : Launch) (D : va_G) (g : Nat → ClassId) (a : Nat → Nat) (th : Int) (L : LD) (att T : Nat) (hs : Nat → Int) (tm : Nat → Nat) (pl : Nat → Bool) (i u k : Int) (hri : -2147483648 ≤ i ∧ i < 2147483648) (hru : -2147483648 ≤ u ∧ u < 2147483648) (hrk : -2147483648 ≤ k ∧ k < 2147483648) : zMi l D (zT g) yX3_isIn wsX3_isIn 1 12 (wM a g th L att T hs tm pl (fun _ => 0)) [.int (iI (i)), .int (iI (u)), .int (iI (k))] (fun r w1 => r = iI (bI (decide (u ≤ i ∧ i ≤ k))) ∧ w1 = wM a g th L att T hs tm pl (fun _ => 0)) := by
  refine z_ofI (cc := cX3_isIn) (maxL := 3) (ret := (some .boolean)) (by decide) rfl (Nat.le_of_ble_eq_true rfl) ?_
  intro p e s m args below meth c A ls hx hb hr hts hown hlocks hml hP hK hD hS hA hl Q hQ
  have hown : s.vm.findClass RX3 = some m.cls := hown
  have hl : lv_has ls 3 [(0, .int (iI (i))), (1, .int (iI (u))), (2, .int (iI (k)))] := hl
  refine lv_iload_n hx hb dX3_isIn_0 rfl (lv_at hl 0 rfl) ?_
  refine lv_iload_n hx hb dX3_isIn_1 rfl (lv_at hl 1 rfl) ?_
  refine z_iclt (a := i) (b := u) (tgt := 14) hx hb dX3_isIn_2 (by decide) (by omega) (fun c_2 => ?_) (fun c_2 => ?_)
  · refine z_ic hx hb dX3_isIn_14 ?_
    exact z_zret (w := (wM a g th L att T hs tm pl (fun _ => 0))) (v := (iI ((0 : Nat) : Int))) z_nb0 hQ hx hb hr hlocks ⟨by rw [decide_eq_false (show ¬ (u ≤ i ∧ i ≤ k) by omega)]; rfl, rfl⟩ hK hP hD hS dX3_isIn_15
  · refine lv_iload_n hx hb dX3_isIn_5 rfl (lv_at hl 0 rfl) ?_
    refine lv_iload_n hx hb dX3_isIn_6 rfl (lv_at hl 2 rfl) ?_
    refine z_icgt (a := i) (b := k) (tgt := 14) hx hb dX3_isIn_7 (by decide) (by omega) (fun c_7 => ?_) (fun c_7 => ?_)
    · refine z_ic hx hb dX3_isIn_14 ?_
      exact z_zret (w := (wM a g th L att T hs tm pl (fun _ => 0))) (v := (iI ((0 : Nat) : Int))) z_nb0 hQ hx hb hr hlocks ⟨by rw [decide_eq_false (show ¬ (u ≤ i ∧ i ≤ k) by omega)]; rfl, rfl⟩ hK hP hD hS dX3_isIn_15
    · refine z_ic hx hb dX3_isIn_10 ?_
      refine lv_goto (tgt := 15) hx hb dX3_isIn_11 (by decide) ?_
      exact z_zret (w := (wM a g th L att T hs tm pl (fun _ => 0))) (v := (iI ((1 : Nat) : Int))) z_nb1 hQ hx hb hr hlocks ⟨by rw [decide_eq_true (show u ≤ i ∧ i ≤ k by omega)]; rfl, rfl⟩ hK hP hD hS dX3_isIn_15
set_option maxHeartbeats 4000000 in
set_option maxRecDepth 100000 in
theorem c_X3_isOperation (l : Launch) (D : va_G) (g : Nat → ClassId) (a : Nat → Nat) (th : Int) (L : LD) (att T : Nat) (hs : Nat → Int) (tm : Nat → Nat) (pl : Nat → Bool) (i : Int) (hw : wf L) (hri : -2147483648 ≤ i ∧ i < 2147483648) : zMi l D (zT g) yX3_isOperation wsX3_isOperation 2 34 (wM a g th L att T hs tm pl (fun _ => 0)) [.ref (a 0), .int (iI (i))] (fun r w1 => r = iI (bI (decide (0 ≤ i ∧ i < (Ln L : Int)))) ∧ w1 = wM a g th L att T hs tm pl (fun _ => 0)) := by
  refine z_ofI (cc := cX3_isOperation) (maxL := 2) (ret := (some .boolean)) (by decide) rfl (Nat.le_of_ble_eq_true rfl) ?_
  intro p e s m args below meth c A ls hx hb hr hts hown hlocks hml hP hK hD hS hA hl Q hQ
  have hown : s.vm.findClass RX3 = some m.cls := hown
  have hinX3 : ∀ w ∈ u_ws RX3 TX3 16, w ∈ wsX3_isOperation := by decide +kernel
  have hl : lv_has ls 2 [(0, .ref (a 0)), (1, .int (iI (i)))] := hl
  have hwn := wf_n hw
  refine lv_iload_n hx hb dX3_isOperation_0 rfl (lv_at hl 1 rfl) ?_
  refine z_ic hx hb dX3_isOperation_1 ?_
  refine lv_aload_n hx hb dX3_isOperation_2 rfl (lv_at hl 0 rfl) ?_
  refine va_get (D := D) (ci := 3) (v := .int (iI ((Ln L : Nat) : Int))) (C := RX3) (T := TX3) (N := 16) hx hb hts hinX3 hown hK hP 0 rfl rfl 2 (by decide) (hts (.fieldLink RX3 48 "LoopSchedulerModel" "operations" "I") (List.mem_of_getElem? (i := 1) rfl)) (fun _ h9 => h9) rfl dX3_isOperation_3 ?_
  refine z_ic hx hb dX3_isOperation_6 ?_
  refine z_sub (a := ((Ln L : Nat) : Int)) (b := 1) hx hb dX3_isOperation_7 ?_
  refine z_calli (va_runS (As := [.int (iI (i)), .int (iI ((0 : Nat) : Int)), .int (iI (((Ln L : Nat) : Int) - 1))]) (rest := []) ⟨hx, hb, hml, hown, hts⟩ (c_X3_isIn l D g a th L att T hs tm pl i 0 (((Ln L : Nat) : Int) - 1) (by omega) (by omega) (by omega) _) (va_cwS 3 hts gX3_isOperation_X3_isIn rfl rfl rfl (by decide +kernel) ⟨Nat.le_of_ble_eq_true rfl, Nat.le_of_ble_eq_true rfl⟩) (z_preS hK hP hD) rfl rfl hl.1 rfl (lv_room (Nat.le_of_ble_eq_true rfl)) dX3_isOperation_8 ⟨Nat.zero_le _, Nat.zero_le _⟩) hS hD hA (fun r w1 H locs hw1 hP hD hS => ?_)
  obtain ⟨rfl, rfl⟩ := hw1
  exact z_zret (w := (wM a g th L att T hs tm pl (fun _ => 0))) (v := (iI (bI (decide (0 ≤ i ∧ i ≤ (((Ln L : Nat) : Int) - 1)))))) (z_nb _) hQ hx hb hr hlocks ⟨by congr 3; exact propext ⟨fun q => by omega, fun q => by omega⟩, rfl⟩ hK hP hD hS dX3_isOperation_11
set_option maxHeartbeats 4000000 in
set_option maxRecDepth 100000 in
theorem c_X3_no (l : Launch) (D : va_G) (g : Nat → ClassId) (a : Nat → Nat) (th : Int) (L : LD) (att T : Nat) (hs : Nat → Int) (tm : Nat → Nat) (pl : Nat → Bool) (k : Int) : zMi l D (zT g) yX3_no wsX3_no 1 12 (wM a g th L att T hs tm pl (fun _ => 0)) [.ref (a 0), .int (iI (k))] (fun r w1 => r = iI 0 ∧ w1 = wM a g k L att T hs tm pl (fun _ => 0)) := by
  refine z_ofI (cc := cX3_no) (maxL := 2) (ret := (some .int)) (by decide) rfl (Nat.le_of_ble_eq_true rfl) ?_
  intro p e s m args below meth c A ls hx hb hr hts hown hlocks hml hP hK hD hS hA hl Q hQ
  have hown : s.vm.findClass RX3 = some m.cls := hown
  have hinX3 : ∀ w ∈ u_ws RX3 TX3 16, w ∈ wsX3_no := by decide +kernel
  have hl : lv_has ls 2 [(0, .ref (a 0)), (1, .int (iI (k)))] := hl
  refine lv_aload_n hx hb dX3_no_0 rfl (lv_at hl 0 rfl) ?_
  refine lv_iload_n hx hb dX3_no_1 rfl (lv_at hl 1 rfl) ?_
  refine va_put (D := D) (ci := 3) (v := .int (iI (k))) (ty := .int) (C := RX3) (T := TX3) (N := 16) hx hb hts hinX3 tyX3 tyX3_ok nmX3 hown hK hP hD hS 0 rfl rfl 0 (by decide) (hts (.fieldLink RX3 44 "LoopSchedulerModel" "thrown" "I") (List.mem_of_getElem? (i := 1) rfl)) (fun _ h9 => h9) rfl (by decide +kernel) rfl rfl (Nat.le_of_ble_eq_true rfl) dX3_no_2 (fun H locs hP hD hS => ?_)
  have hP : va_P D vwCl (wM a g k L att T hs tm pl (fun _ => 0)) H := hP
  have hD : va_D A (wM a g k L att T hs tm pl (fun _ => 0)) := hD
  refine z_ic hx hb dX3_no_5 ?_
  exact z_iret (w := (wM a g k L att T hs tm pl (fun _ => 0))) (v := (iI ((0 : Nat) : Int))) hQ hx hb hr hlocks ⟨rfl, rfl⟩ hK hP hD hS dX3_no_6
set_option maxHeartbeats 4000000 in
set_option maxRecDepth 100000 in
theorem c_X3_thrown (l : Launch) (D : va_G) (g : Nat → ClassId) (a : Nat → Nat) (th : Int) (L : LD) (att T : Nat) (hs : Nat → Int) (tm : Nat → Nat) (pl : Nat → Bool)  : zMi l D (zT g) yX3_thrown wsX3_thrown 1 12 (wM a g th L att T hs tm pl (fun _ => 0)) [.ref (a 0)] (fun r w1 => r = iI th ∧ w1 = wM a g th L att T hs tm pl (fun _ => 0)) := by
  refine z_ofI (cc := cX3_thrown) (maxL := 1) (ret := (some .int)) (by decide) rfl (Nat.le_of_ble_eq_true rfl) ?_
  intro p e s m args below meth c A ls hx hb hr hts hown hlocks hml hP hK hD hS hA hl Q hQ
  have hown : s.vm.findClass RX3 = some m.cls := hown
  have hinX3 : ∀ w ∈ u_ws RX3 TX3 16, w ∈ wsX3_thrown := by decide +kernel
  have hl : lv_has ls 1 [(0, .ref (a 0))] := hl
  refine lv_aload_n hx hb dX3_thrown_0 rfl (lv_at hl 0 rfl) ?_
  refine va_get (D := D) (ci := 3) (v := .int (iI (th))) (C := RX3) (T := TX3) (N := 16) hx hb hts hinX3 hown hK hP 0 rfl rfl 0 (by decide) (hts (.fieldLink RX3 44 "LoopSchedulerModel" "thrown" "I") (List.mem_of_getElem? (i := 1) rfl)) (fun _ h9 => h9) rfl dX3_thrown_1 ?_
  exact z_iret (w := (wM a g th L att T hs tm pl (fun _ => 0))) (v := (iI (th))) hQ hx hb hr hlocks ⟨rfl, rfl⟩ hK hP hD hS dX3_thrown_4
set_option maxHeartbeats 4000000 in
set_option maxRecDepth 100000 in
theorem c_X3_setUnits (l : Launch) (D : va_G) (g : Nat → ClassId) (a : Nat → Nat) (th : Int) (L : LD) (att T : Nat) (hs : Nat → Int) (tm : Nat → Nat) (pl : Nat → Bool) (i u : Int) (hri : -2147483648 ≤ i ∧ i < 2147483648) (hru : -2147483648 ≤ u ∧ u < 2147483648) : zMi l D (zT g) yX3_setUnits wsX3_setUnits 2 34 (wM a g th L att T hs tm pl (fun _ => 0)) [.ref (a 0), .int (iI (i)), .int (iI (u))] (fun r w1 => ((¬ (0 ≤ i ∧ i ≤ 2)) ∧ w1 = wM a g 1 L att T hs tm pl (fun _ => 0)) ∨ (((0 ≤ i ∧ i ≤ 2) ∧ ¬ (1 ≤ u ∧ u ≤ 3)) ∧ w1 = wM a g 2 L att T hs tm pl (fun _ => 0)) ∨ (((0 ≤ i ∧ i ≤ 2) ∧ (1 ≤ u ∧ u ≤ 3)) ∧ r = iI (((Lu L i.toNat : Nat) : Int)) ∧ w1 = wM a g 0 (Ln L, Lm L, upN (Lu L) i.toNat u.toNat, Lkd L, Lby L, Lsr L, Lds L, Ldl L, Ldi L) att 0 hs tm pl (fun _ => 0))) := by
  refine z_ofI (cc := cX3_setUnits) (maxL := 4) (ret := (some .int)) (by decide) rfl (Nat.le_of_ble_eq_true rfl) ?_
  intro p e s m args below meth c A ls hx hb hr hts hown hlocks hml hP hK hD hS hA hl Q hQ
  have hown : s.vm.findClass RX3 = some m.cls := hown
  have hinX3 : ∀ w ∈ u_ws RX3 TX3 16, w ∈ wsX3_setUnits := by decide +kernel
  have hl : lv_has ls 4 [(0, .ref (a 0)), (1, .int (iI (i))), (2, .int (iI (u)))] := hl
  refine lv_aload_n hx hb dX3_setUnits_0 rfl (lv_at hl 0 rfl) ?_
  refine z_ic hx hb dX3_setUnits_1 ?_
  refine va_put (D := D) (ci := 3) (v := .int (iI ((0 : Nat) : Int))) (ty := .int) (C := RX3) (T := TX3) (N := 16) hx hb hts hinX3 tyX3 tyX3_ok nmX3 hown hK hP hD hS 0 rfl rfl 0 (by decide) (hts (.fieldLink RX3 44 "LoopSchedulerModel" "thrown" "I") (List.mem_of_getElem? (i := 1) rfl)) (fun _ h9 => h9) rfl (by decide +kernel) rfl rfl (Nat.le_of_ble_eq_true rfl) dX3_setUnits_2 (fun H locs hP hD hS => ?_)
  have hP : va_P D vwCl (wM a g 0 L att T hs tm pl (fun _ => 0)) H := hP
  have hD : va_D A (wM a g 0 L att T hs tm pl (fun _ => 0)) := hD
  refine lv_iload_n hx hb dX3_setUnits_5 rfl (lv_at hl 1 rfl) ?_
  refine z_ic hx hb dX3_setUnits_6 ?_
  refine z_ic hx hb dX3_setUnits_7 ?_
  refine z_calli (va_runS (As := [.int (iI (i)), .int (iI ((0 : Nat) : Int)), .int (iI ((2 : Nat) : Int))]) (rest := []) ⟨hx, hb, hml, hown, hts⟩ (c_X3_isIn l D g a 0 L att T hs tm pl i 0 2 (by omega) (by omega) (by omega) _) (va_cwS 3 hts gX3_setUnits_X3_isIn rfl rfl rfl (by decide +kernel) ⟨Nat.le_of_ble_eq_true rfl, Nat.le_of_ble_eq_true rfl⟩) (z_preS hK hP hD) rfl rfl hl.1 rfl (lv_room (Nat.le_of_ble_eq_true rfl)) dX3_setUnits_8 ⟨Nat.zero_le _, Nat.zero_le _⟩) hS hD hA (fun r w1 H locs hw1 hP hD hS => ?_)
  obtain ⟨rfl, rfl⟩ := hw1
  refine z_ifne (a := (bI (decide (0 ≤ i ∧ i ≤ 2)))) (tgt := 20) hx hb dX3_setUnits_11 (by decide) (bI_r _) (fun c_11 => ?_) (fun c_11 => ?_)
  · have d_11 := of_decide_eq_true (bI_t c_11)
    refine lv_iload_n hx hb dX3_setUnits_20 rfl (lv_at hl 2 rfl) ?_
    refine z_ic hx hb dX3_setUnits_21 ?_
    refine z_ic hx hb dX3_setUnits_22 ?_
    refine z_calli (va_runS (As := [.int (iI (u)), .int (iI ((1 : Nat) : Int)), .int (iI ((3 : Nat) : Int))]) (rest := []) ⟨hx, hb, hml, hown, hts⟩ (c_X3_isIn l D g a 0 L att T hs tm pl u 1 3 (by omega) (by omega) (by omega) _) (va_cwS 3 hts gX3_setUnits_X3_isIn rfl rfl rfl (by decide +kernel) ⟨Nat.le_of_ble_eq_true rfl, Nat.le_of_ble_eq_true rfl⟩) (z_preS hK hP hD) rfl rfl hl.1 rfl (lv_room (Nat.le_of_ble_eq_true rfl)) dX3_setUnits_23 ⟨Nat.zero_le _, Nat.zero_le _⟩) hS hD hA (fun r w1 H locs hw1 hP hD hS => ?_)
    obtain ⟨rfl, rfl⟩ := hw1
    refine z_ifne (a := (bI (decide (1 ≤ u ∧ u ≤ 3)))) (tgt := 35) hx hb dX3_setUnits_26 (by decide) (bI_r _) (fun c_26 => ?_) (fun c_26 => ?_)
    · have d_26 := of_decide_eq_true (bI_t c_26)
      obtain ⟨j, rfl⟩ : ∃ j : Nat, i = (j : Int) := ⟨i.toNat, by omega⟩
      obtain ⟨v, rfl⟩ : ∃ v : Nat, u = (v : Int) := ⟨u.toNat, by omega⟩
      refine lv_aload_n hx hb dX3_setUnits_35 rfl (lv_at hl 0 rfl) ?_
      refine va_get (D := D) (ci := 3) (v := .ref (a 1)) (C := RX3) (T := TX3) (N := 16) hx hb hts hinX3 hown hK hP 0 rfl rfl 1 (by decide) (hts (.fieldLink RX3 7 "LoopSchedulerModel" "units" "[I") (List.mem_of_getElem? (i := 2) rfl)) (fun _ h9 => h9) rfl dX3_setUnits_36 ?_
      refine lv_iload_n hx hb dX3_setUnits_39 rfl (lv_at hl 1 rfl) ?_
      refine z_ialdZ (f := Lu L) (z := j) hx hb hK hP 1 0 rfl rfl (by omega) (by decide) dX3_setUnits_40 ?_
      refine lv_istore_n (lv' := [(3, .int (iI ((Lu L j : Nat) : Int))), (0, .ref (a 0)), (1, .int (iI ((j : Nat) : Int))), (2, .int (iI ((v : Nat) : Int)))]) hx hb dX3_setUnits_41 rfl hl (by decide) rfl (fun ls hl => ?_)
      refine lv_aload_n hx hb dX3_setUnits_42 rfl (lv_at hl 1 rfl) ?_
      refine va_get (D := D) (ci := 3) (v := .ref (a 1)) (C := RX3) (T := TX3) (N := 16) hx hb hts hinX3 hown hK hP 0 rfl rfl 1 (by decide) (hts (.fieldLink RX3 7 "LoopSchedulerModel" "units" "[I") (List.mem_of_getElem? (i := 2) rfl)) (fun _ h9 => h9) rfl dX3_setUnits_43 ?_
      refine lv_iload_n hx hb dX3_setUnits_46 rfl (lv_at hl 2 rfl) ?_
      refine lv_iload_n hx hb dX3_setUnits_47 rfl (lv_at hl 3 rfl) ?_
      refine z_iastZ (f := Lu L) (z := j) (v := v) hx hb hK hP hD hS 1 0 rfl rfl (by omega) (by decide) dX3_setUnits_48 (fun H locs hP hD hS => ?_)
      have hP : va_P D vwCl (wM a g 0 (Ln L, Lm L, upN (Lu L) j v, Lkd L, Lby L, Lsr L, Lds L, Ldl L, Ldi L) att T hs tm pl (fun _ => 0)) H := hP
      have hD : va_D A (wM a g 0 (Ln L, Lm L, upN (Lu L) j v, Lkd L, Lby L, Lsr L, Lds L, Ldl L, Ldi L) att T hs tm pl (fun _ => 0)) := hD
      refine lv_aload_n hx hb dX3_setUnits_49 rfl (lv_at hl 1 rfl) ?_
      refine z_ic hx hb dX3_setUnits_50 ?_
      refine va_put (D := D) (ci := 3) (v := .int (iI ((0 : Nat) : Int))) (ty := .int) (C := RX3) (T := TX3) (N := 16) hx hb hts hinX3 tyX3 tyX3_ok nmX3 hown hK hP hD hS 0 rfl rfl 10 (by decide) (hts (.fieldLink RX3 59 "LoopSchedulerModel" "interval" "I") (List.mem_of_getElem? (i := 3) rfl)) (fun _ h9 => h9) rfl (by decide +kernel) rfl rfl (Nat.le_of_ble_eq_true rfl) dX3_setUnits_51 (fun H locs hP hD hS => ?_)
      have hP : va_P D vwCl (wM a g 0 (Ln L, Lm L, upN (Lu L) j v, Lkd L, Lby L, Lsr L, Lds L, Ldl L, Ldi L) att 0 hs tm pl (fun _ => 0)) H := hP
      have hD : va_D A (wM a g 0 (Ln L, Lm L, upN (Lu L) j v, Lkd L, Lby L, Lsr L, Lds L, Ldl L, Ldi L) att 0 hs tm pl (fun _ => 0)) := hD
      refine lv_iload_n hx hb dX3_setUnits_54 rfl (lv_at hl 0 rfl) ?_
      exact z_iret (w := (wM a g 0 (Ln L, Lm L, upN (Lu L) j v, Lkd L, Lby L, Lsr L, Lds L, Ldl L, Ldi L) att 0 hs tm pl (fun _ => 0))) (v := (iI ((Lu L j : Nat) : Int))) hQ hx hb hr hlocks (Or.inr (Or.inr (⟨by omega, rfl, rfl⟩))) hK hP hD hS dX3_setUnits_55
    · have d_26 := of_decide_eq_false (bI_f c_26)
      refine lv_aload_n hx hb dX3_setUnits_29 rfl (lv_at hl 0 rfl) ?_
      refine z_ic hx hb dX3_setUnits_30 ?_
      refine z_calli (va_runV (As := [.int (iI ((2 : Nat) : Int))]) (rest := []) ⟨hx, hb, hml, hown, hts⟩ (c_X3_no l D g a 0 L att T hs tm pl 2 _) (cwV 1 hts gX3_setUnits_X3_no rfl rfl rfl (by decide +kernel) ⟨Nat.le_of_ble_eq_true rfl, Nat.le_of_ble_eq_true rfl⟩) (z_preV 0 hK hP hD rfl rfl) rfl rfl hl.1 rfl (lv_room (Nat.le_of_ble_eq_true rfl)) dX3_setUnits_31 ⟨Nat.zero_le _, Nat.zero_le _⟩) hS hD hA (fun r w1 H locs hw1 hP hD hS => ?_)
      obtain ⟨rfl, rfl⟩ := hw1
      exact z_iret (w := (wM a g 2 L att T hs tm pl (fun _ => 0))) (v := (iI ((0 : Nat) : Int))) hQ hx hb hr hlocks (Or.inr (Or.inl (⟨by omega, rfl⟩))) hK hP hD hS dX3_setUnits_34
  · have d_11 := of_decide_eq_false (bI_f c_11)
    refine lv_aload_n hx hb dX3_setUnits_14 rfl (lv_at hl 0 rfl) ?_
    refine z_ic hx hb dX3_setUnits_15 ?_
    refine z_calli (va_runV (As := [.int (iI ((1 : Nat) : Int))]) (rest := []) ⟨hx, hb, hml, hown, hts⟩ (c_X3_no l D g a 0 L att T hs tm pl 1 _) (cwV 1 hts gX3_setUnits_X3_no rfl rfl rfl (by decide +kernel) ⟨Nat.le_of_ble_eq_true rfl, Nat.le_of_ble_eq_true rfl⟩) (z_preV 0 hK hP hD rfl rfl) rfl rfl hl.1 rfl (lv_room (Nat.le_of_ble_eq_true rfl)) dX3_setUnits_16 ⟨Nat.zero_le _, Nat.zero_le _⟩) hS hD hA (fun r w1 H locs hw1 hP hD hS => ?_)
    obtain ⟨rfl, rfl⟩ := hw1
    exact z_iret (w := (wM a g 1 L att T hs tm pl (fun _ => 0))) (v := (iI ((0 : Nat) : Int))) hQ hx hb hr hlocks (Or.inl (⟨by omega, rfl⟩)) hK hP hD hS dX3_setUnits_19
set_option maxHeartbeats 4000000 in
set_option maxRecDepth 100000 in
theorem c_X3_addOperation (l : Launch) (D : va_G) (g : Nat → ClassId) (a : Nat → Nat) (th : Int) (L : LD) (att T : Nat) (hs : Nat → Int) (tm : Nat → Nat) (pl : Nat → Bool) (i u : Int) (hw : wf L) (hri : -2147483648 ≤ i ∧ i < 2147483648) (hru : -2147483648 ≤ u ∧ u < 2147483648) : zMi l D (zT g) yX3_addOperation wsX3_addOperation 2 34 (wM a g th L att T hs tm pl (fun _ => 0)) [.ref (a 0), .int (iI (i)), .int (iI (u))] (fun r w1 => ((¬ ((0 ≤ i ∧ i ≤ 2) ∧ (1 ≤ u ∧ u ≤ 4))) ∧ w1 = wM a g 1 L att T hs tm pl (fun _ => 0)) ∨ ((((0 ≤ i ∧ i ≤ 2) ∧ (1 ≤ u ∧ u ≤ 4)) ∧ 14 ≤ Ln L) ∧ w1 = wM a g 2 L att T hs tm pl (fun _ => 0)) ∨ ((((0 ≤ i ∧ i ≤ 2) ∧ (1 ≤ u ∧ u ≤ 4)) ∧ Ln L < 14) ∧ r = iI (((Ln L : Nat) : Int)) ∧ w1 = wM a g 0 (Ln L + 1, Lm L, Lu L, upN (Lkd L) (Ln L) i.toNat, upN (Lby L) (Ln L) u.toNat, Lsr L, Lds L, Ldl L, Ldi L) att 0 hs tm pl (fun _ => 0))) := by
  refine z_ofI (cc := cX3_addOperation) (maxL := 3) (ret := (some .int)) (by decide) rfl (Nat.le_of_ble_eq_true rfl) ?_
  intro p e s m args below meth c A ls hx hb hr hts hown hlocks hml hP hK hD hS hA hl Q hQ
  have hown : s.vm.findClass RX3 = some m.cls := hown
  have hinX3 : ∀ w ∈ u_ws RX3 TX3 16, w ∈ wsX3_addOperation := by decide +kernel
  have hl : lv_has ls 3 [(0, .ref (a 0)), (1, .int (iI (i))), (2, .int (iI (u)))] := hl
  have hwn := wf_n hw
  refine lv_aload_n hx hb dX3_addOperation_0 rfl (lv_at hl 0 rfl) ?_
  refine z_ic hx hb dX3_addOperation_1 ?_
  refine va_put (D := D) (ci := 3) (v := .int (iI ((0 : Nat) : Int))) (ty := .int) (C := RX3) (T := TX3) (N := 16) hx hb hts hinX3 tyX3 tyX3_ok nmX3 hown hK hP hD hS 0 rfl rfl 0 (by decide) (hts (.fieldLink RX3 44 "LoopSchedulerModel" "thrown" "I") (List.mem_of_getElem? (i := 1) rfl)) (fun _ h9 => h9) rfl (by decide +kernel) rfl rfl (Nat.le_of_ble_eq_true rfl) dX3_addOperation_2 (fun H locs hP hD hS => ?_)
  have hP : va_P D vwCl (wM a g 0 L att T hs tm pl (fun _ => 0)) H := hP
  have hD : va_D A (wM a g 0 L att T hs tm pl (fun _ => 0)) := hD
  refine lv_iload_n hx hb dX3_addOperation_5 rfl (lv_at hl 1 rfl) ?_
  refine z_ic hx hb dX3_addOperation_6 ?_
  refine z_ic hx hb dX3_addOperation_7 ?_
  refine z_calli (va_runS (As := [.int (iI (i)), .int (iI ((0 : Nat) : Int)), .int (iI ((2 : Nat) : Int))]) (rest := []) ⟨hx, hb, hml, hown, hts⟩ (c_X3_isIn l D g a 0 L att T hs tm pl i 0 2 (by omega) (by omega) (by omega) _) (va_cwS 3 hts gX3_addOperation_X3_isIn rfl rfl rfl (by decide +kernel) ⟨Nat.le_of_ble_eq_true rfl, Nat.le_of_ble_eq_true rfl⟩) (z_preS hK hP hD) rfl rfl hl.1 rfl (lv_room (Nat.le_of_ble_eq_true rfl)) dX3_addOperation_8 ⟨Nat.zero_le _, Nat.zero_le _⟩) hS hD hA (fun r w1 H locs hw1 hP hD hS => ?_)
  obtain ⟨rfl, rfl⟩ := hw1
  refine z_ifeq (a := (bI (decide (0 ≤ i ∧ i ≤ 2)))) (tgt := 23) hx hb dX3_addOperation_11 (by decide) (bI_r _) (fun c_11 => ?_) (fun c_11 => ?_)
  · have d_11 := of_decide_eq_false (bI_f c_11)
    refine lv_aload_n hx hb dX3_addOperation_23 rfl (lv_at hl 0 rfl) ?_
    refine z_ic hx hb dX3_addOperation_24 ?_
    refine z_calli (va_runV (As := [.int (iI ((1 : Nat) : Int))]) (rest := []) ⟨hx, hb, hml, hown, hts⟩ (c_X3_no l D g a 0 L att T hs tm pl 1 _) (cwV 1 hts gX3_addOperation_X3_no rfl rfl rfl (by decide +kernel) ⟨Nat.le_of_ble_eq_true rfl, Nat.le_of_ble_eq_true rfl⟩) (z_preV 0 hK hP hD rfl rfl) rfl rfl hl.1 rfl (lv_room (Nat.le_of_ble_eq_true rfl)) dX3_addOperation_25 ⟨Nat.zero_le _, Nat.zero_le _⟩) hS hD hA (fun r w1 H locs hw1 hP hD hS => ?_)
    obtain ⟨rfl, rfl⟩ := hw1
    exact z_iret (w := (wM a g 1 L att T hs tm pl (fun _ => 0))) (v := (iI ((0 : Nat) : Int))) hQ hx hb hr hlocks (Or.inl (⟨by omega, rfl⟩)) hK hP hD hS dX3_addOperation_28
  · have d_11 := of_decide_eq_true (bI_t c_11)
    refine lv_iload_n hx hb dX3_addOperation_14 rfl (lv_at hl 2 rfl) ?_
    refine z_ic hx hb dX3_addOperation_15 ?_
    refine z_ic hx hb dX3_addOperation_16 ?_
    refine z_calli (va_runS (As := [.int (iI (u)), .int (iI ((1 : Nat) : Int)), .int (iI ((4 : Nat) : Int))]) (rest := []) ⟨hx, hb, hml, hown, hts⟩ (c_X3_isIn l D g a 0 L att T hs tm pl u 1 4 (by omega) (by omega) (by omega) _) (va_cwS 3 hts gX3_addOperation_X3_isIn rfl rfl rfl (by decide +kernel) ⟨Nat.le_of_ble_eq_true rfl, Nat.le_of_ble_eq_true rfl⟩) (z_preS hK hP hD) rfl rfl hl.1 rfl (lv_room (Nat.le_of_ble_eq_true rfl)) dX3_addOperation_17 ⟨Nat.zero_le _, Nat.zero_le _⟩) hS hD hA (fun r w1 H locs hw1 hP hD hS => ?_)
    obtain ⟨rfl, rfl⟩ := hw1
    refine z_ifne (a := (bI (decide (1 ≤ u ∧ u ≤ 4)))) (tgt := 29) hx hb dX3_addOperation_20 (by decide) (bI_r _) (fun c_20 => ?_) (fun c_20 => ?_)
    · have d_20 := of_decide_eq_true (bI_t c_20)
      refine lv_aload_n hx hb dX3_addOperation_29 rfl (lv_at hl 0 rfl) ?_
      refine va_get (D := D) (ci := 3) (v := .int (iI ((Ln L : Nat) : Int))) (C := RX3) (T := TX3) (N := 16) hx hb hts hinX3 hown hK hP 0 rfl rfl 2 (by decide) (hts (.fieldLink RX3 48 "LoopSchedulerModel" "operations" "I") (List.mem_of_getElem? (i := 2) rfl)) (fun _ h9 => h9) rfl dX3_addOperation_30 ?_
      refine z_bip hx hb dX3_addOperation_33 (by decide) ?_
      refine z_icne (a := ((Ln L : Nat) : Int)) (b := 14) (tgt := 44) hx hb dX3_addOperation_35 (by decide) (by omega) (fun c_35 => ?_) (fun c_35 => ?_)
      · obtain ⟨j, rfl⟩ : ∃ j : Nat, i = (j : Int) := ⟨i.toNat, by omega⟩
        obtain ⟨v, rfl⟩ : ∃ v : Nat, u = (v : Int) := ⟨u.toNat, by omega⟩
        refine lv_aload_n hx hb dX3_addOperation_44 rfl (lv_at hl 0 rfl) ?_
        refine va_get (D := D) (ci := 3) (v := .ref (a 2)) (C := RX3) (T := TX3) (N := 16) hx hb hts hinX3 hown hK hP 0 rfl rfl 3 (by decide) (hts (.fieldLink RX3 13 "LoopSchedulerModel" "kinds" "[I") (List.mem_of_getElem? (i := 3) rfl)) (fun _ h9 => h9) rfl dX3_addOperation_45 ?_
        refine lv_aload_n hx hb dX3_addOperation_48 rfl (lv_at hl 0 rfl) ?_
        refine va_get (D := D) (ci := 3) (v := .int (iI ((Ln L : Nat) : Int))) (C := RX3) (T := TX3) (N := 16) hx hb hts hinX3 hown hK hP 0 rfl rfl 2 (by decide) (hts (.fieldLink RX3 48 "LoopSchedulerModel" "operations" "I") (List.mem_of_getElem? (i := 2) rfl)) (fun _ h9 => h9) rfl dX3_addOperation_49 ?_
        refine lv_iload_n hx hb dX3_addOperation_52 rfl (lv_at hl 1 rfl) ?_
        refine z_iastZ (f := Lkd L) (z := Ln L) (v := j) hx hb hK hP hD hS 2 0 rfl rfl (by omega) (by decide) dX3_addOperation_53 (fun H locs hP hD hS => ?_)
        have hP : va_P D vwCl (wM a g 0 (Ln L, Lm L, Lu L, upN (Lkd L) (Ln L) j, Lby L, Lsr L, Lds L, Ldl L, Ldi L) att T hs tm pl (fun _ => 0)) H := hP
        have hD : va_D A (wM a g 0 (Ln L, Lm L, Lu L, upN (Lkd L) (Ln L) j, Lby L, Lsr L, Lds L, Ldl L, Ldi L) att T hs tm pl (fun _ => 0)) := hD
        refine lv_aload_n hx hb dX3_addOperation_54 rfl (lv_at hl 0 rfl) ?_
        refine va_get (D := D) (ci := 3) (v := .ref (a 3)) (C := RX3) (T := TX3) (N := 16) hx hb hts hinX3 hown hK hP 0 rfl rfl 4 (by decide) (hts (.fieldLink RX3 16 "LoopSchedulerModel" "busy" "[I") (List.mem_of_getElem? (i := 4) rfl)) (fun _ h9 => h9) rfl dX3_addOperation_55 ?_
        refine lv_aload_n hx hb dX3_addOperation_58 rfl (lv_at hl 0 rfl) ?_
        refine va_get (D := D) (ci := 3) (v := .int (iI ((Ln L : Nat) : Int))) (C := RX3) (T := TX3) (N := 16) hx hb hts hinX3 hown hK hP 0 rfl rfl 2 (by decide) (hts (.fieldLink RX3 48 "LoopSchedulerModel" "operations" "I") (List.mem_of_getElem? (i := 2) rfl)) (fun _ h9 => h9) rfl dX3_addOperation_59 ?_
        refine lv_iload_n hx hb dX3_addOperation_62 rfl (lv_at hl 2 rfl) ?_
        refine z_iastZ (f := Lby L) (z := Ln L) (v := v) hx hb hK hP hD hS 3 0 rfl rfl (by omega) (by decide) dX3_addOperation_63 (fun H locs hP hD hS => ?_)
        have hP : va_P D vwCl (wM a g 0 (Ln L, Lm L, Lu L, upN (Lkd L) (Ln L) j, upN (Lby L) (Ln L) v, Lsr L, Lds L, Ldl L, Ldi L) att T hs tm pl (fun _ => 0)) H := hP
        have hD : va_D A (wM a g 0 (Ln L, Lm L, Lu L, upN (Lkd L) (Ln L) j, upN (Lby L) (Ln L) v, Lsr L, Lds L, Ldl L, Ldi L) att T hs tm pl (fun _ => 0)) := hD
        refine lv_aload_n hx hb dX3_addOperation_64 rfl (lv_at hl 0 rfl) ?_
        refine lv_dup hx hb dX3_addOperation_65 rfl ?_
        refine va_get (D := D) (ci := 3) (v := .int (iI ((Ln L : Nat) : Int))) (C := RX3) (T := TX3) (N := 16) hx hb hts hinX3 hown hK hP 0 rfl rfl 2 (by decide) (hts (.fieldLink RX3 48 "LoopSchedulerModel" "operations" "I") (List.mem_of_getElem? (i := 2) rfl)) (fun _ h9 => h9) rfl dX3_addOperation_66 ?_
        refine z_ic hx hb dX3_addOperation_69 ?_
        refine z_add (a := ((Ln L : Nat) : Int)) (b := 1) hx hb dX3_addOperation_70 ?_
        refine z_eqI (y := iI ((Ln L + 1 : Nat) : Int)) (congrArg iI (by omega)) ?_
        refine va_put (D := D) (ci := 3) (v := .int (iI ((Ln L + 1 : Nat) : Int))) (ty := .int) (C := RX3) (T := TX3) (N := 16) hx hb hts hinX3 tyX3 tyX3_ok nmX3 hown hK hP hD hS 0 rfl rfl 2 (by decide) (hts (.fieldLink RX3 48 "LoopSchedulerModel" "operations" "I") (List.mem_of_getElem? (i := 2) rfl)) (fun _ h9 => h9) rfl (by decide +kernel) rfl rfl (Nat.le_of_ble_eq_true rfl) dX3_addOperation_71 (fun H locs hP hD hS => ?_)
        have hP : va_P D vwCl (wM a g 0 (Ln L + 1, Lm L, Lu L, upN (Lkd L) (Ln L) j, upN (Lby L) (Ln L) v, Lsr L, Lds L, Ldl L, Ldi L) att T hs tm pl (fun _ => 0)) H := hP
        have hD : va_D A (wM a g 0 (Ln L + 1, Lm L, Lu L, upN (Lkd L) (Ln L) j, upN (Lby L) (Ln L) v, Lsr L, Lds L, Ldl L, Ldi L) att T hs tm pl (fun _ => 0)) := hD
        refine lv_aload_n hx hb dX3_addOperation_74 rfl (lv_at hl 0 rfl) ?_
        refine z_ic hx hb dX3_addOperation_75 ?_
        refine va_put (D := D) (ci := 3) (v := .int (iI ((0 : Nat) : Int))) (ty := .int) (C := RX3) (T := TX3) (N := 16) hx hb hts hinX3 tyX3 tyX3_ok nmX3 hown hK hP hD hS 0 rfl rfl 10 (by decide) (hts (.fieldLink RX3 59 "LoopSchedulerModel" "interval" "I") (List.mem_of_getElem? (i := 5) rfl)) (fun _ h9 => h9) rfl (by decide +kernel) rfl rfl (Nat.le_of_ble_eq_true rfl) dX3_addOperation_76 (fun H locs hP hD hS => ?_)
        have hP : va_P D vwCl (wM a g 0 (Ln L + 1, Lm L, Lu L, upN (Lkd L) (Ln L) j, upN (Lby L) (Ln L) v, Lsr L, Lds L, Ldl L, Ldi L) att 0 hs tm pl (fun _ => 0)) H := hP
        have hD : va_D A (wM a g 0 (Ln L + 1, Lm L, Lu L, upN (Lkd L) (Ln L) j, upN (Lby L) (Ln L) v, Lsr L, Lds L, Ldl L, Ldi L) att 0 hs tm pl (fun _ => 0)) := hD
        refine lv_aload_n hx hb dX3_addOperation_79 rfl (lv_at hl 0 rfl) ?_
        refine va_get (D := D) (ci := 3) (v := .int (iI ((Ln L + 1 : Nat) : Int))) (C := RX3) (T := TX3) (N := 16) hx hb hts hinX3 hown hK hP 0 rfl rfl 2 (by decide) (hts (.fieldLink RX3 48 "LoopSchedulerModel" "operations" "I") (List.mem_of_getElem? (i := 2) rfl)) (fun _ h9 => h9) rfl dX3_addOperation_80 ?_
        refine z_ic hx hb dX3_addOperation_83 ?_
        refine z_sub (a := ((Ln L + 1 : Nat) : Int)) (b := 1) hx hb dX3_addOperation_84 ?_
        refine z_eqI (y := iI ((Ln L : Nat) : Int)) (congrArg iI (by omega)) ?_
        exact z_iret (w := (wM a g 0 (Ln L + 1, Lm L, Lu L, upN (Lkd L) (Ln L) j, upN (Lby L) (Ln L) v, Lsr L, Lds L, Ldl L, Ldi L) att 0 hs tm pl (fun _ => 0))) (v := (iI ((Ln L : Nat) : Int))) hQ hx hb hr hlocks (Or.inr (Or.inr (⟨by omega, rfl, rfl⟩))) hK hP hD hS dX3_addOperation_85
      · refine lv_aload_n hx hb dX3_addOperation_38 rfl (lv_at hl 0 rfl) ?_
        refine z_ic hx hb dX3_addOperation_39 ?_
        refine z_calli (va_runV (As := [.int (iI ((2 : Nat) : Int))]) (rest := []) ⟨hx, hb, hml, hown, hts⟩ (c_X3_no l D g a 0 L att T hs tm pl 2 _) (cwV 1 hts gX3_addOperation_X3_no rfl rfl rfl (by decide +kernel) ⟨Nat.le_of_ble_eq_true rfl, Nat.le_of_ble_eq_true rfl⟩) (z_preV 0 hK hP hD rfl rfl) rfl rfl hl.1 rfl (lv_room (Nat.le_of_ble_eq_true rfl)) dX3_addOperation_40 ⟨Nat.zero_le _, Nat.zero_le _⟩) hS hD hA (fun r w1 H locs hw1 hP hD hS => ?_)
        obtain ⟨rfl, rfl⟩ := hw1
        exact z_iret (w := (wM a g 2 L att T hs tm pl (fun _ => 0))) (v := (iI ((0 : Nat) : Int))) hQ hx hb hr hlocks (Or.inr (Or.inl (⟨by omega, rfl⟩))) hK hP hD hS dX3_addOperation_43
    · have d_20 := of_decide_eq_false (bI_f c_20)
      refine lv_aload_n hx hb dX3_addOperation_23 rfl (lv_at hl 0 rfl) ?_
      refine z_ic hx hb dX3_addOperation_24 ?_
      refine z_calli (va_runV (As := [.int (iI ((1 : Nat) : Int))]) (rest := []) ⟨hx, hb, hml, hown, hts⟩ (c_X3_no l D g a 0 L att T hs tm pl 1 _) (cwV 1 hts gX3_addOperation_X3_no rfl rfl rfl (by decide +kernel) ⟨Nat.le_of_ble_eq_true rfl, Nat.le_of_ble_eq_true rfl⟩) (z_preV 0 hK hP hD rfl rfl) rfl rfl hl.1 rfl (lv_room (Nat.le_of_ble_eq_true rfl)) dX3_addOperation_25 ⟨Nat.zero_le _, Nat.zero_le _⟩) hS hD hA (fun r w1 H locs hw1 hP hD hS => ?_)
      obtain ⟨rfl, rfl⟩ := hw1
      exact z_iret (w := (wM a g 1 L att T hs tm pl (fun _ => 0))) (v := (iI ((0 : Nat) : Int))) hQ hx hb hr hlocks (Or.inl (⟨by omega, rfl⟩)) hK hP hD hS dX3_addOperation_28
set_option maxHeartbeats 4000000 in
set_option maxRecDepth 100000 in
theorem c_X3_addDependence (l : Launch) (D : va_G) (g : Nat → ClassId) (a : Nat → Nat) (th : Int) (L : LD) (att T : Nat) (hs : Nat → Int) (tm : Nat → Nat) (pl : Nat → Bool) (i u dl di : Int) (hw : wf L) (hri : -2147483648 ≤ i ∧ i < 2147483648) (hru : -2147483648 ≤ u ∧ u < 2147483648) (hrdl : -2147483648 ≤ dl ∧ dl < 2147483648) (hrdi : -2147483648 ≤ di ∧ di < 2147483648) : zMi l D (zT g) yX3_addDependence wsX3_addDependence 3 55 (wM a g th L att T hs tm pl (fun _ => 0)) [.ref (a 0), .int (iI (i)), .int (iI (u)), .int (iI (dl)), .int (iI (di))] (fun r w1 => ((¬ ((0 ≤ i ∧ i < (Ln L : Int)) ∧ (0 ≤ u ∧ u < (Ln L : Int)))) ∧ w1 = wM a g 1 L att T hs tm pl (fun _ => 0)) ∨ ((((0 ≤ i ∧ i < (Ln L : Int)) ∧ (0 ≤ u ∧ u < (Ln L : Int))) ∧ ¬ ((0 ≤ dl ∧ dl ≤ 12) ∧ (0 ≤ di ∧ di ≤ 3))) ∧ w1 = wM a g 2 L att T hs tm pl (fun _ => 0)) ∨ ((((0 ≤ i ∧ i < (Ln L : Int)) ∧ (0 ≤ u ∧ u < (Ln L : Int))) ∧ ((0 ≤ dl ∧ dl ≤ 12) ∧ (0 ≤ di ∧ di ≤ 3)) ∧ 40 ≤ Lm L) ∧ w1 = wM a g 3 L att T hs tm pl (fun _ => 0)) ∨ ((((0 ≤ i ∧ i < (Ln L : Int)) ∧ (0 ≤ u ∧ u < (Ln L : Int))) ∧ ((0 ≤ dl ∧ dl ≤ 12) ∧ (0 ≤ di ∧ di ≤ 3)) ∧ Lm L < 40) ∧ r = iI (((Lm L : Nat) : Int)) ∧ w1 = wM a g 0 (Ln L, Lm L + 1, Lu L, Lkd L, Lby L, upN (Lsr L) (Lm L) i.toNat, upN (Lds L) (Lm L) u.toNat, upN (Ldl L) (Lm L) dl.toNat, upN (Ldi L) (Lm L) di.toNat) att 0 hs tm pl (fun _ => 0))) := by
  refine z_ofI (cc := cX3_addDependence) (maxL := 5) (ret := (some .int)) (by decide) rfl (Nat.le_of_ble_eq_true rfl) ?_
  intro p e s m args below meth c A ls hx hb hr hts hown hlocks hml hP hK hD hS hA hl Q hQ
  have hown : s.vm.findClass RX3 = some m.cls := hown
  have hinX3 : ∀ w ∈ u_ws RX3 TX3 16, w ∈ wsX3_addDependence := by decide +kernel
  have hl : lv_has ls 5 [(0, .ref (a 0)), (1, .int (iI (i))), (2, .int (iI (u))), (3, .int (iI (dl))), (4, .int (iI (di)))] := hl
  have hwn := wf_n hw
  have hwm := wf_m hw
  refine lv_aload_n hx hb dX3_addDependence_0 rfl (lv_at hl 0 rfl) ?_
  refine z_ic hx hb dX3_addDependence_1 ?_
  refine va_put (D := D) (ci := 3) (v := .int (iI ((0 : Nat) : Int))) (ty := .int) (C := RX3) (T := TX3) (N := 16) hx hb hts hinX3 tyX3 tyX3_ok nmX3 hown hK hP hD hS 0 rfl rfl 0 (by decide) (hts (.fieldLink RX3 44 "LoopSchedulerModel" "thrown" "I") (List.mem_of_getElem? (i := 1) rfl)) (fun _ h9 => h9) rfl (by decide +kernel) rfl rfl (Nat.le_of_ble_eq_true rfl) dX3_addDependence_2 (fun H locs hP hD hS => ?_)
  have hP : va_P D vwCl (wM a g 0 L att T hs tm pl (fun _ => 0)) H := hP
  have hD : va_D A (wM a g 0 L att T hs tm pl (fun _ => 0)) := hD
  refine lv_aload_n hx hb dX3_addDependence_5 rfl (lv_at hl 0 rfl) ?_
  refine lv_iload_n hx hb dX3_addDependence_6 rfl (lv_at hl 1 rfl) ?_
  refine z_calli (va_runV (As := [.int (iI (i))]) (rest := []) ⟨hx, hb, hml, hown, hts⟩ (c_X3_isOperation l D g a 0 L att T hs tm pl i hw (by omega) _) (cwV 1 hts gX3_addDependence_X3_isOperation rfl rfl rfl (by decide +kernel) ⟨Nat.le_of_ble_eq_true rfl, Nat.le_of_ble_eq_true rfl⟩) (z_preV 0 hK hP hD rfl rfl) rfl rfl hl.1 rfl (lv_room (Nat.le_of_ble_eq_true rfl)) dX3_addDependence_7 ⟨Nat.zero_le _, Nat.zero_le _⟩) hS hD hA (fun r w1 H locs hw1 hP hD hS => ?_)
  obtain ⟨rfl, rfl⟩ := hw1
  refine z_ifeq (a := (bI (decide (0 ≤ i ∧ i < ((Ln L : Nat) : Int))))) (tgt := 21) hx hb dX3_addDependence_10 (by decide) (bI_r _) (fun c_10 => ?_) (fun c_10 => ?_)
  · have d_10 := of_decide_eq_false (bI_f c_10)
    refine lv_aload_n hx hb dX3_addDependence_21 rfl (lv_at hl 0 rfl) ?_
    refine z_ic hx hb dX3_addDependence_22 ?_
    refine z_calli (va_runV (As := [.int (iI ((1 : Nat) : Int))]) (rest := []) ⟨hx, hb, hml, hown, hts⟩ (c_X3_no l D g a 0 L att T hs tm pl 1 _) (cwV 1 hts gX3_addDependence_X3_no rfl rfl rfl (by decide +kernel) ⟨Nat.le_of_ble_eq_true rfl, Nat.le_of_ble_eq_true rfl⟩) (z_preV 0 hK hP hD rfl rfl) rfl rfl hl.1 rfl (lv_room (Nat.le_of_ble_eq_true rfl)) dX3_addDependence_23 ⟨Nat.zero_le _, Nat.zero_le _⟩) hS hD hA (fun r w1 H locs hw1 hP hD hS => ?_)
    obtain ⟨rfl, rfl⟩ := hw1
    exact z_iret (w := (wM a g 1 L att T hs tm pl (fun _ => 0))) (v := (iI ((0 : Nat) : Int))) hQ hx hb hr hlocks (Or.inl (⟨by omega, rfl⟩)) hK hP hD hS dX3_addDependence_26
  · have d_10 := of_decide_eq_true (bI_t c_10)
    refine lv_aload_n hx hb dX3_addDependence_13 rfl (lv_at hl 0 rfl) ?_
    refine lv_iload_n hx hb dX3_addDependence_14 rfl (lv_at hl 2 rfl) ?_
    refine z_calli (va_runV (As := [.int (iI (u))]) (rest := []) ⟨hx, hb, hml, hown, hts⟩ (c_X3_isOperation l D g a 0 L att T hs tm pl u hw (by omega) _) (cwV 1 hts gX3_addDependence_X3_isOperation rfl rfl rfl (by decide +kernel) ⟨Nat.le_of_ble_eq_true rfl, Nat.le_of_ble_eq_true rfl⟩) (z_preV 0 hK hP hD rfl rfl) rfl rfl hl.1 rfl (lv_room (Nat.le_of_ble_eq_true rfl)) dX3_addDependence_15 ⟨Nat.zero_le _, Nat.zero_le _⟩) hS hD hA (fun r w1 H locs hw1 hP hD hS => ?_)
    obtain ⟨rfl, rfl⟩ := hw1
    refine z_ifne (a := (bI (decide (0 ≤ u ∧ u < ((Ln L : Nat) : Int))))) (tgt := 27) hx hb dX3_addDependence_18 (by decide) (bI_r _) (fun c_18 => ?_) (fun c_18 => ?_)
    · have d_18 := of_decide_eq_true (bI_t c_18)
      refine lv_iload_n hx hb dX3_addDependence_27 rfl (lv_at hl 3 rfl) ?_
      refine z_ic hx hb dX3_addDependence_28 ?_
      refine z_bip hx hb dX3_addDependence_29 (by decide) ?_
      refine z_calli (va_runS (As := [.int (iI (dl)), .int (iI ((0 : Nat) : Int)), .int (iI ((12 : Nat) : Int))]) (rest := []) ⟨hx, hb, hml, hown, hts⟩ (c_X3_isIn l D g a 0 L att T hs tm pl dl 0 12 (by omega) (by omega) (by omega) _) (va_cwS 3 hts gX3_addDependence_X3_isIn rfl rfl rfl (by decide +kernel) ⟨Nat.le_of_ble_eq_true rfl, Nat.le_of_ble_eq_true rfl⟩) (z_preS hK hP hD) rfl rfl hl.1 rfl (lv_room (Nat.le_of_ble_eq_true rfl)) dX3_addDependence_31 ⟨Nat.zero_le _, Nat.zero_le _⟩) hS hD hA (fun r w1 H locs hw1 hP hD hS => ?_)
      obtain ⟨rfl, rfl⟩ := hw1
      refine z_ifeq (a := (bI (decide (0 ≤ dl ∧ dl ≤ 12)))) (tgt := 47) hx hb dX3_addDependence_34 (by decide) (bI_r _) (fun c_34 => ?_) (fun c_34 => ?_)
      · have d_34 := of_decide_eq_false (bI_f c_34)
        refine lv_aload_n hx hb dX3_addDependence_47 rfl (lv_at hl 0 rfl) ?_
        refine z_ic hx hb dX3_addDependence_48 ?_
        refine z_calli (va_runV (As := [.int (iI ((2 : Nat) : Int))]) (rest := []) ⟨hx, hb, hml, hown, hts⟩ (c_X3_no l D g a 0 L att T hs tm pl 2 _) (cwV 1 hts gX3_addDependence_X3_no rfl rfl rfl (by decide +kernel) ⟨Nat.le_of_ble_eq_true rfl, Nat.le_of_ble_eq_true rfl⟩) (z_preV 0 hK hP hD rfl rfl) rfl rfl hl.1 rfl (lv_room (Nat.le_of_ble_eq_true rfl)) dX3_addDependence_49 ⟨Nat.zero_le _, Nat.zero_le _⟩) hS hD hA (fun r w1 H locs hw1 hP hD hS => ?_)
        obtain ⟨rfl, rfl⟩ := hw1
        exact z_iret (w := (wM a g 2 L att T hs tm pl (fun _ => 0))) (v := (iI ((0 : Nat) : Int))) hQ hx hb hr hlocks (Or.inr (Or.inl (⟨by omega, rfl⟩))) hK hP hD hS dX3_addDependence_52
      · have d_34 := of_decide_eq_true (bI_t c_34)
        refine lv_iload hx hb dX3_addDependence_37 (lv_at hl 4 rfl) ?_
        refine z_ic hx hb dX3_addDependence_39 ?_
        refine z_ic hx hb dX3_addDependence_40 ?_
        refine z_calli (va_runS (As := [.int (iI (di)), .int (iI ((0 : Nat) : Int)), .int (iI ((3 : Nat) : Int))]) (rest := []) ⟨hx, hb, hml, hown, hts⟩ (c_X3_isIn l D g a 0 L att T hs tm pl di 0 3 (by omega) (by omega) (by omega) _) (va_cwS 3 hts gX3_addDependence_X3_isIn rfl rfl rfl (by decide +kernel) ⟨Nat.le_of_ble_eq_true rfl, Nat.le_of_ble_eq_true rfl⟩) (z_preS hK hP hD) rfl rfl hl.1 rfl (lv_room (Nat.le_of_ble_eq_true rfl)) dX3_addDependence_41 ⟨Nat.zero_le _, Nat.zero_le _⟩) hS hD hA (fun r w1 H locs hw1 hP hD hS => ?_)
        obtain ⟨rfl, rfl⟩ := hw1
        refine z_ifne (a := (bI (decide (0 ≤ di ∧ di ≤ 3)))) (tgt := 53) hx hb dX3_addDependence_44 (by decide) (bI_r _) (fun c_44 => ?_) (fun c_44 => ?_)
        · have d_44 := of_decide_eq_true (bI_t c_44)
          refine lv_aload_n hx hb dX3_addDependence_53 rfl (lv_at hl 0 rfl) ?_
          refine va_get (D := D) (ci := 3) (v := .int (iI ((Lm L : Nat) : Int))) (C := RX3) (T := TX3) (N := 16) hx hb hts hinX3 hown hK hP 0 rfl rfl 5 (by decide) (hts (.fieldLink RX3 66 "LoopSchedulerModel" "dependences" "I") (List.mem_of_getElem? (i := 2) rfl)) (fun _ h9 => h9) rfl dX3_addDependence_54 ?_
          refine z_bip hx hb dX3_addDependence_57 (by decide) ?_
          refine z_icne (a := ((Lm L : Nat) : Int)) (b := 40) (tgt := 68) hx hb dX3_addDependence_59 (by decide) (by omega) (fun c_59 => ?_) (fun c_59 => ?_)
          · obtain ⟨j, rfl⟩ : ∃ j : Nat, i = (j : Int) := ⟨i.toNat, by omega⟩
            obtain ⟨v, rfl⟩ : ∃ v : Nat, u = (v : Int) := ⟨u.toNat, by omega⟩
            obtain ⟨x, rfl⟩ : ∃ x : Nat, dl = (x : Int) := ⟨dl.toNat, by omega⟩
            obtain ⟨y, rfl⟩ : ∃ y : Nat, di = (y : Int) := ⟨di.toNat, by omega⟩
            refine lv_aload_n hx hb dX3_addDependence_68 rfl (lv_at hl 0 rfl) ?_
            refine va_get (D := D) (ci := 3) (v := .ref (a 4)) (C := RX3) (T := TX3) (N := 16) hx hb hts hinX3 hown hK hP 0 rfl rfl 6 (by decide) (hts (.fieldLink RX3 19 "LoopSchedulerModel" "froms" "[I") (List.mem_of_getElem? (i := 3) rfl)) (fun _ h9 => h9) rfl dX3_addDependence_69 ?_
            refine lv_aload_n hx hb dX3_addDependence_72 rfl (lv_at hl 0 rfl) ?_
            refine va_get (D := D) (ci := 3) (v := .int (iI ((Lm L : Nat) : Int))) (C := RX3) (T := TX3) (N := 16) hx hb hts hinX3 hown hK hP 0 rfl rfl 5 (by decide) (hts (.fieldLink RX3 66 "LoopSchedulerModel" "dependences" "I") (List.mem_of_getElem? (i := 2) rfl)) (fun _ h9 => h9) rfl dX3_addDependence_73 ?_
            refine lv_iload_n hx hb dX3_addDependence_76 rfl (lv_at hl 1 rfl) ?_
            refine z_iastZ (f := Lsr L) (z := Lm L) (v := j) hx hb hK hP hD hS 4 0 rfl rfl (by omega) (by decide) dX3_addDependence_77 (fun H locs hP hD hS => ?_)
            have hP : va_P D vwCl (wM a g 0 (Ln L, Lm L, Lu L, Lkd L, Lby L, upN (Lsr L) (Lm L) j, Lds L, Ldl L, Ldi L) att T hs tm pl (fun _ => 0)) H := hP
            have hD : va_D A (wM a g 0 (Ln L, Lm L, Lu L, Lkd L, Lby L, upN (Lsr L) (Lm L) j, Lds L, Ldl L, Ldi L) att T hs tm pl (fun _ => 0)) := hD
            refine lv_aload_n hx hb dX3_addDependence_78 rfl (lv_at hl 0 rfl) ?_
            refine va_get (D := D) (ci := 3) (v := .ref (a 5)) (C := RX3) (T := TX3) (N := 16) hx hb hts hinX3 hown hK hP 0 rfl rfl 7 (by decide) (hts (.fieldLink RX3 22 "LoopSchedulerModel" "tos" "[I") (List.mem_of_getElem? (i := 4) rfl)) (fun _ h9 => h9) rfl dX3_addDependence_79 ?_
            refine lv_aload_n hx hb dX3_addDependence_82 rfl (lv_at hl 0 rfl) ?_
            refine va_get (D := D) (ci := 3) (v := .int (iI ((Lm L : Nat) : Int))) (C := RX3) (T := TX3) (N := 16) hx hb hts hinX3 hown hK hP 0 rfl rfl 5 (by decide) (hts (.fieldLink RX3 66 "LoopSchedulerModel" "dependences" "I") (List.mem_of_getElem? (i := 2) rfl)) (fun _ h9 => h9) rfl dX3_addDependence_83 ?_
            refine lv_iload_n hx hb dX3_addDependence_86 rfl (lv_at hl 2 rfl) ?_
            refine z_iastZ (f := Lds L) (z := Lm L) (v := v) hx hb hK hP hD hS 5 0 rfl rfl (by omega) (by decide) dX3_addDependence_87 (fun H locs hP hD hS => ?_)
            have hP : va_P D vwCl (wM a g 0 (Ln L, Lm L, Lu L, Lkd L, Lby L, upN (Lsr L) (Lm L) j, upN (Lds L) (Lm L) v, Ldl L, Ldi L) att T hs tm pl (fun _ => 0)) H := hP
            have hD : va_D A (wM a g 0 (Ln L, Lm L, Lu L, Lkd L, Lby L, upN (Lsr L) (Lm L) j, upN (Lds L) (Lm L) v, Ldl L, Ldi L) att T hs tm pl (fun _ => 0)) := hD
            refine lv_aload_n hx hb dX3_addDependence_88 rfl (lv_at hl 0 rfl) ?_
            refine va_get (D := D) (ci := 3) (v := .ref (a 6)) (C := RX3) (T := TX3) (N := 16) hx hb hts hinX3 hown hK hP 0 rfl rfl 8 (by decide) (hts (.fieldLink RX3 25 "LoopSchedulerModel" "delays" "[I") (List.mem_of_getElem? (i := 5) rfl)) (fun _ h9 => h9) rfl dX3_addDependence_89 ?_
            refine lv_aload_n hx hb dX3_addDependence_92 rfl (lv_at hl 0 rfl) ?_
            refine va_get (D := D) (ci := 3) (v := .int (iI ((Lm L : Nat) : Int))) (C := RX3) (T := TX3) (N := 16) hx hb hts hinX3 hown hK hP 0 rfl rfl 5 (by decide) (hts (.fieldLink RX3 66 "LoopSchedulerModel" "dependences" "I") (List.mem_of_getElem? (i := 2) rfl)) (fun _ h9 => h9) rfl dX3_addDependence_93 ?_
            refine lv_iload_n hx hb dX3_addDependence_96 rfl (lv_at hl 3 rfl) ?_
            refine z_iastZ (f := Ldl L) (z := Lm L) (v := x) hx hb hK hP hD hS 6 0 rfl rfl (by omega) (by decide) dX3_addDependence_97 (fun H locs hP hD hS => ?_)
            have hP : va_P D vwCl (wM a g 0 (Ln L, Lm L, Lu L, Lkd L, Lby L, upN (Lsr L) (Lm L) j, upN (Lds L) (Lm L) v, upN (Ldl L) (Lm L) x, Ldi L) att T hs tm pl (fun _ => 0)) H := hP
            have hD : va_D A (wM a g 0 (Ln L, Lm L, Lu L, Lkd L, Lby L, upN (Lsr L) (Lm L) j, upN (Lds L) (Lm L) v, upN (Ldl L) (Lm L) x, Ldi L) att T hs tm pl (fun _ => 0)) := hD
            refine lv_aload_n hx hb dX3_addDependence_98 rfl (lv_at hl 0 rfl) ?_
            refine va_get (D := D) (ci := 3) (v := .ref (a 7)) (C := RX3) (T := TX3) (N := 16) hx hb hts hinX3 hown hK hP 0 rfl rfl 9 (by decide) (hts (.fieldLink RX3 28 "LoopSchedulerModel" "distances" "[I") (List.mem_of_getElem? (i := 6) rfl)) (fun _ h9 => h9) rfl dX3_addDependence_99 ?_
            refine lv_aload_n hx hb dX3_addDependence_102 rfl (lv_at hl 0 rfl) ?_
            refine va_get (D := D) (ci := 3) (v := .int (iI ((Lm L : Nat) : Int))) (C := RX3) (T := TX3) (N := 16) hx hb hts hinX3 hown hK hP 0 rfl rfl 5 (by decide) (hts (.fieldLink RX3 66 "LoopSchedulerModel" "dependences" "I") (List.mem_of_getElem? (i := 2) rfl)) (fun _ h9 => h9) rfl dX3_addDependence_103 ?_
            refine lv_iload hx hb dX3_addDependence_106 (lv_at hl 4 rfl) ?_
            refine z_iastZ (f := Ldi L) (z := Lm L) (v := y) hx hb hK hP hD hS 7 0 rfl rfl (by omega) (by decide) dX3_addDependence_108 (fun H locs hP hD hS => ?_)
            have hP : va_P D vwCl (wM a g 0 (Ln L, Lm L, Lu L, Lkd L, Lby L, upN (Lsr L) (Lm L) j, upN (Lds L) (Lm L) v, upN (Ldl L) (Lm L) x, upN (Ldi L) (Lm L) y) att T hs tm pl (fun _ => 0)) H := hP
            have hD : va_D A (wM a g 0 (Ln L, Lm L, Lu L, Lkd L, Lby L, upN (Lsr L) (Lm L) j, upN (Lds L) (Lm L) v, upN (Ldl L) (Lm L) x, upN (Ldi L) (Lm L) y) att T hs tm pl (fun _ => 0)) := hD
            refine lv_aload_n hx hb dX3_addDependence_109 rfl (lv_at hl 0 rfl) ?_
            refine lv_dup hx hb dX3_addDependence_110 rfl ?_
            refine va_get (D := D) (ci := 3) (v := .int (iI ((Lm L : Nat) : Int))) (C := RX3) (T := TX3) (N := 16) hx hb hts hinX3 hown hK hP 0 rfl rfl 5 (by decide) (hts (.fieldLink RX3 66 "LoopSchedulerModel" "dependences" "I") (List.mem_of_getElem? (i := 2) rfl)) (fun _ h9 => h9) rfl dX3_addDependence_111 ?_
            refine z_ic hx hb dX3_addDependence_114 ?_
            refine z_add (a := ((Lm L : Nat) : Int)) (b := 1) hx hb dX3_addDependence_115 ?_
            refine z_eqI (y := iI ((Lm L + 1 : Nat) : Int)) (congrArg iI (by omega)) ?_
            refine va_put (D := D) (ci := 3) (v := .int (iI ((Lm L + 1 : Nat) : Int))) (ty := .int) (C := RX3) (T := TX3) (N := 16) hx hb hts hinX3 tyX3 tyX3_ok nmX3 hown hK hP hD hS 0 rfl rfl 5 (by decide) (hts (.fieldLink RX3 66 "LoopSchedulerModel" "dependences" "I") (List.mem_of_getElem? (i := 2) rfl)) (fun _ h9 => h9) rfl (by decide +kernel) rfl rfl (Nat.le_of_ble_eq_true rfl) dX3_addDependence_116 (fun H locs hP hD hS => ?_)
            have hP : va_P D vwCl (wM a g 0 (Ln L, Lm L + 1, Lu L, Lkd L, Lby L, upN (Lsr L) (Lm L) j, upN (Lds L) (Lm L) v, upN (Ldl L) (Lm L) x, upN (Ldi L) (Lm L) y) att T hs tm pl (fun _ => 0)) H := hP
            have hD : va_D A (wM a g 0 (Ln L, Lm L + 1, Lu L, Lkd L, Lby L, upN (Lsr L) (Lm L) j, upN (Lds L) (Lm L) v, upN (Ldl L) (Lm L) x, upN (Ldi L) (Lm L) y) att T hs tm pl (fun _ => 0)) := hD
            refine lv_aload_n hx hb dX3_addDependence_119 rfl (lv_at hl 0 rfl) ?_
            refine z_ic hx hb dX3_addDependence_120 ?_
            refine va_put (D := D) (ci := 3) (v := .int (iI ((0 : Nat) : Int))) (ty := .int) (C := RX3) (T := TX3) (N := 16) hx hb hts hinX3 tyX3 tyX3_ok nmX3 hown hK hP hD hS 0 rfl rfl 10 (by decide) (hts (.fieldLink RX3 59 "LoopSchedulerModel" "interval" "I") (List.mem_of_getElem? (i := 7) rfl)) (fun _ h9 => h9) rfl (by decide +kernel) rfl rfl (Nat.le_of_ble_eq_true rfl) dX3_addDependence_121 (fun H locs hP hD hS => ?_)
            have hP : va_P D vwCl (wM a g 0 (Ln L, Lm L + 1, Lu L, Lkd L, Lby L, upN (Lsr L) (Lm L) j, upN (Lds L) (Lm L) v, upN (Ldl L) (Lm L) x, upN (Ldi L) (Lm L) y) att 0 hs tm pl (fun _ => 0)) H := hP
            have hD : va_D A (wM a g 0 (Ln L, Lm L + 1, Lu L, Lkd L, Lby L, upN (Lsr L) (Lm L) j, upN (Lds L) (Lm L) v, upN (Ldl L) (Lm L) x, upN (Ldi L) (Lm L) y) att 0 hs tm pl (fun _ => 0)) := hD
            refine lv_aload_n hx hb dX3_addDependence_124 rfl (lv_at hl 0 rfl) ?_
            refine va_get (D := D) (ci := 3) (v := .int (iI ((Lm L + 1 : Nat) : Int))) (C := RX3) (T := TX3) (N := 16) hx hb hts hinX3 hown hK hP 0 rfl rfl 5 (by decide) (hts (.fieldLink RX3 66 "LoopSchedulerModel" "dependences" "I") (List.mem_of_getElem? (i := 2) rfl)) (fun _ h9 => h9) rfl dX3_addDependence_125 ?_
            refine z_ic hx hb dX3_addDependence_128 ?_
            refine z_sub (a := ((Lm L + 1 : Nat) : Int)) (b := 1) hx hb dX3_addDependence_129 ?_
            refine z_eqI (y := iI ((Lm L : Nat) : Int)) (congrArg iI (by omega)) ?_
            exact z_iret (w := (wM a g 0 (Ln L, Lm L + 1, Lu L, Lkd L, Lby L, upN (Lsr L) (Lm L) j, upN (Lds L) (Lm L) v, upN (Ldl L) (Lm L) x, upN (Ldi L) (Lm L) y) att 0 hs tm pl (fun _ => 0))) (v := (iI ((Lm L : Nat) : Int))) hQ hx hb hr hlocks (Or.inr (Or.inr (Or.inr (⟨by omega, rfl, rfl⟩)))) hK hP hD hS dX3_addDependence_130
          · refine lv_aload_n hx hb dX3_addDependence_62 rfl (lv_at hl 0 rfl) ?_
            refine z_ic hx hb dX3_addDependence_63 ?_
            refine z_calli (va_runV (As := [.int (iI ((3 : Nat) : Int))]) (rest := []) ⟨hx, hb, hml, hown, hts⟩ (c_X3_no l D g a 0 L att T hs tm pl 3 _) (cwV 1 hts gX3_addDependence_X3_no rfl rfl rfl (by decide +kernel) ⟨Nat.le_of_ble_eq_true rfl, Nat.le_of_ble_eq_true rfl⟩) (z_preV 0 hK hP hD rfl rfl) rfl rfl hl.1 rfl (lv_room (Nat.le_of_ble_eq_true rfl)) dX3_addDependence_64 ⟨Nat.zero_le _, Nat.zero_le _⟩) hS hD hA (fun r w1 H locs hw1 hP hD hS => ?_)
            obtain ⟨rfl, rfl⟩ := hw1
            exact z_iret (w := (wM a g 3 L att T hs tm pl (fun _ => 0))) (v := (iI ((0 : Nat) : Int))) hQ hx hb hr hlocks (Or.inr (Or.inr (Or.inl (⟨by omega, rfl⟩)))) hK hP hD hS dX3_addDependence_67
        · have d_44 := of_decide_eq_false (bI_f c_44)
          refine lv_aload_n hx hb dX3_addDependence_47 rfl (lv_at hl 0 rfl) ?_
          refine z_ic hx hb dX3_addDependence_48 ?_
          refine z_calli (va_runV (As := [.int (iI ((2 : Nat) : Int))]) (rest := []) ⟨hx, hb, hml, hown, hts⟩ (c_X3_no l D g a 0 L att T hs tm pl 2 _) (cwV 1 hts gX3_addDependence_X3_no rfl rfl rfl (by decide +kernel) ⟨Nat.le_of_ble_eq_true rfl, Nat.le_of_ble_eq_true rfl⟩) (z_preV 0 hK hP hD rfl rfl) rfl rfl hl.1 rfl (lv_room (Nat.le_of_ble_eq_true rfl)) dX3_addDependence_49 ⟨Nat.zero_le _, Nat.zero_le _⟩) hS hD hA (fun r w1 H locs hw1 hP hD hS => ?_)
          obtain ⟨rfl, rfl⟩ := hw1
          exact z_iret (w := (wM a g 2 L att T hs tm pl (fun _ => 0))) (v := (iI ((0 : Nat) : Int))) hQ hx hb hr hlocks (Or.inr (Or.inl (⟨by omega, rfl⟩))) hK hP hD hS dX3_addDependence_52
    · have d_18 := of_decide_eq_false (bI_f c_18)
      refine lv_aload_n hx hb dX3_addDependence_21 rfl (lv_at hl 0 rfl) ?_
      refine z_ic hx hb dX3_addDependence_22 ?_
      refine z_calli (va_runV (As := [.int (iI ((1 : Nat) : Int))]) (rest := []) ⟨hx, hb, hml, hown, hts⟩ (c_X3_no l D g a 0 L att T hs tm pl 1 _) (cwV 1 hts gX3_addDependence_X3_no rfl rfl rfl (by decide +kernel) ⟨Nat.le_of_ble_eq_true rfl, Nat.le_of_ble_eq_true rfl⟩) (z_preV 0 hK hP hD rfl rfl) rfl rfl hl.1 rfl (lv_room (Nat.le_of_ble_eq_true rfl)) dX3_addDependence_23 ⟨Nat.zero_le _, Nat.zero_le _⟩) hS hD hA (fun r w1 H locs hw1 hP hD hS => ?_)
      obtain ⟨rfl, rfl⟩ := hw1
      exact z_iret (w := (wM a g 1 L att T hs tm pl (fun _ => 0))) (v := (iI ((0 : Nat) : Int))) hQ hx hb hr hlocks (Or.inl (⟨by omega, rfl⟩)) hK hP hD hS dX3_addDependence_26
set_option maxHeartbeats 4000000 in
set_option maxRecDepth 100000 in
theorem c_X3_setDelay (l : Launch) (D : va_G) (g : Nat → ClassId) (a : Nat → Nat) (th : Int) (L : LD) (att T : Nat) (hs : Nat → Int) (tm : Nat → Nat) (pl : Nat → Bool) (i u : Int) (hw : wf L) (hri : -2147483648 ≤ i ∧ i < 2147483648) (hru : -2147483648 ≤ u ∧ u < 2147483648) : zMi l D (zT g) yX3_setDelay wsX3_setDelay 2 34 (wM a g th L att T hs tm pl (fun _ => 0)) [.ref (a 0), .int (iI (i)), .int (iI (u))] (fun r w1 => ((¬ (0 ≤ i ∧ i < (Lm L : Int))) ∧ w1 = wM a g 1 L att T hs tm pl (fun _ => 0)) ∨ (((0 ≤ i ∧ i < (Lm L : Int)) ∧ ¬ (0 ≤ u ∧ u ≤ 12)) ∧ w1 = wM a g 2 L att T hs tm pl (fun _ => 0)) ∨ (((0 ≤ i ∧ i < (Lm L : Int)) ∧ (0 ≤ u ∧ u ≤ 12)) ∧ r = iI (((Ldl L i.toNat : Nat) : Int)) ∧ w1 = wM a g 0 (Ln L, Lm L, Lu L, Lkd L, Lby L, Lsr L, Lds L, upN (Ldl L) i.toNat u.toNat, Ldi L) att 0 hs tm pl (fun _ => 0))) := by
  refine z_ofI (cc := cX3_setDelay) (maxL := 4) (ret := (some .int)) (by decide) rfl (Nat.le_of_ble_eq_true rfl) ?_
  intro p e s m args below meth c A ls hx hb hr hts hown hlocks hml hP hK hD hS hA hl Q hQ
  have hown : s.vm.findClass RX3 = some m.cls := hown
  have hinX3 : ∀ w ∈ u_ws RX3 TX3 16, w ∈ wsX3_setDelay := by decide +kernel
  have hl : lv_has ls 4 [(0, .ref (a 0)), (1, .int (iI (i))), (2, .int (iI (u)))] := hl
  have hwm := wf_m hw
  refine lv_aload_n hx hb dX3_setDelay_0 rfl (lv_at hl 0 rfl) ?_
  refine z_ic hx hb dX3_setDelay_1 ?_
  refine va_put (D := D) (ci := 3) (v := .int (iI ((0 : Nat) : Int))) (ty := .int) (C := RX3) (T := TX3) (N := 16) hx hb hts hinX3 tyX3 tyX3_ok nmX3 hown hK hP hD hS 0 rfl rfl 0 (by decide) (hts (.fieldLink RX3 44 "LoopSchedulerModel" "thrown" "I") (List.mem_of_getElem? (i := 1) rfl)) (fun _ h9 => h9) rfl (by decide +kernel) rfl rfl (Nat.le_of_ble_eq_true rfl) dX3_setDelay_2 (fun H locs hP hD hS => ?_)
  have hP : va_P D vwCl (wM a g 0 L att T hs tm pl (fun _ => 0)) H := hP
  have hD : va_D A (wM a g 0 L att T hs tm pl (fun _ => 0)) := hD
  refine lv_iload_n hx hb dX3_setDelay_5 rfl (lv_at hl 1 rfl) ?_
  refine z_ic hx hb dX3_setDelay_6 ?_
  refine lv_aload_n hx hb dX3_setDelay_7 rfl (lv_at hl 0 rfl) ?_
  refine va_get (D := D) (ci := 3) (v := .int (iI ((Lm L : Nat) : Int))) (C := RX3) (T := TX3) (N := 16) hx hb hts hinX3 hown hK hP 0 rfl rfl 5 (by decide) (hts (.fieldLink RX3 66 "LoopSchedulerModel" "dependences" "I") (List.mem_of_getElem? (i := 2) rfl)) (fun _ h9 => h9) rfl dX3_setDelay_8 ?_
  refine z_ic hx hb dX3_setDelay_11 ?_
  refine z_sub (a := ((Lm L : Nat) : Int)) (b := 1) hx hb dX3_setDelay_12 ?_
  refine z_calli (va_runS (As := [.int (iI (i)), .int (iI ((0 : Nat) : Int)), .int (iI (((Lm L : Nat) : Int) - 1))]) (rest := []) ⟨hx, hb, hml, hown, hts⟩ (c_X3_isIn l D g a 0 L att T hs tm pl i 0 (((Lm L : Nat) : Int) - 1) (by omega) (by omega) (by omega) _) (va_cwS 3 hts gX3_setDelay_X3_isIn rfl rfl rfl (by decide +kernel) ⟨Nat.le_of_ble_eq_true rfl, Nat.le_of_ble_eq_true rfl⟩) (z_preS hK hP hD) rfl rfl hl.1 rfl (lv_room (Nat.le_of_ble_eq_true rfl)) dX3_setDelay_13 ⟨Nat.zero_le _, Nat.zero_le _⟩) hS hD hA (fun r w1 H locs hw1 hP hD hS => ?_)
  obtain ⟨rfl, rfl⟩ := hw1
  refine z_ifne (a := (bI (decide (0 ≤ i ∧ i ≤ (((Lm L : Nat) : Int) - 1))))) (tgt := 25) hx hb dX3_setDelay_16 (by decide) (bI_r _) (fun c_16 => ?_) (fun c_16 => ?_)
  · have d_16 := of_decide_eq_true (bI_t c_16)
    refine lv_iload_n hx hb dX3_setDelay_25 rfl (lv_at hl 2 rfl) ?_
    refine z_ic hx hb dX3_setDelay_26 ?_
    refine z_bip hx hb dX3_setDelay_27 (by decide) ?_
    refine z_calli (va_runS (As := [.int (iI (u)), .int (iI ((0 : Nat) : Int)), .int (iI ((12 : Nat) : Int))]) (rest := []) ⟨hx, hb, hml, hown, hts⟩ (c_X3_isIn l D g a 0 L att T hs tm pl u 0 12 (by omega) (by omega) (by omega) _) (va_cwS 3 hts gX3_setDelay_X3_isIn rfl rfl rfl (by decide +kernel) ⟨Nat.le_of_ble_eq_true rfl, Nat.le_of_ble_eq_true rfl⟩) (z_preS hK hP hD) rfl rfl hl.1 rfl (lv_room (Nat.le_of_ble_eq_true rfl)) dX3_setDelay_29 ⟨Nat.zero_le _, Nat.zero_le _⟩) hS hD hA (fun r w1 H locs hw1 hP hD hS => ?_)
    obtain ⟨rfl, rfl⟩ := hw1
    refine z_ifne (a := (bI (decide (0 ≤ u ∧ u ≤ 12)))) (tgt := 41) hx hb dX3_setDelay_32 (by decide) (bI_r _) (fun c_32 => ?_) (fun c_32 => ?_)
    · have d_32 := of_decide_eq_true (bI_t c_32)
      obtain ⟨j, rfl⟩ : ∃ j : Nat, i = (j : Int) := ⟨i.toNat, by omega⟩
      obtain ⟨v, rfl⟩ : ∃ v : Nat, u = (v : Int) := ⟨u.toNat, by omega⟩
      refine lv_aload_n hx hb dX3_setDelay_41 rfl (lv_at hl 0 rfl) ?_
      refine va_get (D := D) (ci := 3) (v := .ref (a 6)) (C := RX3) (T := TX3) (N := 16) hx hb hts hinX3 hown hK hP 0 rfl rfl 8 (by decide) (hts (.fieldLink RX3 25 "LoopSchedulerModel" "delays" "[I") (List.mem_of_getElem? (i := 3) rfl)) (fun _ h9 => h9) rfl dX3_setDelay_42 ?_
      refine lv_iload_n hx hb dX3_setDelay_45 rfl (lv_at hl 1 rfl) ?_
      refine z_ialdZ (f := Ldl L) (z := j) hx hb hK hP 6 0 rfl rfl (by omega) (by decide) dX3_setDelay_46 ?_
      refine lv_istore_n (lv' := [(3, .int (iI ((Ldl L j : Nat) : Int))), (0, .ref (a 0)), (1, .int (iI ((j : Nat) : Int))), (2, .int (iI ((v : Nat) : Int)))]) hx hb dX3_setDelay_47 rfl hl (by decide) rfl (fun ls hl => ?_)
      refine lv_aload_n hx hb dX3_setDelay_48 rfl (lv_at hl 1 rfl) ?_
      refine va_get (D := D) (ci := 3) (v := .ref (a 6)) (C := RX3) (T := TX3) (N := 16) hx hb hts hinX3 hown hK hP 0 rfl rfl 8 (by decide) (hts (.fieldLink RX3 25 "LoopSchedulerModel" "delays" "[I") (List.mem_of_getElem? (i := 3) rfl)) (fun _ h9 => h9) rfl dX3_setDelay_49 ?_
      refine lv_iload_n hx hb dX3_setDelay_52 rfl (lv_at hl 2 rfl) ?_
      refine lv_iload_n hx hb dX3_setDelay_53 rfl (lv_at hl 3 rfl) ?_
      refine z_iastZ (f := Ldl L) (z := j) (v := v) hx hb hK hP hD hS 6 0 rfl rfl (by omega) (by decide) dX3_setDelay_54 (fun H locs hP hD hS => ?_)
      have hP : va_P D vwCl (wM a g 0 (Ln L, Lm L, Lu L, Lkd L, Lby L, Lsr L, Lds L, upN (Ldl L) j v, Ldi L) att T hs tm pl (fun _ => 0)) H := hP
      have hD : va_D A (wM a g 0 (Ln L, Lm L, Lu L, Lkd L, Lby L, Lsr L, Lds L, upN (Ldl L) j v, Ldi L) att T hs tm pl (fun _ => 0)) := hD
      refine lv_aload_n hx hb dX3_setDelay_55 rfl (lv_at hl 1 rfl) ?_
      refine z_ic hx hb dX3_setDelay_56 ?_
      refine va_put (D := D) (ci := 3) (v := .int (iI ((0 : Nat) : Int))) (ty := .int) (C := RX3) (T := TX3) (N := 16) hx hb hts hinX3 tyX3 tyX3_ok nmX3 hown hK hP hD hS 0 rfl rfl 10 (by decide) (hts (.fieldLink RX3 59 "LoopSchedulerModel" "interval" "I") (List.mem_of_getElem? (i := 4) rfl)) (fun _ h9 => h9) rfl (by decide +kernel) rfl rfl (Nat.le_of_ble_eq_true rfl) dX3_setDelay_57 (fun H locs hP hD hS => ?_)
      have hP : va_P D vwCl (wM a g 0 (Ln L, Lm L, Lu L, Lkd L, Lby L, Lsr L, Lds L, upN (Ldl L) j v, Ldi L) att 0 hs tm pl (fun _ => 0)) H := hP
      have hD : va_D A (wM a g 0 (Ln L, Lm L, Lu L, Lkd L, Lby L, Lsr L, Lds L, upN (Ldl L) j v, Ldi L) att 0 hs tm pl (fun _ => 0)) := hD
      refine lv_iload_n hx hb dX3_setDelay_60 rfl (lv_at hl 0 rfl) ?_
      exact z_iret (w := (wM a g 0 (Ln L, Lm L, Lu L, Lkd L, Lby L, Lsr L, Lds L, upN (Ldl L) j v, Ldi L) att 0 hs tm pl (fun _ => 0))) (v := (iI ((Ldl L j : Nat) : Int))) hQ hx hb hr hlocks (Or.inr (Or.inr (⟨by omega, rfl, rfl⟩))) hK hP hD hS dX3_setDelay_61
    · have d_32 := of_decide_eq_false (bI_f c_32)
      refine lv_aload_n hx hb dX3_setDelay_35 rfl (lv_at hl 0 rfl) ?_
      refine z_ic hx hb dX3_setDelay_36 ?_
      refine z_calli (va_runV (As := [.int (iI ((2 : Nat) : Int))]) (rest := []) ⟨hx, hb, hml, hown, hts⟩ (c_X3_no l D g a 0 L att T hs tm pl 2 _) (cwV 1 hts gX3_setDelay_X3_no rfl rfl rfl (by decide +kernel) ⟨Nat.le_of_ble_eq_true rfl, Nat.le_of_ble_eq_true rfl⟩) (z_preV 0 hK hP hD rfl rfl) rfl rfl hl.1 rfl (lv_room (Nat.le_of_ble_eq_true rfl)) dX3_setDelay_37 ⟨Nat.zero_le _, Nat.zero_le _⟩) hS hD hA (fun r w1 H locs hw1 hP hD hS => ?_)
      obtain ⟨rfl, rfl⟩ := hw1
      exact z_iret (w := (wM a g 2 L att T hs tm pl (fun _ => 0))) (v := (iI ((0 : Nat) : Int))) hQ hx hb hr hlocks (Or.inr (Or.inl (⟨by omega, rfl⟩))) hK hP hD hS dX3_setDelay_40
  · have d_16 := of_decide_eq_false (bI_f c_16)
    refine lv_aload_n hx hb dX3_setDelay_19 rfl (lv_at hl 0 rfl) ?_
    refine z_ic hx hb dX3_setDelay_20 ?_
    refine z_calli (va_runV (As := [.int (iI ((1 : Nat) : Int))]) (rest := []) ⟨hx, hb, hml, hown, hts⟩ (c_X3_no l D g a 0 L att T hs tm pl 1 _) (cwV 1 hts gX3_setDelay_X3_no rfl rfl rfl (by decide +kernel) ⟨Nat.le_of_ble_eq_true rfl, Nat.le_of_ble_eq_true rfl⟩) (z_preV 0 hK hP hD rfl rfl) rfl rfl hl.1 rfl (lv_room (Nat.le_of_ble_eq_true rfl)) dX3_setDelay_21 ⟨Nat.zero_le _, Nat.zero_le _⟩) hS hD hA (fun r w1 H locs hw1 hP hD hS => ?_)
    obtain ⟨rfl, rfl⟩ := hw1
    exact z_iret (w := (wM a g 1 L att T hs tm pl (fun _ => 0))) (v := (iI ((0 : Nat) : Int))) hQ hx hb hr hlocks (Or.inl (⟨by omega, rfl⟩)) hK hP hD hS dX3_setDelay_24
set_option maxHeartbeats 4000000 in
set_option maxRecDepth 100000 in
theorem c_X3_operationCount (l : Launch) (D : va_G) (g : Nat → ClassId) (a : Nat → Nat) (th : Int) (L : LD) (att T : Nat) (hs : Nat → Int) (tm : Nat → Nat) (pl : Nat → Bool)  : zMi l D (zT g) yX3_operationCount wsX3_operationCount 1 12 (wM a g th L att T hs tm pl (fun _ => 0)) [.ref (a 0)] (fun r w1 => r = iI ((Ln L : Nat)) ∧ w1 = wM a g 0 L att T hs tm pl (fun _ => 0)) := by
  refine z_ofI (cc := cX3_operationCount) (maxL := 1) (ret := (some .int)) (by decide) rfl (Nat.le_of_ble_eq_true rfl) ?_
  intro p e s m args below meth c A ls hx hb hr hts hown hlocks hml hP hK hD hS hA hl Q hQ
  have hown : s.vm.findClass RX3 = some m.cls := hown
  have hinX3 : ∀ w ∈ u_ws RX3 TX3 16, w ∈ wsX3_operationCount := by decide +kernel
  have hl : lv_has ls 1 [(0, .ref (a 0))] := hl
  refine lv_aload_n hx hb dX3_operationCount_0 rfl (lv_at hl 0 rfl) ?_
  refine z_ic hx hb dX3_operationCount_1 ?_
  refine va_put (D := D) (ci := 3) (v := .int (iI ((0 : Nat) : Int))) (ty := .int) (C := RX3) (T := TX3) (N := 16) hx hb hts hinX3 tyX3 tyX3_ok nmX3 hown hK hP hD hS 0 rfl rfl 0 (by decide) (hts (.fieldLink RX3 44 "LoopSchedulerModel" "thrown" "I") (List.mem_of_getElem? (i := 1) rfl)) (fun _ h9 => h9) rfl (by decide +kernel) rfl rfl (Nat.le_of_ble_eq_true rfl) dX3_operationCount_2 (fun H locs hP hD hS => ?_)
  have hP : va_P D vwCl (wM a g 0 L att T hs tm pl (fun _ => 0)) H := hP
  have hD : va_D A (wM a g 0 L att T hs tm pl (fun _ => 0)) := hD
  refine lv_aload_n hx hb dX3_operationCount_5 rfl (lv_at hl 0 rfl) ?_
  refine va_get (D := D) (ci := 3) (v := .int (iI ((Ln L : Nat) : Int))) (C := RX3) (T := TX3) (N := 16) hx hb hts hinX3 hown hK hP 0 rfl rfl 2 (by decide) (hts (.fieldLink RX3 48 "LoopSchedulerModel" "operations" "I") (List.mem_of_getElem? (i := 2) rfl)) (fun _ h9 => h9) rfl dX3_operationCount_6 ?_
  exact z_iret (w := (wM a g 0 L att T hs tm pl (fun _ => 0))) (v := (iI ((Ln L : Nat) : Int))) hQ hx hb hr hlocks ⟨rfl, rfl⟩ hK hP hD hS dX3_operationCount_9
set_option maxHeartbeats 4000000 in
set_option maxRecDepth 100000 in
theorem c_X3_dependenceCount (l : Launch) (D : va_G) (g : Nat → ClassId) (a : Nat → Nat) (th : Int) (L : LD) (att T : Nat) (hs : Nat → Int) (tm : Nat → Nat) (pl : Nat → Bool)  : zMi l D (zT g) yX3_dependenceCount wsX3_dependenceCount 1 12 (wM a g th L att T hs tm pl (fun _ => 0)) [.ref (a 0)] (fun r w1 => r = iI ((Lm L : Nat)) ∧ w1 = wM a g 0 L att T hs tm pl (fun _ => 0)) := by
  refine z_ofI (cc := cX3_dependenceCount) (maxL := 1) (ret := (some .int)) (by decide) rfl (Nat.le_of_ble_eq_true rfl) ?_
  intro p e s m args below meth c A ls hx hb hr hts hown hlocks hml hP hK hD hS hA hl Q hQ
  have hown : s.vm.findClass RX3 = some m.cls := hown
  have hinX3 : ∀ w ∈ u_ws RX3 TX3 16, w ∈ wsX3_dependenceCount := by decide +kernel
  have hl : lv_has ls 1 [(0, .ref (a 0))] := hl
  refine lv_aload_n hx hb dX3_dependenceCount_0 rfl (lv_at hl 0 rfl) ?_
  refine z_ic hx hb dX3_dependenceCount_1 ?_
  refine va_put (D := D) (ci := 3) (v := .int (iI ((0 : Nat) : Int))) (ty := .int) (C := RX3) (T := TX3) (N := 16) hx hb hts hinX3 tyX3 tyX3_ok nmX3 hown hK hP hD hS 0 rfl rfl 0 (by decide) (hts (.fieldLink RX3 44 "LoopSchedulerModel" "thrown" "I") (List.mem_of_getElem? (i := 1) rfl)) (fun _ h9 => h9) rfl (by decide +kernel) rfl rfl (Nat.le_of_ble_eq_true rfl) dX3_dependenceCount_2 (fun H locs hP hD hS => ?_)
  have hP : va_P D vwCl (wM a g 0 L att T hs tm pl (fun _ => 0)) H := hP
  have hD : va_D A (wM a g 0 L att T hs tm pl (fun _ => 0)) := hD
  refine lv_aload_n hx hb dX3_dependenceCount_5 rfl (lv_at hl 0 rfl) ?_
  refine va_get (D := D) (ci := 3) (v := .int (iI ((Lm L : Nat) : Int))) (C := RX3) (T := TX3) (N := 16) hx hb hts hinX3 hown hK hP 0 rfl rfl 5 (by decide) (hts (.fieldLink RX3 66 "LoopSchedulerModel" "dependences" "I") (List.mem_of_getElem? (i := 2) rfl)) (fun _ h9 => h9) rfl dX3_dependenceCount_6 ?_
  exact z_iret (w := (wM a g 0 L att T hs tm pl (fun _ => 0))) (v := (iI ((Lm L : Nat) : Int))) hQ hx hb hr hlocks ⟨rfl, rfl⟩ hK hP hD hS dX3_dependenceCount_9
set_option maxHeartbeats 4000000 in
set_option maxRecDepth 100000 in
theorem c_X3_attempts (l : Launch) (D : va_G) (g : Nat → ClassId) (a : Nat → Nat) (th : Int) (L : LD) (att T : Nat) (hs : Nat → Int) (tm : Nat → Nat) (pl : Nat → Bool)  : zMi l D (zT g) yX3_attempts wsX3_attempts 1 12 (wM a g th L att T hs tm pl (fun _ => 0)) [.ref (a 0)] (fun r w1 => r = iI ((att : Nat)) ∧ w1 = wM a g 0 L att T hs tm pl (fun _ => 0)) := by
  refine z_ofI (cc := cX3_attempts) (maxL := 1) (ret := (some .int)) (by decide) rfl (Nat.le_of_ble_eq_true rfl) ?_
  intro p e s m args below meth c A ls hx hb hr hts hown hlocks hml hP hK hD hS hA hl Q hQ
  have hown : s.vm.findClass RX3 = some m.cls := hown
  have hinX3 : ∀ w ∈ u_ws RX3 TX3 16, w ∈ wsX3_attempts := by decide +kernel
  have hl : lv_has ls 1 [(0, .ref (a 0))] := hl
  refine lv_aload_n hx hb dX3_attempts_0 rfl (lv_at hl 0 rfl) ?_
  refine z_ic hx hb dX3_attempts_1 ?_
  refine va_put (D := D) (ci := 3) (v := .int (iI ((0 : Nat) : Int))) (ty := .int) (C := RX3) (T := TX3) (N := 16) hx hb hts hinX3 tyX3 tyX3_ok nmX3 hown hK hP hD hS 0 rfl rfl 0 (by decide) (hts (.fieldLink RX3 44 "LoopSchedulerModel" "thrown" "I") (List.mem_of_getElem? (i := 1) rfl)) (fun _ h9 => h9) rfl (by decide +kernel) rfl rfl (Nat.le_of_ble_eq_true rfl) dX3_attempts_2 (fun H locs hP hD hS => ?_)
  have hP : va_P D vwCl (wM a g 0 L att T hs tm pl (fun _ => 0)) H := hP
  have hD : va_D A (wM a g 0 L att T hs tm pl (fun _ => 0)) := hD
  refine lv_aload_n hx hb dX3_attempts_5 rfl (lv_at hl 0 rfl) ?_
  refine va_get (D := D) (ci := 3) (v := .int (iI ((att : Nat) : Int))) (C := RX3) (T := TX3) (N := 16) hx hb hts hinX3 hown hK hP 0 rfl rfl 12 (by decide) (hts (.fieldLink RX3 108 "LoopSchedulerModel" "attempts" "I") (List.mem_of_getElem? (i := 2) rfl)) (fun _ h9 => h9) rfl dX3_attempts_6 ?_
  exact z_iret (w := (wM a g 0 L att T hs tm pl (fun _ => 0))) (v := (iI ((att : Nat) : Int))) hQ hx hb hr hlocks ⟨rfl, rfl⟩ hK hP hD hS dX3_attempts_9
set_option maxHeartbeats 4000000 in
set_option maxRecDepth 100000 in
theorem c_X3_hasSchedule (l : Launch) (D : va_G) (g : Nat → ClassId) (a : Nat → Nat) (th : Int) (L : LD) (att T : Nat) (hs : Nat → Int) (tm : Nat → Nat) (pl : Nat → Bool)  (hT2 : T ≤ 200) : zMi l D (zT g) yX3_hasSchedule wsX3_hasSchedule 1 12 (wM a g th L att T hs tm pl (fun _ => 0)) [.ref (a 0)] (fun r w1 => r = iI (bI (decide (0 < T))) ∧ w1 = wM a g 0 L att T hs tm pl (fun _ => 0)) := by
  refine z_ofI (cc := cX3_hasSchedule) (maxL := 1) (ret := (some .boolean)) (by decide) rfl (Nat.le_of_ble_eq_true rfl) ?_
  intro p e s m args below meth c A ls hx hb hr hts hown hlocks hml hP hK hD hS hA hl Q hQ
  have hown : s.vm.findClass RX3 = some m.cls := hown
  have hinX3 : ∀ w ∈ u_ws RX3 TX3 16, w ∈ wsX3_hasSchedule := by decide +kernel
  have hl : lv_has ls 1 [(0, .ref (a 0))] := hl
  refine lv_aload_n hx hb dX3_hasSchedule_0 rfl (lv_at hl 0 rfl) ?_
  refine z_ic hx hb dX3_hasSchedule_1 ?_
  refine va_put (D := D) (ci := 3) (v := .int (iI ((0 : Nat) : Int))) (ty := .int) (C := RX3) (T := TX3) (N := 16) hx hb hts hinX3 tyX3 tyX3_ok nmX3 hown hK hP hD hS 0 rfl rfl 0 (by decide) (hts (.fieldLink RX3 44 "LoopSchedulerModel" "thrown" "I") (List.mem_of_getElem? (i := 1) rfl)) (fun _ h9 => h9) rfl (by decide +kernel) rfl rfl (Nat.le_of_ble_eq_true rfl) dX3_hasSchedule_2 (fun H locs hP hD hS => ?_)
  have hP : va_P D vwCl (wM a g 0 L att T hs tm pl (fun _ => 0)) H := hP
  have hD : va_D A (wM a g 0 L att T hs tm pl (fun _ => 0)) := hD
  refine lv_aload_n hx hb dX3_hasSchedule_5 rfl (lv_at hl 0 rfl) ?_
  refine va_get (D := D) (ci := 3) (v := .int (iI ((T : Nat) : Int))) (C := RX3) (T := TX3) (N := 16) hx hb hts hinX3 hown hK hP 0 rfl rfl 10 (by decide) (hts (.fieldLink RX3 59 "LoopSchedulerModel" "interval" "I") (List.mem_of_getElem? (i := 2) rfl)) (fun _ h9 => h9) rfl dX3_hasSchedule_6 ?_
  refine z_ifle (a := ((T : Nat) : Int)) (tgt := 16) hx hb dX3_hasSchedule_9 (by decide) (by omega) (fun c_9 => ?_) (fun c_9 => ?_)
  · refine z_ic hx hb dX3_hasSchedule_16 ?_
    exact z_zret (w := (wM a g 0 L att T hs tm pl (fun _ => 0))) (v := (iI ((0 : Nat) : Int))) z_nb0 hQ hx hb hr hlocks ⟨by rw [decide_eq_false (show ¬ 0 < T by omega)]; rfl, rfl⟩ hK hP hD hS dX3_hasSchedule_17
  · refine z_ic hx hb dX3_hasSchedule_12 ?_
    refine lv_goto (tgt := 17) hx hb dX3_hasSchedule_13 (by decide) ?_
    exact z_zret (w := (wM a g 0 L att T hs tm pl (fun _ => 0))) (v := (iI ((1 : Nat) : Int))) z_nb1 hQ hx hb hr hlocks ⟨by rw [decide_eq_true (show 0 < T by omega)]; rfl, rfl⟩ hK hP hD hS dX3_hasSchedule_17
set_option maxHeartbeats 4000000 in
set_option maxRecDepth 100000 in
theorem c_X3_byResources (l : Launch) (D : va_G) (g : Nat → ClassId) (a : Nat → Nat) (th : Int) (L : LD) (att T : Nat) (hs : Nat → Int) (tm : Nat → Nat) (pl : Nat → Bool)  (hw : wf L) : zMi l D (zT g) yX3_byResources wsX3_byResources 1 12 (wM a g th L att T hs tm pl (fun _ => 0)) [.ref (a 0)] (fun r w1 => r = iI ((rs L : Nat) : Int) ∧ w1 = wM a g th L att T hs tm pl (fun _ => 0)) := by
  refine z_ofI (cc := cX3_byResources) (maxL := 5) (ret := (some .int)) (by decide) rfl (Nat.le_of_ble_eq_true rfl) ?_
  intro p e s m args below meth c A ls hx hb hr hts hown hlocks hml hP hK hD hS hA hl Q hQ
  have hown : s.vm.findClass RX3 = some m.cls := hown
  have hinX3 : ∀ w ∈ u_ws RX3 TX3 16, w ∈ wsX3_byResources := by decide +kernel
  have hl : lv_has ls 5 [(0, .ref (a 0))] := hl
  refine z_ic hx hb dX3_byResources_0 ?_
  refine lv_istore_n (lv' := [(1, .int (iI ((1 : Nat) : Int))), (0, .ref (a 0))]) hx hb dX3_byResources_1 rfl hl (by decide) rfl (fun ls hl => ?_)
  refine z_ic hx hb dX3_byResources_2 ?_
  refine lv_istore_n (lv' := [(2, .int (iI ((0 : Nat) : Int))), (1, .int (iI ((1 : Nat) : Int))), (0, .ref (a 0))]) hx hb dX3_byResources_3 rfl hl (by decide) rfl (fun ls hl => ?_)
  have loop4 : ∀ (n4 : Nat) (k : Nat) (H : Heap) (locs : List Loc) (ls : Array Slot), 3 - k < n4 → (k ≤ 3) → va_P D vwCl (wM a g th L att T hs tm pl (fun _ => 0)) H → va_D A (wM a g th L att T hs tm pl (fun _ => 0)) → va_S A s.heap H locs → lv_has ls 5 [(0, .ref (a 0)), (1, .int (iI ((rsk L k : Nat) : Int))), (2, .int (iI ((k : Nat) : Int)))] → W p l e ({ frames := 1, cells := 0, slots := 0, locals := 12 } : Room) s m args below meth c H locs 0 0 Q (F0 m 4 ls []) := by
    intro n4
    induction n4 with
    | zero => exact fun _ H locs ls hn => absurd hn (Nat.not_lt_zero _)
    | succ n4 ih4 =>
      intro k H locs ls hn4 hk hP hD hS hl
      have hrb := rsk_bd hw k
      have hrb2 := rsk_bd hw (k + 1)
      have hmx : rsk L (k + 1) = max (rsk L k) ((bcs L k (Ln L) + Lu L k - 1) / Lu L k) := rfl
      have hbn := bcs_bd hw k (Ln L)
      refine lv_iload_n hx hb dX3_byResources_4 rfl (lv_at hl 2 rfl) ?_
      refine z_ic hx hb dX3_byResources_5 ?_
      refine z_icge (a := ((k : Nat) : Int)) (b := 3) (tgt := 78) hx hb dX3_byResources_6 (by decide) (by omega) (fun c_6 => ?_) (fun c_6 => ?_)
      · obtain rfl : k = 3 := by omega
        refine lv_iload_n hx hb dX3_byResources_78 rfl (lv_at hl 1 rfl) ?_
        exact z_iret (w := (wM a g th L att T hs tm pl (fun _ => 0))) (v := (iI ((rsk L 3 : Nat) : Int))) hQ hx hb hr hlocks ⟨rfl, rfl⟩ hK hP hD hS dX3_byResources_79
      · refine z_ic hx hb dX3_byResources_9 ?_
        refine lv_istore_n (lv' := [(3, .int (iI ((0 : Nat) : Int))), (0, .ref (a 0)), (1, .int (iI ((rsk L k : Nat) : Int))), (2, .int (iI ((k : Nat) : Int)))]) hx hb dX3_byResources_10 rfl hl (by decide) rfl (fun ls hl => ?_)
        refine z_ic hx hb dX3_byResources_11 ?_
        refine lv_istore (lv' := [(4, .int (iI ((0 : Nat) : Int))), (3, .int (iI ((0 : Nat) : Int))), (0, .ref (a 0)), (1, .int (iI ((rsk L k : Nat) : Int))), (2, .int (iI ((k : Nat) : Int)))]) hx hb dX3_byResources_12 hl (by decide) rfl (fun ls hl => ?_)
        have loop14 : ∀ (n14 : Nat) (i : Nat) (H : Heap) (locs : List Loc) (ls : Array Slot), Ln L - i < n14 → (i ≤ Ln L) → va_P D vwCl (wM a g th L att T hs tm pl (fun _ => 0)) H → va_D A (wM a g th L att T hs tm pl (fun _ => 0)) → va_S A s.heap H locs → lv_has ls 5 [(0, .ref (a 0)), (1, .int (iI ((rsk L k : Nat) : Int))), (2, .int (iI ((k : Nat) : Int))), (3, .int (iI ((bcs L k i : Nat) : Int))), (4, .int (iI ((i : Nat) : Int)))] → W p l e ({ frames := 1, cells := 0, slots := 0, locals := 12 } : Room) s m args below meth c H locs 0 0 Q (F0 m 14 ls []) := by
          intro n14
          induction n14 with
          | zero => exact fun _ H locs ls hn => absurd hn (Nat.not_lt_zero _)
          | succ n14 ih14 =>
            intro i H locs ls hn14 hi hP hD hS hl
            have hwn := wf_n hw
            have hkd := wf_kd hw i
            have hby := wf_by hw i
            have hbb := bcs_bd hw k i
            refine lv_iload hx hb dX3_byResources_14 (lv_at hl 4 rfl) ?_
            refine lv_aload_n hx hb dX3_byResources_16 rfl (lv_at hl 0 rfl) ?_
            refine va_get (D := D) (ci := 3) (v := .int (iI ((Ln L : Nat) : Int))) (C := RX3) (T := TX3) (N := 16) hx hb hts hinX3 hown hK hP 0 rfl rfl 2 (by decide) (hts (.fieldLink RX3 48 "LoopSchedulerModel" "operations" "I") (List.mem_of_getElem? (i := 1) rfl)) (fun _ h9 => h9) rfl dX3_byResources_17 ?_
            refine z_icge (a := ((i : Nat) : Int)) (b := ((Ln L : Nat) : Int)) (tgt := 54) hx hb dX3_byResources_20 (by decide) (by omega) (fun c_20 => ?_) (fun c_20 => ?_)
            · obtain rfl : i = Ln L := by omega
              have loop54 : ∀ (n54 : Nat) (b : Nat) (H : Heap) (locs : List Loc) (ls : Array Slot), rsk L (k + 1) - b < n54 → (rsk L k ≤ b) → (b ≤ rsk L (k + 1)) → va_P D vwCl (wM a g th L att T hs tm pl (fun _ => 0)) H → va_D A (wM a g th L att T hs tm pl (fun _ => 0)) → va_S A s.heap H locs → lv_has ls 5 [(0, .ref (a 0)), (1, .int (iI ((b : Nat) : Int))), (2, .int (iI ((k : Nat) : Int))), (3, .int (iI ((bcs L k (Ln L) : Nat) : Int)))] → W p l e ({ frames := 1, cells := 0, slots := 0, locals := 12 } : Room) s m args below meth c H locs 0 0 Q (F0 m 54 ls []) := by
                intro n54
                induction n54 with
                | zero => exact fun _ H locs ls hn => absurd hn (Nat.not_lt_zero _)
                | succ n54 ih54 =>
                  intro b H locs ls hn54 hb1 hb2 hP hD hS hl
                  have hu := wf_u hw k (by omega)
                  have hbu : b * Lu L k ≤ 100 * 3 := Nat.mul_le_mul (by omega) hu.2
                  refine lv_iload_n hx hb dX3_byResources_54 rfl (lv_at hl 1 rfl) ?_
                  refine lv_aload_n hx hb dX3_byResources_55 rfl (lv_at hl 0 rfl) ?_
                  refine va_get (D := D) (ci := 3) (v := .ref (a 1)) (C := RX3) (T := TX3) (N := 16) hx hb hts hinX3 hown hK hP 0 rfl rfl 1 (by decide) (hts (.fieldLink RX3 7 "LoopSchedulerModel" "units" "[I") (List.mem_of_getElem? (i := 4) rfl)) (fun _ h9 => h9) rfl dX3_byResources_56 ?_
                  refine lv_iload_n hx hb dX3_byResources_59 rfl (lv_at hl 2 rfl) ?_
                  refine z_ialdZ (f := Lu L) (z := k) hx hb hK hP 1 0 rfl rfl (by omega) (by decide) dX3_byResources_60 ?_
                  refine z_mul (a := ((b : Nat) : Int)) (b := ((Lu L k : Nat) : Int)) hx hb dX3_byResources_61 ?_
                  refine z_eqI (y := iI ((b * Lu L k : Nat) : Int)) (congrArg iI (Int.natCast_mul _ _).symm) ?_
                  refine lv_iload_n hx hb dX3_byResources_62 rfl (lv_at hl 3 rfl) ?_
                  refine z_icge (a := ((b * Lu L k : Nat) : Int)) (b := ((bcs L k (Ln L) : Nat) : Int)) (tgt := 72) hx hb dX3_byResources_63 (by decide) (by omega) (fun c_63 => ?_) (fun c_63 => ?_)
                  · have hcd := cd1 hu.1 (show bcs L k (Ln L) ≤ b * Lu L k by omega)
                    obtain rfl : b = rsk L (k + 1) := by omega
                    refine z_iinc (a := ((k : Nat) : Int)) (b := ((k + 1 : Nat) : Int)) (lv' := [(2, .int (iI ((k + 1 : Nat) : Int))), (0, .ref (a 0)), (1, .int (iI (((rsk L (k + 1)) : Nat) : Int))), (3, .int (iI ((bcs L k (Ln L) : Nat) : Int)))]) hx hb 2 dX3_byResources_72 hl rfl rfl (by decide) rfl (fun ls hl => ?_)
                    refine lv_goto (tgt := 4) hx hb dX3_byResources_75 (by decide) ?_
                    exact ih4 (k + 1) _ _ _ (by omega) (by omega) hP hD hS (lv_sub hl [1, 2, 0] rfl)
                  · have hcd := cd2 hu.1 (show b * Lu L k < bcs L k (Ln L) by omega)
                    refine z_iinc (a := ((b : Nat) : Int)) (b := ((b + 1 : Nat) : Int)) (lv' := [(1, .int (iI ((b + 1 : Nat) : Int))), (0, .ref (a 0)), (2, .int (iI ((k : Nat) : Int))), (3, .int (iI ((bcs L k (Ln L) : Nat) : Int)))]) hx hb 1 dX3_byResources_66 hl rfl rfl (by decide) rfl (fun ls hl => ?_)
                    refine lv_goto (tgt := 54) hx hb dX3_byResources_69 (by decide) ?_
                    exact ih54 (b + 1) _ _ _ (by omega) (by omega) (by omega) hP hD hS (lv_sub hl [1, 0, 2, 3] rfl)
              exact loop54 ((rsk L (k + 1) - (rsk L k)) + 1) (rsk L k) _ _ _ (Nat.lt_succ_self _) (Nat.le_refl _) (by rw [hmx]; exact Nat.le_max_left _ _) hP hD hS (lv_sub hl [0, 1, 2, 3] rfl)
            · refine lv_iload_n hx hb dX3_byResources_23 rfl (lv_at hl 3 rfl) ?_
              refine lv_aload_n hx hb dX3_byResources_24 rfl (lv_at hl 0 rfl) ?_
              refine va_get (D := D) (ci := 3) (v := .ref (a 2)) (C := RX3) (T := TX3) (N := 16) hx hb hts hinX3 hown hK hP 0 rfl rfl 3 (by decide) (hts (.fieldLink RX3 13 "LoopSchedulerModel" "kinds" "[I") (List.mem_of_getElem? (i := 2) rfl)) (fun _ h9 => h9) rfl dX3_byResources_25 ?_
              refine lv_iload hx hb dX3_byResources_28 (lv_at hl 4 rfl) ?_
              refine z_ialdZ (f := Lkd L) (z := i) hx hb hK hP 2 0 rfl rfl (by omega) (by decide) dX3_byResources_30 ?_
              refine lv_iload_n hx hb dX3_byResources_31 rfl (lv_at hl 2 rfl) ?_
              refine z_icne (a := ((Lkd L i : Nat) : Int)) (b := ((k : Nat) : Int)) (tgt := 45) hx hb dX3_byResources_32 (by decide) (by omega) (fun c_32 => ?_) (fun c_32 => ?_)
              · refine z_ic hx hb dX3_byResources_45 ?_
                refine z_add (a := ((bcs L k i : Nat) : Int)) (b := 0) hx hb dX3_byResources_46 ?_
                refine z_eqI (y := iI ((bcs L k (i + 1) : Nat) : Int)) (congrArg iI (by rw [bcs_f (show ¬ Lkd L i = k by omega)]; omega)) ?_
                refine lv_istore_n (lv' := [(3, .int (iI ((bcs L k (i + 1) : Nat) : Int))), (0, .ref (a 0)), (1, .int (iI ((rsk L k : Nat) : Int))), (2, .int (iI ((k : Nat) : Int))), (4, .int (iI ((i : Nat) : Int)))]) hx hb dX3_byResources_47 rfl hl (by decide) rfl (fun ls hl => ?_)
                refine z_iinc (a := ((i : Nat) : Int)) (b := ((i + 1 : Nat) : Int)) (lv' := [(4, .int (iI ((i + 1 : Nat) : Int))), (3, .int (iI ((bcs L k (i + 1) : Nat) : Int))), (0, .ref (a 0)), (1, .int (iI ((rsk L k : Nat) : Int))), (2, .int (iI ((k : Nat) : Int)))]) hx hb 4 dX3_byResources_48 hl rfl rfl (by decide) rfl (fun ls hl => ?_)
                refine lv_goto (tgt := 14) hx hb dX3_byResources_51 (by decide) ?_
                exact ih14 (i + 1) _ _ _ (by omega) (by omega) hP hD hS (lv_sub hl [2, 3, 4, 1, 0] rfl)
              · refine lv_aload_n hx hb dX3_byResources_35 rfl (lv_at hl 0 rfl) ?_
                refine va_get (D := D) (ci := 3) (v := .ref (a 3)) (C := RX3) (T := TX3) (N := 16) hx hb hts hinX3 hown hK hP 0 rfl rfl 4 (by decide) (hts (.fieldLink RX3 16 "LoopSchedulerModel" "busy" "[I") (List.mem_of_getElem? (i := 3) rfl)) (fun _ h9 => h9) rfl dX3_byResources_36 ?_
                refine lv_iload hx hb dX3_byResources_39 (lv_at hl 4 rfl) ?_
                refine z_ialdZ (f := Lby L) (z := i) hx hb hK hP 3 0 rfl rfl (by omega) (by decide) dX3_byResources_41 ?_
                refine lv_goto (tgt := 46) hx hb dX3_byResources_42 (by decide) ?_
                refine z_add (a := ((bcs L k i : Nat) : Int)) (b := ((Lby L i : Nat) : Int)) hx hb dX3_byResources_46 ?_
                refine z_eqI (y := iI ((bcs L k (i + 1) : Nat) : Int)) (congrArg iI (by rw [bcs_t (show Lkd L i = k by omega)]; omega)) ?_
                refine lv_istore_n (lv' := [(3, .int (iI ((bcs L k (i + 1) : Nat) : Int))), (0, .ref (a 0)), (1, .int (iI ((rsk L k : Nat) : Int))), (2, .int (iI ((k : Nat) : Int))), (4, .int (iI ((i : Nat) : Int)))]) hx hb dX3_byResources_47 rfl hl (by decide) rfl (fun ls hl => ?_)
                refine z_iinc (a := ((i : Nat) : Int)) (b := ((i + 1 : Nat) : Int)) (lv' := [(4, .int (iI ((i + 1 : Nat) : Int))), (3, .int (iI ((bcs L k (i + 1) : Nat) : Int))), (0, .ref (a 0)), (1, .int (iI ((rsk L k : Nat) : Int))), (2, .int (iI ((k : Nat) : Int)))]) hx hb 4 dX3_byResources_48 hl rfl rfl (by decide) rfl (fun ls hl => ?_)
                refine lv_goto (tgt := 14) hx hb dX3_byResources_51 (by decide) ?_
                exact ih14 (i + 1) _ _ _ (by omega) (by omega) hP hD hS (lv_sub hl [2, 3, 4, 1, 0] rfl)
        exact loop14 ((Ln L - 0) + 1) 0 _ _ _ (Nat.lt_succ_self _) (by omega) hP hD hS (lv_sub hl [2, 3, 4, 1, 0] rfl)
  exact loop4 ((3 - 0) + 1) 0 _ _ _ (Nat.lt_succ_self _) (by omega) hP hD hS (lv_sub hl [2, 1, 0] rfl)
set_option maxHeartbeats 4000000 in
set_option maxRecDepth 100000 in
theorem c_X3_resourceBound (l : Launch) (D : va_G) (g : Nat → ClassId) (a : Nat → Nat) (th : Int) (L : LD) (att T : Nat) (hs : Nat → Int) (tm : Nat → Nat) (pl : Nat → Bool)  (hw : wf L) : zMi l D (zT g) yX3_resourceBound wsX3_resourceBound 2 36 (wM a g th L att T hs tm pl (fun _ => 0)) [.ref (a 0)] (fun r w1 => r = iI ((rs L : Nat)) ∧ w1 = wM a g 0 L att T hs tm pl (fun _ => 0)) := by
  refine z_ofI (cc := cX3_resourceBound) (maxL := 1) (ret := (some .int)) (by decide) rfl (Nat.le_of_ble_eq_true rfl) ?_
  intro p e s m args below meth c A ls hx hb hr hts hown hlocks hml hP hK hD hS hA hl Q hQ
  have hown : s.vm.findClass RX3 = some m.cls := hown
  have hinX3 : ∀ w ∈ u_ws RX3 TX3 16, w ∈ wsX3_resourceBound := by decide +kernel
  have hl : lv_has ls 1 [(0, .ref (a 0))] := hl
  refine lv_aload_n hx hb dX3_resourceBound_0 rfl (lv_at hl 0 rfl) ?_
  refine z_ic hx hb dX3_resourceBound_1 ?_
  refine va_put (D := D) (ci := 3) (v := .int (iI ((0 : Nat) : Int))) (ty := .int) (C := RX3) (T := TX3) (N := 16) hx hb hts hinX3 tyX3 tyX3_ok nmX3 hown hK hP hD hS 0 rfl rfl 0 (by decide) (hts (.fieldLink RX3 44 "LoopSchedulerModel" "thrown" "I") (List.mem_of_getElem? (i := 1) rfl)) (fun _ h9 => h9) rfl (by decide +kernel) rfl rfl (Nat.le_of_ble_eq_true rfl) dX3_resourceBound_2 (fun H locs hP hD hS => ?_)
  have hP : va_P D vwCl (wM a g 0 L att T hs tm pl (fun _ => 0)) H := hP
  have hD : va_D A (wM a g 0 L att T hs tm pl (fun _ => 0)) := hD
  refine lv_aload_n hx hb dX3_resourceBound_5 rfl (lv_at hl 0 rfl) ?_
  refine z_calli (va_runV (As := []) (rest := []) ⟨hx, hb, hml, hown, hts⟩ (c_X3_byResources l D g a 0 L att T hs tm pl hw _) (cwV 0 hts gX3_resourceBound_X3_byResources rfl rfl rfl (by decide +kernel) ⟨Nat.le_of_ble_eq_true rfl, Nat.le_of_ble_eq_true rfl⟩) (z_preV 0 hK hP hD rfl rfl) rfl rfl hl.1 rfl (lv_room (Nat.le_of_ble_eq_true rfl)) dX3_resourceBound_6 ⟨Nat.zero_le _, Nat.zero_le _⟩) hS hD hA (fun r w1 H locs hw1 hP hD hS => ?_)
  obtain ⟨rfl, rfl⟩ := hw1
  exact z_iret (w := (wM a g 0 L att T hs tm pl (fun _ => 0))) (v := (iI ((rs L : Nat) : Int))) hQ hx hb hr hlocks ⟨rfl, rfl⟩ hK hP hD hS dX3_resourceBound_9
set_option maxHeartbeats 4000000 in
set_option maxRecDepth 100000 in
theorem c_X3_lengthOf (l : Launch) (D : va_G) (g : Nat → ClassId) (a : Nat → Nat) (th : Int) (L : LD) (att T : Nat) (hs : Nat → Int) (tm : Nat → Nat) (pl : Nat → Bool) (d t : Nat) (hd : d < 40) : zMi l D (zT g) yX3_lengthOf wsX3_lengthOf 1 12 (wM a g th L att T hs tm pl (fun _ => 0)) [.ref (a 0), .int (iI ((d : Nat) : Int)), .int (iI ((t : Nat) : Int))] (fun r w1 => r = iI (((Ldl L d : Nat) : Int) - ((t : Nat) : Int) * ((Ldi L d : Nat) : Int)) ∧ w1 = wM a g th L att T hs tm pl (fun _ => 0)) := by
  refine z_ofI (cc := cX3_lengthOf) (maxL := 3) (ret := (some .int)) (by decide) rfl (Nat.le_of_ble_eq_true rfl) ?_
  intro p e s m args below meth c A ls hx hb hr hts hown hlocks hml hP hK hD hS hA hl Q hQ
  have hown : s.vm.findClass RX3 = some m.cls := hown
  have hinX3 : ∀ w ∈ u_ws RX3 TX3 16, w ∈ wsX3_lengthOf := by decide +kernel
  have hl : lv_has ls 3 [(0, .ref (a 0)), (1, .int (iI ((d : Nat) : Int))), (2, .int (iI ((t : Nat) : Int)))] := hl
  refine lv_aload_n hx hb dX3_lengthOf_0 rfl (lv_at hl 0 rfl) ?_
  refine va_get (D := D) (ci := 3) (v := .ref (a 6)) (C := RX3) (T := TX3) (N := 16) hx hb hts hinX3 hown hK hP 0 rfl rfl 8 (by decide) (hts (.fieldLink RX3 25 "LoopSchedulerModel" "delays" "[I") (List.mem_of_getElem? (i := 1) rfl)) (fun _ h9 => h9) rfl dX3_lengthOf_1 ?_
  refine lv_iload_n hx hb dX3_lengthOf_4 rfl (lv_at hl 1 rfl) ?_
  refine z_ialdZ (f := Ldl L) (z := d) hx hb hK hP 6 0 rfl rfl (by omega) (by decide) dX3_lengthOf_5 ?_
  refine lv_iload_n hx hb dX3_lengthOf_6 rfl (lv_at hl 2 rfl) ?_
  refine lv_aload_n hx hb dX3_lengthOf_7 rfl (lv_at hl 0 rfl) ?_
  refine va_get (D := D) (ci := 3) (v := .ref (a 7)) (C := RX3) (T := TX3) (N := 16) hx hb hts hinX3 hown hK hP 0 rfl rfl 9 (by decide) (hts (.fieldLink RX3 28 "LoopSchedulerModel" "distances" "[I") (List.mem_of_getElem? (i := 2) rfl)) (fun _ h9 => h9) rfl dX3_lengthOf_8 ?_
  refine lv_iload_n hx hb dX3_lengthOf_11 rfl (lv_at hl 1 rfl) ?_
  refine z_ialdZ (f := Ldi L) (z := d) hx hb hK hP 7 0 rfl rfl (by omega) (by decide) dX3_lengthOf_12 ?_
  refine z_mul (a := ((t : Nat) : Int)) (b := ((Ldi L d : Nat) : Int)) hx hb dX3_lengthOf_13 ?_
  refine z_sub (a := ((Ldl L d : Nat) : Int)) (b := (((t : Nat) : Int) * ((Ldi L d : Nat) : Int))) hx hb dX3_lengthOf_14 ?_
  exact z_iret (w := (wM a g th L att T hs tm pl (fun _ => 0))) (v := (iI (((Ldl L d : Nat) : Int) - (((t : Nat) : Int) * ((Ldi L d : Nat) : Int))))) hQ hx hb hr hlocks ⟨rfl, rfl⟩ hK hP hD hS dX3_lengthOf_15
set_option maxHeartbeats 4000000 in
set_option maxRecDepth 100000 in
theorem c_X3_grow (l : Launch) (D : va_G) (g : Nat → ClassId) (a : Nat → Nat) (th : Int) (L : LD) (att T : Nat) (hs : Nat → Int) (tm : Nat → Nat) (pl : Nat → Bool) (t : Nat) (B : Int) (hw : wf L) (ht : t ≤ 255) (hB : B ≤ 10000) (hh : gB B hs) : zMi l D (zT g) yX3_grow wsX3_grow 2 34 (wM a g th L att T hs tm pl (fun _ => 0)) [.ref (a 0), .int (iI ((t : Nat) : Int))] (fun r w1 => r = iI (bI (gr L t (Lm L) (hs, false)).2) ∧ w1 = wM a g th L att T ((gr L t (Lm L) (hs, false)).1) tm pl (fun _ => 0)) := by
  refine z_ofI (cc := cX3_grow) (maxL := 5) (ret := (some .boolean)) (by decide) rfl (Nat.le_of_ble_eq_true rfl) ?_
  intro p e s m args below meth c A ls hx hb hr hts hown hlocks hml hP hK hD hS hA hl Q hQ
  have hown : s.vm.findClass RX3 = some m.cls := hown
  have hinX3 : ∀ w ∈ u_ws RX3 TX3 16, w ∈ wsX3_grow := by decide +kernel
  have hl : lv_has ls 5 [(0, .ref (a 0)), (1, .int (iI ((t : Nat) : Int)))] := hl
  refine z_ic hx hb dX3_grow_0 ?_
  refine lv_istore_n (lv' := [(2, .int (iI ((0 : Nat) : Int))), (0, .ref (a 0)), (1, .int (iI ((t : Nat) : Int)))]) hx hb dX3_grow_1 rfl hl (by decide) rfl (fun ls hl => ?_)
  refine z_ic hx hb dX3_grow_2 ?_
  refine lv_istore_n (lv' := [(3, .int (iI ((0 : Nat) : Int))), (2, .int (iI ((0 : Nat) : Int))), (0, .ref (a 0)), (1, .int (iI ((t : Nat) : Int)))]) hx hb dX3_grow_3 rfl hl (by decide) rfl (fun ls hl => ?_)
  have loop4 : ∀ (n4 : Nat) (k : Nat) (h' : Nat → Int) (b : Bool) (H : Heap) (locs : List Loc) (ls : Array Slot), Lm L - k < n4 → (k ≤ Lm L) → (gr L t k (hs, false) = (h', b)) → va_P D vwCl (wM a g th L att T h' tm pl (fun _ => 0)) H → va_D A (wM a g th L att T h' tm pl (fun _ => 0)) → va_S A s.heap H locs → lv_has ls 5 [(0, .ref (a 0)), (1, .int (iI ((t : Nat) : Int))), (2, .int (iI (bI b))), (3, .int (iI ((k : Nat) : Int)))] → W p l e ({ frames := 2, cells := 0, slots := 0, locals := 34 } : Room) s m args below meth c H locs 0 0 Q (F0 m 4 ls []) := by
    intro n4
    induction n4 with
    | zero => exact fun _ _ _ H locs ls hn => absurd hn (Nat.not_lt_zero _)
    | succ n4 ih4 =>
      intro k h' b H locs ls hn4 hk hi hP hD hS hl
      have hwm := wf_m hw
      have hbd : gB (B + 12 * (k : Int)) h' := by have q := gr_bd hw (t := t) (b := false) hh k; rw [hi] at q; exact q
      have hsd := wf_sd hw k
      have b1 := hbd (Lds L k)
      have b2 := hbd (Lsr L k)
      have hdl := wf_dl hw k
      have hmn := mul_nn t (Ldi L k)
      have hmb := mul_bd ht (wf_di hw k)
      refine lv_iload_n hx hb dX3_grow_4 rfl (lv_at hl 3 rfl) ?_
      refine lv_aload_n hx hb dX3_grow_5 rfl (lv_at hl 0 rfl) ?_
      refine va_get (D := D) (ci := 3) (v := .int (iI ((Lm L : Nat) : Int))) (C := RX3) (T := TX3) (N := 16) hx hb hts hinX3 hown hK hP 0 rfl rfl 5 (by decide) (hts (.fieldLink RX3 66 "LoopSchedulerModel" "dependences" "I") (List.mem_of_getElem? (i := 1) rfl)) (fun _ h9 => h9) rfl dX3_grow_6 ?_
      refine z_icge (a := ((k : Nat) : Int)) (b := ((Lm L : Nat) : Int)) (tgt := 72) hx hb dX3_grow_9 (by decide) (by omega) (fun c_9 => ?_) (fun c_9 => ?_)
      · obtain rfl : k = Lm L := by omega
        refine lv_iload_n hx hb dX3_grow_72 rfl (lv_at hl 2 rfl) ?_
        exact z_zret (w := (wM a g th L att T h' tm pl (fun _ => 0))) (v := (iI (bI b))) (z_nb _) hQ hx hb hr hlocks ⟨by rw [hi], by rw [hi]⟩ hK hP hD hS dX3_grow_73
      · refine lv_aload_n hx hb dX3_grow_12 rfl (lv_at hl 0 rfl) ?_
        refine lv_iload_n hx hb dX3_grow_13 rfl (lv_at hl 3 rfl) ?_
        refine lv_iload_n hx hb dX3_grow_14 rfl (lv_at hl 1 rfl) ?_
        refine z_calli (va_runV (As := [.int (iI ((k : Nat) : Int)), .int (iI ((t : Nat) : Int))]) (rest := []) ⟨hx, hb, hml, hown, hts⟩ (c_X3_lengthOf l D g a th L att T h' tm pl k t (by omega) _) (cwV 2 hts gX3_grow_X3_lengthOf rfl rfl rfl (by decide +kernel) ⟨Nat.le_of_ble_eq_true rfl, Nat.le_of_ble_eq_true rfl⟩) (z_preV 0 hK hP hD rfl rfl) rfl rfl hl.1 rfl (lv_room (Nat.le_of_ble_eq_true rfl)) dX3_grow_15 ⟨Nat.zero_le _, Nat.zero_le _⟩) hS hD hA (fun r w1 H locs hw1 hP hD hS => ?_)
        obtain ⟨rfl, rfl⟩ := hw1
        refine lv_aload_n hx hb dX3_grow_18 rfl (lv_at hl 0 rfl) ?_
        refine va_get (D := D) (ci := 3) (v := .ref (a 9)) (C := RX3) (T := TX3) (N := 16) hx hb hts hinX3 hown hK hP 0 rfl rfl 13 (by decide) (hts (.fieldLink RX3 34 "LoopSchedulerModel" "heights" "[I") (List.mem_of_getElem? (i := 2) rfl)) (fun _ h9 => h9) rfl dX3_grow_19 ?_
        refine lv_aload_n hx hb dX3_grow_22 rfl (lv_at hl 0 rfl) ?_
        refine va_get (D := D) (ci := 3) (v := .ref (a 5)) (C := RX3) (T := TX3) (N := 16) hx hb hts hinX3 hown hK hP 0 rfl rfl 7 (by decide) (hts (.fieldLink RX3 22 "LoopSchedulerModel" "tos" "[I") (List.mem_of_getElem? (i := 3) rfl)) (fun _ h9 => h9) rfl dX3_grow_23 ?_
        refine lv_iload_n hx hb dX3_grow_26 rfl (lv_at hl 3 rfl) ?_
        refine z_ialdZ (f := Lds L) (z := k) hx hb hK hP 5 0 rfl rfl (by omega) (by decide) dX3_grow_27 ?_
        refine z_ialdN (f := h') (z := Lds L k) hx hb hK hP 9 0 rfl rfl (by omega) (by decide) dX3_grow_28 ?_
        refine z_add (a := (((Ldl L k : Nat) : Int) - ((t : Nat) : Int) * ((Ldi L k : Nat) : Int))) (b := (h' (Lds L k))) hx hb dX3_grow_29 ?_
        refine lv_istore (lv' := [(4, .int (iI ((((Ldl L k : Nat) : Int) - ((t : Nat) : Int) * ((Ldi L k : Nat) : Int)) + (h' (Lds L k))))), (0, .ref (a 0)), (1, .int (iI ((t : Nat) : Int))), (2, .int (iI (bI b))), (3, .int (iI ((k : Nat) : Int)))]) hx hb dX3_grow_30 hl (by decide) rfl (fun ls hl => ?_)
        refine lv_iload hx hb dX3_grow_32 (lv_at hl 0 rfl) ?_
        refine lv_aload_n hx hb dX3_grow_34 rfl (lv_at hl 1 rfl) ?_
        refine va_get (D := D) (ci := 3) (v := .ref (a 9)) (C := RX3) (T := TX3) (N := 16) hx hb hts hinX3 hown hK hP 0 rfl rfl 13 (by decide) (hts (.fieldLink RX3 34 "LoopSchedulerModel" "heights" "[I") (List.mem_of_getElem? (i := 2) rfl)) (fun _ h9 => h9) rfl dX3_grow_35 ?_
        refine lv_aload_n hx hb dX3_grow_38 rfl (lv_at hl 1 rfl) ?_
        refine va_get (D := D) (ci := 3) (v := .ref (a 4)) (C := RX3) (T := TX3) (N := 16) hx hb hts hinX3 hown hK hP 0 rfl rfl 6 (by decide) (hts (.fieldLink RX3 19 "LoopSchedulerModel" "froms" "[I") (List.mem_of_getElem? (i := 4) rfl)) (fun _ h9 => h9) rfl dX3_grow_39 ?_
        refine lv_iload_n hx hb dX3_grow_42 rfl (lv_at hl 4 rfl) ?_
        refine z_ialdZ (f := Lsr L) (z := k) hx hb hK hP 4 0 rfl rfl (by omega) (by decide) dX3_grow_43 ?_
        refine z_ialdN (f := h') (z := Lsr L k) hx hb hK hP 9 0 rfl rfl (by omega) (by decide) dX3_grow_44 ?_
        refine z_icgt (a := ((((Ldl L k : Nat) : Int) - ((t : Nat) : Int) * ((Ldi L k : Nat) : Int)) + (h' (Lds L k)))) (b := (h' (Lsr L k))) (tgt := 51) hx hb dX3_grow_45 (by decide) (by omega) (fun c_45 => ?_) (fun c_45 => ?_)
        · refine lv_aload_n hx hb dX3_grow_51 rfl (lv_at hl 1 rfl) ?_
          refine va_get (D := D) (ci := 3) (v := .ref (a 9)) (C := RX3) (T := TX3) (N := 16) hx hb hts hinX3 hown hK hP 0 rfl rfl 13 (by decide) (hts (.fieldLink RX3 34 "LoopSchedulerModel" "heights" "[I") (List.mem_of_getElem? (i := 2) rfl)) (fun _ h9 => h9) rfl dX3_grow_52 ?_
          refine lv_aload_n hx hb dX3_grow_55 rfl (lv_at hl 1 rfl) ?_
          refine va_get (D := D) (ci := 3) (v := .ref (a 4)) (C := RX3) (T := TX3) (N := 16) hx hb hts hinX3 hown hK hP 0 rfl rfl 6 (by decide) (hts (.fieldLink RX3 19 "LoopSchedulerModel" "froms" "[I") (List.mem_of_getElem? (i := 4) rfl)) (fun _ h9 => h9) rfl dX3_grow_56 ?_
          refine lv_iload_n hx hb dX3_grow_59 rfl (lv_at hl 4 rfl) ?_
          refine z_ialdZ (f := Lsr L) (z := k) hx hb hK hP 4 0 rfl rfl (by omega) (by decide) dX3_grow_60 ?_
          refine lv_iload hx hb dX3_grow_61 (lv_at hl 0 rfl) ?_
          refine z_iastN (f := h') (z := Lsr L k) (v := ((((Ldl L k : Nat) : Int) - ((t : Nat) : Int) * ((Ldi L k : Nat) : Int)) + (h' (Lds L k)))) hx hb hK hP hD hS 9 0 rfl rfl (by omega) (by decide) dX3_grow_63 (fun H locs hP hD hS => ?_)
          have hP : va_P D vwCl (wM a g th L att T (upZ h' (Lsr L k) ((((Ldl L k : Nat) : Int) - ((t : Nat) : Int) * ((Ldi L k : Nat) : Int)) + (h' (Lds L k)))) tm pl (fun _ => 0)) H := hP
          have hD : va_D A (wM a g th L att T (upZ h' (Lsr L k) ((((Ldl L k : Nat) : Int) - ((t : Nat) : Int) * ((Ldi L k : Nat) : Int)) + (h' (Lds L k)))) tm pl (fun _ => 0)) := hD
          have ew : upZ h' (Lsr L k) (h' (Lds L k) + ((Ldl L k : Nat) : Int) - ((t : Nat) : Int) * ((Ldi L k : Nat) : Int)) = upZ h' (Lsr L k) ((((Ldl L k : Nat) : Int) - ((t : Nat) : Int) * ((Ldi L k : Nat) : Int)) + (h' (Lds L k))) := (by congr 1; omega)
          have hP : va_P D vwCl (wM a g th L att T (upZ h' (Lsr L k) (h' (Lds L k) + ((Ldl L k : Nat) : Int) - ((t : Nat) : Int) * ((Ldi L k : Nat) : Int))) tm pl (fun _ => 0)) H := Eq.mp (congrArg (fun z9 => va_P D vwCl (wM a g th L att T z9 tm pl (fun _ => 0)) H) ew.symm) hP
          have hD : va_D A (wM a g th L att T (upZ h' (Lsr L k) (h' (Lds L k) + ((Ldl L k : Nat) : Int) - ((t : Nat) : Int) * ((Ldi L k : Nat) : Int))) tm pl (fun _ => 0)) := Eq.mp (congrArg (fun z9 => va_D A (wM a g th L att T z9 tm pl (fun _ => 0))) ew.symm) hD
          refine z_ic hx hb dX3_grow_64 ?_
          refine lv_istore_n (lv' := [(2, .int (iI ((1 : Nat) : Int))), (4, .int (iI ((((Ldl L k : Nat) : Int) - ((t : Nat) : Int) * ((Ldi L k : Nat) : Int)) + (h' (Lds L k))))), (0, .ref (a 0)), (1, .int (iI ((t : Nat) : Int))), (3, .int (iI ((k : Nat) : Int)))]) hx hb dX3_grow_65 rfl hl (by decide) rfl (fun ls hl => ?_)
          refine z_iinc (a := ((k : Nat) : Int)) (b := ((k + 1 : Nat) : Int)) (lv' := [(3, .int (iI ((k + 1 : Nat) : Int))), (2, .int (iI ((1 : Nat) : Int))), (4, .int (iI ((((Ldl L k : Nat) : Int) - ((t : Nat) : Int) * ((Ldi L k : Nat) : Int)) + (h' (Lds L k))))), (0, .ref (a 0)), (1, .int (iI ((t : Nat) : Int)))]) hx hb 4 dX3_grow_66 hl rfl rfl (by decide) rfl (fun ls hl => ?_)
          refine lv_goto (tgt := 4) hx hb dX3_grow_69 (by decide) ?_
          exact ih4 (k + 1) (upZ h' (Lsr L k) (h' (Lds L k) + ((Ldl L k : Nat) : Int) - ((t : Nat) : Int) * ((Ldi L k : Nat) : Int))) true _ _ _ (by omega) (by omega) (by rw [gr_s, hi]; exact gr1_t (by omega)) hP hD hS (lv_sub hl [3, 4, 1, 0] rfl)
        · refine lv_goto (tgt := 66) hx hb dX3_grow_48 (by decide) ?_
          refine z_iinc (a := ((k : Nat) : Int)) (b := ((k + 1 : Nat) : Int)) (lv' := [(3, .int (iI ((k + 1 : Nat) : Int))), (4, .int (iI ((((Ldl L k : Nat) : Int) - ((t : Nat) : Int) * ((Ldi L k : Nat) : Int)) + (h' (Lds L k))))), (0, .ref (a 0)), (1, .int (iI ((t : Nat) : Int))), (2, .int (iI (bI b)))]) hx hb 4 dX3_grow_66 hl rfl rfl (by decide) rfl (fun ls hl => ?_)
          refine lv_goto (tgt := 4) hx hb dX3_grow_69 (by decide) ?_
          exact ih4 (k + 1) h' b _ _ _ (by omega) (by omega) (by rw [gr_s, hi]; exact gr1_f (by omega)) hP hD hS (lv_sub hl [2, 3, 4, 0] rfl)
  exact loop4 ((Lm L - 0) + 1) 0 hs false _ _ _ (Nat.lt_succ_self _) (by omega) rfl hP hD hS (lv_sub hl [2, 3, 1, 0] rfl)
set_option maxHeartbeats 4000000 in
set_option maxRecDepth 100000 in
theorem c_X3_findHeights (l : Launch) (D : va_G) (g : Nat → ClassId) (a : Nat → Nat) (th : Int) (L : LD) (att T : Nat) (hs : Nat → Int) (tm : Nat → Nat) (pl : Nat → Bool) (t : Nat) (hw : wf L) (ht : t ≤ 255) (hz : ∀ j, Ln L ≤ j → hs j = 0) : zMi l D (zT g) yX3_findHeights wsX3_findHeights 3 58 (wM a g th L att T hs tm pl (fun _ => 0)) [.ref (a 0), .int (iI ((t : Nat) : Int))] (fun r w1 => r = iI (bI (cv L t)) ∧ w1 = wM a g th L att T (hF L t) tm pl (fun _ => 0)) := by
  refine z_ofI (cc := cX3_findHeights) (maxL := 3) (ret := (some .boolean)) (by decide) rfl (Nat.le_of_ble_eq_true rfl) ?_
  intro p e s m args below meth c A ls hx hb hr hts hown hlocks hml hP hK hD hS hA hl Q hQ
  have hown : s.vm.findClass RX3 = some m.cls := hown
  have hinX3 : ∀ w ∈ u_ws RX3 TX3 16, w ∈ wsX3_findHeights := by decide +kernel
  have hl : lv_has ls 3 [(0, .ref (a 0)), (1, .int (iI ((t : Nat) : Int)))] := hl
  refine z_ic hx hb dX3_findHeights_0 ?_
  refine lv_istore_n (lv' := [(2, .int (iI ((0 : Nat) : Int))), (0, .ref (a 0)), (1, .int (iI ((t : Nat) : Int)))]) hx hb dX3_findHeights_1 rfl hl (by decide) rfl (fun ls hl => ?_)
  have loop2 : ∀ (n2 : Nat) (i : Nat) (H : Heap) (locs : List Loc) (ls : Array Slot), Ln L - i < n2 → (i ≤ Ln L) → va_P D vwCl (wM a g th L att T (flN hs i 0) tm pl (fun _ => 0)) H → va_D A (wM a g th L att T (flN hs i 0) tm pl (fun _ => 0)) → va_S A s.heap H locs → lv_has ls 3 [(0, .ref (a 0)), (1, .int (iI ((t : Nat) : Int))), (2, .int (iI ((i : Nat) : Int)))] → W p l e ({ frames := 3, cells := 0, slots := 0, locals := 58 } : Room) s m args below meth c H locs 0 0 Q (F0 m 2 ls []) := by
    intro n2
    induction n2 with
    | zero => exact fun _ H locs ls hn => absurd hn (Nat.not_lt_zero _)
    | succ n2 ih2 =>
      intro i H locs ls hn2 hi hP hD hS hl
      have hwn := wf_n hw
      refine lv_iload_n hx hb dX3_findHeights_2 rfl (lv_at hl 2 rfl) ?_
      refine lv_aload_n hx hb dX3_findHeights_3 rfl (lv_at hl 0 rfl) ?_
      refine va_get (D := D) (ci := 3) (v := .int (iI ((Ln L : Nat) : Int))) (C := RX3) (T := TX3) (N := 16) hx hb hts hinX3 hown hK hP 0 rfl rfl 2 (by decide) (hts (.fieldLink RX3 48 "LoopSchedulerModel" "operations" "I") (List.mem_of_getElem? (i := 1) rfl)) (fun _ h9 => h9) rfl dX3_findHeights_4 ?_
      refine z_icge (a := ((i : Nat) : Int)) (b := ((Ln L : Nat) : Int)) (tgt := 23) hx hb dX3_findHeights_7 (by decide) (by omega) (fun c_7 => ?_) (fun c_7 => ?_)
      · obtain rfl : i = Ln L := by omega
        have ew : (fun _ => 0) = (flN hs (Ln L) 0) := (funext fun j => by unfold flN; by_cases h : j < Ln L; rw [if_pos h]; rw [if_neg h]; exact (hz j (by omega)).symm)
        have hP : va_P D vwCl (wM a g th L att T (fun _ => 0) tm pl (fun _ => 0)) H := Eq.mp (congrArg (fun z9 => va_P D vwCl (wM a g th L att T z9 tm pl (fun _ => 0)) H) ew.symm) hP
        have hD : va_D A (wM a g th L att T (fun _ => 0) tm pl (fun _ => 0)) := Eq.mp (congrArg (fun z9 => va_D A (wM a g th L att T z9 tm pl (fun _ => 0))) ew.symm) hD
        refine z_ic hx hb dX3_findHeights_23 ?_
        refine lv_istore_n (lv' := [(2, .int (iI ((0 : Nat) : Int))), (0, .ref (a 0)), (1, .int (iI ((t : Nat) : Int)))]) hx hb dX3_findHeights_24 rfl hl (by decide) rfl (fun ls hl => ?_)
        have loop25 : ∀ (n25 : Nat) (q : Nat) (H : Heap) (locs : List Loc) (ls : Array Slot), Ln L - q < n25 → (q ≤ Ln L) → va_P D vwCl (wM a g th L att T (hit L t q) tm pl (fun _ => 0)) H → va_D A (wM a g th L att T (hit L t q) tm pl (fun _ => 0)) → va_S A s.heap H locs → lv_has ls 3 [(0, .ref (a 0)), (1, .int (iI ((t : Nat) : Int))), (2, .int (iI ((q : Nat) : Int)))] → W p l e ({ frames := 3, cells := 0, slots := 0, locals := 58 } : Room) s m args below meth c H locs 0 0 Q (F0 m 25 ls []) := by
          intro n25
          induction n25 with
          | zero => exact fun _ H locs ls hn => absurd hn (Nat.not_lt_zero _)
          | succ n25 ih25 =>
            intro q H locs ls hn25 hq hP hD hS hl
            have hwn := wf_n hw
            refine lv_iload_n hx hb dX3_findHeights_25 rfl (lv_at hl 2 rfl) ?_
            refine lv_aload_n hx hb dX3_findHeights_26 rfl (lv_at hl 0 rfl) ?_
            refine va_get (D := D) (ci := 3) (v := .int (iI ((Ln L : Nat) : Int))) (C := RX3) (T := TX3) (N := 16) hx hb hts hinX3 hown hK hP 0 rfl rfl 2 (by decide) (hts (.fieldLink RX3 48 "LoopSchedulerModel" "operations" "I") (List.mem_of_getElem? (i := 1) rfl)) (fun _ h9 => h9) rfl dX3_findHeights_27 ?_
            refine z_icge (a := ((q : Nat) : Int)) (b := ((Ln L : Nat) : Int)) (tgt := 45) hx hb dX3_findHeights_30 (by decide) (by omega) (fun c_30 => ?_) (fun c_30 => ?_)
            · obtain rfl : q = Ln L := by omega
              refine lv_aload_n hx hb dX3_findHeights_45 rfl (lv_at hl 0 rfl) ?_
              refine lv_iload_n hx hb dX3_findHeights_46 rfl (lv_at hl 1 rfl) ?_
              refine z_calli (va_runV (As := [.int (iI ((t : Nat) : Int))]) (rest := []) ⟨hx, hb, hml, hown, hts⟩ (c_X3_grow l D g a th L att T (hit L t (Ln L)) tm pl t (480 * ((Ln L : Nat) : Int)) hw ht (by have := wf_n hw; omega) (hit_bd hw t (Ln L)) _) (cwV 1 hts gX3_findHeights_X3_grow rfl rfl rfl (by decide +kernel) ⟨Nat.le_of_ble_eq_true rfl, Nat.le_of_ble_eq_true rfl⟩) (z_preV 0 hK hP hD rfl rfl) rfl rfl hl.1 rfl (lv_room (Nat.le_of_ble_eq_true rfl)) dX3_findHeights_47 ⟨Nat.zero_le _, Nat.zero_le _⟩) hS hD hA (fun r w1 H locs hw1 hP hD hS => ?_)
              obtain ⟨rfl, rfl⟩ := hw1
              have hP : va_P D vwCl (wM a g th L att T (hit L t (Ln L + 1)) tm pl (fun _ => 0)) H := hP
              have hD : va_D A (wM a g th L att T (hit L t (Ln L + 1)) tm pl (fun _ => 0)) := hD
              refine z_ifne (a := (bI (fl L t (Ln L)))) (tgt := 57) hx hb dX3_findHeights_50 (by decide) (bI_r _) (fun c_50 => ?_) (fun c_50 => ?_)
              · have b_50 := bI_t c_50
                refine z_ic hx hb dX3_findHeights_57 ?_
                exact z_zret (w := (wM a g th L att T (hit L t (Ln L + 1)) tm pl (fun _ => 0))) (v := (iI ((0 : Nat) : Int))) z_nb0 hQ hx hb hr hlocks ⟨by unfold cv; rw [b_50]; rfl, rfl⟩ hK hP hD hS dX3_findHeights_58
              · have b_50 := bI_f c_50
                refine z_ic hx hb dX3_findHeights_53 ?_
                refine lv_goto (tgt := 58) hx hb dX3_findHeights_54 (by decide) ?_
                exact z_zret (w := (wM a g th L att T (hit L t (Ln L + 1)) tm pl (fun _ => 0))) (v := (iI ((1 : Nat) : Int))) z_nb1 hQ hx hb hr hlocks ⟨by unfold cv; rw [b_50]; rfl, rfl⟩ hK hP hD hS dX3_findHeights_58
            · refine lv_aload_n hx hb dX3_findHeights_33 rfl (lv_at hl 0 rfl) ?_
              refine lv_iload_n hx hb dX3_findHeights_34 rfl (lv_at hl 1 rfl) ?_
              refine z_calli (va_runV (As := [.int (iI ((t : Nat) : Int))]) (rest := []) ⟨hx, hb, hml, hown, hts⟩ (c_X3_grow l D g a th L att T (hit L t (q)) tm pl t (480 * ((q : Nat) : Int)) hw ht (by have := wf_n hw; omega) (hit_bd hw t (q)) _) (cwV 1 hts gX3_findHeights_X3_grow rfl rfl rfl (by decide +kernel) ⟨Nat.le_of_ble_eq_true rfl, Nat.le_of_ble_eq_true rfl⟩) (z_preV 0 hK hP hD rfl rfl) rfl rfl hl.1 rfl (lv_room (Nat.le_of_ble_eq_true rfl)) dX3_findHeights_35 ⟨Nat.zero_le _, Nat.zero_le _⟩) hS hD hA (fun r w1 H locs hw1 hP hD hS => ?_)
              obtain ⟨rfl, rfl⟩ := hw1
              have hP : va_P D vwCl (wM a g th L att T (hit L t (q + 1)) tm pl (fun _ => 0)) H := hP
              have hD : va_D A (wM a g th L att T (hit L t (q + 1)) tm pl (fun _ => 0)) := hD
              refine lv_pop hx hb dX3_findHeights_38 rfl ?_
              refine z_iinc (a := ((q : Nat) : Int)) (b := ((q + 1 : Nat) : Int)) (lv' := [(2, .int (iI ((q + 1 : Nat) : Int))), (0, .ref (a 0)), (1, .int (iI ((t : Nat) : Int)))]) hx hb 2 dX3_findHeights_39 hl rfl rfl (by decide) rfl (fun ls hl => ?_)
              refine lv_goto (tgt := 25) hx hb dX3_findHeights_42 (by decide) ?_
              exact ih25 (q + 1) _ _ _ (by omega) (by omega) hP hD hS (lv_sub hl [1, 2, 0] rfl)
        have hP : va_P D vwCl (wM a g th L att T (hit L t 0) tm pl (fun _ => 0)) _ := hP
        have hD : va_D A (wM a g th L att T (hit L t 0) tm pl (fun _ => 0)) := hD
        exact loop25 ((Ln L - 0) + 1) 0 _ _ _ (Nat.lt_succ_self _) (by omega) hP hD hS (lv_sub hl [1, 2, 0] rfl)
      · refine lv_aload_n hx hb dX3_findHeights_10 rfl (lv_at hl 0 rfl) ?_
        refine va_get (D := D) (ci := 3) (v := .ref (a 9)) (C := RX3) (T := TX3) (N := 16) hx hb hts hinX3 hown hK hP 0 rfl rfl 13 (by decide) (hts (.fieldLink RX3 34 "LoopSchedulerModel" "heights" "[I") (List.mem_of_getElem? (i := 2) rfl)) (fun _ h9 => h9) rfl dX3_findHeights_11 ?_
        refine lv_iload_n hx hb dX3_findHeights_14 rfl (lv_at hl 2 rfl) ?_
        refine z_ic hx hb dX3_findHeights_15 ?_
        refine z_iastN (f := (flN hs i 0)) (z := i) (v := 0) hx hb hK hP hD hS 9 0 rfl rfl (by omega) (by decide) dX3_findHeights_16 (fun H locs hP hD hS => ?_)
        have hP : va_P D vwCl (wM a g th L att T (upZ (flN hs i 0) i 0) tm pl (fun _ => 0)) H := hP
        have hD : va_D A (wM a g th L att T (upZ (flN hs i 0) i 0) tm pl (fun _ => 0)) := hD
        have ew : (flN hs (i + 1) 0) = upZ (flN hs i 0) i 0 := ((flN_s hs i 0).symm)
        have hP : va_P D vwCl (wM a g th L att T (flN hs (i + 1) 0) tm pl (fun _ => 0)) H := Eq.mp (congrArg (fun z9 => va_P D vwCl (wM a g th L att T z9 tm pl (fun _ => 0)) H) ew.symm) hP
        have hD : va_D A (wM a g th L att T (flN hs (i + 1) 0) tm pl (fun _ => 0)) := Eq.mp (congrArg (fun z9 => va_D A (wM a g th L att T z9 tm pl (fun _ => 0))) ew.symm) hD
        refine z_iinc (a := ((i : Nat) : Int)) (b := ((i + 1 : Nat) : Int)) (lv' := [(2, .int (iI ((i + 1 : Nat) : Int))), (0, .ref (a 0)), (1, .int (iI ((t : Nat) : Int)))]) hx hb 2 dX3_findHeights_17 hl rfl rfl (by decide) rfl (fun ls hl => ?_)
        refine lv_goto (tgt := 2) hx hb dX3_findHeights_20 (by decide) ?_
        exact ih2 (i + 1) _ _ _ (by omega) (by omega) hP hD hS (lv_sub hl [1, 2, 0] rfl)
  have hz0 : flN hs 0 0 = hs := funext fun j => if_neg (Nat.not_lt_zero j)
  rw [← hz0] at hP hD
  exact loop2 ((Ln L - 0) + 1) 0 _ _ _ (Nat.lt_succ_self _) (by omega) hP hD hS (lv_sub hl [1, 2, 0] rfl)
set_option maxHeartbeats 4000000 in
set_option maxRecDepth 100000 in
theorem c_X3_byRecurrences (l : Launch) (D : va_G) (g : Nat → ClassId) (a : Nat → Nat) (th : Int) (L : LD) (att T : Nat) (hs : Nat → Int) (tm : Nat → Nat) (pl : Nat → Bool)  (hw : wf L) (hz0 : ∀ j, Ln L ≤ j → hs j = 0) : zMi l D (zT g) yX3_byRecurrences wsX3_byRecurrences 4 80 (wM a g th L att T hs tm pl (fun _ => 0)) [.ref (a 0)] (fun r w1 => r = iI (rLz L) ∧ ∃ h', (∀ j, Ln L ≤ j → h' j = 0) ∧ w1 = wM a g th L att T h' tm pl (fun _ => 0)) := by
  refine z_ofI (cc := cX3_byRecurrences) (maxL := 2) (ret := (some .int)) (by decide) rfl (Nat.le_of_ble_eq_true rfl) ?_
  intro p e s m args below meth c A ls hx hb hr hts hown hlocks hml hP hK hD hS hA hl Q hQ
  have hown : s.vm.findClass RX3 = some m.cls := hown
  have hinX3 : ∀ w ∈ u_ws RX3 TX3 16, w ∈ wsX3_byRecurrences := by decide +kernel
  have hl : lv_has ls 2 [(0, .ref (a 0))] := hl
  refine z_ic hx hb dX3_byRecurrences_0 ?_
  refine lv_istore_n (lv' := [(1, .int (iI ((1 : Nat) : Int))), (0, .ref (a 0))]) hx hb dX3_byRecurrences_1 rfl hl (by decide) rfl (fun ls hl => ?_)
  have loop2 : ∀ (n2 : Nat) (t : Nat) (h' : Nat → Int) (H : Heap) (locs : List Loc) (ls : Array Slot), 201 - t < n2 → (1 ≤ t ∧ t ≤ 201) → (∀ j, Ln L ≤ j → h' j = 0) → (ffst (cv L) t (201 - t) = ffst (cv L) 1 200) → va_P D vwCl (wM a g th L att T h' tm pl (fun _ => 0)) H → va_D A (wM a g th L att T h' tm pl (fun _ => 0)) → va_S A s.heap H locs → lv_has ls 2 [(0, .ref (a 0)), (1, .int (iI ((t : Nat) : Int)))] → W p l e ({ frames := 4, cells := 0, slots := 0, locals := 80 } : Room) s m args below meth c H locs 0 0 Q (F0 m 2 ls []) := by
    intro n2
    induction n2 with
    | zero => exact fun _ _ H locs ls hn => absurd hn (Nat.not_lt_zero _)
    | succ n2 ih2 =>
      intro t h' H locs ls hn2 ht1 hz hf hP hD hS hl
      refine lv_iload_n hx hb dX3_byRecurrences_2 rfl (lv_at hl 1 rfl) ?_
      refine z_sip hx hb dX3_byRecurrences_3 (by decide) ?_
      refine z_icgt (a := ((t : Nat) : Int)) (b := 200) (tgt := 25) hx hb dX3_byRecurrences_6 (by decide) (by omega) (fun c_6 => ?_) (fun c_6 => ?_)
      · have hN : ffst (cv L) 1 200 = none := by rw [← hf, show 201 - t = 0 by omega]; rfl
        refine z_ic hx hb dX3_byRecurrences_25 ?_
        exact z_iret (w := (wM a g th L att T h' tm pl (fun _ => 0))) (v := (iI (-1))) hQ hx hb hr hlocks ⟨by unfold rLz; rw [hN], _, hz, rfl⟩ hK hP hD hS dX3_byRecurrences_26
      · have hstep : 201 - t = (201 - (t + 1)) + 1 := by omega
        refine lv_aload_n hx hb dX3_byRecurrences_9 rfl (lv_at hl 0 rfl) ?_
        refine lv_iload_n hx hb dX3_byRecurrences_10 rfl (lv_at hl 1 rfl) ?_
        refine z_calli (va_runV (As := [.int (iI ((t : Nat) : Int))]) (rest := []) ⟨hx, hb, hml, hown, hts⟩ (c_X3_findHeights l D g a th L att T h' tm pl t hw (by omega) hz _) (cwV 1 hts gX3_byRecurrences_X3_findHeights rfl rfl rfl (by decide +kernel) ⟨Nat.le_of_ble_eq_true rfl, Nat.le_of_ble_eq_true rfl⟩) (z_preV 0 hK hP hD rfl rfl) rfl rfl hl.1 rfl (lv_room (Nat.le_of_ble_eq_true rfl)) dX3_byRecurrences_11 ⟨Nat.zero_le _, Nat.zero_le _⟩) hS hD hA (fun r w1 H locs hw1 hP hD hS => ?_)
        obtain ⟨rfl, rfl⟩ := hw1
        refine z_ifeq (a := (bI (cv L t))) (tgt := 19) hx hb dX3_byRecurrences_14 (by decide) (bI_r _) (fun c_14 => ?_) (fun c_14 => ?_)
        · have b_14 := bI_f c_14
          refine z_iinc (a := ((t : Nat) : Int)) (b := ((t + 1 : Nat) : Int)) (lv' := [(1, .int (iI ((t + 1 : Nat) : Int))), (0, .ref (a 0))]) hx hb 1 dX3_byRecurrences_19 hl rfl rfl (by decide) rfl (fun ls hl => ?_)
          refine lv_goto (tgt := 2) hx hb dX3_byRecurrences_22 (by decide) ?_
          exact ih2 (t + 1) (hF L t) _ _ _ (by omega) (by omega) (hF_z hw t) (by rw [← hf, hstep]; exact (ffst_f b_14).symm) hP hD hS (lv_sub hl [1, 0] rfl)
        · have b_14 := bI_t c_14
          have hSm : ffst (cv L) 1 200 = some t := by rw [← hf, hstep]; exact ffst_t b_14
          refine lv_iload_n hx hb dX3_byRecurrences_17 rfl (lv_at hl 1 rfl) ?_
          exact z_iret (w := (wM a g th L att T (hF L t) tm pl (fun _ => 0))) (v := (iI ((t : Nat) : Int))) hQ hx hb hr hlocks ⟨by unfold rLz; rw [hSm], _, hF_z hw t, rfl⟩ hK hP hD hS dX3_byRecurrences_18
  exact loop2 ((201 - 1) + 1) 1 hs _ _ _ (Nat.lt_succ_self _) (by omega) hz0 rfl hP hD hS (lv_sub hl [1, 0] rfl)
set_option maxHeartbeats 4000000 in
set_option maxRecDepth 100000 in
theorem c_X3_recurrenceBound (l : Launch) (D : va_G) (g : Nat → ClassId) (a : Nat → Nat) (th : Int) (L : LD) (att T : Nat) (hs : Nat → Int) (tm : Nat → Nat) (pl : Nat → Bool)  (hw : wf L) (hz : ∀ j, Ln L ≤ j → hs j = 0) : zMi l D (zT g) yX3_recurrenceBound wsX3_recurrenceBound 5 101 (wM a g th L att T hs tm pl (fun _ => 0)) [.ref (a 0)] (fun r w1 => r = iI (rLz L) ∧ ∃ h', (∀ j, Ln L ≤ j → h' j = 0) ∧ w1 = wM a g 0 L att T h' tm pl (fun _ => 0)) := by
  refine z_ofI (cc := cX3_recurrenceBound) (maxL := 1) (ret := (some .int)) (by decide) rfl (Nat.le_of_ble_eq_true rfl) ?_
  intro p e s m args below meth c A ls hx hb hr hts hown hlocks hml hP hK hD hS hA hl Q hQ
  have hown : s.vm.findClass RX3 = some m.cls := hown
  have hinX3 : ∀ w ∈ u_ws RX3 TX3 16, w ∈ wsX3_recurrenceBound := by decide +kernel
  have hl : lv_has ls 1 [(0, .ref (a 0))] := hl
  refine lv_aload_n hx hb dX3_recurrenceBound_0 rfl (lv_at hl 0 rfl) ?_
  refine z_ic hx hb dX3_recurrenceBound_1 ?_
  refine va_put (D := D) (ci := 3) (v := .int (iI ((0 : Nat) : Int))) (ty := .int) (C := RX3) (T := TX3) (N := 16) hx hb hts hinX3 tyX3 tyX3_ok nmX3 hown hK hP hD hS 0 rfl rfl 0 (by decide) (hts (.fieldLink RX3 44 "LoopSchedulerModel" "thrown" "I") (List.mem_of_getElem? (i := 1) rfl)) (fun _ h9 => h9) rfl (by decide +kernel) rfl rfl (Nat.le_of_ble_eq_true rfl) dX3_recurrenceBound_2 (fun H locs hP hD hS => ?_)
  have hP : va_P D vwCl (wM a g 0 L att T hs tm pl (fun _ => 0)) H := hP
  have hD : va_D A (wM a g 0 L att T hs tm pl (fun _ => 0)) := hD
  refine lv_aload_n hx hb dX3_recurrenceBound_5 rfl (lv_at hl 0 rfl) ?_
  refine z_calli (va_runV (As := []) (rest := []) ⟨hx, hb, hml, hown, hts⟩ (c_X3_byRecurrences l D g a 0 L att T hs tm pl hw hz _) (cwV 0 hts gX3_recurrenceBound_X3_byRecurrences rfl rfl rfl (by decide +kernel) ⟨Nat.le_of_ble_eq_true rfl, Nat.le_of_ble_eq_true rfl⟩) (z_preV 0 hK hP hD rfl rfl) rfl rfl hl.1 rfl (lv_room (Nat.le_of_ble_eq_true rfl)) dX3_recurrenceBound_6 ⟨Nat.zero_le _, Nat.zero_le _⟩) hS hD hA (fun r w1 H locs hw1 hP hD hS => ?_)
  obtain ⟨rfl, h', hz', rfl⟩ := hw1
  exact z_iret (w := (wM a g 0 L att T h' tm pl (fun _ => 0))) (v := (iI (rLz L))) hQ hx hb hr hlocks ⟨rfl, _, hz', rfl⟩ hK hP hD hS dX3_recurrenceBound_9
set_option maxHeartbeats 4000000 in
set_option maxRecDepth 100000 in
theorem c_X3_height (l : Launch) (D : va_G) (g : Nat → ClassId) (a : Nat → Nat) (th : Int) (L : LD) (att T : Nat) (hs : Nat → Int) (tm : Nat → Nat) (pl : Nat → Bool) (i u : Int) (hw : wf L) (hz : ∀ j, Ln L ≤ j → hs j = 0) (hri : -2147483648 ≤ i ∧ i < 2147483648) (hru : -2147483648 ≤ u ∧ u < 2147483648) : zMi l D (zT g) yX3_height wsX3_height 5 101 (wM a g th L att T hs tm pl (fun _ => 0)) [.ref (a 0), .int (iI (i)), .int (iI (u))] (fun r w1 => (¬ (0 ≤ i ∧ i < (Ln L : Int)) ∧ w1 = wM a g 1 L att T hs tm pl (fun _ => 0)) ∨ ((0 ≤ i ∧ i < (Ln L : Int)) ∧ (rLz L = -1 ∨ u < rLz L ∨ 200 < u) ∧ ∃ h', (∀ j, Ln L ≤ j → h' j = 0) ∧ w1 = wM a g 2 L att T h' tm pl (fun _ => 0)) ∨ ((0 ≤ i ∧ i < (Ln L : Int)) ∧ ¬ (rLz L = -1 ∨ u < rLz L ∨ 200 < u) ∧ r = iI (hF L u.toNat i.toNat) ∧ w1 = wM a g 0 L att T (hF L u.toNat) tm pl (fun _ => 0))) := by
  refine z_ofI (cc := cX3_height) (maxL := 4) (ret := (some .int)) (by decide) rfl (Nat.le_of_ble_eq_true rfl) ?_
  intro p e s m args below meth c A ls hx hb hr hts hown hlocks hml hP hK hD hS hA hl Q hQ
  have hown : s.vm.findClass RX3 = some m.cls := hown
  have hinX3 : ∀ w ∈ u_ws RX3 TX3 16, w ∈ wsX3_height := by decide +kernel
  have hl : lv_has ls 4 [(0, .ref (a 0)), (1, .int (iI (i))), (2, .int (iI (u)))] := hl
  have hwn := wf_n hw
  have hrb := rLz_bd L
  refine lv_aload_n hx hb dX3_height_0 rfl (lv_at hl 0 rfl) ?_
  refine z_ic hx hb dX3_height_1 ?_
  refine va_put (D := D) (ci := 3) (v := .int (iI ((0 : Nat) : Int))) (ty := .int) (C := RX3) (T := TX3) (N := 16) hx hb hts hinX3 tyX3 tyX3_ok nmX3 hown hK hP hD hS 0 rfl rfl 0 (by decide) (hts (.fieldLink RX3 44 "LoopSchedulerModel" "thrown" "I") (List.mem_of_getElem? (i := 1) rfl)) (fun _ h9 => h9) rfl (by decide +kernel) rfl rfl (Nat.le_of_ble_eq_true rfl) dX3_height_2 (fun H locs hP hD hS => ?_)
  have hP : va_P D vwCl (wM a g 0 L att T hs tm pl (fun _ => 0)) H := hP
  have hD : va_D A (wM a g 0 L att T hs tm pl (fun _ => 0)) := hD
  refine lv_aload_n hx hb dX3_height_5 rfl (lv_at hl 0 rfl) ?_
  refine lv_iload_n hx hb dX3_height_6 rfl (lv_at hl 1 rfl) ?_
  refine z_calli (va_runV (As := [.int (iI (i))]) (rest := []) ⟨hx, hb, hml, hown, hts⟩ (c_X3_isOperation l D g a 0 L att T hs tm pl i hw (by omega) _) (cwV 1 hts gX3_height_X3_isOperation rfl rfl rfl (by decide +kernel) ⟨Nat.le_of_ble_eq_true rfl, Nat.le_of_ble_eq_true rfl⟩) (z_preV 0 hK hP hD rfl rfl) rfl rfl hl.1 rfl (lv_room (Nat.le_of_ble_eq_true rfl)) dX3_height_7 ⟨Nat.zero_le _, Nat.zero_le _⟩) hS hD hA (fun r w1 H locs hw1 hP hD hS => ?_)
  obtain ⟨rfl, rfl⟩ := hw1
  refine z_ifne (a := (bI (decide (0 ≤ i ∧ i < ((Ln L : Nat) : Int))))) (tgt := 19) hx hb dX3_height_10 (by decide) (bI_r _) (fun c_10 => ?_) (fun c_10 => ?_)
  · have d_10 := of_decide_eq_true (bI_t c_10)
    refine lv_aload_n hx hb dX3_height_19 rfl (lv_at hl 0 rfl) ?_
    refine z_calli (va_runV (As := []) (rest := []) ⟨hx, hb, hml, hown, hts⟩ (c_X3_byRecurrences l D g a 0 L att T hs tm pl hw hz _) (cwV 0 hts gX3_height_X3_byRecurrences rfl rfl rfl (by decide +kernel) ⟨Nat.le_of_ble_eq_true rfl, Nat.le_of_ble_eq_true rfl⟩) (z_preV 0 hK hP hD rfl rfl) rfl rfl hl.1 rfl (lv_room (Nat.le_of_ble_eq_true rfl)) dX3_height_20 ⟨Nat.zero_le _, Nat.zero_le _⟩) hS hD hA (fun r w1 H locs hw1 hP hD hS => ?_)
    obtain ⟨rfl, h', hz', rfl⟩ := hw1
    refine lv_istore_n (lv' := [(3, .int (iI (rLz L))), (0, .ref (a 0)), (1, .int (iI (i))), (2, .int (iI (u)))]) hx hb dX3_height_23 rfl hl (by decide) rfl (fun ls hl => ?_)
    refine lv_iload_n hx hb dX3_height_24 rfl (lv_at hl 0 rfl) ?_
    refine z_ic hx hb dX3_height_25 ?_
    refine z_iceq (a := (rLz L)) (b := (-1)) (tgt := 40) hx hb dX3_height_26 (by decide) (by omega) (fun c_26 => ?_) (fun c_26 => ?_)
    · refine lv_aload_n hx hb dX3_height_40 rfl (lv_at hl 1 rfl) ?_
      refine z_ic hx hb dX3_height_41 ?_
      refine z_calli (va_runV (As := [.int (iI ((2 : Nat) : Int))]) (rest := []) ⟨hx, hb, hml, hown, hts⟩ (c_X3_no l D g a 0 L att T h' tm pl 2 _) (cwV 1 hts gX3_height_X3_no rfl rfl rfl (by decide +kernel) ⟨Nat.le_of_ble_eq_true rfl, Nat.le_of_ble_eq_true rfl⟩) (z_preV 0 hK hP hD rfl rfl) rfl rfl hl.1 rfl (lv_room (Nat.le_of_ble_eq_true rfl)) dX3_height_42 ⟨Nat.zero_le _, Nat.zero_le _⟩) hS hD hA (fun r w1 H locs hw1 hP hD hS => ?_)
      obtain ⟨rfl, rfl⟩ := hw1
      exact z_iret (w := (wM a g 2 L att T h' tm pl (fun _ => 0))) (v := (iI ((0 : Nat) : Int))) hQ hx hb hr hlocks (Or.inr (Or.inl ⟨by omega, by omega, _, hz', rfl⟩)) hK hP hD hS dX3_height_45
    · refine lv_iload_n hx hb dX3_height_29 rfl (lv_at hl 3 rfl) ?_
      refine lv_iload_n hx hb dX3_height_30 rfl (lv_at hl 0 rfl) ?_
      refine z_sip hx hb dX3_height_31 (by decide) ?_
      refine z_calli (va_runS (As := [.int (iI (u)), .int (iI (rLz L)), .int (iI ((200 : Nat) : Int))]) (rest := []) ⟨hx, hb, hml, hown, hts⟩ (c_X3_isIn l D g a 0 L att T h' tm pl u (rLz L) 200 (by omega) (by omega) (by omega) _) (va_cwS 3 hts gX3_height_X3_isIn rfl rfl rfl (by decide +kernel) ⟨Nat.le_of_ble_eq_true rfl, Nat.le_of_ble_eq_true rfl⟩) (z_preS hK hP hD) rfl rfl hl.1 rfl (lv_room (Nat.le_of_ble_eq_true rfl)) dX3_height_34 ⟨Nat.zero_le _, Nat.zero_le _⟩) hS hD hA (fun r w1 H locs hw1 hP hD hS => ?_)
      obtain ⟨rfl, rfl⟩ := hw1
      refine z_ifne (a := (bI (decide ((rLz L) ≤ u ∧ u ≤ 200)))) (tgt := 46) hx hb dX3_height_37 (by decide) (bI_r _) (fun c_37 => ?_) (fun c_37 => ?_)
      · have d_37 := of_decide_eq_true (bI_t c_37)
        obtain ⟨j, rfl⟩ : ∃ j : Nat, i = (j : Int) := ⟨i.toNat, by omega⟩
        obtain ⟨v, rfl⟩ : ∃ v : Nat, u = (v : Int) := ⟨u.toNat, by omega⟩
        refine lv_aload_n hx hb dX3_height_46 rfl (lv_at hl 1 rfl) ?_
        refine lv_iload_n hx hb dX3_height_47 rfl (lv_at hl 3 rfl) ?_
        refine z_calli (va_runV (As := [.int (iI ((v : Nat) : Int))]) (rest := []) ⟨hx, hb, hml, hown, hts⟩ (c_X3_findHeights l D g a 0 L att T h' tm pl v hw (by omega) hz' _) (cwV 1 hts gX3_height_X3_findHeights rfl rfl rfl (by decide +kernel) ⟨Nat.le_of_ble_eq_true rfl, Nat.le_of_ble_eq_true rfl⟩) (z_preV 0 hK hP hD rfl rfl) rfl rfl hl.1 rfl (lv_room (Nat.le_of_ble_eq_true rfl)) dX3_height_48 ⟨Nat.zero_le _, Nat.zero_le _⟩) hS hD hA (fun r w1 H locs hw1 hP hD hS => ?_)
        obtain ⟨rfl, rfl⟩ := hw1
        refine lv_pop hx hb dX3_height_51 rfl ?_
        refine lv_aload_n hx hb dX3_height_52 rfl (lv_at hl 1 rfl) ?_
        refine va_get (D := D) (ci := 3) (v := .ref (a 9)) (C := RX3) (T := TX3) (N := 16) hx hb hts hinX3 hown hK hP 0 rfl rfl 13 (by decide) (hts (.fieldLink RX3 34 "LoopSchedulerModel" "heights" "[I") (List.mem_of_getElem? (i := 2) rfl)) (fun _ h9 => h9) rfl dX3_height_53 ?_
        refine lv_iload_n hx hb dX3_height_56 rfl (lv_at hl 2 rfl) ?_
        refine z_ialdN (f := (hF L v)) (z := j) hx hb hK hP 9 0 rfl rfl (by omega) (by decide) dX3_height_57 ?_
        exact z_iret (w := (wM a g 0 L att T (hF L v) tm pl (fun _ => 0))) (v := (iI ((hF L v) j))) hQ hx hb hr hlocks (Or.inr (Or.inr ⟨by omega, by omega, rfl, rfl⟩)) hK hP hD hS dX3_height_58
      · have d_37 := of_decide_eq_false (bI_f c_37)
        refine lv_aload_n hx hb dX3_height_40 rfl (lv_at hl 1 rfl) ?_
        refine z_ic hx hb dX3_height_41 ?_
        refine z_calli (va_runV (As := [.int (iI ((2 : Nat) : Int))]) (rest := []) ⟨hx, hb, hml, hown, hts⟩ (c_X3_no l D g a 0 L att T h' tm pl 2 _) (cwV 1 hts gX3_height_X3_no rfl rfl rfl (by decide +kernel) ⟨Nat.le_of_ble_eq_true rfl, Nat.le_of_ble_eq_true rfl⟩) (z_preV 0 hK hP hD rfl rfl) rfl rfl hl.1 rfl (lv_room (Nat.le_of_ble_eq_true rfl)) dX3_height_42 ⟨Nat.zero_le _, Nat.zero_le _⟩) hS hD hA (fun r w1 H locs hw1 hP hD hS => ?_)
        obtain ⟨rfl, rfl⟩ := hw1
        exact z_iret (w := (wM a g 2 L att T h' tm pl (fun _ => 0))) (v := (iI ((0 : Nat) : Int))) hQ hx hb hr hlocks (Or.inr (Or.inl ⟨by omega, by omega, _, hz', rfl⟩)) hK hP hD hS dX3_height_45
  · have d_10 := of_decide_eq_false (bI_f c_10)
    refine lv_aload_n hx hb dX3_height_13 rfl (lv_at hl 0 rfl) ?_
    refine z_ic hx hb dX3_height_14 ?_
    refine z_calli (va_runV (As := [.int (iI ((1 : Nat) : Int))]) (rest := []) ⟨hx, hb, hml, hown, hts⟩ (c_X3_no l D g a 0 L att T hs tm pl 1 _) (cwV 1 hts gX3_height_X3_no rfl rfl rfl (by decide +kernel) ⟨Nat.le_of_ble_eq_true rfl, Nat.le_of_ble_eq_true rfl⟩) (z_preV 0 hK hP hD rfl rfl) rfl rfl hl.1 rfl (lv_room (Nat.le_of_ble_eq_true rfl)) dX3_height_15 ⟨Nat.zero_le _, Nat.zero_le _⟩) hS hD hA (fun r w1 H locs hw1 hP hD hS => ?_)
    obtain ⟨rfl, rfl⟩ := hw1
    exact z_iret (w := (wM a g 1 L att T hs tm pl (fun _ => 0))) (v := (iI ((0 : Nat) : Int))) hQ hx hb hr hlocks (Or.inl ⟨by omega, rfl⟩) hK hP hD hS dX3_height_18
set_option maxHeartbeats 4000000 in
set_option maxRecDepth 100000 in
theorem c_X3_count (l : Launch) (D : va_G) (g : Nat → ClassId) (a : Nat → Nat) (th : Int) (L : LD) (att T : Nat) (hs : Nat → Int) (tm : Nat → Nat) (pl : Nat → Bool) (cn : Nat → Int) (i t : Nat) (b C : Int) (hw : wf L) (hi : i < 14) (htt : 0 < t ∧ t ≤ 200) (hb0 : b = 1 ∨ b = -1) (hC : C ≤ 100000) (hcn : ∀ y, -C ≤ cn y ∧ cn y ≤ C) (htm : pl i = true → tm i ≤ 2000000) : zMi l D (zT g) yX3_count wsX3_count 1 12 (wM a g th L att T hs tm pl cn) [.ref (a 0), .int (iI ((i : Nat) : Int)), .int (iI ((t : Nat) : Int)), .int (iI (b))] (fun r w1 => r = iI (bI (iK L t tm i b cn (bq L pl i))) ∧ w1 = wM a g th L att T hs tm pl (cK L t tm i b cn (bq L pl i))) := by
  refine z_ofI (cc := cX3_count) (maxL := 7) (ret := (some .boolean)) (by decide) rfl (Nat.le_of_ble_eq_true rfl) ?_
  intro p e s m args below meth c A ls hx hb hr hts hown hlocks hml hP hK hD hS hA hl Q hQ
  have hown : s.vm.findClass RX3 = some m.cls := hown
  have hinX3 : ∀ w ∈ u_ws RX3 TX3 16, w ∈ wsX3_count := by decide +kernel
  have hl : lv_has ls 7 [(0, .ref (a 0)), (1, .int (iI ((i : Nat) : Int))), (2, .int (iI ((t : Nat) : Int))), (3, .int (iI (b)))] := hl
  refine z_ic hx hb dX3_count_0 ?_
  refine lv_istore (lv' := [(4, .int (iI ((1 : Nat) : Int))), (0, .ref (a 0)), (1, .int (iI ((i : Nat) : Int))), (2, .int (iI ((t : Nat) : Int))), (3, .int (iI (b)))]) hx hb dX3_count_1 hl (by decide) rfl (fun ls hl => ?_)
  refine z_ic hx hb dX3_count_3 ?_
  refine lv_istore (lv' := [(5, .int (iI ((0 : Nat) : Int))), (4, .int (iI ((1 : Nat) : Int))), (0, .ref (a 0)), (1, .int (iI ((i : Nat) : Int))), (2, .int (iI ((t : Nat) : Int))), (3, .int (iI (b)))]) hx hb dX3_count_4 hl (by decide) rfl (fun ls hl => ?_)
  have loop6 : ∀ (n6 : Nat) (q : Nat) (H : Heap) (locs : List Loc) (ls : Array Slot), bq L pl i - q < n6 → (q ≤ bq L pl i) → va_P D vwCl (wM a g th L att T hs tm pl (cK L t tm i b cn q)) H → va_D A (wM a g th L att T hs tm pl (cK L t tm i b cn q)) → va_S A s.heap H locs → lv_has ls 7 [(0, .ref (a 0)), (1, .int (iI ((i : Nat) : Int))), (2, .int (iI ((t : Nat) : Int))), (3, .int (iI (b))), (4, .int (iI (bI (iK L t tm i b cn q)))), (5, .int (iI ((q : Nat) : Int)))] → W p l e ({ frames := 1, cells := 0, slots := 0, locals := 12 } : Room) s m args below meth c H locs 0 0 Q (F0 m 6 ls []) := by
    intro n6
    induction n6 with
    | zero => exact fun _ H locs ls hn => absurd hn (Nat.not_lt_zero _)
    | succ n6 ih6 =>
      intro q H locs ls hn6 hq hP hD hS hl
      have hby := wf_by hw i
      have hkd := wf_kd hw i
      have hu := wf_u hw _ hkd
      have hmod := Nat.mod_lt (tm i + q) htt.1
      have hcb := cK_bd (L := L) (t := t) (tm := tm) (i := i) (b := b) (by omega) hcn q (cx L t tm i q)
      have hcb2 := cK_bd (L := L) (t := t) (tm := tm) (i := i) (b := b) (by omega) hcn (q + 1) (cx L t tm i q)
      have hcx : cx L t tm i q = 200 * Lkd L i + (tm i + q) % t := rfl
      have hbl := bq_le L pl i
      refine lv_iload hx hb dX3_count_6 (lv_at hl 5 rfl) ?_
      refine lv_aload_n hx hb dX3_count_8 rfl (lv_at hl 0 rfl) ?_
      refine va_get (D := D) (ci := 3) (v := .ref (a 3)) (C := RX3) (T := TX3) (N := 16) hx hb hts hinX3 hown hK hP 0 rfl rfl 4 (by decide) (hts (.fieldLink RX3 16 "LoopSchedulerModel" "busy" "[I") (List.mem_of_getElem? (i := 1) rfl)) (fun _ h9 => h9) rfl dX3_count_9 ?_
      refine lv_iload_n hx hb dX3_count_12 rfl (lv_at hl 1 rfl) ?_
      refine z_ialdZ (f := Lby L) (z := i) hx hb hK hP 3 0 rfl rfl (by omega) (by decide) dX3_count_13 ?_
      refine z_icge (a := ((q : Nat) : Int)) (b := ((Lby L i : Nat) : Int)) (tgt := 102) hx hb dX3_count_14 (by decide) (by omega) (fun c_14 => ?_) (fun c_14 => ?_)
      · have hend : q = bq L pl i := by omega
        obtain rfl : q = bq L pl i := hend
        refine lv_iload hx hb dX3_count_102 (lv_at hl 4 rfl) ?_
        exact z_zret (w := (wM a g th L att T hs tm pl (cK L t tm i b cn (bq L pl i)))) (v := (iI (bI (iK L t tm i b cn (bq L pl i))))) (z_nb _) hQ hx hb hr hlocks ⟨rfl, rfl⟩ hK hP hD hS dX3_count_104
      · refine lv_aload_n hx hb dX3_count_17 rfl (lv_at hl 0 rfl) ?_
        refine va_get (D := D) (ci := 3) (v := .ref (a 10)) (C := RX3) (T := TX3) (N := 16) hx hb hts hinX3 hown hK hP 0 rfl rfl 14 (by decide) (hts (.fieldLink RX3 37 "LoopSchedulerModel" "isPlaced" "[Z") (List.mem_of_getElem? (i := 2) rfl)) (fun _ h9 => h9) rfl dX3_count_18 ?_
        refine lv_iload_n hx hb dX3_count_21 rfl (lv_at hl 1 rfl) ?_
        refine z_bald (f := pl) (z := i) hx hb hK hP 10 2 rfl rfl (by omega) (by decide) dX3_count_22 ?_
        refine z_ifeq (a := (bI (pl i))) (tgt := 102) hx hb dX3_count_23 (by decide) (bI_r _) (fun c_23 => ?_) (fun c_23 => ?_)
        · have b_23 := bI_f c_23
          have hbz := bq_f (L := L) b_23
          have hend : q = bq L pl i := by omega
          obtain rfl : q = bq L pl i := hend
          refine lv_iload hx hb dX3_count_102 (lv_at hl 4 rfl) ?_
          exact z_zret (w := (wM a g th L att T hs tm pl (cK L t tm i b cn (bq L pl i)))) (v := (iI (bI (iK L t tm i b cn (bq L pl i))))) (z_nb _) hQ hx hb hr hlocks ⟨rfl, rfl⟩ hK hP hD hS dX3_count_104
        · have b_23 := bI_t c_23
          have hbz := bq_t (L := L) b_23
          have htmi := htm b_23
          refine z_sip hx hb dX3_count_26 (by decide) ?_
          refine lv_aload_n hx hb dX3_count_29 rfl (lv_at hl 0 rfl) ?_
          refine va_get (D := D) (ci := 3) (v := .ref (a 2)) (C := RX3) (T := TX3) (N := 16) hx hb hts hinX3 hown hK hP 0 rfl rfl 3 (by decide) (hts (.fieldLink RX3 13 "LoopSchedulerModel" "kinds" "[I") (List.mem_of_getElem? (i := 3) rfl)) (fun _ h9 => h9) rfl dX3_count_30 ?_
          refine lv_iload_n hx hb dX3_count_33 rfl (lv_at hl 1 rfl) ?_
          refine z_ialdZ (f := Lkd L) (z := i) hx hb hK hP 2 0 rfl rfl (by omega) (by decide) dX3_count_34 ?_
          refine z_mul (a := 200) (b := ((Lkd L i : Nat) : Int)) hx hb dX3_count_35 ?_
          refine z_eqI (y := iI ((200 * Lkd L i : Nat) : Int)) (congrArg iI (by omega)) ?_
          refine lv_aload_n hx hb dX3_count_36 rfl (lv_at hl 0 rfl) ?_
          refine va_get (D := D) (ci := 3) (v := .ref (a 8)) (C := RX3) (T := TX3) (N := 16) hx hb hts hinX3 hown hK hP 0 rfl rfl 11 (by decide) (hts (.fieldLink RX3 31 "LoopSchedulerModel" "times" "[I") (List.mem_of_getElem? (i := 4) rfl)) (fun _ h9 => h9) rfl dX3_count_37 ?_
          refine lv_iload_n hx hb dX3_count_40 rfl (lv_at hl 1 rfl) ?_
          refine z_ialdZ (f := tm) (z := i) hx hb hK hP 8 0 rfl rfl (by omega) (by decide) dX3_count_41 ?_
          refine lv_iload hx hb dX3_count_42 (lv_at hl 5 rfl) ?_
          refine z_add (a := ((tm i : Nat) : Int)) (b := ((q : Nat) : Int)) hx hb dX3_count_44 ?_
          refine z_eqI (y := iI ((tm i + q : Nat) : Int)) (congrArg iI (by omega)) ?_
          refine lv_iload_n hx hb dX3_count_45 rfl (lv_at hl 2 rfl) ?_
          refine z_rem (a := ((tm i + q : Nat) : Int)) (b := ((t : Nat) : Int)) hx hb (by omega) dX3_count_46 ?_
          refine z_eqI (y := iI (((tm i + q) % t : Nat) : Int)) (congrArg iI (Int.natCast_emod _ _).symm) ?_
          refine z_add (a := ((200 * Lkd L i : Nat) : Int)) (b := (((tm i + q) % t : Nat) : Int)) hx hb dX3_count_47 ?_
          refine z_eqI (y := iI ((cx L t tm i q : Nat) : Int)) (congrArg iI (show _ = ((200 * Lkd L i + (tm i + q) % t : Nat) : Int) from (Int.natCast_add _ _).symm)) ?_
          refine lv_istore (lv' := [(6, .int (iI ((cx L t tm i q : Nat) : Int))), (0, .ref (a 0)), (1, .int (iI ((i : Nat) : Int))), (2, .int (iI ((t : Nat) : Int))), (3, .int (iI (b))), (4, .int (iI (bI (iK L t tm i b cn q)))), (5, .int (iI ((q : Nat) : Int)))]) hx hb dX3_count_48 hl (by decide) rfl (fun ls hl => ?_)
          refine lv_aload_n hx hb dX3_count_50 rfl (lv_at hl 1 rfl) ?_
          refine va_get (D := D) (ci := 3) (v := .ref (a 11)) (C := RX3) (T := TX3) (N := 16) hx hb hts hinX3 hown hK hP 0 rfl rfl 15 (by decide) (hts (.fieldLink RX3 41 "LoopSchedulerModel" "counts" "[I") (List.mem_of_getElem? (i := 5) rfl)) (fun _ h9 => h9) rfl dX3_count_51 ?_
          refine lv_iload hx hb dX3_count_54 (lv_at hl 0 rfl) ?_
          refine lv_dup2_11 hx hb dX3_count_56 rfl rfl ?_
          refine z_ialdN (f := (cK L t tm i b cn q)) (z := cx L t tm i q) hx hb hK hP 11 0 rfl rfl (by omega) (by decide) dX3_count_57 ?_
          refine lv_iload_n hx hb dX3_count_58 rfl (lv_at hl 4 rfl) ?_
          refine z_add (a := ((cK L t tm i b cn q) (cx L t tm i q))) (b := b) hx hb dX3_count_59 ?_
          refine z_iastN (f := (cK L t tm i b cn q)) (z := cx L t tm i q) (v := (((cK L t tm i b cn q) (cx L t tm i q)) + b)) hx hb hK hP hD hS 11 0 rfl rfl (by omega) (by decide) dX3_count_60 (fun H locs hP hD hS => ?_)
          have hP : va_P D vwCl (wM a g th L att T hs tm pl (upZ (cK L t tm i b cn q) (cx L t tm i q) (((cK L t tm i b cn q) (cx L t tm i q)) + b))) H := hP
          have hD : va_D A (wM a g th L att T hs tm pl (upZ (cK L t tm i b cn q) (cx L t tm i q) (((cK L t tm i b cn q) (cx L t tm i q)) + b))) := hD
          have ew : (cK L t tm i b cn (q + 1)) = upZ (cK L t tm i b cn q) (cx L t tm i q) (((cK L t tm i b cn q) (cx L t tm i q)) + b) := rfl
          have hP : va_P D vwCl (wM a g th L att T hs tm pl (cK L t tm i b cn (q + 1))) H := Eq.mp (congrArg (fun z9 => va_P D vwCl (wM a g th L att T hs tm pl z9) H) ew.symm) hP
          have hD : va_D A (wM a g th L att T hs tm pl (cK L t tm i b cn (q + 1))) := Eq.mp (congrArg (fun z9 => va_D A (wM a g th L att T hs tm pl z9)) ew.symm) hD
          refine lv_iload hx hb dX3_count_61 (lv_at hl 5 rfl) ?_
          refine lv_iload_n hx hb dX3_count_63 rfl (lv_at hl 4 rfl) ?_
          refine z_iflt (a := b) (tgt := 88) hx hb dX3_count_64 (by decide) (by omega) (fun c_64 => ?_) (fun c_64 => ?_)
          · refine z_ic hx hb dX3_count_88 ?_
            refine lv_goto (tgt := 93) hx hb dX3_count_89 (by decide) ?_
            refine lv_iand hx hb dX3_count_93 ?_
            refine z_eqI (y := iI (bI ((iK L t tm i b cn q) && true))) (iI_and (iK L t tm i b cn q) true) ?_
            refine lv_istore (lv' := [(4, .int (iI (bI ((iK L t tm i b cn q) && true)))), (6, .int (iI ((cx L t tm i q : Nat) : Int))), (0, .ref (a 0)), (1, .int (iI ((i : Nat) : Int))), (2, .int (iI ((t : Nat) : Int))), (3, .int (iI (b))), (5, .int (iI ((q : Nat) : Int)))]) hx hb dX3_count_94 hl (by decide) rfl (fun ls hl => ?_)
            have hl : lv_has ls 7 [(4, .int (iI (bI (iK L t tm i b cn (q + 1))))), (6, .int (iI ((cx L t tm i q : Nat) : Int))), (0, .ref (a 0)), (1, .int (iI ((i : Nat) : Int))), (2, .int (iI ((t : Nat) : Int))), (3, .int (iI (b))), (5, .int (iI ((q : Nat) : Int)))] := by rw [show ((bI (iK L t tm i b cn (q + 1))) : Int) = (bI ((iK L t tm i b cn q) && true)) from (by rw [iK_s, decide_eq_true (show b < 0 ∨ cK L t tm i b cn (q + 1) (cx L t tm i q) ≤ (Lu L (Lkd L i) : Int) from Or.inl c_64)])]; exact hl
            refine z_iinc (a := ((q : Nat) : Int)) (b := ((q + 1 : Nat) : Int)) (lv' := [(5, .int (iI ((q + 1 : Nat) : Int))), (4, .int (iI (bI (iK L t tm i b cn (q + 1))))), (6, .int (iI ((cx L t tm i q : Nat) : Int))), (0, .ref (a 0)), (1, .int (iI ((i : Nat) : Int))), (2, .int (iI ((t : Nat) : Int))), (3, .int (iI (b)))]) hx hb 6 dX3_count_96 hl rfl rfl (by decide) rfl (fun ls hl => ?_)
            refine lv_goto (tgt := 6) hx hb dX3_count_99 (by decide) ?_
            exact ih6 (q + 1) _ _ _ (by omega) (by omega) hP hD hS (lv_sub hl [3, 4, 5, 6, 1, 0] rfl)
          · refine lv_aload_n hx hb dX3_count_67 rfl (lv_at hl 1 rfl) ?_
            refine va_get (D := D) (ci := 3) (v := .ref (a 11)) (C := RX3) (T := TX3) (N := 16) hx hb hts hinX3 hown hK hP 0 rfl rfl 15 (by decide) (hts (.fieldLink RX3 41 "LoopSchedulerModel" "counts" "[I") (List.mem_of_getElem? (i := 5) rfl)) (fun _ h9 => h9) rfl dX3_count_68 ?_
            refine lv_iload hx hb dX3_count_71 (lv_at hl 0 rfl) ?_
            refine z_ialdN (f := (cK L t tm i b cn (q + 1))) (z := cx L t tm i q) hx hb hK hP 11 0 rfl rfl (by omega) (by decide) dX3_count_73 ?_
            refine lv_aload_n hx hb dX3_count_74 rfl (lv_at hl 1 rfl) ?_
            refine va_get (D := D) (ci := 3) (v := .ref (a 1)) (C := RX3) (T := TX3) (N := 16) hx hb hts hinX3 hown hK hP 0 rfl rfl 1 (by decide) (hts (.fieldLink RX3 7 "LoopSchedulerModel" "units" "[I") (List.mem_of_getElem? (i := 6) rfl)) (fun _ h9 => h9) rfl dX3_count_75 ?_
            refine lv_aload_n hx hb dX3_count_78 rfl (lv_at hl 1 rfl) ?_
            refine va_get (D := D) (ci := 3) (v := .ref (a 2)) (C := RX3) (T := TX3) (N := 16) hx hb hts hinX3 hown hK hP 0 rfl rfl 3 (by decide) (hts (.fieldLink RX3 13 "LoopSchedulerModel" "kinds" "[I") (List.mem_of_getElem? (i := 3) rfl)) (fun _ h9 => h9) rfl dX3_count_79 ?_
            refine lv_iload_n hx hb dX3_count_82 rfl (lv_at hl 2 rfl) ?_
            refine z_ialdZ (f := Lkd L) (z := i) hx hb hK hP 2 0 rfl rfl (by omega) (by decide) dX3_count_83 ?_
            refine z_ialdZ (f := Lu L) (z := Lkd L i) hx hb hK hP 1 0 rfl rfl (by omega) (by decide) dX3_count_84 ?_
            refine z_icgt (a := ((cK L t tm i b cn (q + 1)) (cx L t tm i q))) (b := ((Lu L (Lkd L i) : Nat) : Int)) (tgt := 92) hx hb dX3_count_85 (by decide) (by omega) (fun c_85 => ?_) (fun c_85 => ?_)
            · refine z_ic hx hb dX3_count_92 ?_
              refine lv_iand hx hb dX3_count_93 ?_
              refine z_eqI (y := iI (bI ((iK L t tm i b cn q) && false))) (iI_and (iK L t tm i b cn q) false) ?_
              refine lv_istore (lv' := [(4, .int (iI (bI ((iK L t tm i b cn q) && false)))), (6, .int (iI ((cx L t tm i q : Nat) : Int))), (0, .ref (a 0)), (1, .int (iI ((i : Nat) : Int))), (2, .int (iI ((t : Nat) : Int))), (3, .int (iI (b))), (5, .int (iI ((q : Nat) : Int)))]) hx hb dX3_count_94 hl (by decide) rfl (fun ls hl => ?_)
              have hl : lv_has ls 7 [(4, .int (iI (bI (iK L t tm i b cn (q + 1))))), (6, .int (iI ((cx L t tm i q : Nat) : Int))), (0, .ref (a 0)), (1, .int (iI ((i : Nat) : Int))), (2, .int (iI ((t : Nat) : Int))), (3, .int (iI (b))), (5, .int (iI ((q : Nat) : Int)))] := by rw [show ((bI (iK L t tm i b cn (q + 1))) : Int) = (bI ((iK L t tm i b cn q) && false)) from (by rw [iK_s, decide_eq_false (show ¬ (b < 0 ∨ cK L t tm i b cn (q + 1) (cx L t tm i q) ≤ (Lu L (Lkd L i) : Int)) by omega)])]; exact hl
              refine z_iinc (a := ((q : Nat) : Int)) (b := ((q + 1 : Nat) : Int)) (lv' := [(5, .int (iI ((q + 1 : Nat) : Int))), (4, .int (iI (bI (iK L t tm i b cn (q + 1))))), (6, .int (iI ((cx L t tm i q : Nat) : Int))), (0, .ref (a 0)), (1, .int (iI ((i : Nat) : Int))), (2, .int (iI ((t : Nat) : Int))), (3, .int (iI (b)))]) hx hb 6 dX3_count_96 hl rfl rfl (by decide) rfl (fun ls hl => ?_)
              refine lv_goto (tgt := 6) hx hb dX3_count_99 (by decide) ?_
              exact ih6 (q + 1) _ _ _ (by omega) (by omega) hP hD hS (lv_sub hl [3, 4, 5, 6, 1, 0] rfl)
            · refine z_ic hx hb dX3_count_88 ?_
              refine lv_goto (tgt := 93) hx hb dX3_count_89 (by decide) ?_
              refine lv_iand hx hb dX3_count_93 ?_
              refine z_eqI (y := iI (bI ((iK L t tm i b cn q) && true))) (iI_and (iK L t tm i b cn q) true) ?_
              refine lv_istore (lv' := [(4, .int (iI (bI ((iK L t tm i b cn q) && true)))), (6, .int (iI ((cx L t tm i q : Nat) : Int))), (0, .ref (a 0)), (1, .int (iI ((i : Nat) : Int))), (2, .int (iI ((t : Nat) : Int))), (3, .int (iI (b))), (5, .int (iI ((q : Nat) : Int)))]) hx hb dX3_count_94 hl (by decide) rfl (fun ls hl => ?_)
              have hl : lv_has ls 7 [(4, .int (iI (bI (iK L t tm i b cn (q + 1))))), (6, .int (iI ((cx L t tm i q : Nat) : Int))), (0, .ref (a 0)), (1, .int (iI ((i : Nat) : Int))), (2, .int (iI ((t : Nat) : Int))), (3, .int (iI (b))), (5, .int (iI ((q : Nat) : Int)))] := by rw [show ((bI (iK L t tm i b cn (q + 1))) : Int) = (bI ((iK L t tm i b cn q) && true)) from (by rw [iK_s, decide_eq_true (show b < 0 ∨ cK L t tm i b cn (q + 1) (cx L t tm i q) ≤ (Lu L (Lkd L i) : Int) from Or.inr (by omega))])]; exact hl
              refine z_iinc (a := ((q : Nat) : Int)) (b := ((q + 1 : Nat) : Int)) (lv' := [(5, .int (iI ((q + 1 : Nat) : Int))), (4, .int (iI (bI (iK L t tm i b cn (q + 1))))), (6, .int (iI ((cx L t tm i q : Nat) : Int))), (0, .ref (a 0)), (1, .int (iI ((i : Nat) : Int))), (2, .int (iI ((t : Nat) : Int))), (3, .int (iI (b)))]) hx hb 6 dX3_count_96 hl rfl rfl (by decide) rfl (fun ls hl => ?_)
              refine lv_goto (tgt := 6) hx hb dX3_count_99 (by decide) ?_
              exact ih6 (q + 1) _ _ _ (by omega) (by omega) hP hD hS (lv_sub hl [3, 4, 5, 6, 1, 0] rfl)
  exact loop6 ((bq L pl i - 0) + 1) 0 _ _ _ (Nat.lt_succ_self _) (by omega) hP hD hS (lv_sub hl [2, 3, 4, 5, 1, 0] rfl)
set_option maxHeartbeats 4000000 in
set_option maxRecDepth 100000 in
theorem c_X3_fits (l : Launch) (D : va_G) (g : Nat → ClassId) (a : Nat → Nat) (th : Int) (L : LD) (att T : Nat) (hs : Nat → Int) (tm : Nat → Nat) (pl : Nat → Bool) (t : Nat) (hw : wf L) (htt : 0 < t ∧ t ≤ 200) (htm : ∀ i, i < Ln L → pl i = true → tm i ≤ 2000000) : zMi l D (zT g) yX3_fits wsX3_fits 2 38 (wM a g th L att T hs tm pl (fun _ => 0)) [.ref (a 0), .int (iI ((t : Nat) : Int))] (fun r w1 => r = iI (bI (fA L t tm pl (Ln L)).2) ∧ w1 = wM a g th L att T hs tm pl (fun _ => 0)) := by
  refine z_ofI (cc := cX3_fits) (maxL := 4) (ret := (some .boolean)) (by decide) rfl (Nat.le_of_ble_eq_true rfl) ?_
  intro p e s m args below meth c A ls hx hb hr hts hown hlocks hml hP hK hD hS hA hl Q hQ
  have hown : s.vm.findClass RX3 = some m.cls := hown
  have hinX3 : ∀ w ∈ u_ws RX3 TX3 16, w ∈ wsX3_fits := by decide +kernel
  have hl : lv_has ls 4 [(0, .ref (a 0)), (1, .int (iI ((t : Nat) : Int)))] := hl
  refine z_ic hx hb dX3_fits_0 ?_
  refine lv_istore_n (lv' := [(2, .int (iI ((1 : Nat) : Int))), (0, .ref (a 0)), (1, .int (iI ((t : Nat) : Int)))]) hx hb dX3_fits_1 rfl hl (by decide) rfl (fun ls hl => ?_)
  refine z_ic hx hb dX3_fits_2 ?_
  refine lv_istore_n (lv' := [(3, .int (iI ((0 : Nat) : Int))), (2, .int (iI ((1 : Nat) : Int))), (0, .ref (a 0)), (1, .int (iI ((t : Nat) : Int)))]) hx hb dX3_fits_3 rfl hl (by decide) rfl (fun ls hl => ?_)
  have loop4 : ∀ (n4 : Nat) (i : Nat) (H : Heap) (locs : List Loc) (ls : Array Slot), Ln L - i < n4 → (i ≤ Ln L) → va_P D vwCl (wM a g th L att T hs tm pl ((fA L t tm pl i).1)) H → va_D A (wM a g th L att T hs tm pl ((fA L t tm pl i).1)) → va_S A s.heap H locs → lv_has ls 4 [(0, .ref (a 0)), (1, .int (iI ((t : Nat) : Int))), (2, .int (iI (bI (fA L t tm pl i).2))), (3, .int (iI ((i : Nat) : Int)))] → W p l e ({ frames := 2, cells := 0, slots := 0, locals := 38 } : Room) s m args below meth c H locs 0 0 Q (F0 m 4 ls []) := by
    intro n4
    induction n4 with
    | zero => exact fun _ H locs ls hn => absurd hn (Nat.not_lt_zero _)
    | succ n4 ih4 =>
      intro i H locs ls hn4 hi hP hD hS hl
      have hwn := wf_n hw
      refine lv_iload_n hx hb dX3_fits_4 rfl (lv_at hl 3 rfl) ?_
      refine lv_aload_n hx hb dX3_fits_5 rfl (lv_at hl 0 rfl) ?_
      refine va_get (D := D) (ci := 3) (v := .int (iI ((Ln L : Nat) : Int))) (C := RX3) (T := TX3) (N := 16) hx hb hts hinX3 hown hK hP 0 rfl rfl 2 (by decide) (hts (.fieldLink RX3 48 "LoopSchedulerModel" "operations" "I") (List.mem_of_getElem? (i := 1) rfl)) (fun _ h9 => h9) rfl dX3_fits_6 ?_
      refine z_icge (a := ((i : Nat) : Int)) (b := ((Ln L : Nat) : Int)) (tgt := 38) hx hb dX3_fits_9 (by decide) (by omega) (fun c_9 => ?_) (fun c_9 => ?_)
      · obtain rfl : i = Ln L := by omega
        refine z_ic hx hb dX3_fits_38 ?_
        refine lv_istore_n (lv' := [(3, .int (iI ((0 : Nat) : Int))), (0, .ref (a 0)), (1, .int (iI ((t : Nat) : Int))), (2, .int (iI (bI (fA L t tm pl (Ln L)).2)))]) hx hb dX3_fits_39 rfl hl (by decide) rfl (fun ls hl => ?_)
        have loop40 : ∀ (n40 : Nat) (i : Nat) (H : Heap) (locs : List Loc) (ls : Array Slot), Ln L - i < n40 → (i ≤ Ln L) → va_P D vwCl (wM a g th L att T hs tm pl (fD L t tm pl (fA L t tm pl (Ln L)).1 i)) H → va_D A (wM a g th L att T hs tm pl (fD L t tm pl (fA L t tm pl (Ln L)).1 i)) → va_S A s.heap H locs → lv_has ls 4 [(0, .ref (a 0)), (1, .int (iI ((t : Nat) : Int))), (2, .int (iI (bI (fA L t tm pl (Ln L)).2))), (3, .int (iI ((i : Nat) : Int)))] → W p l e ({ frames := 2, cells := 0, slots := 0, locals := 38 } : Room) s m args below meth c H locs 0 0 Q (F0 m 40 ls []) := by
          intro n40
          induction n40 with
          | zero => exact fun _ H locs ls hn => absurd hn (Nat.not_lt_zero _)
          | succ n40 ih40 =>
            intro i H locs ls hn40 hi hP hD hS hl
            have hwn := wf_n hw
            refine lv_iload_n hx hb dX3_fits_40 rfl (lv_at hl 3 rfl) ?_
            refine lv_aload_n hx hb dX3_fits_41 rfl (lv_at hl 0 rfl) ?_
            refine va_get (D := D) (ci := 3) (v := .int (iI ((Ln L : Nat) : Int))) (C := RX3) (T := TX3) (N := 16) hx hb hts hinX3 hown hK hP 0 rfl rfl 2 (by decide) (hts (.fieldLink RX3 48 "LoopSchedulerModel" "operations" "I") (List.mem_of_getElem? (i := 1) rfl)) (fun _ h9 => h9) rfl dX3_fits_42 ?_
            refine z_icge (a := ((i : Nat) : Int)) (b := ((Ln L : Nat) : Int)) (tgt := 74) hx hb dX3_fits_45 (by decide) (by omega) (fun c_45 => ?_) (fun c_45 => ?_)
            · obtain rfl : i = Ln L := by omega
              have ew : (fun _ => 0) = (fD L t tm pl (fA L t tm pl (Ln L)).1 (Ln L)) := ((fD_back L t tm pl (Ln L)).symm)
              have hP : va_P D vwCl (wM a g th L att T hs tm pl (fun _ => 0)) H := Eq.mp (congrArg (fun z9 => va_P D vwCl (wM a g th L att T hs tm pl z9) H) ew.symm) hP
              have hD : va_D A (wM a g th L att T hs tm pl (fun _ => 0)) := Eq.mp (congrArg (fun z9 => va_D A (wM a g th L att T hs tm pl z9)) ew.symm) hD
              refine lv_iload_n hx hb dX3_fits_74 rfl (lv_at hl 2 rfl) ?_
              exact z_zret (w := (wM a g th L att T hs tm pl (fun _ => 0))) (v := (iI (bI (fA L t tm pl (Ln L)).2))) (z_nb _) hQ hx hb hr hlocks ⟨rfl, rfl⟩ hK hP hD hS dX3_fits_75
            · refine lv_aload_n hx hb dX3_fits_48 rfl (lv_at hl 0 rfl) ?_
              refine lv_iload_n hx hb dX3_fits_49 rfl (lv_at hl 3 rfl) ?_
              refine lv_iload_n hx hb dX3_fits_50 rfl (lv_at hl 1 rfl) ?_
              refine z_ic hx hb dX3_fits_51 ?_
              refine z_calli (va_runV (As := [.int (iI ((i : Nat) : Int)), .int (iI ((t : Nat) : Int)), .int (iI (-1))]) (rest := []) ⟨hx, hb, hml, hown, hts⟩ (c_X3_count l D g a th L att T hs tm pl (fD L t tm pl (fA L t tm pl (Ln L)).1 i) i t (-1) (4 * ((Ln L : Nat) : Int)) hw (by omega) htt (Or.inr rfl) (by omega) (fun y => by rw [fD_val, fA_val]; have q8 := hqA_le hw t tm pl y i; have q9 := hqA_le hw t tm pl y (Ln L); omega) (fun q9 => htm i (by omega) q9) _) (cwV 3 hts gX3_fits_X3_count rfl rfl rfl (by decide +kernel) ⟨Nat.le_of_ble_eq_true rfl, Nat.le_of_ble_eq_true rfl⟩) (z_preV 0 hK hP hD rfl rfl) rfl rfl hl.1 rfl (lv_room (Nat.le_of_ble_eq_true rfl)) dX3_fits_52 ⟨Nat.zero_le _, Nat.zero_le _⟩) hS hD hA (fun r w1 H locs hw1 hP hD hS => ?_)
              obtain ⟨rfl, rfl⟩ := hw1
              have hP : va_P D vwCl (wM a g th L att T hs tm pl (fD L t tm pl (fA L t tm pl (Ln L)).1 (i + 1))) H := hP
              have hD : va_D A (wM a g th L att T hs tm pl (fD L t tm pl (fA L t tm pl (Ln L)).1 (i + 1))) := hD
              refine z_eqI (y := iI ((1 : Nat) : Int)) (by rw [iK_neg]; rfl) ?_
              refine z_ifeq (a := 1) (tgt := 66) hx hb dX3_fits_55 (by decide) (by omega) (fun c_55 => ?_) (fun c_55 => ?_)
              · exact absurd c_55 (by decide)
              · refine lv_iload_n hx hb dX3_fits_58 rfl (lv_at hl 2 rfl) ?_
                refine z_ifeq (a := (bI (fA L t tm pl (Ln L)).2)) (tgt := 66) hx hb dX3_fits_59 (by decide) (bI_r _) (fun c_59 => ?_) (fun c_59 => ?_)
                · have b_59 := bI_f c_59
                  refine z_ic hx hb dX3_fits_66 ?_
                  refine lv_istore_n (lv' := [(2, .int (iI ((0 : Nat) : Int))), (0, .ref (a 0)), (1, .int (iI ((t : Nat) : Int))), (3, .int (iI ((i : Nat) : Int)))]) hx hb dX3_fits_67 rfl hl (by decide) rfl (fun ls hl => ?_)
                  have hl : lv_has ls 4 [(2, .int (iI (bI (fA L t tm pl (Ln L)).2))), (0, .ref (a 0)), (1, .int (iI ((t : Nat) : Int))), (3, .int (iI ((i : Nat) : Int)))] := by rw [show ((bI (fA L t tm pl (Ln L)).2) : Int) = 0 from (by rw [b_59]; rfl)]; exact hl
                  refine z_iinc (a := ((i : Nat) : Int)) (b := ((i + 1 : Nat) : Int)) (lv' := [(3, .int (iI ((i + 1 : Nat) : Int))), (2, .int (iI (bI (fA L t tm pl (Ln L)).2))), (0, .ref (a 0)), (1, .int (iI ((t : Nat) : Int)))]) hx hb 3 dX3_fits_68 hl rfl rfl (by decide) rfl (fun ls hl => ?_)
                  refine lv_goto (tgt := 40) hx hb dX3_fits_71 (by decide) ?_
                  exact ih40 (i + 1) _ _ _ (by omega) (by omega) hP hD hS (lv_sub hl [2, 3, 1, 0] rfl)
                · have b_59 := bI_t c_59
                  refine z_ic hx hb dX3_fits_62 ?_
                  refine lv_goto (tgt := 67) hx hb dX3_fits_63 (by decide) ?_
                  refine lv_istore_n (lv' := [(2, .int (iI ((1 : Nat) : Int))), (0, .ref (a 0)), (1, .int (iI ((t : Nat) : Int))), (3, .int (iI ((i : Nat) : Int)))]) hx hb dX3_fits_67 rfl hl (by decide) rfl (fun ls hl => ?_)
                  have hl : lv_has ls 4 [(2, .int (iI (bI (fA L t tm pl (Ln L)).2))), (0, .ref (a 0)), (1, .int (iI ((t : Nat) : Int))), (3, .int (iI ((i : Nat) : Int)))] := by rw [show ((bI (fA L t tm pl (Ln L)).2) : Int) = 1 from (by rw [b_59]; rfl)]; exact hl
                  refine z_iinc (a := ((i : Nat) : Int)) (b := ((i + 1 : Nat) : Int)) (lv' := [(3, .int (iI ((i + 1 : Nat) : Int))), (2, .int (iI (bI (fA L t tm pl (Ln L)).2))), (0, .ref (a 0)), (1, .int (iI ((t : Nat) : Int)))]) hx hb 3 dX3_fits_68 hl rfl rfl (by decide) rfl (fun ls hl => ?_)
                  refine lv_goto (tgt := 40) hx hb dX3_fits_71 (by decide) ?_
                  exact ih40 (i + 1) _ _ _ (by omega) (by omega) hP hD hS (lv_sub hl [2, 3, 1, 0] rfl)
        have hP : va_P D vwCl (wM a g th L att T hs tm pl (fD L t tm pl (fA L t tm pl (Ln L)).1 0)) _ := hP
        have hD : va_D A (wM a g th L att T hs tm pl (fD L t tm pl (fA L t tm pl (Ln L)).1 0)) := hD
        exact loop40 ((Ln L - 0) + 1) 0 _ _ _ (Nat.lt_succ_self _) (by omega) hP hD hS (lv_sub hl [1, 2, 3, 0] rfl)
      · refine lv_aload_n hx hb dX3_fits_12 rfl (lv_at hl 0 rfl) ?_
        refine lv_iload_n hx hb dX3_fits_13 rfl (lv_at hl 3 rfl) ?_
        refine lv_iload_n hx hb dX3_fits_14 rfl (lv_at hl 1 rfl) ?_
        refine z_ic hx hb dX3_fits_15 ?_
        refine z_calli (va_runV (As := [.int (iI ((i : Nat) : Int)), .int (iI ((t : Nat) : Int)), .int (iI ((1 : Nat) : Int))]) (rest := []) ⟨hx, hb, hml, hown, hts⟩ (c_X3_count l D g a th L att T hs tm pl (fA L t tm pl i).1 i t 1 (4 * (i : Int)) hw (by omega) htt (Or.inl rfl) (by omega) (fun y => by rw [fA_val]; have q9 := hqA_le hw t tm pl y i; omega) (fun q9 => htm i (by omega) q9) _) (cwV 3 hts gX3_fits_X3_count rfl rfl rfl (by decide +kernel) ⟨Nat.le_of_ble_eq_true rfl, Nat.le_of_ble_eq_true rfl⟩) (z_preV 0 hK hP hD rfl rfl) rfl rfl hl.1 rfl (lv_room (Nat.le_of_ble_eq_true rfl)) dX3_fits_16 ⟨Nat.zero_le _, Nat.zero_le _⟩) hS hD hA (fun r w1 H locs hw1 hP hD hS => ?_)
        obtain ⟨rfl, rfl⟩ := hw1
        have hP : va_P D vwCl (wM a g th L att T hs tm pl ((fA L t tm pl (i + 1)).1)) H := hP
        have hD : va_D A (wM a g th L att T hs tm pl ((fA L t tm pl (i + 1)).1)) := hD
        refine z_ifeq (a := (bI (iK L t tm i 1 (fA L t tm pl i).1 (bq L pl i)))) (tgt := 30) hx hb dX3_fits_19 (by decide) (bI_r _) (fun c_19 => ?_) (fun c_19 => ?_)
        · have b_19 := bI_f c_19
          refine z_ic hx hb dX3_fits_30 ?_
          refine lv_istore_n (lv' := [(2, .int (iI ((0 : Nat) : Int))), (0, .ref (a 0)), (1, .int (iI ((t : Nat) : Int))), (3, .int (iI ((i : Nat) : Int)))]) hx hb dX3_fits_31 rfl hl (by decide) rfl (fun ls hl => ?_)
          have hl : lv_has ls 4 [(2, .int (iI (bI (fA L t tm pl (i + 1)).2))), (0, .ref (a 0)), (1, .int (iI ((t : Nat) : Int))), (3, .int (iI ((i : Nat) : Int)))] := by rw [show ((bI (fA L t tm pl (i + 1)).2) : Int) = 0 from (by rw [fA_s]; show bI (_ && _) = _; rw [b_19]; rfl)]; exact hl
          refine z_iinc (a := ((i : Nat) : Int)) (b := ((i + 1 : Nat) : Int)) (lv' := [(3, .int (iI ((i + 1 : Nat) : Int))), (2, .int (iI (bI (fA L t tm pl (i + 1)).2))), (0, .ref (a 0)), (1, .int (iI ((t : Nat) : Int)))]) hx hb 3 dX3_fits_32 hl rfl rfl (by decide) rfl (fun ls hl => ?_)
          refine lv_goto (tgt := 4) hx hb dX3_fits_35 (by decide) ?_
          exact ih4 (i + 1) _ _ _ (by omega) (by omega) hP hD hS (lv_sub hl [2, 3, 1, 0] rfl)
        · have b_19 := bI_t c_19
          refine lv_iload_n hx hb dX3_fits_22 rfl (lv_at hl 2 rfl) ?_
          refine z_ifeq (a := (bI (fA L t tm pl i).2)) (tgt := 30) hx hb dX3_fits_23 (by decide) (bI_r _) (fun c_23 => ?_) (fun c_23 => ?_)
          · have b_23 := bI_f c_23
            refine z_ic hx hb dX3_fits_30 ?_
            refine lv_istore_n (lv' := [(2, .int (iI ((0 : Nat) : Int))), (0, .ref (a 0)), (1, .int (iI ((t : Nat) : Int))), (3, .int (iI ((i : Nat) : Int)))]) hx hb dX3_fits_31 rfl hl (by decide) rfl (fun ls hl => ?_)
            have hl : lv_has ls 4 [(2, .int (iI (bI (fA L t tm pl (i + 1)).2))), (0, .ref (a 0)), (1, .int (iI ((t : Nat) : Int))), (3, .int (iI ((i : Nat) : Int)))] := by rw [show ((bI (fA L t tm pl (i + 1)).2) : Int) = 0 from (by rw [fA_s]; show bI (_ && _) = _; rw [b_19, b_23]; rfl)]; exact hl
            refine z_iinc (a := ((i : Nat) : Int)) (b := ((i + 1 : Nat) : Int)) (lv' := [(3, .int (iI ((i + 1 : Nat) : Int))), (2, .int (iI (bI (fA L t tm pl (i + 1)).2))), (0, .ref (a 0)), (1, .int (iI ((t : Nat) : Int)))]) hx hb 3 dX3_fits_32 hl rfl rfl (by decide) rfl (fun ls hl => ?_)
            refine lv_goto (tgt := 4) hx hb dX3_fits_35 (by decide) ?_
            exact ih4 (i + 1) _ _ _ (by omega) (by omega) hP hD hS (lv_sub hl [2, 3, 1, 0] rfl)
          · have b_23 := bI_t c_23
            refine z_ic hx hb dX3_fits_26 ?_
            refine lv_goto (tgt := 31) hx hb dX3_fits_27 (by decide) ?_
            refine lv_istore_n (lv' := [(2, .int (iI ((1 : Nat) : Int))), (0, .ref (a 0)), (1, .int (iI ((t : Nat) : Int))), (3, .int (iI ((i : Nat) : Int)))]) hx hb dX3_fits_31 rfl hl (by decide) rfl (fun ls hl => ?_)
            have hl : lv_has ls 4 [(2, .int (iI (bI (fA L t tm pl (i + 1)).2))), (0, .ref (a 0)), (1, .int (iI ((t : Nat) : Int))), (3, .int (iI ((i : Nat) : Int)))] := by rw [show ((bI (fA L t tm pl (i + 1)).2) : Int) = 1 from (by rw [fA_s]; show bI (_ && _) = _; rw [b_19, b_23]; rfl)]; exact hl
            refine z_iinc (a := ((i : Nat) : Int)) (b := ((i + 1 : Nat) : Int)) (lv' := [(3, .int (iI ((i + 1 : Nat) : Int))), (2, .int (iI (bI (fA L t tm pl (i + 1)).2))), (0, .ref (a 0)), (1, .int (iI ((t : Nat) : Int)))]) hx hb 3 dX3_fits_32 hl rfl rfl (by decide) rfl (fun ls hl => ?_)
            refine lv_goto (tgt := 4) hx hb dX3_fits_35 (by decide) ?_
            exact ih4 (i + 1) _ _ _ (by omega) (by omega) hP hD hS (lv_sub hl [2, 3, 1, 0] rfl)
  have hP : va_P D vwCl (wM a g th L att T hs tm pl ((fA L t tm pl 0).1)) _ := hP
  have hD : va_D A (wM a g th L att T hs tm pl ((fA L t tm pl 0).1)) := hD
  exact loop4 ((Ln L - 0) + 1) 0 _ _ _ (Nat.lt_succ_self _) (by omega) hP hD hS (lv_sub hl [2, 3, 1, 0] rfl)
set_option maxHeartbeats 4000000 in
set_option maxRecDepth 100000 in
theorem c_X3_next (l : Launch) (D : va_G) (g : Nat → ClassId) (a : Nat → Nat) (th : Int) (L : LD) (att T : Nat) (hs : Nat → Int) (tm : Nat → Nat) (pl : Nat → Bool)  (hw : wf L) (hh : gB 100000 hs) : zMi l D (zT g) yX3_next wsX3_next 1 12 (wM a g th L att T hs tm pl (fun _ => 0)) [.ref (a 0)] (fun r w1 => r = iI (hiU hs (ptm pl tm) (Ln L)) ∧ w1 = wM a g th L att T hs tm pl (fun _ => 0)) := by
  refine z_ofI (cc := cX3_next) (maxL := 3) (ret := (some .int)) (by decide) rfl (Nat.le_of_ble_eq_true rfl) ?_
  intro p e s m args below meth c A ls hx hb hr hts hown hlocks hml hP hK hD hS hA hl Q hQ
  have hown : s.vm.findClass RX3 = some m.cls := hown
  have hinX3 : ∀ w ∈ u_ws RX3 TX3 16, w ∈ wsX3_next := by decide +kernel
  have hl : lv_has ls 3 [(0, .ref (a 0))] := hl
  refine z_ic hx hb dX3_next_0 ?_
  refine lv_istore_n (lv' := [(1, .int (iI (-1))), (0, .ref (a 0))]) hx hb dX3_next_1 rfl hl (by decide) rfl (fun ls hl => ?_)
  refine z_ic hx hb dX3_next_2 ?_
  refine lv_istore_n (lv' := [(2, .int (iI ((0 : Nat) : Int))), (1, .int (iI (-1))), (0, .ref (a 0))]) hx hb dX3_next_3 rfl hl (by decide) rfl (fun ls hl => ?_)
  have loop4 : ∀ (n4 : Nat) (i : Nat) (H : Heap) (locs : List Loc) (ls : Array Slot), Ln L - i < n4 → (i ≤ Ln L) → va_P D vwCl (wM a g th L att T hs tm pl (fun _ => 0)) H → va_D A (wM a g th L att T hs tm pl (fun _ => 0)) → va_S A s.heap H locs → lv_has ls 3 [(0, .ref (a 0)), (1, .int (iI (hiU hs (ptm pl tm) i))), (2, .int (iI ((i : Nat) : Int)))] → W p l e ({ frames := 1, cells := 0, slots := 0, locals := 12 } : Room) s m args below meth c H locs 0 0 Q (F0 m 4 ls []) := by
    intro n4
    induction n4 with
    | zero => exact fun _ H locs ls hn => absurd hn (Nat.not_lt_zero _)
    | succ n4 ih4 =>
      intro i H locs ls hn4 hi hP hD hS hl
      have hwn := wf_n hw
      have hb1 := hiU_bd hs (ptm pl tm) i
      have hb3 := hh i
      have hb4 := hh (hiU hs (ptm pl tm) i).toNat
      refine lv_iload_n hx hb dX3_next_4 rfl (lv_at hl 2 rfl) ?_
      refine lv_aload_n hx hb dX3_next_5 rfl (lv_at hl 0 rfl) ?_
      refine va_get (D := D) (ci := 3) (v := .int (iI ((Ln L : Nat) : Int))) (C := RX3) (T := TX3) (N := 16) hx hb hts hinX3 hown hK hP 0 rfl rfl 2 (by decide) (hts (.fieldLink RX3 48 "LoopSchedulerModel" "operations" "I") (List.mem_of_getElem? (i := 1) rfl)) (fun _ h9 => h9) rfl dX3_next_6 ?_
      refine z_icge (a := ((i : Nat) : Int)) (b := ((Ln L : Nat) : Int)) (tgt := 49) hx hb dX3_next_9 (by decide) (by omega) (fun c_9 => ?_) (fun c_9 => ?_)
      · obtain rfl : i = Ln L := by omega
        refine lv_iload_n hx hb dX3_next_49 rfl (lv_at hl 1 rfl) ?_
        exact z_iret (w := (wM a g th L att T hs tm pl (fun _ => 0))) (v := (iI (hiU hs (ptm pl tm) (Ln L)))) hQ hx hb hr hlocks ⟨rfl, rfl⟩ hK hP hD hS dX3_next_50
      · refine lv_aload_n hx hb dX3_next_12 rfl (lv_at hl 0 rfl) ?_
        refine va_get (D := D) (ci := 3) (v := .ref (a 10)) (C := RX3) (T := TX3) (N := 16) hx hb hts hinX3 hown hK hP 0 rfl rfl 14 (by decide) (hts (.fieldLink RX3 37 "LoopSchedulerModel" "isPlaced" "[Z") (List.mem_of_getElem? (i := 2) rfl)) (fun _ h9 => h9) rfl dX3_next_13 ?_
        refine lv_iload_n hx hb dX3_next_16 rfl (lv_at hl 2 rfl) ?_
        refine z_bald (f := pl) (z := i) hx hb hK hP 10 2 rfl rfl (by omega) (by decide) dX3_next_17 ?_
        refine z_ifne (a := (bI (pl i))) (tgt := 43) hx hb dX3_next_18 (by decide) (bI_r _) (fun c_18 => ?_) (fun c_18 => ?_)
        · have b_18 := bI_t c_18
          refine z_iinc (a := ((i : Nat) : Int)) (b := ((i + 1 : Nat) : Int)) (lv' := [(2, .int (iI ((i + 1 : Nat) : Int))), (0, .ref (a 0)), (1, .int (iI (hiU hs (ptm pl tm) i)))]) hx hb 2 dX3_next_43 hl rfl rfl (by decide) rfl (fun ls hl => ?_)
          refine lv_goto (tgt := 4) hx hb dX3_next_46 (by decide) ?_
          exact ih4 (i + 1) _ _ _ (by omega) (by omega) hP hD hS (by rw [show hiU hs (ptm pl tm) (i + 1) = _ from hiU_f (fun q => by rw [ptm_t b_18] at q; omega)]; exact lv_sub hl [1, 2, 0] rfl)
        · have b_18 := bI_f c_18
          refine lv_iload_n hx hb dX3_next_21 rfl (lv_at hl 1 rfl) ?_
          refine z_ic hx hb dX3_next_22 ?_
          refine z_iceq (a := (hiU hs (ptm pl tm) i)) (b := (-1)) (tgt := 41) hx hb dX3_next_23 (by decide) (by omega) (fun c_23 => ?_) (fun c_23 => ?_)
          · refine lv_iload_n hx hb dX3_next_41 rfl (lv_at hl 2 rfl) ?_
            refine lv_istore_n (lv' := [(1, .int (iI ((i : Nat) : Int))), (0, .ref (a 0)), (2, .int (iI ((i : Nat) : Int)))]) hx hb dX3_next_42 rfl hl (by decide) rfl (fun ls hl => ?_)
            refine z_iinc (a := ((i : Nat) : Int)) (b := ((i + 1 : Nat) : Int)) (lv' := [(2, .int (iI ((i + 1 : Nat) : Int))), (1, .int (iI ((i : Nat) : Int))), (0, .ref (a 0))]) hx hb 2 dX3_next_43 hl rfl rfl (by decide) rfl (fun ls hl => ?_)
            refine lv_goto (tgt := 4) hx hb dX3_next_46 (by decide) ?_
            exact ih4 (i + 1) _ _ _ (by omega) (by omega) hP hD hS (by rw [show hiU hs (ptm pl tm) (i + 1) = _ from hiU_t (ptm_f b_18) (Or.inl c_23)]; exact lv_sub hl [2, 1, 0] rfl)
          · refine lv_aload_n hx hb dX3_next_26 rfl (lv_at hl 0 rfl) ?_
            refine va_get (D := D) (ci := 3) (v := .ref (a 9)) (C := RX3) (T := TX3) (N := 16) hx hb hts hinX3 hown hK hP 0 rfl rfl 13 (by decide) (hts (.fieldLink RX3 34 "LoopSchedulerModel" "heights" "[I") (List.mem_of_getElem? (i := 3) rfl)) (fun _ h9 => h9) rfl dX3_next_27 ?_
            refine lv_iload_n hx hb dX3_next_30 rfl (lv_at hl 2 rfl) ?_
            refine z_ialdN (f := hs) (z := i) hx hb hK hP 9 0 rfl rfl (by omega) (by decide) dX3_next_31 ?_
            refine lv_aload_n hx hb dX3_next_32 rfl (lv_at hl 0 rfl) ?_
            refine va_get (D := D) (ci := 3) (v := .ref (a 9)) (C := RX3) (T := TX3) (N := 16) hx hb hts hinX3 hown hK hP 0 rfl rfl 13 (by decide) (hts (.fieldLink RX3 34 "LoopSchedulerModel" "heights" "[I") (List.mem_of_getElem? (i := 3) rfl)) (fun _ h9 => h9) rfl dX3_next_33 ?_
            refine lv_iload_n hx hb dX3_next_36 rfl (lv_at hl 1 rfl) ?_
            refine z_iald (f := hs) (z := (hiU hs (ptm pl tm) i)) hx hb hK hP 9 0 rfl rfl (by omega) (by decide) dX3_next_37 ?_
            refine z_icle (a := (hs i)) (b := (hs ((hiU hs (ptm pl tm) i)).toNat)) (tgt := 43) hx hb dX3_next_38 (by decide) (by omega) (fun c_38 => ?_) (fun c_38 => ?_)
            · refine z_iinc (a := ((i : Nat) : Int)) (b := ((i + 1 : Nat) : Int)) (lv' := [(2, .int (iI ((i + 1 : Nat) : Int))), (0, .ref (a 0)), (1, .int (iI (hiU hs (ptm pl tm) i)))]) hx hb 2 dX3_next_43 hl rfl rfl (by decide) rfl (fun ls hl => ?_)
              refine lv_goto (tgt := 4) hx hb dX3_next_46 (by decide) ?_
              exact ih4 (i + 1) _ _ _ (by omega) (by omega) hP hD hS (by rw [show hiU hs (ptm pl tm) (i + 1) = _ from hiU_f (fun q => q.2.elim c_23 (fun r => by omega))]; exact lv_sub hl [1, 2, 0] rfl)
            · refine lv_iload_n hx hb dX3_next_41 rfl (lv_at hl 2 rfl) ?_
              refine lv_istore_n (lv' := [(1, .int (iI ((i : Nat) : Int))), (0, .ref (a 0)), (2, .int (iI ((i : Nat) : Int)))]) hx hb dX3_next_42 rfl hl (by decide) rfl (fun ls hl => ?_)
              refine z_iinc (a := ((i : Nat) : Int)) (b := ((i + 1 : Nat) : Int)) (lv' := [(2, .int (iI ((i + 1 : Nat) : Int))), (1, .int (iI ((i : Nat) : Int))), (0, .ref (a 0))]) hx hb 2 dX3_next_43 hl rfl rfl (by decide) rfl (fun ls hl => ?_)
              refine lv_goto (tgt := 4) hx hb dX3_next_46 (by decide) ?_
              exact ih4 (i + 1) _ _ _ (by omega) (by omega) hP hD hS (by rw [show hiU hs (ptm pl tm) (i + 1) = _ from hiU_t (ptm_f b_18) (Or.inr (by omega))]; exact lv_sub hl [2, 1, 0] rfl)
  exact loop4 ((Ln L - 0) + 1) 0 _ _ _ (Nat.lt_succ_self _) (by omega) hP hD hS (lv_sub hl [2, 1, 0] rfl)
set_option maxHeartbeats 4000000 in
set_option maxRecDepth 100000 in
theorem c_X3_place (l : Launch) (D : va_G) (g : Nat → ClassId) (a : Nat → Nat) (th : Int) (L : LD) (att T : Nat) (hs : Nat → Int) (tm : Nat → Nat) (pl : Nat → Bool) (i t : Nat) (hw : wf L) (hi : i < 14) (htt : 0 < t ∧ t ≤ 200) (htp : ∀ j, j < Ln L → pl j = true → tm j ≤ 900000) : zMi l D (zT g) yX3_place wsX3_place 3 61 (wM a g th L att T hs tm pl (fun _ => 0)) [.ref (a 0), .int (iI ((i : Nat) : Int)), .int (iI ((t : Nat) : Int))] (fun r w1 => r = iI (bI (oM L t tm pl i).isSome) ∧ ∃ tm', (∀ j, j ≠ i → tm' j = tm j) ∧ (∀ x, oM L t tm pl i = some x → tm' i = x) ∧ tm' i ≤ max (tm i) 1000000 ∧ w1 = wM a g th L att T hs tm' (upB pl i true) (fun _ => 0)) := by
  refine z_ofI (cc := cX3_place) (maxL := 6) (ret := (some .boolean)) (by decide) rfl (Nat.le_of_ble_eq_true rfl) ?_
  intro p e s m args below meth c A ls hx hb hr hts hown hlocks hml hP hK hD hS hA hl Q hQ
  have hown : s.vm.findClass RX3 = some m.cls := hown
  have hinX3 : ∀ w ∈ u_ws RX3 TX3 16, w ∈ wsX3_place := by decide +kernel
  have hl : lv_has ls 6 [(0, .ref (a 0)), (1, .int (iI ((i : Nat) : Int))), (2, .int (iI ((t : Nat) : Int)))] := hl
  have htb : ∀ j, j < Ln L → -1 ≤ ptm pl tm j ∧ ptm pl tm j ≤ 900000 := fun j hj => by cases h : pl j with | true => rw [ptm_t h]; have := htp j hj h; omega | false => rw [ptm_f h]; decide
  have hE := pEn_e hw (T := t) htb (show (0:Int) ≤ 900000 by decide) i
  have hEb := eAn_bd hw (T := t) htb (show (0:Int) ≤ 900000 by decide) i (Lm L) (Nat.le_refl _)
  have hLb := lAn_bd hw (T := t) htb i (Lm L) (Nat.le_refl _)
  refine z_ic hx hb dX3_place_0 ?_
  refine lv_istore_n (lv' := [(3, .int (iI ((0 : Nat) : Int))), (0, .ref (a 0)), (1, .int (iI ((i : Nat) : Int))), (2, .int (iI ((t : Nat) : Int)))]) hx hb dX3_place_1 rfl hl (by decide) rfl (fun ls hl => ?_)
  refine lv_ldc (v := 1000000) hx hb hown (hts (.constant RX3 96 (1000000)) (List.mem_of_getElem? (i := 1) rfl)) dX3_place_2 ?_
  refine z_eqI (y := iI ((1000000 : Nat) : Int)) (by decide) ?_
  refine lv_istore (lv' := [(4, .int (iI ((1000000 : Nat) : Int))), (3, .int (iI ((0 : Nat) : Int))), (0, .ref (a 0)), (1, .int (iI ((i : Nat) : Int))), (2, .int (iI ((t : Nat) : Int)))]) hx hb dX3_place_4 hl (by decide) rfl (fun ls hl => ?_)
  refine z_ic hx hb dX3_place_6 ?_
  refine lv_istore (lv' := [(5, .int (iI ((0 : Nat) : Int))), (4, .int (iI ((1000000 : Nat) : Int))), (3, .int (iI ((0 : Nat) : Int))), (0, .ref (a 0)), (1, .int (iI ((i : Nat) : Int))), (2, .int (iI ((t : Nat) : Int)))]) hx hb dX3_place_7 hl (by decide) rfl (fun ls hl => ?_)
  have loop9 : ∀ (n9 : Nat) (k : Nat) (H : Heap) (locs : List Loc) (ls : Array Slot), Lm L - k < n9 → (k ≤ Lm L) → va_P D vwCl (wM a g th L att T hs tm pl (fun _ => 0)) H → va_D A (wM a g th L att T hs tm pl (fun _ => 0)) → va_S A s.heap H locs → lv_has ls 6 [(0, .ref (a 0)), (1, .int (iI ((i : Nat) : Int))), (2, .int (iI ((t : Nat) : Int))), (3, .int (iI (eA L t (ptm pl tm) i k))), (4, .int (iI (min 1000000 (lA L t (ptm pl tm) i k)))), (5, .int (iI ((k : Nat) : Int)))] → W p l e ({ frames := 3, cells := 0, slots := 0, locals := 61 } : Room) s m args below meth c H locs 0 0 Q (F0 m 9 ls []) := by
    intro n9
    induction n9 with
    | zero => exact fun _ H locs ls hn => absurd hn (Nat.not_lt_zero _)
    | succ n9 ih9 =>
      intro k H locs ls hn9 hk hP hD hS hl
      have hwm := wf_m hw
      have hsd := wf_sd hw k
      have hdl := wf_dl hw k
      have hmn := mul_nn t (Ldi L k)
      have hmb := mul_bd htt.2 (wf_di hw k)
      have he1 := eAn_bd hw (T := t) htb (show (0:Int) ≤ 900000 by decide) i k hk
      have hl1 := lAn_bd hw (T := t) htb i k hk
      refine lv_iload hx hb dX3_place_9 (lv_at hl 5 rfl) ?_
      refine lv_aload_n hx hb dX3_place_11 rfl (lv_at hl 0 rfl) ?_
      refine va_get (D := D) (ci := 3) (v := .int (iI ((Lm L : Nat) : Int))) (C := RX3) (T := TX3) (N := 16) hx hb hts hinX3 hown hK hP 0 rfl rfl 5 (by decide) (hts (.fieldLink RX3 66 "LoopSchedulerModel" "dependences" "I") (List.mem_of_getElem? (i := 2) rfl)) (fun _ h9 => h9) rfl dX3_place_12 ?_
      refine z_icge (a := ((k : Nat) : Int)) (b := ((Lm L : Nat) : Int)) (tgt := 128) hx hb dX3_place_15 (by decide) (by omega) (fun c_15 => ?_) (fun c_15 => ?_)
      · obtain rfl : k = Lm L := by omega
        have hl : lv_has ls 6 [(0, .ref (a 0)), (1, .int (iI ((i : Nat) : Int))), (2, .int (iI ((t : Nat) : Int))), (3, .int (iI ((pE L t (ptm pl tm) i : Nat) : Int))), (4, .int (iI (min 1000000 (lA L t (ptm pl tm) i (Lm L))))), (5, .int (iI (((Lm L) : Nat) : Int)))] := by rw [show (((pE L t (ptm pl tm) i : Nat) : Int) : Int) = (eA L t (ptm pl tm) i (Lm L)) from hE.symm]; exact hl
        refine lv_aload_n hx hb dX3_place_128 rfl (lv_at hl 0 rfl) ?_
        refine va_get (D := D) (ci := 3) (v := .ref (a 10)) (C := RX3) (T := TX3) (N := 16) hx hb hts hinX3 hown hK hP 0 rfl rfl 14 (by decide) (hts (.fieldLink RX3 37 "LoopSchedulerModel" "isPlaced" "[Z") (List.mem_of_getElem? (i := 4) rfl)) (fun _ h9 => h9) rfl dX3_place_129 ?_
        refine lv_iload_n hx hb dX3_place_132 rfl (lv_at hl 1 rfl) ?_
        refine z_ic hx hb dX3_place_133 ?_
        refine z_bast (f := pl) (z := i) hx hb hK hP hD hS 10 2 rfl rfl true (by omega) (by decide) dX3_place_134 (fun H locs hP hD hS => ?_)
        have hP : va_P D vwCl (wM a g th L att T hs tm (upB pl i true) (fun _ => 0)) H := hP
        have hD : va_D A (wM a g th L att T hs tm (upB pl i true) (fun _ => 0)) := hD
        refine z_ic hx hb dX3_place_135 ?_
        refine lv_istore (lv' := [(5, .int (iI ((0 : Nat) : Int))), (0, .ref (a 0)), (1, .int (iI ((i : Nat) : Int))), (2, .int (iI ((t : Nat) : Int))), (3, .int (iI ((pE L t (ptm pl tm) i : Nat) : Int))), (4, .int (iI (min 1000000 (lA L t (ptm pl tm) i (Lm L)))))]) hx hb dX3_place_136 hl (by decide) rfl (fun ls hl => ?_)
        have loop138 : ∀ (n138 : Nat) (q : Nat) (tm' : Nat → Nat) (H : Heap) (locs : List Loc) (ls : Array Slot), cMn L t (ptm pl tm) i - q < n138 → (q ≤ cMn L t (ptm pl tm) i) → (∀ j, j ≠ i → tm' j = tm j) → (tm' i ≤ max (tm i) 1000000) → (ffst (pM L t tm pl i) (pE L t (ptm pl tm) i + q) (cMn L t (ptm pl tm) i - q) = oM L t tm pl i) → va_P D vwCl (wM a g th L att T hs tm' (upB pl i true) (fun _ => 0)) H → va_D A (wM a g th L att T hs tm' (upB pl i true) (fun _ => 0)) → va_S A s.heap H locs → lv_has ls 6 [(0, .ref (a 0)), (1, .int (iI ((i : Nat) : Int))), (2, .int (iI ((t : Nat) : Int))), (3, .int (iI ((pE L t (ptm pl tm) i : Nat) : Int))), (4, .int (iI (min 1000000 (lA L t (ptm pl tm) i (Lm L))))), (5, .int (iI ((q : Nat) : Int)))] → W p l e ({ frames := 3, cells := 0, slots := 0, locals := 61 } : Room) s m args below meth c H locs 0 0 Q (F0 m 138 ls []) := by
          intro n138
          induction n138 with
          | zero => exact fun _ _ H locs ls hn => absurd hn (Nat.not_lt_zero _)
          | succ n138 ih138 =>
            intro q tm' H locs ls hn138 hq htm2 htm3 hf hP hD hS hl
            have hcm : ((cMn L t (ptm pl tm) i : Nat) : Int) = max 0 (min (t : Int) (min 1000000 (lA L t (ptm pl tm) i (Lm L)) - ((pE L t (ptm pl tm) i : Nat) : Int) + 1)) := by unfold cMn; omega
            refine lv_iload hx hb dX3_place_138 (lv_at hl 5 rfl) ?_
            refine lv_iload_n hx hb dX3_place_140 rfl (lv_at hl 2 rfl) ?_
            refine z_icge (a := ((q : Nat) : Int)) (b := ((t : Nat) : Int)) (tgt := 179) hx hb dX3_place_141 (by decide) (by omega) (fun c_141 => ?_) (fun c_141 => ?_)
            · have hN : oM L t tm pl i = none := by rw [← hf, show cMn L t (ptm pl tm) i - q = 0 by omega]; rfl
              refine z_ic hx hb dX3_place_179 ?_
              exact z_zret (w := (wM a g th L att T hs tm' (upB pl i true) (fun _ => 0))) (v := (iI ((0 : Nat) : Int))) z_nb0 hQ hx hb hr hlocks ⟨by rw [hN]; rfl, _, htm2, (fun x hx => by rw [hN] at hx; cases hx), htm3, rfl⟩ hK hP hD hS dX3_place_180
            · refine lv_iload_n hx hb dX3_place_144 rfl (lv_at hl 3 rfl) ?_
              refine lv_iload hx hb dX3_place_145 (lv_at hl 5 rfl) ?_
              refine z_add (a := ((pE L t (ptm pl tm) i : Nat) : Int)) (b := ((q : Nat) : Int)) hx hb dX3_place_147 ?_
              refine z_eqI (y := iI ((pE L t (ptm pl tm) i + q : Nat) : Int)) (congrArg iI (by omega)) ?_
              refine lv_iload hx hb dX3_place_148 (lv_at hl 4 rfl) ?_
              refine z_icgt (a := ((pE L t (ptm pl tm) i + q : Nat) : Int)) (b := (min 1000000 (lA L t (ptm pl tm) i (Lm L)))) (tgt := 179) hx hb dX3_place_150 (by decide) (by omega) (fun c_150 => ?_) (fun c_150 => ?_)
              · have hN : oM L t tm pl i = none := by rw [← hf, show cMn L t (ptm pl tm) i - q = 0 by omega]; rfl
                refine z_ic hx hb dX3_place_179 ?_
                exact z_zret (w := (wM a g th L att T hs tm' (upB pl i true) (fun _ => 0))) (v := (iI ((0 : Nat) : Int))) z_nb0 hQ hx hb hr hlocks ⟨by rw [hN]; rfl, _, htm2, (fun x hx => by rw [hN] at hx; cases hx), htm3, rfl⟩ hK hP hD hS dX3_place_180
              · have hstep : cMn L t (ptm pl tm) i - q = (cMn L t (ptm pl tm) i - (q + 1)) + 1 := by omega
                refine lv_aload_n hx hb dX3_place_153 rfl (lv_at hl 0 rfl) ?_
                refine va_get (D := D) (ci := 3) (v := .ref (a 8)) (C := RX3) (T := TX3) (N := 16) hx hb hts hinX3 hown hK hP 0 rfl rfl 11 (by decide) (hts (.fieldLink RX3 31 "LoopSchedulerModel" "times" "[I") (List.mem_of_getElem? (i := 6) rfl)) (fun _ h9 => h9) rfl dX3_place_154 ?_
                refine lv_iload_n hx hb dX3_place_157 rfl (lv_at hl 1 rfl) ?_
                refine lv_iload_n hx hb dX3_place_158 rfl (lv_at hl 3 rfl) ?_
                refine lv_iload hx hb dX3_place_159 (lv_at hl 5 rfl) ?_
                refine z_add (a := ((pE L t (ptm pl tm) i : Nat) : Int)) (b := ((q : Nat) : Int)) hx hb dX3_place_161 ?_
                refine z_eqI (y := iI ((pE L t (ptm pl tm) i + q : Nat) : Int)) (congrArg iI (by omega)) ?_
                refine z_iastZ (f := tm') (z := i) (v := pE L t (ptm pl tm) i + q) hx hb hK hP hD hS 8 0 rfl rfl (by omega) (by decide) dX3_place_162 (fun H locs hP hD hS => ?_)
                have hP : va_P D vwCl (wM a g th L att T hs (upN tm' i (pE L t (ptm pl tm) i + q)) (upB pl i true) (fun _ => 0)) H := hP
                have hD : va_D A (wM a g th L att T hs (upN tm' i (pE L t (ptm pl tm) i + q)) (upB pl i true) (fun _ => 0)) := hD
                have ew : upN tm i (pE L t (ptm pl tm) i + q) = upN tm' i (pE L t (ptm pl tm) i + q) := (funext fun j => by by_cases e : j = i; rw [e, upN_s, upN_s]; rw [upN_n _ _ e, upN_n _ _ e]; exact (htm2 j e).symm)
                have hP : va_P D vwCl (wM a g th L att T hs (upN tm i (pE L t (ptm pl tm) i + q)) (upB pl i true) (fun _ => 0)) H := Eq.mp (congrArg (fun z9 => va_P D vwCl (wM a g th L att T hs z9 (upB pl i true) (fun _ => 0)) H) ew.symm) hP
                have hD : va_D A (wM a g th L att T hs (upN tm i (pE L t (ptm pl tm) i + q)) (upB pl i true) (fun _ => 0)) := Eq.mp (congrArg (fun z9 => va_D A (wM a g th L att T hs z9 (upB pl i true) (fun _ => 0))) ew.symm) hD
                refine lv_aload_n hx hb dX3_place_163 rfl (lv_at hl 0 rfl) ?_
                refine lv_iload_n hx hb dX3_place_164 rfl (lv_at hl 2 rfl) ?_
                refine z_calli (va_runV (As := [.int (iI ((t : Nat) : Int))]) (rest := []) ⟨hx, hb, hml, hown, hts⟩ (c_X3_fits l D g a th L att T hs (upN tm i (pE L t (ptm pl tm) i + q)) (upB pl i true) t hw htt (fun j hj hp => by by_cases e : j = i; rw [e, upN_s]; omega; rw [upN_n _ _ e]; rw [upB_n _ _ e] at hp; have := htp j hj hp; omega) _) (cwV 1 hts gX3_place_X3_fits rfl rfl rfl (by decide +kernel) ⟨Nat.le_of_ble_eq_true rfl, Nat.le_of_ble_eq_true rfl⟩) (z_preV 0 hK hP hD rfl rfl) rfl rfl hl.1 rfl (lv_room (Nat.le_of_ble_eq_true rfl)) dX3_place_165 ⟨Nat.zero_le _, Nat.zero_le _⟩) hS hD hA (fun r w1 H locs hw1 hP hD hS => ?_)
                obtain ⟨rfl, rfl⟩ := hw1
                refine z_ifeq (a := (bI (pM L t tm pl i (pE L t (ptm pl tm) i + q)))) (tgt := 173) hx hb dX3_place_168 (by decide) (bI_r _) (fun c_168 => ?_) (fun c_168 => ?_)
                · have b_168 := bI_f c_168
                  refine z_iinc (a := ((q : Nat) : Int)) (b := ((q + 1 : Nat) : Int)) (lv' := [(5, .int (iI ((q + 1 : Nat) : Int))), (0, .ref (a 0)), (1, .int (iI ((i : Nat) : Int))), (2, .int (iI ((t : Nat) : Int))), (3, .int (iI ((pE L t (ptm pl tm) i : Nat) : Int))), (4, .int (iI (min 1000000 (lA L t (ptm pl tm) i (Lm L)))))]) hx hb 5 dX3_place_173 hl rfl rfl (by decide) rfl (fun ls hl => ?_)
                  refine lv_goto (tgt := 138) hx hb dX3_place_176 (by decide) ?_
                  exact ih138 (q + 1) (upN tm i (pE L t (ptm pl tm) i + q)) _ _ _ (by omega) (by omega) (fun j hj => upN_n _ _ hj) (by rw [upN_s]; omega) (by rw [← hf, hstep]; exact (ffst_f b_168).symm) hP hD hS (lv_sub hl [1, 2, 3, 4, 5, 0] rfl)
                · have b_168 := bI_t c_168
                  have hSm : oM L t tm pl i = some (pE L t (ptm pl tm) i + q) := by rw [← hf, hstep]; exact ffst_t b_168
                  refine z_ic hx hb dX3_place_171 ?_
                  exact z_zret (w := (wM a g th L att T hs (upN tm i (pE L t (ptm pl tm) i + q)) (upB pl i true) (fun _ => 0))) (v := (iI ((1 : Nat) : Int))) z_nb1 hQ hx hb hr hlocks ⟨by rw [hSm]; rfl, _, fun j hj => upN_n _ _ hj, (fun x hx => by rw [hSm] at hx; cases hx; exact upN_s _ _ _), (by rw [upN_s]; omega), rfl⟩ hK hP hD hS dX3_place_172
        exact loop138 ((cMn L t (ptm pl tm) i - 0) + 1) 0 tm _ _ _ (Nat.lt_succ_self _) (by omega) (fun _ _ => rfl) (Nat.le_max_left _ _) rfl hP hD hS (lv_sub hl [1, 2, 3, 4, 5, 0] rfl)
      · have hed := wf_ed hw k (by omega)
        have hp1 := htb _ hed.1
        have hp2 := htb _ hed.2
        refine lv_aload_n hx hb dX3_place_18 rfl (lv_at hl 0 rfl) ?_
        refine va_get (D := D) (ci := 3) (v := .ref (a 5)) (C := RX3) (T := TX3) (N := 16) hx hb hts hinX3 hown hK hP 0 rfl rfl 7 (by decide) (hts (.fieldLink RX3 22 "LoopSchedulerModel" "tos" "[I") (List.mem_of_getElem? (i := 3) rfl)) (fun _ h9 => h9) rfl dX3_place_19 ?_
        refine lv_iload hx hb dX3_place_22 (lv_at hl 5 rfl) ?_
        refine z_ialdZ (f := Lds L) (z := k) hx hb hK hP 5 0 rfl rfl (by omega) (by decide) dX3_place_24 ?_
        refine lv_iload_n hx hb dX3_place_25 rfl (lv_at hl 1 rfl) ?_
        refine z_icne (a := ((Lds L k : Nat) : Int)) (b := ((i : Nat) : Int)) (tgt := 69) hx hb dX3_place_26 (by decide) (by omega) (fun c_26 => ?_) (fun c_26 => ?_)
        · have hl : lv_has ls 6 [(0, .ref (a 0)), (1, .int (iI ((i : Nat) : Int))), (2, .int (iI ((t : Nat) : Int))), (3, .int (iI (eA L t (ptm pl tm) i (k + 1)))), (4, .int (iI (min 1000000 (lA L t (ptm pl tm) i k)))), (5, .int (iI ((k : Nat) : Int)))] := by rw [show ((eA L t (ptm pl tm) i (k + 1)) : Int) = (eA L t (ptm pl tm) i k) from (eA_f (fun q => by have := q.1; omega))]; exact hl
          refine lv_aload_n hx hb dX3_place_69 rfl (lv_at hl 0 rfl) ?_
          refine va_get (D := D) (ci := 3) (v := .ref (a 4)) (C := RX3) (T := TX3) (N := 16) hx hb hts hinX3 hown hK hP 0 rfl rfl 6 (by decide) (hts (.fieldLink RX3 19 "LoopSchedulerModel" "froms" "[I") (List.mem_of_getElem? (i := 5) rfl)) (fun _ h9 => h9) rfl dX3_place_70 ?_
          refine lv_iload hx hb dX3_place_73 (lv_at hl 5 rfl) ?_
          refine z_ialdZ (f := Lsr L) (z := k) hx hb hK hP 4 0 rfl rfl (by omega) (by decide) dX3_place_75 ?_
          refine lv_iload_n hx hb dX3_place_76 rfl (lv_at hl 1 rfl) ?_
          refine z_icne (a := ((Lsr L k : Nat) : Int)) (b := ((i : Nat) : Int)) (tgt := 122) hx hb dX3_place_77 (by decide) (by omega) (fun c_77 => ?_) (fun c_77 => ?_)
          · have hl : lv_has ls 6 [(0, .ref (a 0)), (1, .int (iI ((i : Nat) : Int))), (2, .int (iI ((t : Nat) : Int))), (3, .int (iI (eA L t (ptm pl tm) i (k + 1)))), (4, .int (iI (min 1000000 (lA L t (ptm pl tm) i (k + 1))))), (5, .int (iI ((k : Nat) : Int)))] := by rw [show ((min 1000000 (lA L t (ptm pl tm) i (k + 1))) : Int) = (min 1000000 (lA L t (ptm pl tm) i k)) from (by rw [lA_f (fun q => by have := q.1; omega)])]; exact hl
            refine z_iinc (a := ((k : Nat) : Int)) (b := ((k + 1 : Nat) : Int)) (lv' := [(5, .int (iI ((k + 1 : Nat) : Int))), (0, .ref (a 0)), (1, .int (iI ((i : Nat) : Int))), (2, .int (iI ((t : Nat) : Int))), (3, .int (iI (eA L t (ptm pl tm) i (k + 1)))), (4, .int (iI (min 1000000 (lA L t (ptm pl tm) i (k + 1)))))]) hx hb 5 dX3_place_122 hl rfl rfl (by decide) rfl (fun ls hl => ?_)
            refine lv_goto (tgt := 9) hx hb dX3_place_125 (by decide) ?_
            exact ih9 (k + 1) _ _ _ (by omega) (by omega) hP hD hS (lv_sub hl [1, 2, 3, 4, 5, 0] rfl)
          · refine lv_aload_n hx hb dX3_place_80 rfl (lv_at hl 0 rfl) ?_
            refine va_get (D := D) (ci := 3) (v := .ref (a 10)) (C := RX3) (T := TX3) (N := 16) hx hb hts hinX3 hown hK hP 0 rfl rfl 14 (by decide) (hts (.fieldLink RX3 37 "LoopSchedulerModel" "isPlaced" "[Z") (List.mem_of_getElem? (i := 4) rfl)) (fun _ h9 => h9) rfl dX3_place_81 ?_
            refine lv_aload_n hx hb dX3_place_84 rfl (lv_at hl 0 rfl) ?_
            refine va_get (D := D) (ci := 3) (v := .ref (a 5)) (C := RX3) (T := TX3) (N := 16) hx hb hts hinX3 hown hK hP 0 rfl rfl 7 (by decide) (hts (.fieldLink RX3 22 "LoopSchedulerModel" "tos" "[I") (List.mem_of_getElem? (i := 3) rfl)) (fun _ h9 => h9) rfl dX3_place_85 ?_
            refine lv_iload hx hb dX3_place_88 (lv_at hl 5 rfl) ?_
            refine z_ialdZ (f := Lds L) (z := k) hx hb hK hP 5 0 rfl rfl (by omega) (by decide) dX3_place_90 ?_
            refine z_bald (f := pl) (z := Lds L k) hx hb hK hP 10 2 rfl rfl (by omega) (by decide) dX3_place_91 ?_
            refine z_ifeq (a := (bI (pl (Lds L k)))) (tgt := 122) hx hb dX3_place_92 (by decide) (bI_r _) (fun c_92 => ?_) (fun c_92 => ?_)
            · have b_92 := bI_f c_92
              have hl : lv_has ls 6 [(0, .ref (a 0)), (1, .int (iI ((i : Nat) : Int))), (2, .int (iI ((t : Nat) : Int))), (3, .int (iI (eA L t (ptm pl tm) i (k + 1)))), (4, .int (iI (min 1000000 (lA L t (ptm pl tm) i (k + 1))))), (5, .int (iI ((k : Nat) : Int)))] := by rw [show ((min 1000000 (lA L t (ptm pl tm) i (k + 1))) : Int) = (min 1000000 (lA L t (ptm pl tm) i k)) from (by rw [lA_f (fun q => q.2 (ptm_f b_92))])]; exact hl
              refine z_iinc (a := ((k : Nat) : Int)) (b := ((k + 1 : Nat) : Int)) (lv' := [(5, .int (iI ((k + 1 : Nat) : Int))), (0, .ref (a 0)), (1, .int (iI ((i : Nat) : Int))), (2, .int (iI ((t : Nat) : Int))), (3, .int (iI (eA L t (ptm pl tm) i (k + 1)))), (4, .int (iI (min 1000000 (lA L t (ptm pl tm) i (k + 1)))))]) hx hb 5 dX3_place_122 hl rfl rfl (by decide) rfl (fun ls hl => ?_)
              refine lv_goto (tgt := 9) hx hb dX3_place_125 (by decide) ?_
              exact ih9 (k + 1) _ _ _ (by omega) (by omega) hP hD hS (lv_sub hl [1, 2, 3, 4, 5, 0] rfl)
            · have b_92 := bI_t c_92
              have hq2 := htp _ hed.2 b_92
              refine lv_iload hx hb dX3_place_95 (lv_at hl 4 rfl) ?_
              refine lv_aload_n hx hb dX3_place_97 rfl (lv_at hl 0 rfl) ?_
              refine va_get (D := D) (ci := 3) (v := .ref (a 8)) (C := RX3) (T := TX3) (N := 16) hx hb hts hinX3 hown hK hP 0 rfl rfl 11 (by decide) (hts (.fieldLink RX3 31 "LoopSchedulerModel" "times" "[I") (List.mem_of_getElem? (i := 6) rfl)) (fun _ h9 => h9) rfl dX3_place_98 ?_
              refine lv_aload_n hx hb dX3_place_101 rfl (lv_at hl 0 rfl) ?_
              refine va_get (D := D) (ci := 3) (v := .ref (a 5)) (C := RX3) (T := TX3) (N := 16) hx hb hts hinX3 hown hK hP 0 rfl rfl 7 (by decide) (hts (.fieldLink RX3 22 "LoopSchedulerModel" "tos" "[I") (List.mem_of_getElem? (i := 3) rfl)) (fun _ h9 => h9) rfl dX3_place_102 ?_
              refine lv_iload hx hb dX3_place_105 (lv_at hl 5 rfl) ?_
              refine z_ialdZ (f := Lds L) (z := k) hx hb hK hP 5 0 rfl rfl (by omega) (by decide) dX3_place_107 ?_
              refine z_ialdZ (f := tm) (z := Lds L k) hx hb hK hP 8 0 rfl rfl (by omega) (by decide) dX3_place_108 ?_
              refine lv_aload_n hx hb dX3_place_109 rfl (lv_at hl 0 rfl) ?_
              refine lv_iload hx hb dX3_place_110 (lv_at hl 5 rfl) ?_
              refine lv_iload_n hx hb dX3_place_112 rfl (lv_at hl 2 rfl) ?_
              refine z_calli (va_runV (As := [.int (iI ((k : Nat) : Int)), .int (iI ((t : Nat) : Int))]) (rest := [.int (iI ((tm (Lds L k) : Nat) : Int)), .int (iI (min 1000000 (lA L t (ptm pl tm) i k)))]) ⟨hx, hb, hml, hown, hts⟩ (c_X3_lengthOf l D g a th L att T hs tm pl k t (by omega) _) (cwV 2 hts gX3_place_X3_lengthOf rfl rfl rfl (by decide +kernel) ⟨Nat.le_of_ble_eq_true rfl, Nat.le_of_ble_eq_true rfl⟩) (z_preV 0 hK hP hD rfl rfl) rfl rfl hl.1 rfl (lv_room (Nat.le_of_ble_eq_true rfl)) dX3_place_113 ⟨Nat.zero_le _, Nat.zero_le _⟩) hS hD hA (fun r w1 H locs hw1 hP hD hS => ?_)
              obtain ⟨rfl, rfl⟩ := hw1
              refine z_sub (a := ((tm (Lds L k) : Nat) : Int)) (b := (((Ldl L k : Nat) : Int) - ((t : Nat) : Int) * ((Ldi L k : Nat) : Int))) hx hb dX3_place_116 ?_
              refine z_mmin (a := (min 1000000 (lA L t (ptm pl tm) i k))) (b := (((tm (Lds L k) : Nat) : Int) - (((Ldl L k : Nat) : Int) - ((t : Nat) : Int) * ((Ldi L k : Nat) : Int)))) hx hb hml hl.1 hown (hts (.methodLink RX3 102 Lib.Math.min.name) (List.mem_of_getElem? (i := 11) rfl)) (hts (.static Lib.Math.min.name) (List.mem_of_getElem? (i := 12) rfl)) (hts (.initialized "java/lang/Math") (List.mem_of_getElem? (i := 9) rfl)) (hts (.code Lib.Math.min.name Lib.Math.min.code 2 (some .int)) (List.mem_of_getElem? (i := 13) rfl)) (Nat.le_of_ble_eq_true rfl) (Nat.le_of_ble_eq_true rfl) (Nat.zero_le _) (Nat.zero_le _) (by omega) dX3_place_117 ?_
              refine lv_istore (lv' := [(4, .int (iI (min (min 1000000 (lA L t (ptm pl tm) i k)) (((tm (Lds L k) : Nat) : Int) - (((Ldl L k : Nat) : Int) - ((t : Nat) : Int) * ((Ldi L k : Nat) : Int)))))), (0, .ref (a 0)), (1, .int (iI ((i : Nat) : Int))), (2, .int (iI ((t : Nat) : Int))), (3, .int (iI (eA L t (ptm pl tm) i (k + 1)))), (5, .int (iI ((k : Nat) : Int)))]) hx hb dX3_place_120 hl (by decide) rfl (fun ls hl => ?_)
              have hpt2 := ptm_t (tm := tm) b_92
              have hl : lv_has ls 6 [(4, .int (iI (min 1000000 (lA L t (ptm pl tm) i (k + 1))))), (0, .ref (a 0)), (1, .int (iI ((i : Nat) : Int))), (2, .int (iI ((t : Nat) : Int))), (3, .int (iI (eA L t (ptm pl tm) i (k + 1)))), (5, .int (iI ((k : Nat) : Int)))] := by rw [show ((min 1000000 (lA L t (ptm pl tm) i (k + 1))) : Int) = (min (min 1000000 (lA L t (ptm pl tm) i k)) (((tm (Lds L k) : Nat) : Int) - (((Ldl L k : Nat) : Int) - ((t : Nat) : Int) * ((Ldi L k : Nat) : Int)))) from (by rw [lA_t (show Lsr L k = i by omega) (by rw [hpt2]; omega), hpt2]; omega)]; exact hl
              refine z_iinc (a := ((k : Nat) : Int)) (b := ((k + 1 : Nat) : Int)) (lv' := [(5, .int (iI ((k + 1 : Nat) : Int))), (4, .int (iI (min 1000000 (lA L t (ptm pl tm) i (k + 1))))), (0, .ref (a 0)), (1, .int (iI ((i : Nat) : Int))), (2, .int (iI ((t : Nat) : Int))), (3, .int (iI (eA L t (ptm pl tm) i (k + 1))))]) hx hb 5 dX3_place_122 hl rfl rfl (by decide) rfl (fun ls hl => ?_)
              refine lv_goto (tgt := 9) hx hb dX3_place_125 (by decide) ?_
              exact ih9 (k + 1) _ _ _ (by omega) (by omega) hP hD hS (lv_sub hl [2, 3, 4, 5, 1, 0] rfl)
        · refine lv_aload_n hx hb dX3_place_29 rfl (lv_at hl 0 rfl) ?_
          refine va_get (D := D) (ci := 3) (v := .ref (a 10)) (C := RX3) (T := TX3) (N := 16) hx hb hts hinX3 hown hK hP 0 rfl rfl 14 (by decide) (hts (.fieldLink RX3 37 "LoopSchedulerModel" "isPlaced" "[Z") (List.mem_of_getElem? (i := 4) rfl)) (fun _ h9 => h9) rfl dX3_place_30 ?_
          refine lv_aload_n hx hb dX3_place_33 rfl (lv_at hl 0 rfl) ?_
          refine va_get (D := D) (ci := 3) (v := .ref (a 4)) (C := RX3) (T := TX3) (N := 16) hx hb hts hinX3 hown hK hP 0 rfl rfl 6 (by decide) (hts (.fieldLink RX3 19 "LoopSchedulerModel" "froms" "[I") (List.mem_of_getElem? (i := 5) rfl)) (fun _ h9 => h9) rfl dX3_place_34 ?_
          refine lv_iload hx hb dX3_place_37 (lv_at hl 5 rfl) ?_
          refine z_ialdZ (f := Lsr L) (z := k) hx hb hK hP 4 0 rfl rfl (by omega) (by decide) dX3_place_39 ?_
          refine z_bald (f := pl) (z := Lsr L k) hx hb hK hP 10 2 rfl rfl (by omega) (by decide) dX3_place_40 ?_
          refine z_ifeq (a := (bI (pl (Lsr L k)))) (tgt := 69) hx hb dX3_place_41 (by decide) (bI_r _) (fun c_41 => ?_) (fun c_41 => ?_)
          · have b_41 := bI_f c_41
            have hl : lv_has ls 6 [(0, .ref (a 0)), (1, .int (iI ((i : Nat) : Int))), (2, .int (iI ((t : Nat) : Int))), (3, .int (iI (eA L t (ptm pl tm) i (k + 1)))), (4, .int (iI (min 1000000 (lA L t (ptm pl tm) i k)))), (5, .int (iI ((k : Nat) : Int)))] := by rw [show ((eA L t (ptm pl tm) i (k + 1)) : Int) = (eA L t (ptm pl tm) i k) from (eA_f (fun q => q.2 (ptm_f b_41)))]; exact hl
            refine lv_aload_n hx hb dX3_place_69 rfl (lv_at hl 0 rfl) ?_
            refine va_get (D := D) (ci := 3) (v := .ref (a 4)) (C := RX3) (T := TX3) (N := 16) hx hb hts hinX3 hown hK hP 0 rfl rfl 6 (by decide) (hts (.fieldLink RX3 19 "LoopSchedulerModel" "froms" "[I") (List.mem_of_getElem? (i := 5) rfl)) (fun _ h9 => h9) rfl dX3_place_70 ?_
            refine lv_iload hx hb dX3_place_73 (lv_at hl 5 rfl) ?_
            refine z_ialdZ (f := Lsr L) (z := k) hx hb hK hP 4 0 rfl rfl (by omega) (by decide) dX3_place_75 ?_
            refine lv_iload_n hx hb dX3_place_76 rfl (lv_at hl 1 rfl) ?_
            refine z_icne (a := ((Lsr L k : Nat) : Int)) (b := ((i : Nat) : Int)) (tgt := 122) hx hb dX3_place_77 (by decide) (by omega) (fun c_77 => ?_) (fun c_77 => ?_)
            · have hl : lv_has ls 6 [(0, .ref (a 0)), (1, .int (iI ((i : Nat) : Int))), (2, .int (iI ((t : Nat) : Int))), (3, .int (iI (eA L t (ptm pl tm) i (k + 1)))), (4, .int (iI (min 1000000 (lA L t (ptm pl tm) i (k + 1))))), (5, .int (iI ((k : Nat) : Int)))] := by rw [show ((min 1000000 (lA L t (ptm pl tm) i (k + 1))) : Int) = (min 1000000 (lA L t (ptm pl tm) i k)) from (by rw [lA_f (fun q => by have := q.1; omega)])]; exact hl
              refine z_iinc (a := ((k : Nat) : Int)) (b := ((k + 1 : Nat) : Int)) (lv' := [(5, .int (iI ((k + 1 : Nat) : Int))), (0, .ref (a 0)), (1, .int (iI ((i : Nat) : Int))), (2, .int (iI ((t : Nat) : Int))), (3, .int (iI (eA L t (ptm pl tm) i (k + 1)))), (4, .int (iI (min 1000000 (lA L t (ptm pl tm) i (k + 1)))))]) hx hb 5 dX3_place_122 hl rfl rfl (by decide) rfl (fun ls hl => ?_)
              refine lv_goto (tgt := 9) hx hb dX3_place_125 (by decide) ?_
              exact ih9 (k + 1) _ _ _ (by omega) (by omega) hP hD hS (lv_sub hl [1, 2, 3, 4, 5, 0] rfl)
            · refine lv_aload_n hx hb dX3_place_80 rfl (lv_at hl 0 rfl) ?_
              refine va_get (D := D) (ci := 3) (v := .ref (a 10)) (C := RX3) (T := TX3) (N := 16) hx hb hts hinX3 hown hK hP 0 rfl rfl 14 (by decide) (hts (.fieldLink RX3 37 "LoopSchedulerModel" "isPlaced" "[Z") (List.mem_of_getElem? (i := 4) rfl)) (fun _ h9 => h9) rfl dX3_place_81 ?_
              refine lv_aload_n hx hb dX3_place_84 rfl (lv_at hl 0 rfl) ?_
              refine va_get (D := D) (ci := 3) (v := .ref (a 5)) (C := RX3) (T := TX3) (N := 16) hx hb hts hinX3 hown hK hP 0 rfl rfl 7 (by decide) (hts (.fieldLink RX3 22 "LoopSchedulerModel" "tos" "[I") (List.mem_of_getElem? (i := 3) rfl)) (fun _ h9 => h9) rfl dX3_place_85 ?_
              refine lv_iload hx hb dX3_place_88 (lv_at hl 5 rfl) ?_
              refine z_ialdZ (f := Lds L) (z := k) hx hb hK hP 5 0 rfl rfl (by omega) (by decide) dX3_place_90 ?_
              refine z_bald (f := pl) (z := Lds L k) hx hb hK hP 10 2 rfl rfl (by omega) (by decide) dX3_place_91 ?_
              refine z_ifeq (a := (bI (pl (Lds L k)))) (tgt := 122) hx hb dX3_place_92 (by decide) (bI_r _) (fun c_92 => ?_) (fun c_92 => ?_)
              · have b_92 := bI_f c_92
                have hl : lv_has ls 6 [(0, .ref (a 0)), (1, .int (iI ((i : Nat) : Int))), (2, .int (iI ((t : Nat) : Int))), (3, .int (iI (eA L t (ptm pl tm) i (k + 1)))), (4, .int (iI (min 1000000 (lA L t (ptm pl tm) i (k + 1))))), (5, .int (iI ((k : Nat) : Int)))] := by rw [show ((min 1000000 (lA L t (ptm pl tm) i (k + 1))) : Int) = (min 1000000 (lA L t (ptm pl tm) i k)) from (by rw [lA_f (fun q => q.2 (ptm_f b_92))])]; exact hl
                refine z_iinc (a := ((k : Nat) : Int)) (b := ((k + 1 : Nat) : Int)) (lv' := [(5, .int (iI ((k + 1 : Nat) : Int))), (0, .ref (a 0)), (1, .int (iI ((i : Nat) : Int))), (2, .int (iI ((t : Nat) : Int))), (3, .int (iI (eA L t (ptm pl tm) i (k + 1)))), (4, .int (iI (min 1000000 (lA L t (ptm pl tm) i (k + 1)))))]) hx hb 5 dX3_place_122 hl rfl rfl (by decide) rfl (fun ls hl => ?_)
                refine lv_goto (tgt := 9) hx hb dX3_place_125 (by decide) ?_
                exact ih9 (k + 1) _ _ _ (by omega) (by omega) hP hD hS (lv_sub hl [1, 2, 3, 4, 5, 0] rfl)
              · have b_92 := bI_t c_92
                have hq2 := htp _ hed.2 b_92
                refine lv_iload hx hb dX3_place_95 (lv_at hl 4 rfl) ?_
                refine lv_aload_n hx hb dX3_place_97 rfl (lv_at hl 0 rfl) ?_
                refine va_get (D := D) (ci := 3) (v := .ref (a 8)) (C := RX3) (T := TX3) (N := 16) hx hb hts hinX3 hown hK hP 0 rfl rfl 11 (by decide) (hts (.fieldLink RX3 31 "LoopSchedulerModel" "times" "[I") (List.mem_of_getElem? (i := 6) rfl)) (fun _ h9 => h9) rfl dX3_place_98 ?_
                refine lv_aload_n hx hb dX3_place_101 rfl (lv_at hl 0 rfl) ?_
                refine va_get (D := D) (ci := 3) (v := .ref (a 5)) (C := RX3) (T := TX3) (N := 16) hx hb hts hinX3 hown hK hP 0 rfl rfl 7 (by decide) (hts (.fieldLink RX3 22 "LoopSchedulerModel" "tos" "[I") (List.mem_of_getElem? (i := 3) rfl)) (fun _ h9 => h9) rfl dX3_place_102 ?_
                refine lv_iload hx hb dX3_place_105 (lv_at hl 5 rfl) ?_
                refine z_ialdZ (f := Lds L) (z := k) hx hb hK hP 5 0 rfl rfl (by omega) (by decide) dX3_place_107 ?_
                refine z_ialdZ (f := tm) (z := Lds L k) hx hb hK hP 8 0 rfl rfl (by omega) (by decide) dX3_place_108 ?_
                refine lv_aload_n hx hb dX3_place_109 rfl (lv_at hl 0 rfl) ?_
                refine lv_iload hx hb dX3_place_110 (lv_at hl 5 rfl) ?_
                refine lv_iload_n hx hb dX3_place_112 rfl (lv_at hl 2 rfl) ?_
                refine z_calli (va_runV (As := [.int (iI ((k : Nat) : Int)), .int (iI ((t : Nat) : Int))]) (rest := [.int (iI ((tm (Lds L k) : Nat) : Int)), .int (iI (min 1000000 (lA L t (ptm pl tm) i k)))]) ⟨hx, hb, hml, hown, hts⟩ (c_X3_lengthOf l D g a th L att T hs tm pl k t (by omega) _) (cwV 2 hts gX3_place_X3_lengthOf rfl rfl rfl (by decide +kernel) ⟨Nat.le_of_ble_eq_true rfl, Nat.le_of_ble_eq_true rfl⟩) (z_preV 0 hK hP hD rfl rfl) rfl rfl hl.1 rfl (lv_room (Nat.le_of_ble_eq_true rfl)) dX3_place_113 ⟨Nat.zero_le _, Nat.zero_le _⟩) hS hD hA (fun r w1 H locs hw1 hP hD hS => ?_)
                obtain ⟨rfl, rfl⟩ := hw1
                refine z_sub (a := ((tm (Lds L k) : Nat) : Int)) (b := (((Ldl L k : Nat) : Int) - ((t : Nat) : Int) * ((Ldi L k : Nat) : Int))) hx hb dX3_place_116 ?_
                refine z_mmin (a := (min 1000000 (lA L t (ptm pl tm) i k))) (b := (((tm (Lds L k) : Nat) : Int) - (((Ldl L k : Nat) : Int) - ((t : Nat) : Int) * ((Ldi L k : Nat) : Int)))) hx hb hml hl.1 hown (hts (.methodLink RX3 102 Lib.Math.min.name) (List.mem_of_getElem? (i := 11) rfl)) (hts (.static Lib.Math.min.name) (List.mem_of_getElem? (i := 12) rfl)) (hts (.initialized "java/lang/Math") (List.mem_of_getElem? (i := 9) rfl)) (hts (.code Lib.Math.min.name Lib.Math.min.code 2 (some .int)) (List.mem_of_getElem? (i := 13) rfl)) (Nat.le_of_ble_eq_true rfl) (Nat.le_of_ble_eq_true rfl) (Nat.zero_le _) (Nat.zero_le _) (by omega) dX3_place_117 ?_
                refine lv_istore (lv' := [(4, .int (iI (min (min 1000000 (lA L t (ptm pl tm) i k)) (((tm (Lds L k) : Nat) : Int) - (((Ldl L k : Nat) : Int) - ((t : Nat) : Int) * ((Ldi L k : Nat) : Int)))))), (0, .ref (a 0)), (1, .int (iI ((i : Nat) : Int))), (2, .int (iI ((t : Nat) : Int))), (3, .int (iI (eA L t (ptm pl tm) i (k + 1)))), (5, .int (iI ((k : Nat) : Int)))]) hx hb dX3_place_120 hl (by decide) rfl (fun ls hl => ?_)
                have hpt2 := ptm_t (tm := tm) b_92
                have hl : lv_has ls 6 [(4, .int (iI (min 1000000 (lA L t (ptm pl tm) i (k + 1))))), (0, .ref (a 0)), (1, .int (iI ((i : Nat) : Int))), (2, .int (iI ((t : Nat) : Int))), (3, .int (iI (eA L t (ptm pl tm) i (k + 1)))), (5, .int (iI ((k : Nat) : Int)))] := by rw [show ((min 1000000 (lA L t (ptm pl tm) i (k + 1))) : Int) = (min (min 1000000 (lA L t (ptm pl tm) i k)) (((tm (Lds L k) : Nat) : Int) - (((Ldl L k : Nat) : Int) - ((t : Nat) : Int) * ((Ldi L k : Nat) : Int)))) from (by rw [lA_t (show Lsr L k = i by omega) (by rw [hpt2]; omega), hpt2]; omega)]; exact hl
                refine z_iinc (a := ((k : Nat) : Int)) (b := ((k + 1 : Nat) : Int)) (lv' := [(5, .int (iI ((k + 1 : Nat) : Int))), (4, .int (iI (min 1000000 (lA L t (ptm pl tm) i (k + 1))))), (0, .ref (a 0)), (1, .int (iI ((i : Nat) : Int))), (2, .int (iI ((t : Nat) : Int))), (3, .int (iI (eA L t (ptm pl tm) i (k + 1))))]) hx hb 5 dX3_place_122 hl rfl rfl (by decide) rfl (fun ls hl => ?_)
                refine lv_goto (tgt := 9) hx hb dX3_place_125 (by decide) ?_
                exact ih9 (k + 1) _ _ _ (by omega) (by omega) hP hD hS (lv_sub hl [2, 3, 4, 5, 1, 0] rfl)
          · have b_41 := bI_t c_41
            have hq1 := htp _ hed.1 b_41
            refine lv_iload_n hx hb dX3_place_44 rfl (lv_at hl 3 rfl) ?_
            refine lv_aload_n hx hb dX3_place_45 rfl (lv_at hl 0 rfl) ?_
            refine va_get (D := D) (ci := 3) (v := .ref (a 8)) (C := RX3) (T := TX3) (N := 16) hx hb hts hinX3 hown hK hP 0 rfl rfl 11 (by decide) (hts (.fieldLink RX3 31 "LoopSchedulerModel" "times" "[I") (List.mem_of_getElem? (i := 6) rfl)) (fun _ h9 => h9) rfl dX3_place_46 ?_
            refine lv_aload_n hx hb dX3_place_49 rfl (lv_at hl 0 rfl) ?_
            refine va_get (D := D) (ci := 3) (v := .ref (a 4)) (C := RX3) (T := TX3) (N := 16) hx hb hts hinX3 hown hK hP 0 rfl rfl 6 (by decide) (hts (.fieldLink RX3 19 "LoopSchedulerModel" "froms" "[I") (List.mem_of_getElem? (i := 5) rfl)) (fun _ h9 => h9) rfl dX3_place_50 ?_
            refine lv_iload hx hb dX3_place_53 (lv_at hl 5 rfl) ?_
            refine z_ialdZ (f := Lsr L) (z := k) hx hb hK hP 4 0 rfl rfl (by omega) (by decide) dX3_place_55 ?_
            refine z_ialdZ (f := tm) (z := Lsr L k) hx hb hK hP 8 0 rfl rfl (by omega) (by decide) dX3_place_56 ?_
            refine lv_aload_n hx hb dX3_place_57 rfl (lv_at hl 0 rfl) ?_
            refine lv_iload hx hb dX3_place_58 (lv_at hl 5 rfl) ?_
            refine lv_iload_n hx hb dX3_place_60 rfl (lv_at hl 2 rfl) ?_
            refine z_calli (va_runV (As := [.int (iI ((k : Nat) : Int)), .int (iI ((t : Nat) : Int))]) (rest := [.int (iI ((tm (Lsr L k) : Nat) : Int)), .int (iI (eA L t (ptm pl tm) i k))]) ⟨hx, hb, hml, hown, hts⟩ (c_X3_lengthOf l D g a th L att T hs tm pl k t (by omega) _) (cwV 2 hts gX3_place_X3_lengthOf rfl rfl rfl (by decide +kernel) ⟨Nat.le_of_ble_eq_true rfl, Nat.le_of_ble_eq_true rfl⟩) (z_preV 0 hK hP hD rfl rfl) rfl rfl hl.1 rfl (lv_room (Nat.le_of_ble_eq_true rfl)) dX3_place_61 ⟨Nat.zero_le _, Nat.zero_le _⟩) hS hD hA (fun r w1 H locs hw1 hP hD hS => ?_)
            obtain ⟨rfl, rfl⟩ := hw1
            refine z_add (a := ((tm (Lsr L k) : Nat) : Int)) (b := (((Ldl L k : Nat) : Int) - ((t : Nat) : Int) * ((Ldi L k : Nat) : Int))) hx hb dX3_place_64 ?_
            refine z_mmax (a := (eA L t (ptm pl tm) i k)) (b := (((tm (Lsr L k) : Nat) : Int) + (((Ldl L k : Nat) : Int) - ((t : Nat) : Int) * ((Ldi L k : Nat) : Int)))) hx hb hml hl.1 hown (hts (.methodLink RX3 97 Lib.Math.max.name) (List.mem_of_getElem? (i := 7) rfl)) (hts (.static Lib.Math.max.name) (List.mem_of_getElem? (i := 8) rfl)) (hts (.initialized "java/lang/Math") (List.mem_of_getElem? (i := 9) rfl)) (hts (.code Lib.Math.max.name Lib.Math.max.code 2 (some .int)) (List.mem_of_getElem? (i := 10) rfl)) (Nat.le_of_ble_eq_true rfl) (Nat.le_of_ble_eq_true rfl) (Nat.zero_le _) (Nat.zero_le _) (by omega) dX3_place_65 ?_
            refine lv_istore_n (lv' := [(3, .int (iI (max (eA L t (ptm pl tm) i k) (((tm (Lsr L k) : Nat) : Int) + (((Ldl L k : Nat) : Int) - ((t : Nat) : Int) * ((Ldi L k : Nat) : Int)))))), (0, .ref (a 0)), (1, .int (iI ((i : Nat) : Int))), (2, .int (iI ((t : Nat) : Int))), (4, .int (iI (min 1000000 (lA L t (ptm pl tm) i k)))), (5, .int (iI ((k : Nat) : Int)))]) hx hb dX3_place_68 rfl hl (by decide) rfl (fun ls hl => ?_)
            have hpt := ptm_t (tm := tm) b_41
            have hl : lv_has ls 6 [(3, .int (iI (eA L t (ptm pl tm) i (k + 1)))), (0, .ref (a 0)), (1, .int (iI ((i : Nat) : Int))), (2, .int (iI ((t : Nat) : Int))), (4, .int (iI (min 1000000 (lA L t (ptm pl tm) i k)))), (5, .int (iI ((k : Nat) : Int)))] := by rw [show ((eA L t (ptm pl tm) i (k + 1)) : Int) = (max (eA L t (ptm pl tm) i k) (((tm (Lsr L k) : Nat) : Int) + (((Ldl L k : Nat) : Int) - ((t : Nat) : Int) * ((Ldi L k : Nat) : Int)))) from (by rw [eA_t (show Lds L k = i by omega) (by rw [hpt]; omega), hpt]; omega)]; exact hl
            refine lv_aload_n hx hb dX3_place_69 rfl (lv_at hl 1 rfl) ?_
            refine va_get (D := D) (ci := 3) (v := .ref (a 4)) (C := RX3) (T := TX3) (N := 16) hx hb hts hinX3 hown hK hP 0 rfl rfl 6 (by decide) (hts (.fieldLink RX3 19 "LoopSchedulerModel" "froms" "[I") (List.mem_of_getElem? (i := 5) rfl)) (fun _ h9 => h9) rfl dX3_place_70 ?_
            refine lv_iload hx hb dX3_place_73 (lv_at hl 5 rfl) ?_
            refine z_ialdZ (f := Lsr L) (z := k) hx hb hK hP 4 0 rfl rfl (by omega) (by decide) dX3_place_75 ?_
            refine lv_iload_n hx hb dX3_place_76 rfl (lv_at hl 2 rfl) ?_
            refine z_icne (a := ((Lsr L k : Nat) : Int)) (b := ((i : Nat) : Int)) (tgt := 122) hx hb dX3_place_77 (by decide) (by omega) (fun c_77 => ?_) (fun c_77 => ?_)
            · have hl : lv_has ls 6 [(3, .int (iI (eA L t (ptm pl tm) i (k + 1)))), (0, .ref (a 0)), (1, .int (iI ((i : Nat) : Int))), (2, .int (iI ((t : Nat) : Int))), (4, .int (iI (min 1000000 (lA L t (ptm pl tm) i (k + 1))))), (5, .int (iI ((k : Nat) : Int)))] := by rw [show ((min 1000000 (lA L t (ptm pl tm) i (k + 1))) : Int) = (min 1000000 (lA L t (ptm pl tm) i k)) from (by rw [lA_f (fun q => by have := q.1; omega)])]; exact hl
              refine z_iinc (a := ((k : Nat) : Int)) (b := ((k + 1 : Nat) : Int)) (lv' := [(5, .int (iI ((k + 1 : Nat) : Int))), (3, .int (iI (eA L t (ptm pl tm) i (k + 1)))), (0, .ref (a 0)), (1, .int (iI ((i : Nat) : Int))), (2, .int (iI ((t : Nat) : Int))), (4, .int (iI (min 1000000 (lA L t (ptm pl tm) i (k + 1)))))]) hx hb 5 dX3_place_122 hl rfl rfl (by decide) rfl (fun ls hl => ?_)
              refine lv_goto (tgt := 9) hx hb dX3_place_125 (by decide) ?_
              exact ih9 (k + 1) _ _ _ (by omega) (by omega) hP hD hS (lv_sub hl [2, 3, 4, 1, 5, 0] rfl)
            · refine lv_aload_n hx hb dX3_place_80 rfl (lv_at hl 1 rfl) ?_
              refine va_get (D := D) (ci := 3) (v := .ref (a 10)) (C := RX3) (T := TX3) (N := 16) hx hb hts hinX3 hown hK hP 0 rfl rfl 14 (by decide) (hts (.fieldLink RX3 37 "LoopSchedulerModel" "isPlaced" "[Z") (List.mem_of_getElem? (i := 4) rfl)) (fun _ h9 => h9) rfl dX3_place_81 ?_
              refine lv_aload_n hx hb dX3_place_84 rfl (lv_at hl 1 rfl) ?_
              refine va_get (D := D) (ci := 3) (v := .ref (a 5)) (C := RX3) (T := TX3) (N := 16) hx hb hts hinX3 hown hK hP 0 rfl rfl 7 (by decide) (hts (.fieldLink RX3 22 "LoopSchedulerModel" "tos" "[I") (List.mem_of_getElem? (i := 3) rfl)) (fun _ h9 => h9) rfl dX3_place_85 ?_
              refine lv_iload hx hb dX3_place_88 (lv_at hl 5 rfl) ?_
              refine z_ialdZ (f := Lds L) (z := k) hx hb hK hP 5 0 rfl rfl (by omega) (by decide) dX3_place_90 ?_
              refine z_bald (f := pl) (z := Lds L k) hx hb hK hP 10 2 rfl rfl (by omega) (by decide) dX3_place_91 ?_
              refine z_ifeq (a := (bI (pl (Lds L k)))) (tgt := 122) hx hb dX3_place_92 (by decide) (bI_r _) (fun c_92 => ?_) (fun c_92 => ?_)
              · have b_92 := bI_f c_92
                have hl : lv_has ls 6 [(3, .int (iI (eA L t (ptm pl tm) i (k + 1)))), (0, .ref (a 0)), (1, .int (iI ((i : Nat) : Int))), (2, .int (iI ((t : Nat) : Int))), (4, .int (iI (min 1000000 (lA L t (ptm pl tm) i (k + 1))))), (5, .int (iI ((k : Nat) : Int)))] := by rw [show ((min 1000000 (lA L t (ptm pl tm) i (k + 1))) : Int) = (min 1000000 (lA L t (ptm pl tm) i k)) from (by rw [lA_f (fun q => q.2 (ptm_f b_92))])]; exact hl
                refine z_iinc (a := ((k : Nat) : Int)) (b := ((k + 1 : Nat) : Int)) (lv' := [(5, .int (iI ((k + 1 : Nat) : Int))), (3, .int (iI (eA L t (ptm pl tm) i (k + 1)))), (0, .ref (a 0)), (1, .int (iI ((i : Nat) : Int))), (2, .int (iI ((t : Nat) : Int))), (4, .int (iI (min 1000000 (lA L t (ptm pl tm) i (k + 1)))))]) hx hb 5 dX3_place_122 hl rfl rfl (by decide) rfl (fun ls hl => ?_)
                refine lv_goto (tgt := 9) hx hb dX3_place_125 (by decide) ?_
                exact ih9 (k + 1) _ _ _ (by omega) (by omega) hP hD hS (lv_sub hl [2, 3, 4, 1, 5, 0] rfl)
              · have b_92 := bI_t c_92
                have hq2 := htp _ hed.2 b_92
                refine lv_iload hx hb dX3_place_95 (lv_at hl 4 rfl) ?_
                refine lv_aload_n hx hb dX3_place_97 rfl (lv_at hl 1 rfl) ?_
                refine va_get (D := D) (ci := 3) (v := .ref (a 8)) (C := RX3) (T := TX3) (N := 16) hx hb hts hinX3 hown hK hP 0 rfl rfl 11 (by decide) (hts (.fieldLink RX3 31 "LoopSchedulerModel" "times" "[I") (List.mem_of_getElem? (i := 6) rfl)) (fun _ h9 => h9) rfl dX3_place_98 ?_
                refine lv_aload_n hx hb dX3_place_101 rfl (lv_at hl 1 rfl) ?_
                refine va_get (D := D) (ci := 3) (v := .ref (a 5)) (C := RX3) (T := TX3) (N := 16) hx hb hts hinX3 hown hK hP 0 rfl rfl 7 (by decide) (hts (.fieldLink RX3 22 "LoopSchedulerModel" "tos" "[I") (List.mem_of_getElem? (i := 3) rfl)) (fun _ h9 => h9) rfl dX3_place_102 ?_
                refine lv_iload hx hb dX3_place_105 (lv_at hl 5 rfl) ?_
                refine z_ialdZ (f := Lds L) (z := k) hx hb hK hP 5 0 rfl rfl (by omega) (by decide) dX3_place_107 ?_
                refine z_ialdZ (f := tm) (z := Lds L k) hx hb hK hP 8 0 rfl rfl (by omega) (by decide) dX3_place_108 ?_
                refine lv_aload_n hx hb dX3_place_109 rfl (lv_at hl 1 rfl) ?_
                refine lv_iload hx hb dX3_place_110 (lv_at hl 5 rfl) ?_
                refine lv_iload_n hx hb dX3_place_112 rfl (lv_at hl 3 rfl) ?_
                refine z_calli (va_runV (As := [.int (iI ((k : Nat) : Int)), .int (iI ((t : Nat) : Int))]) (rest := [.int (iI ((tm (Lds L k) : Nat) : Int)), .int (iI (min 1000000 (lA L t (ptm pl tm) i k)))]) ⟨hx, hb, hml, hown, hts⟩ (c_X3_lengthOf l D g a th L att T hs tm pl k t (by omega) _) (cwV 2 hts gX3_place_X3_lengthOf rfl rfl rfl (by decide +kernel) ⟨Nat.le_of_ble_eq_true rfl, Nat.le_of_ble_eq_true rfl⟩) (z_preV 0 hK hP hD rfl rfl) rfl rfl hl.1 rfl (lv_room (Nat.le_of_ble_eq_true rfl)) dX3_place_113 ⟨Nat.zero_le _, Nat.zero_le _⟩) hS hD hA (fun r w1 H locs hw1 hP hD hS => ?_)
                obtain ⟨rfl, rfl⟩ := hw1
                refine z_sub (a := ((tm (Lds L k) : Nat) : Int)) (b := (((Ldl L k : Nat) : Int) - ((t : Nat) : Int) * ((Ldi L k : Nat) : Int))) hx hb dX3_place_116 ?_
                refine z_mmin (a := (min 1000000 (lA L t (ptm pl tm) i k))) (b := (((tm (Lds L k) : Nat) : Int) - (((Ldl L k : Nat) : Int) - ((t : Nat) : Int) * ((Ldi L k : Nat) : Int)))) hx hb hml hl.1 hown (hts (.methodLink RX3 102 Lib.Math.min.name) (List.mem_of_getElem? (i := 11) rfl)) (hts (.static Lib.Math.min.name) (List.mem_of_getElem? (i := 12) rfl)) (hts (.initialized "java/lang/Math") (List.mem_of_getElem? (i := 9) rfl)) (hts (.code Lib.Math.min.name Lib.Math.min.code 2 (some .int)) (List.mem_of_getElem? (i := 13) rfl)) (Nat.le_of_ble_eq_true rfl) (Nat.le_of_ble_eq_true rfl) (Nat.zero_le _) (Nat.zero_le _) (by omega) dX3_place_117 ?_
                refine lv_istore (lv' := [(4, .int (iI (min (min 1000000 (lA L t (ptm pl tm) i k)) (((tm (Lds L k) : Nat) : Int) - (((Ldl L k : Nat) : Int) - ((t : Nat) : Int) * ((Ldi L k : Nat) : Int)))))), (3, .int (iI (eA L t (ptm pl tm) i (k + 1)))), (0, .ref (a 0)), (1, .int (iI ((i : Nat) : Int))), (2, .int (iI ((t : Nat) : Int))), (5, .int (iI ((k : Nat) : Int)))]) hx hb dX3_place_120 hl (by decide) rfl (fun ls hl => ?_)
                have hpt2 := ptm_t (tm := tm) b_92
                have hl : lv_has ls 6 [(4, .int (iI (min 1000000 (lA L t (ptm pl tm) i (k + 1))))), (3, .int (iI (eA L t (ptm pl tm) i (k + 1)))), (0, .ref (a 0)), (1, .int (iI ((i : Nat) : Int))), (2, .int (iI ((t : Nat) : Int))), (5, .int (iI ((k : Nat) : Int)))] := by rw [show ((min 1000000 (lA L t (ptm pl tm) i (k + 1))) : Int) = (min (min 1000000 (lA L t (ptm pl tm) i k)) (((tm (Lds L k) : Nat) : Int) - (((Ldl L k : Nat) : Int) - ((t : Nat) : Int) * ((Ldi L k : Nat) : Int)))) from (by rw [lA_t (show Lsr L k = i by omega) (by rw [hpt2]; omega), hpt2]; omega)]; exact hl
                refine z_iinc (a := ((k : Nat) : Int)) (b := ((k + 1 : Nat) : Int)) (lv' := [(5, .int (iI ((k + 1 : Nat) : Int))), (4, .int (iI (min 1000000 (lA L t (ptm pl tm) i (k + 1))))), (3, .int (iI (eA L t (ptm pl tm) i (k + 1)))), (0, .ref (a 0)), (1, .int (iI ((i : Nat) : Int))), (2, .int (iI ((t : Nat) : Int)))]) hx hb 5 dX3_place_122 hl rfl rfl (by decide) rfl (fun ls hl => ?_)
                refine lv_goto (tgt := 9) hx hb dX3_place_125 (by decide) ?_
                exact ih9 (k + 1) _ _ _ (by omega) (by omega) hP hD hS (lv_sub hl [3, 4, 5, 2, 1, 0] rfl)
  exact loop9 ((Lm L - 0) + 1) 0 _ _ _ (Nat.lt_succ_self _) (by omega) hP hD hS (lv_sub hl [3, 4, 5, 2, 1, 0] rfl)

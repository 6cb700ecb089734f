set_option maxHeartbeats 4000000 in
set_option maxRecDepth 100000 in
theorem c_L_below (l : Launch) (D : va_G) (g : Nat → ClassId) (w : va_W) (v : Int32) (n : Nat) (hn : 0 < n ∧ n ≤ 1000) : zMi l D (zT g) yL_below wsL_below 1 12 w [.int v, .int (iI ((n : Nat) : Int))] (fun r w1 => r = iI ((bel v n : Nat) : Int) ∧ w1 = w) := by
  refine z_ofI (cc := cL_below) (maxL := 2) (ret := (some .int)) (by decide) rfl (Nat.le_of_ble_eq_true rfl) ?_
  intro p e s m args below meth c A ls hx hb hr hts hown hlocks hml hP hK hD hS hA hl Q hQ
  have hown : s.vm.findClass RL = some m.cls := hown
  have hl : lv_has ls 2 [(0, .int v), (1, .int (iI ((n : Nat) : Int)))] := hl
  refine lv_iload_n hx hb dL_below_0 rfl (lv_at hl 0 rfl) ?_
  refine lv_ldc (v := 2147483647) hx hb hown (hts (.constant RL 7 (2147483647)) (List.mem_of_getElem? (i := 1) rfl)) dL_below_1 ?_
  refine lv_iand hx hb dL_below_3 ?_
  refine lv_iload_n hx hb dL_below_4 rfl (lv_at hl 1 rfl) ?_
  refine lv_irem hx hb dL_below_5 (z_ne0 ⟨by omega, by omega⟩) (z_eqI (bel_e v hn) ?_)
  exact z_iret (w := w) (v := iI ((bel v n : Nat) : Int)) hQ hx hb hr hlocks ⟨rfl, rfl⟩ hK hP hD hS dL_below_6
set_option maxHeartbeats 4000000 in
set_option maxRecDepth 100000 in
theorem c_L_cell (l : Launch) (D : va_G) (g : Nat → ClassId) (b Lx : Nat) (xs : Nat → Int32) (hLx : Lx ≤ 260) (k : Nat) (hk : k ≤ 1000) : bMi l D (zT g) yL_cell wsL_cell 1 12 0 b Lx xs [] [.ref b, .int (iI ((k : Nat) : Int))] (fun r w1 => r = cellF Lx xs k ∧ w1 = []) := by
  refine b_ofI (cc := cL_cell) (maxL := 2) (ret := (some .int)) (by decide) rfl (Nat.le_of_ble_eq_true rfl) ?_
  intro p e s m args below meth c A ls hx hb hr hts hown hlocks hml hP hK hD hS hA hl hE hV hX hbl hbA Q hQ
  have hown : s.vm.findClass RL = some m.cls := hown
  have hl : lv_has ls 2 [(0, .ref b), (1, .int (iI ((k : Nat) : Int)))] := hl
  refine lv_iload_n hx hb dL_cell_0 rfl (lv_at hl 1 rfl) ?_
  refine lv_aload_n hx hb dL_cell_1 rfl (lv_at hl 0 rfl) ?_
  refine va_slen hx hb hX hbl hbA hS dL_cell_2 ?_
  refine z_eqI (y := iI ((Lx : Nat) : Int)) rfl ?_
  refine z_icge (a := ((k : Nat) : Int)) (b := ((Lx : Nat) : Int)) (tgt := 12) hx hb dL_cell_3 (by decide) (by omega) (fun c_3 => ?_) (fun c_3 => ?_)
  · refine lv_ldc (v := 790386105) hx hb hown (hts (.constant RL 8 (790386105)) (List.mem_of_getElem? (i := 1) rfl)) dL_cell_12 ?_
    refine z_eqI (y := iI 790386105) (by decide) ?_
    refine lv_iload_n hx hb dL_cell_14 rfl (lv_at hl 1 rfl) ?_
    refine z_ic hx hb dL_cell_15 ?_
    refine z_add (a := ((k : Nat) : Int)) (b := 3) hx hb dL_cell_16 ?_
    refine z_mul (a := 790386105) (b := ((k : Nat) : Int) + 3) hx hb dL_cell_17 ?_
    exact b_iret (w := []) (v := iI (790386105 * (((k : Nat) : Int) + 3))) hQ hx hb hr hlocks ⟨(if_neg (show ¬ k < Lx by omega)).symm, rfl⟩ hK hP hD hS (Nat.zero_le _) (Nat.zero_le _) dL_cell_18
  · refine lv_aload_n hx hb dL_cell_6 rfl (lv_at hl 0 rfl) ?_
    refine lv_iload_n hx hb dL_cell_7 rfl (lv_at hl 1 rfl) ?_
    refine va_sld hx hb hX hbl hbA hS (iI_in (z := ((k : Nat) : Int)) ⟨by omega, by omega⟩ (by omega)) dL_cell_8 ?_
    refine z_eqI (y := xs k) (by rw [iI_cl ⟨by omega, by omega⟩]; rfl) ?_
    refine lv_goto (tgt := 18) hx hb dL_cell_9 (by decide) ?_
    exact b_iret (w := []) (v := xs k) hQ hx hb hr hlocks ⟨(if_pos (show k < Lx by omega)).symm, rfl⟩ hK hP hD hS (Nat.zero_le _) (Nat.zero_le _) dL_cell_18

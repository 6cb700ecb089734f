set_option maxHeartbeats 16000000 in
set_option maxRecDepth 100000 in
theorem c_L_isValid (l : Launch) (D : va_G) (g : Nat → ClassId) (ot ol ob okk ou b Lx : Nat) (xs : Nat → Int32) (L : LD) (T : Nat) (tk : Nat → Nat → Int) (tf uf lf : Nat → Nat) (h6 : w6 L) (hT : 0 < T ∧ T ≤ 200) (hE : eOK L T tf = true) (hI : IX L T tk tf one) (htm : ∀ j, tf j ≤ 3000) (huf : ∀ k, k < 3 → uf k = Lu L k) (hlf : lf 0 = Lm L ∧ LK L lf) : bMi l D (zT g) yL_isValid wsL_isValid 1 12 200 b Lx xs [(ot, .inl (g 0, 6, .inl (aI (nZ tf)))), (ol, .inl (g 0, 40, .inl (aI (nZ lf)))), (ob, .inl (g 0, 6, .inl (aI (nZ (Lby L))))), (okk, .inl (g 0, 6, .inl (aI (nZ (Lkd L))))), (ou, .inl (g 0, 3, .inl (aI (nZ uf))))] [.int (iI ((Ln L : Nat) : Int)), .int (iI ((T : Nat) : Int)), .ref (ot), .ref (ou), .ref (okk), .ref (ob), .ref (ol)] (fun r w1 => r = iI 1 ∧ w1 = [(ot, .inl (g 0, 6, .inl (aI (nZ tf)))), (ol, .inl (g 0, 40, .inl (aI (nZ lf)))), (ob, .inl (g 0, 6, .inl (aI (nZ (Lby L))))), (okk, .inl (g 0, 6, .inl (aI (nZ (Lkd L))))), (ou, .inl (g 0, 3, .inl (aI (nZ uf))))]) := by
  refine b_ofI (cc := cL_isValid) (maxL := 11) (ret := (some .boolean)) (by decide) rfl (Nat.le_of_ble_eq_true rfl) ?_
  intro p e s m args below meth c A ls hx hb hr hts hown hlocks hml hP hK hD hS hA hl hE0 hV hX hbl hbA Q hQ
  have hown : s.vm.findClass RL = some m.cls := hown
  have hw : wf L := h6.1
  have hn6 := h6.2.2.2.1
  have hm8 := h6.2.2.2.2.1
  have hl : lv_has ls 11 [(0, .int (iI ((Ln L : Nat) : Int))), (1, .int (iI ((T : Nat) : Int))), (2, .ref (ot)), (3, .ref (ou)), (4, .ref (okk)), (5, .ref (ob)), (6, .ref (ol))] := hl
  refine z_ic hx hb dL_isValid_0 ?_
  refine lv_istore (lv' := [(7, .int (iI ((0 : Nat) : Int))), (0, .int (iI ((Ln L : Nat) : Int))), (1, .int (iI ((T : Nat) : Int))), (2, .ref (ot)), (3, .ref (ou)), (4, .ref (okk)), (5, .ref (ob)), (6, .ref (ol))]) hx hb dL_isValid_1 hl (by decide) rfl (fun ls hl => ?_)
  have loop3 : ∀ (n3 : Nat) (k : Nat) (H : Heap) (locs : List Loc) (ls : Array Slot), Lm L - k < n3 → (k ≤ Lm L) → va_P D vwCl [(ot, .inl (g 0, 6, .inl (aI (nZ tf)))), (ol, .inl (g 0, 40, .inl (aI (nZ lf)))), (ob, .inl (g 0, 6, .inl (aI (nZ (Lby L))))), (okk, .inl (g 0, 6, .inl (aI (nZ (Lkd L))))), (ou, .inl (g 0, 3, .inl (aI (nZ uf))))] H → va_D A [(ot, .inl (g 0, 6, .inl (aI (nZ tf)))), (ol, .inl (g 0, 40, .inl (aI (nZ lf)))), (ob, .inl (g 0, 6, .inl (aI (nZ (Lby L))))), (okk, .inl (g 0, 6, .inl (aI (nZ (Lkd L))))), (ou, .inl (g 0, 3, .inl (aI (nZ uf))))] → va_S A s.heap H locs → lv_has ls 11 [(0, .int (iI ((Ln L : Nat) : Int))), (1, .int (iI ((T : Nat) : Int))), (2, .ref (ot)), (3, .ref (ou)), (4, .ref (okk)), (5, .ref (ob)), (6, .ref (ol)), (7, .int (iI ((k : Nat) : Int)))] → W p l e ({ frames := 1, cells := 200, slots := 6 * 200, locals := 12 } : Room) s m args below meth c H locs 0 0 Q (F0 m 3 ls []) := by
    intro n3
    induction n3 with
    | zero => exact fun _ H locs ls hn => absurd hn (Nat.not_lt_zero _)
    | succ n3 ih3 =>
      intro k H locs ls hn3 hk hP hD hS hl
      have hm1 := mul_nn T (Ldi L k)
      have hm2 := mul_bd hT.2 (wf_di hw k)
      have hdl := wf_dl hw k
      have ht1 := htm (Lsr L k)
      have ht2 := htm (Lds L k)
      refine lv_iload hx hb dL_isValid_3 (lv_at hl 7 rfl) ?_
      refine lv_aload hx hb dL_isValid_5 (lv_at hl 6 rfl) ?_
      refine z_ic hx hb dL_isValid_7 ?_
      refine z_ialdZ (f := lf) (z := 0) hx hb hK hP 1 0 rfl rfl (by omega) (by decide) dL_isValid_8 ?_
      refine z_eqI (y := (iI ((Lm L : Nat) : Int))) (congrArg iI (by rw [hlf.1])) ?_
      refine z_icge (a := ((k : Nat) : Int)) (b := ((Lm L : Nat) : Int)) (tgt := 65) hx hb dL_isValid_9 (by decide) (by omega) (fun c_9 => ?_) (fun c_9 => ?_)
      · refine z_ic hx hb dL_isValid_65 ?_
        refine lv_istore (lv' := [(7, .int (iI ((0 : Nat) : Int))), (0, .int (iI ((Ln L : Nat) : Int))), (1, .int (iI ((T : Nat) : Int))), (2, .ref (ot)), (3, .ref (ou)), (4, .ref (okk)), (5, .ref (ob)), (6, .ref (ol))]) hx hb dL_isValid_66 hl (by decide) rfl (fun ls hl => ?_)
        have loop68 : ∀ (n68 : Nat) (row : Nat) (H : Heap) (locs : List Loc) (ls : Array Slot), T - row < n68 → (row ≤ T) → va_P D vwCl [(ot, .inl (g 0, 6, .inl (aI (nZ tf)))), (ol, .inl (g 0, 40, .inl (aI (nZ lf)))), (ob, .inl (g 0, 6, .inl (aI (nZ (Lby L))))), (okk, .inl (g 0, 6, .inl (aI (nZ (Lkd L))))), (ou, .inl (g 0, 3, .inl (aI (nZ uf))))] H → va_D A [(ot, .inl (g 0, 6, .inl (aI (nZ tf)))), (ol, .inl (g 0, 40, .inl (aI (nZ lf)))), (ob, .inl (g 0, 6, .inl (aI (nZ (Lby L))))), (okk, .inl (g 0, 6, .inl (aI (nZ (Lkd L))))), (ou, .inl (g 0, 3, .inl (aI (nZ uf))))] → va_S A s.heap H locs → lv_has ls 11 [(0, .int (iI ((Ln L : Nat) : Int))), (1, .int (iI ((T : Nat) : Int))), (2, .ref (ot)), (3, .ref (ou)), (4, .ref (okk)), (5, .ref (ob)), (6, .ref (ol)), (7, .int (iI ((row : Nat) : Int)))] → W p l e ({ frames := 1, cells := 200, slots := 6 * 200, locals := 12 } : Room) s m args below meth c H locs row (3 * row) Q (F0 m 68 ls []) := by
          intro n68
          induction n68 with
          | zero => exact fun _ H locs ls hn => absurd hn (Nat.not_lt_zero _)
          | succ n68 ih68 =>
            intro row H locs ls hn68 hrw hP hD hS hl
            refine lv_iload hx hb dL_isValid_68 (lv_at hl 7 rfl) ?_
            refine lv_iload_n hx hb dL_isValid_70 rfl (lv_at hl 1 rfl) ?_
            refine z_icge (a := ((row : Nat) : Int)) (b := ((T : Nat) : Int)) (tgt := 178) hx hb dL_isValid_71 (by decide) (by omega) (fun c_71 => ?_) (fun c_71 => ?_)
            · refine z_ic hx hb dL_isValid_178 ?_
              exact x_zret (w := [(ot, .inl (g 0, 6, .inl (aI (nZ tf)))), (ol, .inl (g 0, 40, .inl (aI (nZ lf)))), (ob, .inl (g 0, 6, .inl (aI (nZ (Lby L))))), (okk, .inl (g 0, 6, .inl (aI (nZ (Lkd L))))), (ou, .inl (g 0, 3, .inl (aI (nZ uf))))]) (v := (iI ((1 : Nat) : Int))) z_nb1 hQ hx hb hr hlocks ⟨rfl, rfl⟩ hK hP hD hS (show row ≤ 200 from by omega) (show 3 * row ≤ 6 * 200 from by omega) dL_isValid_179
            · refine z_ic hx hb dL_isValid_74 ?_
              refine z_newa2 (n := iI ((3 : Nat) : Int)) (N' := 3) (a0 := (3, .inl (aI (nZ (fun _ => 0))))) hx hb (hts (.arrayClass .int) (List.mem_of_getElem? (i := 1) rfl)) hK hP hD hS hA 0 rfl (aI0 3) (by decide) (by decide) (by decide) (show row + 1 ≤ 200 from by omega) (show 3 * row + 3 ≤ 6 * 200 from by omega) dL_isValid_75 (fun oq H hP hD hS => ?_)
              have hP : va_P D vwCl ([(oq, .inl (g 0, 3, .inl (aI (nZ (fun _ => 0)))))] ++ [(ot, .inl (g 0, 6, .inl (aI (nZ tf)))), (ol, .inl (g 0, 40, .inl (aI (nZ lf)))), (ob, .inl (g 0, 6, .inl (aI (nZ (Lby L))))), (okk, .inl (g 0, 6, .inl (aI (nZ (Lkd L))))), (ou, .inl (g 0, 3, .inl (aI (nZ uf))))]) H := wj_sp hP
              have hD : va_D A ([(oq, .inl (g 0, 3, .inl (aI (nZ (fun _ => 0)))))] ++ [(ot, .inl (g 0, 6, .inl (aI (nZ tf)))), (ol, .inl (g 0, 40, .inl (aI (nZ lf)))), (ob, .inl (g 0, 6, .inl (aI (nZ (Lby L))))), (okk, .inl (g 0, 6, .inl (aI (nZ (Lkd L))))), (ou, .inl (g 0, 3, .inl (aI (nZ uf))))]) := wj_sd hD
              have hP : va_P D vwCl [(oq, .inl (g 0, 3, .inl (aI (nZ (fun _ => 0))))), (ot, .inl (g 0, 6, .inl (aI (nZ tf)))), (ol, .inl (g 0, 40, .inl (aI (nZ lf)))), (ob, .inl (g 0, 6, .inl (aI (nZ (Lby L))))), (okk, .inl (g 0, 6, .inl (aI (nZ (Lkd L))))), (ou, .inl (g 0, 3, .inl (aI (nZ uf))))] H := hP
              have hD : va_D A [(oq, .inl (g 0, 3, .inl (aI (nZ (fun _ => 0))))), (ot, .inl (g 0, 6, .inl (aI (nZ tf)))), (ol, .inl (g 0, 40, .inl (aI (nZ lf)))), (ob, .inl (g 0, 6, .inl (aI (nZ (Lby L))))), (okk, .inl (g 0, 6, .inl (aI (nZ (Lkd L))))), (ou, .inl (g 0, 3, .inl (aI (nZ uf))))] := hD
              refine lv_astore (lv' := [(8, .ref (oq)), (0, .int (iI ((Ln L : Nat) : Int))), (1, .int (iI ((T : Nat) : Int))), (2, .ref (ot)), (3, .ref (ou)), (4, .ref (okk)), (5, .ref (ob)), (6, .ref (ol)), (7, .int (iI ((row : Nat) : Int)))]) hx hb dL_isValid_77 hl (by decide) rfl (fun ls hl => ?_)
              refine z_ic hx hb dL_isValid_79 ?_
              refine lv_istore (lv' := [(9, .int (iI ((0 : Nat) : Int))), (8, .ref (oq)), (0, .int (iI ((Ln L : Nat) : Int))), (1, .int (iI ((T : Nat) : Int))), (2, .ref (ot)), (3, .ref (ou)), (4, .ref (okk)), (5, .ref (ob)), (6, .ref (ol)), (7, .int (iI ((row : Nat) : Int)))]) hx hb dL_isValid_80 hl (by decide) rfl (fun ls hl => ?_)
              have loop82 : ∀ (n82 : Nat) (i : Nat) (H : Heap) (locs : List Loc) (ls : Array Slot), Ln L - i < n82 → (i ≤ Ln L) → va_P D vwCl [(oq, .inl (g 0, 3, .inl (aI (tkn L T tf row i 0)))), (ot, .inl (g 0, 6, .inl (aI (nZ tf)))), (ol, .inl (g 0, 40, .inl (aI (nZ lf)))), (ob, .inl (g 0, 6, .inl (aI (nZ (Lby L))))), (okk, .inl (g 0, 6, .inl (aI (nZ (Lkd L))))), (ou, .inl (g 0, 3, .inl (aI (nZ uf))))] H → va_D A [(oq, .inl (g 0, 3, .inl (aI (tkn L T tf row i 0)))), (ot, .inl (g 0, 6, .inl (aI (nZ tf)))), (ol, .inl (g 0, 40, .inl (aI (nZ lf)))), (ob, .inl (g 0, 6, .inl (aI (nZ (Lby L))))), (okk, .inl (g 0, 6, .inl (aI (nZ (Lkd L))))), (ou, .inl (g 0, 3, .inl (aI (nZ uf))))] → va_S A s.heap H locs → lv_has ls 11 [(0, .int (iI ((Ln L : Nat) : Int))), (1, .int (iI ((T : Nat) : Int))), (2, .ref (ot)), (3, .ref (ou)), (4, .ref (okk)), (5, .ref (ob)), (6, .ref (ol)), (7, .int (iI ((row : Nat) : Int))), (8, .ref (oq)), (9, .int (iI ((i : Nat) : Int)))] → W p l e ({ frames := 1, cells := 200, slots := 6 * 200, locals := 12 } : Room) s m args below meth c H locs (row + 1) (3 * row + 3) Q (F0 m 82 ls []) := by
                intro n82
                induction n82 with
                | zero => exact fun _ H locs ls hn => absurd hn (Nat.not_lt_zero _)
                | succ n82 ih82 =>
                  intro i H locs ls hn82 hi hP hD hS hl
                  refine lv_iload hx hb dL_isValid_82 (lv_at hl 9 rfl) ?_
                  refine lv_iload_n hx hb dL_isValid_84 rfl (lv_at hl 0 rfl) ?_
                  refine z_icge (a := ((i : Nat) : Int)) (b := ((Ln L : Nat) : Int)) (tgt := 143) hx hb dL_isValid_85 (by decide) (by omega) (fun c_85 => ?_) (fun c_85 => ?_)
                  · obtain rfl : i = Ln L := by omega
                    refine z_ic hx hb dL_isValid_143 ?_
                    refine lv_istore (lv' := [(9, .int (iI ((0 : Nat) : Int))), (0, .int (iI ((Ln L : Nat) : Int))), (1, .int (iI ((T : Nat) : Int))), (2, .ref (ot)), (3, .ref (ou)), (4, .ref (okk)), (5, .ref (ob)), (6, .ref (ol)), (7, .int (iI ((row : Nat) : Int))), (8, .ref (oq))]) hx hb dL_isValid_144 hl (by decide) rfl (fun ls hl => ?_)
                    have loop146 : ∀ (n146 : Nat) (kd : Nat) (H : Heap) (locs : List Loc) (ls : Array Slot), 3 - kd < n146 → (kd ≤ 3) → va_P D vwCl [(oq, .inl (g 0, 3, .inl (aI (tkn L T tf row (Ln L) 0)))), (ot, .inl (g 0, 6, .inl (aI (nZ tf)))), (ol, .inl (g 0, 40, .inl (aI (nZ lf)))), (ob, .inl (g 0, 6, .inl (aI (nZ (Lby L))))), (okk, .inl (g 0, 6, .inl (aI (nZ (Lkd L))))), (ou, .inl (g 0, 3, .inl (aI (nZ uf))))] H → va_D A [(oq, .inl (g 0, 3, .inl (aI (tkn L T tf row (Ln L) 0)))), (ot, .inl (g 0, 6, .inl (aI (nZ tf)))), (ol, .inl (g 0, 40, .inl (aI (nZ lf)))), (ob, .inl (g 0, 6, .inl (aI (nZ (Lby L))))), (okk, .inl (g 0, 6, .inl (aI (nZ (Lkd L))))), (ou, .inl (g 0, 3, .inl (aI (nZ uf))))] → va_S A s.heap H locs → lv_has ls 11 [(0, .int (iI ((Ln L : Nat) : Int))), (1, .int (iI ((T : Nat) : Int))), (2, .ref (ot)), (3, .ref (ou)), (4, .ref (okk)), (5, .ref (ob)), (6, .ref (ol)), (7, .int (iI ((row : Nat) : Int))), (8, .ref (oq)), (9, .int (iI ((kd : Nat) : Int)))] → W p l e ({ frames := 1, cells := 200, slots := 6 * 200, locals := 12 } : Room) s m args below meth c H locs (row + 1) (3 * row + 3) Q (F0 m 146 ls []) := by
                      intro n146
                      induction n146 with
                      | zero => exact fun _ H locs ls hn => absurd hn (Nat.not_lt_zero _)
                      | succ n146 ih146 =>
                        intro kd H locs ls hn146 hkd hP hD hS hl
                        have hbd := tkn_bd L hw T tf row (Ln L) 0 (by omega) (by omega) kd
                        refine lv_iload hx hb dL_isValid_146 (lv_at hl 9 rfl) ?_
                        refine z_ic hx hb dL_isValid_148 ?_
                        refine z_icge (a := ((kd : Nat) : Int)) (b := 3) (tgt := 172) hx hb dL_isValid_149 (by decide) (by omega) (fun c_149 => ?_) (fun c_149 => ?_)
                        · refine z_iinc (a := ((row : Nat) : Int)) (b := ((row + 1 : Nat) : Int)) (lv' := [(7, .int (iI ((row + 1 : Nat) : Int))), (0, .int (iI ((Ln L : Nat) : Int))), (1, .int (iI ((T : Nat) : Int))), (2, .ref (ot)), (3, .ref (ou)), (4, .ref (okk)), (5, .ref (ob)), (6, .ref (ol)), (8, .ref (oq)), (9, .int (iI ((kd : Nat) : Int)))]) hx hb 7 dL_isValid_172 hl rfl rfl (by decide) rfl (fun ls hl => ?_)
                          refine lv_goto (tgt := 68) hx hb dL_isValid_175 (by decide) ?_
                          have hP : va_P D vwCl [(ot, .inl (g 0, 6, .inl (aI (nZ tf)))), (ol, .inl (g 0, 40, .inl (aI (nZ lf)))), (ob, .inl (g 0, 6, .inl (aI (nZ (Lby L))))), (okk, .inl (g 0, 6, .inl (aI (nZ (Lkd L))))), (ou, .inl (g 0, 3, .inl (aI (nZ uf))))] H := wj_r (u := [(oq, .inl (g 0, 3, .inl (aI (tkn L T tf row (Ln L) 0))))]) hP
                          have hD : va_D A [(ot, .inl (g 0, 6, .inl (aI (nZ tf)))), (ol, .inl (g 0, 40, .inl (aI (nZ lf)))), (ob, .inl (g 0, 6, .inl (aI (nZ (Lby L))))), (okk, .inl (g 0, 6, .inl (aI (nZ (Lkd L))))), (ou, .inl (g 0, 3, .inl (aI (nZ uf))))] := wj_dr (u := [(oq, .inl (g 0, 3, .inl (aI (tkn L T tf row (Ln L) 0))))]) hD
                          refine W.widen (k := (row + 1)) (n := 3 * (row + 1)) (by omega) (by omega) ?_
                          exact ih68 (row + 1) _ _ _ (by omega) (by omega) hP hD hS (lv_sub hl [1, 2, 3, 4, 5, 6, 7, 0] rfl)
                        · refine lv_aload hx hb dL_isValid_152 (lv_at hl 8 rfl) ?_
                          refine lv_iload hx hb dL_isValid_154 (lv_at hl 9 rfl) ?_
                          refine z_ialdN (f := tkn L T tf row (Ln L) 0) (z := kd) hx hb hK hP 0 0 rfl rfl (by omega) (by decide) dL_isValid_156 ?_
                          refine lv_aload_n hx hb dL_isValid_157 rfl (lv_at hl 3 rfl) ?_
                          refine lv_iload hx hb dL_isValid_158 (lv_at hl 9 rfl) ?_
                          refine z_ialdZ (f := uf) (z := kd) hx hb hK hP 5 0 rfl rfl (by omega) (by decide) dL_isValid_160 ?_
                          refine z_icle (a := ((tkn L T tf row (Ln L) 0) kd)) (b := ((uf kd : Nat) : Int)) (tgt := 166) hx hb dL_isValid_161 (by decide) (by have h9 := huf kd (by omega); have h8 := wf_u hw kd (by omega); omega) (fun c_161 => ?_) (fun c_161 => ?_)
                          · refine z_iinc (a := ((kd : Nat) : Int)) (b := ((kd + 1 : Nat) : Int)) (lv' := [(9, .int (iI ((kd + 1 : Nat) : Int))), (0, .int (iI ((Ln L : Nat) : Int))), (1, .int (iI ((T : Nat) : Int))), (2, .ref (ot)), (3, .ref (ou)), (4, .ref (okk)), (5, .ref (ob)), (6, .ref (ol)), (7, .int (iI ((row : Nat) : Int))), (8, .ref (oq))]) hx hb 9 dL_isValid_166 hl rfl rfl (by decide) rfl (fun ls hl => ?_)
                            refine lv_goto (tgt := 146) hx hb dL_isValid_169 (by decide) ?_
                            refine W.widen (k := row + 1) (n := 3 * row + 3) (by omega) (by omega) ?_
                            exact ih146 (kd + 1) _ _ _ (by omega) (by omega) hP hD hS (lv_sub hl [1, 2, 3, 4, 5, 6, 7, 8, 9, 0] rfl)
                          · exact absurd (by have h9 := tkn_le (tk := tk) (k := kd) hT hI (show row < T by omega); rw [huf kd (by omega)]; exact h9) c_161
                    refine W.widen (k := row + 1) (n := 3 * row + 3) (by omega) (by omega) ?_
                    exact loop146 ((3 - 0) + 1) 0 _ _ _ (Nat.lt_succ_self _) (by omega) hP hD hS (lv_sub hl [1, 2, 3, 4, 5, 6, 7, 8, 9, 0] rfl)
                  · refine z_ic hx hb dL_isValid_88 ?_
                    refine lv_istore (lv' := [(10, .int (iI ((0 : Nat) : Int))), (0, .int (iI ((Ln L : Nat) : Int))), (1, .int (iI ((T : Nat) : Int))), (2, .ref (ot)), (3, .ref (ou)), (4, .ref (okk)), (5, .ref (ob)), (6, .ref (ol)), (7, .int (iI ((row : Nat) : Int))), (8, .ref (oq)), (9, .int (iI ((i : Nat) : Int)))]) hx hb dL_isValid_89 hl (by decide) rfl (fun ls hl => ?_)
                    have loop91 : ∀ (n91 : Nat) (q : Nat) (H : Heap) (locs : List Loc) (ls : Array Slot), Lby L i - q < n91 → (q ≤ Lby L i) → va_P D vwCl [(oq, .inl (g 0, 3, .inl (aI (tkn L T tf row i q)))), (ot, .inl (g 0, 6, .inl (aI (nZ tf)))), (ol, .inl (g 0, 40, .inl (aI (nZ lf)))), (ob, .inl (g 0, 6, .inl (aI (nZ (Lby L))))), (okk, .inl (g 0, 6, .inl (aI (nZ (Lkd L))))), (ou, .inl (g 0, 3, .inl (aI (nZ uf))))] H → va_D A [(oq, .inl (g 0, 3, .inl (aI (tkn L T tf row i q)))), (ot, .inl (g 0, 6, .inl (aI (nZ tf)))), (ol, .inl (g 0, 40, .inl (aI (nZ lf)))), (ob, .inl (g 0, 6, .inl (aI (nZ (Lby L))))), (okk, .inl (g 0, 6, .inl (aI (nZ (Lkd L))))), (ou, .inl (g 0, 3, .inl (aI (nZ uf))))] → va_S A s.heap H locs → lv_has ls 11 [(0, .int (iI ((Ln L : Nat) : Int))), (1, .int (iI ((T : Nat) : Int))), (2, .ref (ot)), (3, .ref (ou)), (4, .ref (okk)), (5, .ref (ob)), (6, .ref (ol)), (7, .int (iI ((row : Nat) : Int))), (8, .ref (oq)), (9, .int (iI ((i : Nat) : Int))), (10, .int (iI ((q : Nat) : Int)))] → W p l e ({ frames := 1, cells := 200, slots := 6 * 200, locals := 12 } : Room) s m args below meth c H locs (row + 1) (3 * row + 3) Q (F0 m 91 ls []) := by
                      intro n91
                      induction n91 with
                      | zero => exact fun _ H locs ls hn => absurd hn (Nat.not_lt_zero _)
                      | succ n91 ih91 =>
                        intro q H locs ls hn91 hq hP hD hS hl
                        have hb3 := wf_by hw i
                        have hkd := wf_kd hw i
                        have hbd := tkn_bd L hw T tf row i q (by omega) (by omega) (Lkd L i)
                        have hti := htm i
                        have hmd := Nat.mod_lt (tf i + q) hT.1
                        refine lv_iload hx hb dL_isValid_91 (lv_at hl 10 rfl) ?_
                        refine lv_aload hx hb dL_isValid_93 (lv_at hl 5 rfl) ?_
                        refine lv_iload hx hb dL_isValid_95 (lv_at hl 9 rfl) ?_
                        refine z_ialdZ (f := Lby L) (z := i) hx hb hK hP 3 0 rfl rfl (by omega) (by decide) dL_isValid_97 ?_
                        refine z_icge (a := ((q : Nat) : Int)) (b := ((Lby L i : Nat) : Int)) (tgt := 137) hx hb dL_isValid_98 (by decide) (by omega) (fun c_98 => ?_) (fun c_98 => ?_)
                        · obtain rfl : q = Lby L i := by omega
                          rw [tkn_n] at hP hD
                          have hP : va_P D vwCl [(oq, .inl (g 0, 3, .inl (aI (tkn L T tf row (i + 1) 0)))), (ot, .inl (g 0, 6, .inl (aI (nZ tf)))), (ol, .inl (g 0, 40, .inl (aI (nZ lf)))), (ob, .inl (g 0, 6, .inl (aI (nZ (Lby L))))), (okk, .inl (g 0, 6, .inl (aI (nZ (Lkd L))))), (ou, .inl (g 0, 3, .inl (aI (nZ uf))))] H := hP
                          have hD : va_D A [(oq, .inl (g 0, 3, .inl (aI (tkn L T tf row (i + 1) 0)))), (ot, .inl (g 0, 6, .inl (aI (nZ tf)))), (ol, .inl (g 0, 40, .inl (aI (nZ lf)))), (ob, .inl (g 0, 6, .inl (aI (nZ (Lby L))))), (okk, .inl (g 0, 6, .inl (aI (nZ (Lkd L))))), (ou, .inl (g 0, 3, .inl (aI (nZ uf))))] := hD
                          refine z_iinc (a := ((i : Nat) : Int)) (b := ((i + 1 : Nat) : Int)) (lv' := [(9, .int (iI ((i + 1 : Nat) : Int))), (0, .int (iI ((Ln L : Nat) : Int))), (1, .int (iI ((T : Nat) : Int))), (2, .ref (ot)), (3, .ref (ou)), (4, .ref (okk)), (5, .ref (ob)), (6, .ref (ol)), (7, .int (iI ((row : Nat) : Int))), (8, .ref (oq)), (10, .int (iI (((Lby L i) : Nat) : Int)))]) hx hb 9 dL_isValid_137 hl rfl rfl (by decide) rfl (fun ls hl => ?_)
                          refine lv_goto (tgt := 82) hx hb dL_isValid_140 (by decide) ?_
                          refine W.widen (k := row + 1) (n := 3 * row + 3) (by omega) (by omega) ?_
                          exact ih82 (i + 1) _ _ _ (by omega) (by omega) hP hD hS (lv_sub hl [1, 2, 3, 4, 5, 6, 7, 8, 9, 0] rfl)
                        · refine lv_aload hx hb dL_isValid_101 (lv_at hl 8 rfl) ?_
                          refine lv_aload hx hb dL_isValid_103 (lv_at hl 4 rfl) ?_
                          refine lv_iload hx hb dL_isValid_105 (lv_at hl 9 rfl) ?_
                          refine z_ialdZ (f := Lkd L) (z := i) hx hb hK hP 4 0 rfl rfl (by omega) (by decide) dL_isValid_107 ?_
                          refine lv_dup2_11 hx hb dL_isValid_108 rfl rfl ?_
                          refine z_ialdN (f := tkn L T tf row i q) (z := Lkd L i) hx hb hK hP 0 0 rfl rfl (by omega) (by decide) dL_isValid_109 ?_
                          refine lv_aload_n hx hb dL_isValid_110 rfl (lv_at hl 2 rfl) ?_
                          refine lv_iload hx hb dL_isValid_111 (lv_at hl 9 rfl) ?_
                          refine z_ialdZ (f := tf) (z := i) hx hb hK hP 1 0 rfl rfl (by omega) (by decide) dL_isValid_113 ?_
                          refine lv_iload hx hb dL_isValid_114 (lv_at hl 10 rfl) ?_
                          refine z_add (a := ((tf i : Nat) : Int)) (b := ((q : Nat) : Int)) hx hb dL_isValid_116 ?_
                          refine z_eqI (y := iI ((tf i + q : Nat) : Int)) (congrArg iI (by omega)) ?_
                          refine lv_iload_n hx hb dL_isValid_117 rfl (lv_at hl 1 rfl) ?_
                          refine z_rem (a := ((tf i + q : Nat) : Int)) (b := ((T : Nat) : Int)) hx hb (by omega) dL_isValid_118 ?_
                          refine z_eqI (y := iI (((tf i + q) % T : Nat) : Int)) (congrArg iI (Int.natCast_emod _ _).symm) ?_
                          refine lv_iload hx hb dL_isValid_119 (lv_at hl 7 rfl) ?_
                          refine z_icne (a := (((tf i + q) % T : Nat) : Int)) (b := ((row : Nat) : Int)) (tgt := 128) hx hb dL_isValid_121 (by decide) (by omega) (fun c_121 => ?_) (fun c_121 => ?_)
                          · refine z_ic hx hb dL_isValid_128 ?_
                            refine z_add (a := (tkn L T tf row i q (Lkd L i))) (b := 0) hx hb dL_isValid_129 ?_
                            refine z_iastN (f := tkn L T tf row i q) (z := Lkd L i) (v := ((tkn L T tf row i q (Lkd L i)) + 0)) hx hb hK hP hD hS 0 0 rfl rfl (by omega) (by decide) dL_isValid_130 (fun H locs hP hD hS => ?_)
                            have hP : va_P D vwCl [(oq, .inl (g 0, 3, .inl (aI (upZ (tkn L T tf row i q) (Lkd L i) ((tkn L T tf row i q (Lkd L i)) + 0))))), (ot, .inl (g 0, 6, .inl (aI (nZ tf)))), (ol, .inl (g 0, 40, .inl (aI (nZ lf)))), (ob, .inl (g 0, 6, .inl (aI (nZ (Lby L))))), (okk, .inl (g 0, 6, .inl (aI (nZ (Lkd L))))), (ou, .inl (g 0, 3, .inl (aI (nZ uf))))] H := hP
                            have hD : va_D A [(oq, .inl (g 0, 3, .inl (aI (upZ (tkn L T tf row i q) (Lkd L i) ((tkn L T tf row i q (Lkd L i)) + 0))))), (ot, .inl (g 0, 6, .inl (aI (nZ tf)))), (ol, .inl (g 0, 40, .inl (aI (nZ lf)))), (ob, .inl (g 0, 6, .inl (aI (nZ (Lby L))))), (okk, .inl (g 0, 6, .inl (aI (nZ (Lkd L))))), (ou, .inl (g 0, 3, .inl (aI (nZ uf))))] := hD
                            rw [tkn_s hT tf (show row < T by omega) i q (b := 0) (if_neg (fun h => c_121 (by rw [h]))).symm] at hP hD
                            have hP : va_P D vwCl [(oq, .inl (g 0, 3, .inl (aI (tkn L T tf row i (q + 1))))), (ot, .inl (g 0, 6, .inl (aI (nZ tf)))), (ol, .inl (g 0, 40, .inl (aI (nZ lf)))), (ob, .inl (g 0, 6, .inl (aI (nZ (Lby L))))), (okk, .inl (g 0, 6, .inl (aI (nZ (Lkd L))))), (ou, .inl (g 0, 3, .inl (aI (nZ uf))))] H := hP
                            have hD : va_D A [(oq, .inl (g 0, 3, .inl (aI (tkn L T tf row i (q + 1))))), (ot, .inl (g 0, 6, .inl (aI (nZ tf)))), (ol, .inl (g 0, 40, .inl (aI (nZ lf)))), (ob, .inl (g 0, 6, .inl (aI (nZ (Lby L))))), (okk, .inl (g 0, 6, .inl (aI (nZ (Lkd L))))), (ou, .inl (g 0, 3, .inl (aI (nZ uf))))] := hD
                            refine z_iinc (a := ((q : Nat) : Int)) (b := ((q + 1 : Nat) : Int)) (lv' := [(10, .int (iI ((q + 1 : Nat) : Int))), (0, .int (iI ((Ln L : Nat) : Int))), (1, .int (iI ((T : Nat) : Int))), (2, .ref (ot)), (3, .ref (ou)), (4, .ref (okk)), (5, .ref (ob)), (6, .ref (ol)), (7, .int (iI ((row : Nat) : Int))), (8, .ref (oq)), (9, .int (iI ((i : Nat) : Int)))]) hx hb 10 dL_isValid_131 hl rfl rfl (by decide) rfl (fun ls hl => ?_)
                            refine lv_goto (tgt := 91) hx hb dL_isValid_134 (by decide) ?_
                            refine W.widen (k := row + 1) (n := 3 * row + 3) (by omega) (by omega) ?_
                            exact ih91 (q + 1) _ _ _ (by omega) (by omega) hP hD hS (lv_sub hl [1, 2, 3, 4, 5, 6, 7, 8, 9, 10, 0] rfl)
                          · refine z_ic hx hb dL_isValid_124 ?_
                            refine lv_goto (tgt := 129) hx hb dL_isValid_125 (by decide) ?_
                            refine z_add (a := (tkn L T tf row i q (Lkd L i))) (b := 1) hx hb dL_isValid_129 ?_
                            refine z_iastN (f := tkn L T tf row i q) (z := Lkd L i) (v := ((tkn L T tf row i q (Lkd L i)) + 1)) hx hb hK hP hD hS 0 0 rfl rfl (by omega) (by decide) dL_isValid_130 (fun H locs hP hD hS => ?_)
                            have hP : va_P D vwCl [(oq, .inl (g 0, 3, .inl (aI (upZ (tkn L T tf row i q) (Lkd L i) ((tkn L T tf row i q (Lkd L i)) + 1))))), (ot, .inl (g 0, 6, .inl (aI (nZ tf)))), (ol, .inl (g 0, 40, .inl (aI (nZ lf)))), (ob, .inl (g 0, 6, .inl (aI (nZ (Lby L))))), (okk, .inl (g 0, 6, .inl (aI (nZ (Lkd L))))), (ou, .inl (g 0, 3, .inl (aI (nZ uf))))] H := hP
                            have hD : va_D A [(oq, .inl (g 0, 3, .inl (aI (upZ (tkn L T tf row i q) (Lkd L i) ((tkn L T tf row i q (Lkd L i)) + 1))))), (ot, .inl (g 0, 6, .inl (aI (nZ tf)))), (ol, .inl (g 0, 40, .inl (aI (nZ lf)))), (ob, .inl (g 0, 6, .inl (aI (nZ (Lby L))))), (okk, .inl (g 0, 6, .inl (aI (nZ (Lkd L))))), (ou, .inl (g 0, 3, .inl (aI (nZ uf))))] := hD
                            rw [tkn_s hT tf (show row < T by omega) i q (b := 1) (if_pos (show (tf i + q) % T = row by omega)).symm] at hP hD
                            have hP : va_P D vwCl [(oq, .inl (g 0, 3, .inl (aI (tkn L T tf row i (q + 1))))), (ot, .inl (g 0, 6, .inl (aI (nZ tf)))), (ol, .inl (g 0, 40, .inl (aI (nZ lf)))), (ob, .inl (g 0, 6, .inl (aI (nZ (Lby L))))), (okk, .inl (g 0, 6, .inl (aI (nZ (Lkd L))))), (ou, .inl (g 0, 3, .inl (aI (nZ uf))))] H := hP
                            have hD : va_D A [(oq, .inl (g 0, 3, .inl (aI (tkn L T tf row i (q + 1))))), (ot, .inl (g 0, 6, .inl (aI (nZ tf)))), (ol, .inl (g 0, 40, .inl (aI (nZ lf)))), (ob, .inl (g 0, 6, .inl (aI (nZ (Lby L))))), (okk, .inl (g 0, 6, .inl (aI (nZ (Lkd L))))), (ou, .inl (g 0, 3, .inl (aI (nZ uf))))] := hD
                            refine z_iinc (a := ((q : Nat) : Int)) (b := ((q + 1 : Nat) : Int)) (lv' := [(10, .int (iI ((q + 1 : Nat) : Int))), (0, .int (iI ((Ln L : Nat) : Int))), (1, .int (iI ((T : Nat) : Int))), (2, .ref (ot)), (3, .ref (ou)), (4, .ref (okk)), (5, .ref (ob)), (6, .ref (ol)), (7, .int (iI ((row : Nat) : Int))), (8, .ref (oq)), (9, .int (iI ((i : Nat) : Int)))]) hx hb 10 dL_isValid_131 hl rfl rfl (by decide) rfl (fun ls hl => ?_)
                            refine lv_goto (tgt := 91) hx hb dL_isValid_134 (by decide) ?_
                            refine W.widen (k := row + 1) (n := 3 * row + 3) (by omega) (by omega) ?_
                            exact ih91 (q + 1) _ _ _ (by omega) (by omega) hP hD hS (lv_sub hl [1, 2, 3, 4, 5, 6, 7, 8, 9, 10, 0] rfl)
                    refine W.widen (k := row + 1) (n := 3 * row + 3) (by omega) (by omega) ?_
                    exact loop91 ((Lby L i - 0) + 1) 0 _ _ _ (Nat.lt_succ_self _) (by omega) hP hD hS (lv_sub hl [1, 2, 3, 4, 5, 6, 7, 8, 9, 10, 0] rfl)
              have hP : va_P D vwCl [(oq, .inl (g 0, 3, .inl (aI (tkn L T tf row 0 0)))), (ot, .inl (g 0, 6, .inl (aI (nZ tf)))), (ol, .inl (g 0, 40, .inl (aI (nZ lf)))), (ob, .inl (g 0, 6, .inl (aI (nZ (Lby L))))), (okk, .inl (g 0, 6, .inl (aI (nZ (Lkd L))))), (ou, .inl (g 0, 3, .inl (aI (nZ uf))))] H := hP
              have hD : va_D A [(oq, .inl (g 0, 3, .inl (aI (tkn L T tf row 0 0)))), (ot, .inl (g 0, 6, .inl (aI (nZ tf)))), (ol, .inl (g 0, 40, .inl (aI (nZ lf)))), (ob, .inl (g 0, 6, .inl (aI (nZ (Lby L))))), (okk, .inl (g 0, 6, .inl (aI (nZ (Lkd L))))), (ou, .inl (g 0, 3, .inl (aI (nZ uf))))] := hD
              refine W.widen (k := row + 1) (n := 3 * row + 3) (by omega) (by omega) ?_
              exact loop82 ((Ln L - 0) + 1) 0 _ _ _ (Nat.lt_succ_self _) (by omega) hP hD hS (lv_sub hl [2, 3, 4, 5, 6, 7, 8, 9, 1, 0] rfl)
        refine W.widen (k := 0) (n := 3 * 0) (by omega) (by omega) ?_
        exact loop68 ((T - 0) + 1) 0 _ _ _ (Nat.lt_succ_self _) (by omega) hP hD hS (lv_sub hl [1, 2, 3, 4, 5, 6, 7, 0] rfl)
      · refine z_ic hx hb dL_isValid_12 ?_
        refine z_ic hx hb dL_isValid_13 ?_
        refine lv_iload hx hb dL_isValid_14 (lv_at hl 7 rfl) ?_
        refine z_mul (a := 4) (b := ((k : Nat) : Int)) hx hb dL_isValid_16 ?_
        refine z_eqI (y := iI ((4 * k : Nat) : Int)) (congrArg iI (by omega)) ?_
        refine z_add (a := 1) (b := ((4 * k : Nat) : Int)) hx hb dL_isValid_17 ?_
        refine z_eqI (y := iI ((1 + 4 * k : Nat) : Int)) (congrArg iI (by omega)) ?_
        refine lv_istore (lv' := [(8, .int (iI ((1 + 4 * k : Nat) : Int))), (0, .int (iI ((Ln L : Nat) : Int))), (1, .int (iI ((T : Nat) : Int))), (2, .ref (ot)), (3, .ref (ou)), (4, .ref (okk)), (5, .ref (ob)), (6, .ref (ol)), (7, .int (iI ((k : Nat) : Int)))]) hx hb dL_isValid_18 hl (by decide) rfl (fun ls hl => ?_)
        refine lv_aload_n hx hb dL_isValid_20 rfl (lv_at hl 3 rfl) ?_
        refine lv_aload hx hb dL_isValid_21 (lv_at hl 7 rfl) ?_
        refine lv_iload hx hb dL_isValid_23 (lv_at hl 0 rfl) ?_
        refine z_ic hx hb dL_isValid_25 ?_
        refine z_add (a := ((1 + 4 * k : Nat) : Int)) (b := 1) hx hb dL_isValid_26 ?_
        refine z_eqI (y := iI ((1 + 4 * k + 1 : Nat) : Int)) (congrArg iI (by omega)) ?_
        refine z_ialdZ (f := lf) (z := 1 + 4 * k + 1) hx hb hK hP 1 0 rfl rfl (by omega) (by decide) dL_isValid_27 ?_
        refine z_eqI (y := (iI ((Lds L k : Nat) : Int))) (congrArg iI (by rw [(hlf.2 k (by omega)).2.1])) ?_
        refine z_ialdZ (f := tf) (z := Lds L k) hx hb hK hP 0 0 rfl rfl (by have := wf_ed hw k (by omega); omega) (by decide) dL_isValid_28 ?_
        refine lv_iload_n hx hb dL_isValid_29 rfl (lv_at hl 2 rfl) ?_
        refine lv_aload hx hb dL_isValid_30 (lv_at hl 7 rfl) ?_
        refine lv_iload hx hb dL_isValid_32 (lv_at hl 0 rfl) ?_
        refine z_ic hx hb dL_isValid_34 ?_
        refine z_add (a := ((1 + 4 * k : Nat) : Int)) (b := 3) hx hb dL_isValid_35 ?_
        refine z_eqI (y := iI ((1 + 4 * k + 3 : Nat) : Int)) (congrArg iI (by omega)) ?_
        refine z_ialdZ (f := lf) (z := 1 + 4 * k + 3) hx hb hK hP 1 0 rfl rfl (by omega) (by decide) dL_isValid_36 ?_
        refine z_eqI (y := (iI ((Ldi L k : Nat) : Int))) (congrArg iI (by rw [(hlf.2 k (by omega)).2.2.2])) ?_
        refine z_mul (a := ((T : Nat) : Int)) (b := ((Ldi L k : Nat) : Int)) hx hb dL_isValid_37 ?_
        refine z_add (a := ((tf (Lds L k) : Nat) : Int)) (b := (((T : Nat) : Int) * ((Ldi L k : Nat) : Int))) hx hb dL_isValid_38 ?_
        refine lv_aload_n hx hb dL_isValid_39 rfl (lv_at hl 3 rfl) ?_
        refine lv_aload hx hb dL_isValid_40 (lv_at hl 7 rfl) ?_
        refine lv_iload hx hb dL_isValid_42 (lv_at hl 0 rfl) ?_
        refine z_ialdZ (f := lf) (z := 1 + 4 * k) hx hb hK hP 1 0 rfl rfl (by omega) (by decide) dL_isValid_44 ?_
        refine z_eqI (y := (iI ((Lsr L k : Nat) : Int))) (congrArg iI (by rw [(hlf.2 k (by omega)).1])) ?_
        refine z_ialdZ (f := tf) (z := Lsr L k) hx hb hK hP 0 0 rfl rfl (by have := wf_ed hw k (by omega); omega) (by decide) dL_isValid_45 ?_
        refine lv_aload hx hb dL_isValid_46 (lv_at hl 7 rfl) ?_
        refine lv_iload hx hb dL_isValid_48 (lv_at hl 0 rfl) ?_
        refine z_ic hx hb dL_isValid_50 ?_
        refine z_add (a := ((1 + 4 * k : Nat) : Int)) (b := 2) hx hb dL_isValid_51 ?_
        refine z_eqI (y := iI ((1 + 4 * k + 2 : Nat) : Int)) (congrArg iI (by omega)) ?_
        refine z_ialdZ (f := lf) (z := 1 + 4 * k + 2) hx hb hK hP 1 0 rfl rfl (by omega) (by decide) dL_isValid_52 ?_
        refine z_eqI (y := (iI ((Ldl L k : Nat) : Int))) (congrArg iI (by rw [(hlf.2 k (by omega)).2.2.1])) ?_
        refine z_add (a := ((tf (Lsr L k) : Nat) : Int)) (b := ((Ldl L k : Nat) : Int)) hx hb dL_isValid_53 ?_
        refine z_icge (a := (((tf (Lds L k) : Nat) : Int) + (((T : Nat) : Int) * ((Ldi L k : Nat) : Int)))) (b := (((tf (Lsr L k) : Nat) : Int) + ((Ldl L k : Nat) : Int))) (tgt := 59) hx hb dL_isValid_54 (by decide) (by omega) (fun c_54 => ?_) (fun c_54 => ?_)
        · refine z_iinc (a := ((k : Nat) : Int)) (b := ((k + 1 : Nat) : Int)) (lv' := [(7, .int (iI ((k + 1 : Nat) : Int))), (8, .int (iI ((1 + 4 * k : Nat) : Int))), (0, .int (iI ((Ln L : Nat) : Int))), (1, .int (iI ((T : Nat) : Int))), (2, .ref (ot)), (3, .ref (ou)), (4, .ref (okk)), (5, .ref (ob)), (6, .ref (ol))]) hx hb 8 dL_isValid_59 hl rfl rfl (by decide) rfl (fun ls hl => ?_)
          refine lv_goto (tgt := 3) hx hb dL_isValid_62 (by decide) ?_
          refine W.widen (k := 0) (n := 0) (by omega) (by omega) ?_
          exact ih3 (k + 1) _ _ _ (by omega) (by omega) hP hD hS (lv_sub hl [2, 3, 4, 5, 6, 7, 8, 0] rfl)
        · exact absurd (by have := eq_one hE (d := k) (by omega); omega) c_54
  refine W.widen (k := 0) (n := 0) (by omega) (by omega) ?_
  exact loop3 ((Lm L - 0) + 1) 0 _ _ _ (Nat.lt_succ_self _) (by omega) hP hD hS (lv_sub hl [1, 2, 3, 4, 5, 6, 7, 0] rfl)

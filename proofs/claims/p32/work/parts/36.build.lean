/-! the loop that the law builds -/
def LK (L : LD) (lf : Nat → Nat) : Prop := ∀ k, k < Lm L → lf (1 + 4 * k) = Lsr L k ∧ lf (1 + 4 * k + 1) = Lds L k ∧ lf (1 + 4 * k + 2) = Ldl L k ∧ lf (1 + 4 * k + 3) = Ldi L k
def B1 (q : Nat) (L : LD) (uf : Nat → Nat) : Prop := wf L ∧ Ln L = 0 ∧ Lm L = 0 ∧ (∀ k, k < q → uf k = Lu L k) ∧ (∀ k, q ≤ k → k < 3 → Lu L k = 1) ∧ Lkd L = (fun _ => 0) ∧ Lby L = (fun _ => 0)
theorem B1_0 : B1 0 L00 (fun _ => 0) := ⟨wf_L00, rfl, rfl, fun k h => absurd h (Nat.not_lt_zero k), fun k _ h => (show ∀ k, k < 3 → uL0 k = 1 by decide) k h, rfl, rfl⟩
theorem B1_s {q v : Nat} {L : LD} {uf : Nat → Nat} (h : B1 q L uf) (hv : 1 ≤ v ∧ v ≤ 3) : B1 (q + 1) (Ln L, Lm L, upN (Lu L) q v, Lkd L, Lby L, Lsr L, Lds L, Ldl L, Ldi L) (upN uf q v) := by
  obtain ⟨a1, a2, a3, a4, a5, a6, a7⟩ := h
  refine ⟨wf_su a1 hv, a2, a3, fun k hk => ?_, fun k h1 h2 => ?_, a6, a7⟩
  · show upN uf q v k = upN (Lu L) q v k
    by_cases e : k = q
    · rw [e, upN_s, upN_s]
    · rw [upN_n _ _ e, upN_n _ _ e]
      exact a4 k (by omega)
  · show upN (Lu L) q v k = 1
    rw [upN_n _ _ (by omega)]
    exact a5 k (by omega) h2
def B2 (n : Nat) (L : LD) (uf : Nat → Nat) : Prop := wf L ∧ Ln L ≤ n ∧ Lm L = 0 ∧ (∀ k, k < 3 → uf k = Lu L k) ∧ ∀ i, Lby L i ≤ 3
theorem B2_0 {n : Nat} {L : LD} {uf : Nat → Nat} (h : B1 3 L uf) : B2 n L uf := ⟨h.1, by have := h.2.1; omega, h.2.2.1, h.2.2.2.1, fun i => by rw [h.2.2.2.2.2.2]; exact Nat.zero_le 3⟩
theorem B2_s {n v x : Nat} {L : LD} {uf : Nat → Nat} (h : B2 n L uf) (hn : Ln L < n) (hn6 : n ≤ 6) (hv : v < 3) (hx : 1 ≤ x ∧ x ≤ 3) : B2 n (Ln L + 1, Lm L, Lu L, upN (Lkd L) (Ln L) v, upN (Lby L) (Ln L) x, Lsr L, Lds L, Ldl L, Ldi L) uf := by
  refine ⟨wf_ao h.1 (by omega) (by omega) ⟨by omega, by omega⟩, hn, h.2.2.1, h.2.2.2.1, fun i => ?_⟩
  show upN (Lby L) (Ln L) x i ≤ 3
  by_cases e : i = Ln L
  · rw [e, upN_s]; exact hx.2
  · rw [upN_n _ _ e]; exact h.2.2.2.2 i
def B3 (n mm : Nat) (L : LD) (uf lf : Nat → Nat) : Prop := wf L ∧ Ln L = n ∧ Lm L ≤ mm ∧ fwd L ∧ (∀ k, k < 3 → uf k = Lu L k) ∧ (∀ i, Lby L i ≤ 3) ∧ LK L lf
theorem B3_0 {n mm : Nat} {L : LD} {uf lf : Nat → Nat} (h : B2 n L uf) (hn : Ln L = n) : B3 n mm L uf lf := ⟨h.1, hn, by have := h.2.2.1; omega, fun d hd => by have := h.2.2.1; omega, h.2.2.2.1, h.2.2.2.2, fun d hd => by have := h.2.2.1; omega⟩
theorem up4_n {lf : Nat → Nat} {i0 v0 v1 v2 v3 x : Nat} (h : x < i0 ∨ i0 + 3 < x) : upN (upN (upN (upN lf (i0 + 0) v0) (i0 + 1) v1) (i0 + 2) v2) (i0 + 3) v3 x = lf x := by rw [upN_n _ _ (by omega), upN_n _ _ (by omega), upN_n _ _ (by omega), upN_n _ _ (by omega)]
theorem up4_0 {lf : Nat → Nat} {i0 v0 v1 v2 v3 : Nat} : upN (upN (upN (upN lf (i0 + 0) v0) (i0 + 1) v1) (i0 + 2) v2) (i0 + 3) v3 i0 = v0 := by
  rw [upN_n _ _ (by omega), upN_n _ _ (by omega), upN_n _ _ (by omega)]
  exact upN_s _ _ _
theorem up4_1 {lf : Nat → Nat} {i0 v0 v1 v2 v3 : Nat} : upN (upN (upN (upN lf (i0 + 0) v0) (i0 + 1) v1) (i0 + 2) v2) (i0 + 3) v3 (i0 + 1) = v1 := by rw [upN_n _ _ (by omega), upN_n _ _ (by omega), upN_s]
theorem up4_2 {lf : Nat → Nat} {i0 v0 v1 v2 v3 : Nat} : upN (upN (upN (upN lf (i0 + 0) v0) (i0 + 1) v1) (i0 + 2) v2) (i0 + 3) v3 (i0 + 2) = v2 := by rw [upN_n _ _ (by omega), upN_s]
theorem up4_3 {lf : Nat → Nat} {i0 v0 v1 v2 v3 : Nat} : upN (upN (upN (upN lf (i0 + 0) v0) (i0 + 1) v1) (i0 + 2) v2) (i0 + 3) v3 (i0 + 3) = v3 := upN_s _ _ _
theorem B3_s {n mm v0 v1 v2 v3 : Nat} {L : LD} {uf lf : Nat → Nat} (h : B3 n mm L uf lf) (hm : Lm L < mm) (hmm : mm ≤ 8) (h0 : v0 < n) (h1 : v1 < n) (h2 : v2 ≤ 12) (h3 : v3 ≤ 3) (hf : v3 = 0 → v0 < v1) : B3 n mm (Ln L, Lm L + 1, Lu L, Lkd L, Lby L, upN (Lsr L) (Lm L) v0, upN (Lds L) (Lm L) v1, upN (Ldl L) (Lm L) v2, upN (Ldi L) (Lm L) v3) uf (upN (upN (upN (upN lf (1 + 4 * Lm L + 0) v0) (1 + 4 * Lm L + 1) v1) (1 + 4 * Lm L + 2) v2) (1 + 4 * Lm L + 3) v3) := by
  obtain ⟨a1, a2, a3, a4, a5, a6, a7⟩ := h
  refine ⟨wf_ad a1 (by omega) (by omega) (by omega) h2 h3, a2, hm, fun d hd => ?_, a5, a6, fun d hd => ?_⟩
  · show upN (Ldi L) (Lm L) v3 d = 0 → upN (Lsr L) (Lm L) v0 d < upN (Lds L) (Lm L) v1 d
    have hd : d < Lm L + 1 := hd
    by_cases e : d = Lm L
    · rw [e, upN_s, upN_s, upN_s]; exact hf
    · rw [upN_n _ _ e, upN_n _ _ e, upN_n _ _ e]; exact a4 d (by omega)
  · have hd : d < Lm L + 1 := hd
    show _ = upN (Lsr L) (Lm L) v0 d ∧ _ = upN (Lds L) (Lm L) v1 d ∧ _ = upN (Ldl L) (Lm L) v2 d ∧ _ = upN (Ldi L) (Lm L) v3 d
    by_cases e : d = Lm L
    · rw [e, upN_s (Lsr L), upN_s (Lds L), upN_s (Ldl L), upN_s (Ldi L)]
      exact ⟨up4_0, up4_1, up4_2, up4_3⟩
    · rw [upN_n (Lsr L) _ e, upN_n (Lds L) _ e, upN_n (Ldl L) _ e, upN_n (Ldi L) _ e, up4_n (by omega), up4_n (by omega), up4_n (by omega), up4_n (by omega)]
      exact a7 d (by omega)
theorem B3_e {n mm : Nat} {L : LD} {uf lf : Nat → Nat} (h : B3 n mm L uf lf) (hm : mm ≤ Lm L) (hmm : mm ≤ 8) (hn : 1 ≤ n ∧ n ≤ 6) : w6 L ∧ (∀ k, k < 3 → uf k = Lu L k) ∧ upN lf 0 mm 0 = Lm L ∧ LK L (upN lf 0 mm) := by
  obtain ⟨a1, a2, a3, a4, a5, a6, a7⟩ := h
  refine ⟨⟨a1, a4, by omega, by omega, by omega, a6⟩, a5, by rw [upN_s]; omega, fun d hd => ?_⟩
  rw [upN_n _ _ (by omega), upN_n _ _ (by omega), upN_n _ _ (by omega), upN_n _ _ (by omega)]
  exact a7 d hd
set_option maxHeartbeats 16000000 in
set_option maxRecDepth 100000 in
theorem c_L_build (l : Launch) (hl0 : l.stackTraces = false) (D : va_G) (g : Nat → ClassId) (a : Nat → Nat) (hs tm : Nat → Int) (tk : Nat → Nat → Int) (lt : Nat → Int) (ou okk ob ol b Lx : Nat) (xs : Nat → Int32) (hLx : Lx ≤ 260) : bMi l D (zT g) yL_build wsL_build 8 127 60 b Lx xs ([(ol, .inl (g 0, 40, .inl (aI (nZ (fun _ => 0))))), (ob, .inl (g 0, 6, .inl (aI (nZ (fun _ => 0))))), (okk, .inl (g 0, 6, .inl (aI (nZ (fun _ => 0))))), (ou, .inl (g 0, 3, .inl (aI (nZ (fun _ => 0)))))] ++ (wX a g L00 0 0 hs tm tk lt)) [.ref (a 0), .ref (b), .int (iI ((0 : Nat) : Int)), .ref (ou), .ref (okk), .ref (ob), .ref (ol)] (fun r w1 => ∃ (L : LD) (uf lf : Nat → Nat), w6 L ∧ r = iI ((Ln L : Nat) : Int) ∧ (∀ k, k < 3 → uf k = Lu L k) ∧ lf 0 = Lm L ∧ LK L lf ∧ w1 = ([(ol, .inl (g 0, 40, .inl (aI (nZ lf)))), (ob, .inl (g 0, 6, .inl (aI (nZ (Lby L))))), (okk, .inl (g 0, 6, .inl (aI (nZ (Lkd L))))), (ou, .inl (g 0, 3, .inl (aI (nZ uf))))] ++ (wX a g L 0 0 hs tm tk lt))) := by
  refine b_ofI (cc := cL_build) (maxL := 17) (ret := (some .int)) (by decide) rfl (Nat.le_of_ble_eq_true rfl) ?_
  intro p e s m args below meth c A ls hx hb hr hts hown hlocks hml hP hK hD hS hA hl hE hV hX hbl hbA Q hQ
  have hown : s.vm.findClass RL = some m.cls := hown
  have hl : lv_has ls 17 [(0, .ref (a 0)), (1, .ref (b)), (2, .int (iI ((0 : Nat) : Int))), (3, .ref (ou)), (4, .ref (okk)), (5, .ref (ob)), (6, .ref (ol))] := hl
  refine z_ic hx hb dL_build_0 ?_
  refine lv_istore (lv' := [(7, .int (iI ((0 : Nat) : Int))), (0, .ref (a 0)), (1, .ref (b)), (2, .int (iI ((0 : Nat) : Int))), (3, .ref (ou)), (4, .ref (okk)), (5, .ref (ob)), (6, .ref (ol))]) hx hb dL_build_1 hl (by decide) rfl (fun ls hl => ?_)
  have loop3 : ∀ (n3 : Nat) (q : Nat) (uf : Nat → Nat) (L : LD) (H : Heap) (locs : List Loc) (ls : Array Slot), 3 - q < n3 → (q ≤ 3) → (B1 q L uf) → va_P D vwCl ([(ol, .inl (g 0, 40, .inl (aI (nZ (fun _ => 0))))), (ob, .inl (g 0, 6, .inl (aI (nZ (fun _ => 0))))), (okk, .inl (g 0, 6, .inl (aI (nZ (fun _ => 0))))), (ou, .inl (g 0, 3, .inl (aI (nZ uf))))] ++ (wX a g L 0 0 hs tm tk lt)) H → va_D A ([(ol, .inl (g 0, 40, .inl (aI (nZ (fun _ => 0))))), (ob, .inl (g 0, 6, .inl (aI (nZ (fun _ => 0))))), (okk, .inl (g 0, 6, .inl (aI (nZ (fun _ => 0))))), (ou, .inl (g 0, 3, .inl (aI (nZ uf))))] ++ (wX a g L 0 0 hs tm tk lt)) → va_S A s.heap H locs → lv_has ls 17 [(0, .ref (a 0)), (1, .ref (b)), (2, .int (iI ((0 : Nat) : Int))), (3, .ref (ou)), (4, .ref (okk)), (5, .ref (ob)), (6, .ref (ol)), (7, .int (iI ((q : Nat) : Int)))] → W p l e ({ frames := 8, cells := 60, slots := 6 * 60, locals := 127 } : Room) s m args below meth c H locs (2 * q) (12 * q) Q (F0 m 3 ls []) := by
    intro n3
    induction n3 with
    | zero => exact fun _ _ _ H locs ls hn => absurd hn (Nat.not_lt_zero _)
    | succ n3 ih3 =>
      intro q uf L H locs ls hn3 hq hB hP hD hS hl
      refine lv_iload hx hb dL_build_3 (lv_at hl 7 rfl) ?_
      refine z_ic hx hb dL_build_5 ?_
      refine z_icge (a := ((q : Nat) : Int)) (b := 3) (tgt := 51) hx hb dL_build_6 (by decide) (by omega) (fun c_6 => ?_) (fun c_6 => ?_)
      · obtain rfl : q = 3 := by omega
        refine z_ic hx hb dL_build_51 ?_
        refine lv_aload_n hx hb dL_build_52 rfl (lv_at hl 1 rfl) ?_
        refine lv_iload_n hx hb dL_build_53 rfl (lv_at hl 2 rfl) ?_
        refine j_call0 (vx_runS (As := [.ref (b), .int (iI ((0 : Nat) : Int))]) (rest := [.int (iI ((1 : Nat) : Int))]) ⟨hx, hb, hml, hown, hts⟩ (c_L_cell l D g b Lx xs hLx 0 (by omega) _) (va_cwS 2 hts gL_build_L_cell rfl rfl rfl (by decide +kernel) ⟨Nat.le_of_ble_eq_true rfl, Nat.le_of_ble_eq_true rfl⟩) (b_preS hK b_nilP b_nil hS hA hE hV hX hbl hbA) rfl rfl hl.1 rfl (lv_room (Nat.le_of_ble_eq_true rfl)) dL_build_54 ⟨show 2 * 3 + 0 ≤ 60 from by omega, show 12 * 3 + 6 * 0 ≤ 6 * 60 from by omega⟩) hS hP hD hA (fun _ _ h => h.2) (fun r_54 H locs hw1 hP hD hS => ?_)
        have q_54 := hw1.1
        refine z_bip hx hb dL_build_57 (by decide) ?_
        refine lv_ishr hx hb dL_build_59 ?_
        refine lv_topi (fun y_59 hy_59 => ?_)
        refine z_bip hx hb dL_build_60 (by decide) ?_
        refine z_calli (va_runS (As := [.int (y_59), .int (iI ((6 : Nat) : Int))]) (rest := [.int (iI ((1 : Nat) : Int))]) ⟨hx, hb, hml, hown, hts⟩ (c_L_below l D g ([(ol, .inl (g 0, 40, .inl (aI (nZ (fun _ => 0))))), (ob, .inl (g 0, 6, .inl (aI (nZ (fun _ => 0))))), (okk, .inl (g 0, 6, .inl (aI (nZ (fun _ => 0))))), (ou, .inl (g 0, 3, .inl (aI (nZ uf))))] ++ (wX a g L 0 0 hs tm tk lt)) y_59 6 (by omega) _) (va_cwS 2 hts gL_build_L_below rfl rfl rfl (by decide +kernel) ⟨Nat.le_of_ble_eq_true rfl, Nat.le_of_ble_eq_true rfl⟩) (z_preS hK hP hD) rfl rfl hl.1 rfl (lv_room (Nat.le_of_ble_eq_true rfl)) dL_build_62 ⟨show 2 * 3 + 0 ≤ 60 from by omega, show 12 * 3 + 0 ≤ 6 * 60 from by omega⟩) hS hD hA (fun r w1 H locs hw1 hP hD hS => ?_)
        obtain ⟨rfl, rfl⟩ := hw1
        obtain ⟨d_62, e_62⟩ : ∃ d : Nat, d = bel y_59 6 := ⟨_, rfl⟩
        have b_62 : d_62 < 6 := by rw [e_62]; exact bel_lt _ (by omega)
        refine z_eqI (y := iI ((d_62 : Nat) : Int)) (by rw [e_62]) ?_
        refine z_add (a := 1) (b := ((d_62 : Nat) : Int)) hx hb dL_build_65 ?_
        refine z_eqI (y := iI ((1 + d_62 : Nat) : Int)) (congrArg iI (by omega)) ?_
        refine lv_istore (lv' := [(7, .int (iI ((1 + d_62 : Nat) : Int))), (0, .ref (a 0)), (1, .ref (b)), (2, .int (iI ((0 : Nat) : Int))), (3, .ref (ou)), (4, .ref (okk)), (5, .ref (ob)), (6, .ref (ol))]) hx hb dL_build_66 hl (by decide) rfl (fun ls hl => ?_)
        obtain ⟨n, hn⟩ : ∃ n : Nat, n = 1 + d_62 := ⟨_, rfl⟩
        have hl : lv_has ls 17 [(7, .int (iI ((n : Nat) : Int))), (0, .ref (a 0)), (1, .ref (b)), (2, .int (iI ((0 : Nat) : Int))), (3, .ref (ou)), (4, .ref (okk)), (5, .ref (ob)), (6, .ref (ol))] := by rw [show (n : Nat) = 1 + d_62 from hn]; exact hl
        refine z_ic hx hb dL_build_68 ?_
        refine lv_istore (lv' := [(8, .int (iI ((0 : Nat) : Int))), (7, .int (iI ((n : Nat) : Int))), (0, .ref (a 0)), (1, .ref (b)), (2, .int (iI ((0 : Nat) : Int))), (3, .ref (ou)), (4, .ref (okk)), (5, .ref (ob)), (6, .ref (ol))]) hx hb dL_build_69 hl (by decide) rfl (fun ls hl => ?_)
        have loop71 : ∀ (n71 : Nat) (L : LD) (H : Heap) (locs : List Loc) (ls : Array Slot), n - Ln L < n71 → (B2 n L uf) → va_P D vwCl ([(ol, .inl (g 0, 40, .inl (aI (nZ (fun _ => 0))))), (ob, .inl (g 0, 6, .inl (aI (nZ (Lby L))))), (okk, .inl (g 0, 6, .inl (aI (nZ (Lkd L))))), (ou, .inl (g 0, 3, .inl (aI (nZ uf))))] ++ (wX a g L 0 0 hs tm tk lt)) H → va_D A ([(ol, .inl (g 0, 40, .inl (aI (nZ (fun _ => 0))))), (ob, .inl (g 0, 6, .inl (aI (nZ (Lby L))))), (okk, .inl (g 0, 6, .inl (aI (nZ (Lkd L))))), (ou, .inl (g 0, 3, .inl (aI (nZ uf))))] ++ (wX a g L 0 0 hs tm tk lt)) → va_S A s.heap H locs → lv_has ls 17 [(0, .ref (a 0)), (1, .ref (b)), (2, .int (iI ((0 : Nat) : Int))), (3, .ref (ou)), (4, .ref (okk)), (5, .ref (ob)), (6, .ref (ol)), (7, .int (iI ((n : Nat) : Int))), (8, .int (iI ((Ln L : Nat) : Int)))] → W p l e ({ frames := 8, cells := 60, slots := 6 * 60, locals := 127 } : Room) s m args below meth c H locs (6 + Ln L) (36 + 6 * Ln L) Q (F0 m 71 ls []) := by
          intro n71
          induction n71 with
          | zero => exact fun _ H locs ls hn => absurd hn (Nat.not_lt_zero _)
          | succ n71 ih71 =>
            intro L H locs ls hn71 hO hP hD hS hl
            have hOn := hO.2.1
            have hOm := hO.2.2.1
            refine lv_iload hx hb dL_build_71 (lv_at hl 8 rfl) ?_
            refine lv_iload hx hb dL_build_73 (lv_at hl 7 rfl) ?_
            refine z_icge (a := ((Ln L : Nat) : Int)) (b := ((n : Nat) : Int)) (tgt := 147) hx hb dL_build_75 (by decide) (by omega) (fun c_75 => ?_) (fun c_75 => ?_)
            · have hnL : Ln L = n := by omega
              refine lv_aload_n hx hb dL_build_147 rfl (lv_at hl 1 rfl) ?_
              refine lv_iload_n hx hb dL_build_148 rfl (lv_at hl 2 rfl) ?_
              refine j_call0 (vx_runS (As := [.ref (b), .int (iI ((0 : Nat) : Int))]) (rest := []) ⟨hx, hb, hml, hown, hts⟩ (c_L_cell l D g b Lx xs hLx 0 (by omega) _) (va_cwS 2 hts gL_build_L_cell rfl rfl rfl (by decide +kernel) ⟨Nat.le_of_ble_eq_true rfl, Nat.le_of_ble_eq_true rfl⟩) (b_preS hK b_nilP b_nil hS hA hE hV hX hbl hbA) rfl rfl hl.1 rfl (lv_room (Nat.le_of_ble_eq_true rfl)) dL_build_149 ⟨show 6 + Ln L + 0 ≤ 60 from by omega, show 36 + 6 * Ln L + 6 * 0 ≤ 6 * 60 from by omega⟩) hS hP hD hA (fun _ _ h => h.2) (fun r_149 H locs hw1 hP hD hS => ?_)
              have q_149 := hw1.1
              refine z_bip hx hb dL_build_152 (by decide) ?_
              refine lv_ishr hx hb dL_build_154 ?_
              refine lv_topi (fun y_154 hy_154 => ?_)
              refine z_bip hx hb dL_build_155 (by decide) ?_
              refine z_calli (va_runS (As := [.int (y_154), .int (iI ((9 : Nat) : Int))]) (rest := []) ⟨hx, hb, hml, hown, hts⟩ (c_L_below l D g ([(ol, .inl (g 0, 40, .inl (aI (nZ (fun _ => 0))))), (ob, .inl (g 0, 6, .inl (aI (nZ (Lby L))))), (okk, .inl (g 0, 6, .inl (aI (nZ (Lkd L))))), (ou, .inl (g 0, 3, .inl (aI (nZ uf))))] ++ (wX a g L 0 0 hs tm tk lt)) y_154 9 (by omega) _) (va_cwS 2 hts gL_build_L_below rfl rfl rfl (by decide +kernel) ⟨Nat.le_of_ble_eq_true rfl, Nat.le_of_ble_eq_true rfl⟩) (z_preS hK hP hD) rfl rfl hl.1 rfl (lv_room (Nat.le_of_ble_eq_true rfl)) dL_build_157 ⟨show 6 + Ln L + 0 ≤ 60 from by omega, show 36 + 6 * Ln L + 0 ≤ 6 * 60 from by omega⟩) hS hD hA (fun r w1 H locs hw1 hP hD hS => ?_)
              obtain ⟨rfl, rfl⟩ := hw1
              obtain ⟨d_157, e_157⟩ : ∃ d : Nat, d = bel y_154 9 := ⟨_, rfl⟩
              have b_157 : d_157 < 9 := by rw [e_157]; exact bel_lt _ (by omega)
              refine z_eqI (y := iI ((d_157 : Nat) : Int)) (by rw [e_157]) ?_
              refine lv_istore (lv' := [(8, .int (iI ((d_157 : Nat) : Int))), (0, .ref (a 0)), (1, .ref (b)), (2, .int (iI ((0 : Nat) : Int))), (3, .ref (ou)), (4, .ref (okk)), (5, .ref (ob)), (6, .ref (ol)), (7, .int (iI ((n : Nat) : Int)))]) hx hb dL_build_160 hl (by decide) rfl (fun ls hl => ?_)
              refine z_ic hx hb dL_build_162 ?_
              refine lv_istore (lv' := [(9, .int (iI ((0 : Nat) : Int))), (8, .int (iI ((d_157 : Nat) : Int))), (0, .ref (a 0)), (1, .ref (b)), (2, .int (iI ((0 : Nat) : Int))), (3, .ref (ou)), (4, .ref (okk)), (5, .ref (ob)), (6, .ref (ol)), (7, .int (iI ((n : Nat) : Int)))]) hx hb dL_build_163 hl (by decide) rfl (fun ls hl => ?_)
              have loop165 : ∀ (n165 : Nat) (L : LD) (lf : Nat → Nat) (H : Heap) (locs : List Loc) (ls : Array Slot), d_157 - Lm L < n165 → (B3 n d_157 L uf lf) → va_P D vwCl ([(ol, .inl (g 0, 40, .inl (aI (nZ lf)))), (ob, .inl (g 0, 6, .inl (aI (nZ (Lby L))))), (okk, .inl (g 0, 6, .inl (aI (nZ (Lkd L))))), (ou, .inl (g 0, 3, .inl (aI (nZ uf))))] ++ (wX a g L 0 0 hs tm tk lt)) H → va_D A ([(ol, .inl (g 0, 40, .inl (aI (nZ lf)))), (ob, .inl (g 0, 6, .inl (aI (nZ (Lby L))))), (okk, .inl (g 0, 6, .inl (aI (nZ (Lkd L))))), (ou, .inl (g 0, 3, .inl (aI (nZ uf))))] ++ (wX a g L 0 0 hs tm tk lt)) → va_S A s.heap H locs → lv_has ls 17 [(0, .ref (a 0)), (1, .ref (b)), (2, .int (iI ((0 : Nat) : Int))), (3, .ref (ou)), (4, .ref (okk)), (5, .ref (ob)), (6, .ref (ol)), (7, .int (iI ((n : Nat) : Int))), (8, .int (iI ((d_157 : Nat) : Int))), (9, .int (iI ((Lm L : Nat) : Int)))] → W p l e ({ frames := 8, cells := 60, slots := 6 * 60, locals := 127 } : Room) s m args below meth c H locs (12 + 5 * Lm L) (72 + 30 * Lm L) Q (F0 m 165 ls []) := by
                intro n165
                induction n165 with
                | zero => exact fun _ _ H locs ls hn => absurd hn (Nat.not_lt_zero _)
                | succ n165 ih165 =>
                  intro L lf H locs ls hn165 hK3 hP hD hS hl
                  have hKn := hK3.2.1
                  have hKm := hK3.2.2.1
                  refine lv_iload hx hb dL_build_165 (lv_at hl 9 rfl) ?_
                  refine lv_iload hx hb dL_build_167 (lv_at hl 8 rfl) ?_
                  refine z_icge (a := ((Lm L : Nat) : Int)) (b := ((d_157 : Nat) : Int)) (tgt := 331) hx hb dL_build_169 (by decide) (by omega) (fun c_169 => ?_) (fun c_169 => ?_)
                  · refine lv_aload hx hb dL_build_331 (lv_at hl 6 rfl) ?_
                    refine z_ic hx hb dL_build_333 ?_
                    refine lv_iload hx hb dL_build_334 (lv_at hl 8 rfl) ?_
                    refine z_iastZ (f := lf) (z := 0) (v := d_157) hx hb hK hP hD hS 0 0 rfl rfl (by omega) (by decide) dL_build_336 (fun H locs hP hD hS => ?_)
                    have hP : va_P D vwCl ([(ol, .inl (g 0, 40, .inl (aI (nZ (upN lf 0 d_157))))), (ob, .inl (g 0, 6, .inl (aI (nZ (Lby L))))), (okk, .inl (g 0, 6, .inl (aI (nZ (Lkd L))))), (ou, .inl (g 0, 3, .inl (aI (nZ uf))))] ++ (wX a g L 0 0 hs tm tk lt)) H := hP
                    have hD : va_D A ([(ol, .inl (g 0, 40, .inl (aI (nZ (upN lf 0 d_157))))), (ob, .inl (g 0, 6, .inl (aI (nZ (Lby L))))), (okk, .inl (g 0, 6, .inl (aI (nZ (Lkd L))))), (ou, .inl (g 0, 3, .inl (aI (nZ uf))))] ++ (wX a g L 0 0 hs tm tk lt)) := hD
                    refine lv_iload hx hb dL_build_337 (lv_at hl 7 rfl) ?_
                    exact x_iret (w := ([(ol, .inl (g 0, 40, .inl (aI (nZ (upN lf 0 d_157))))), (ob, .inl (g 0, 6, .inl (aI (nZ (Lby L))))), (okk, .inl (g 0, 6, .inl (aI (nZ (Lkd L))))), (ou, .inl (g 0, 3, .inl (aI (nZ uf))))] ++ (wX a g L 0 0 hs tm tk lt))) (v := (iI ((n : Nat) : Int))) hQ hx hb hr hlocks ⟨L, uf, _, (B3_e hK3 (by omega) (by omega) ⟨by omega, by omega⟩).1, by rw [hK3.2.1], (B3_e hK3 (by omega) (by omega) ⟨by omega, by omega⟩).2.1, (B3_e hK3 (by omega) (by omega) ⟨by omega, by omega⟩).2.2.1, (B3_e hK3 (by omega) (by omega) ⟨by omega, by omega⟩).2.2.2, rfl⟩ hK hP hD hS (show 12 + 5 * Lm L ≤ 60 from by omega) (show 72 + 30 * Lm L ≤ 6 * 60 from by omega) dL_build_339
                  · refine lv_aload_n hx hb dL_build_172 rfl (lv_at hl 1 rfl) ?_
                    refine lv_iload_n hx hb dL_build_173 rfl (lv_at hl 2 rfl) ?_
                    refine z_bip hx hb dL_build_174 (by decide) ?_
                    refine z_add (a := 0) (b := 7) hx hb dL_build_176 ?_
                    refine z_eqI (y := iI ((7 : Nat) : Int)) (congrArg iI (by omega)) ?_
                    refine lv_iload hx hb dL_build_177 (lv_at hl 9 rfl) ?_
                    refine z_add (a := 7) (b := ((Lm L : Nat) : Int)) hx hb dL_build_179 ?_
                    refine z_eqI (y := iI ((7 + Lm L : Nat) : Int)) (congrArg iI (by omega)) ?_
                    refine j_call0 (vx_runS (As := [.ref (b), .int (iI ((7 + Lm L : Nat) : Int))]) (rest := []) ⟨hx, hb, hml, hown, hts⟩ (c_L_cell l D g b Lx xs hLx (7 + Lm L) (by omega) _) (va_cwS 2 hts gL_build_L_cell rfl rfl rfl (by decide +kernel) ⟨Nat.le_of_ble_eq_true rfl, Nat.le_of_ble_eq_true rfl⟩) (b_preS hK b_nilP b_nil hS hA hE hV hX hbl hbA) rfl rfl hl.1 rfl (lv_room (Nat.le_of_ble_eq_true rfl)) dL_build_180 ⟨show 12 + 5 * Lm L + 0 ≤ 60 from by omega, show 72 + 30 * Lm L + 6 * 0 ≤ 6 * 60 from by omega⟩) hS hP hD hA (fun _ _ h => h.2) (fun r_180 H locs hw1 hP hD hS => ?_)
                    have q_180 := hw1.1
                    refine lv_istore (lv' := [(10, .int (r_180)), (0, .ref (a 0)), (1, .ref (b)), (2, .int (iI ((0 : Nat) : Int))), (3, .ref (ou)), (4, .ref (okk)), (5, .ref (ob)), (6, .ref (ol)), (7, .int (iI ((n : Nat) : Int))), (8, .int (iI ((d_157 : Nat) : Int))), (9, .int (iI ((Lm L : Nat) : Int)))]) hx hb dL_build_183 hl (by decide) rfl (fun ls hl => ?_)
                    refine lv_iload hx hb dL_build_185 (lv_at hl 0 rfl) ?_
                    refine lv_iload hx hb dL_build_187 (lv_at hl 8 rfl) ?_
                    refine z_calli (va_runS (As := [.int (r_180), .int (iI ((n : Nat) : Int))]) (rest := []) ⟨hx, hb, hml, hown, hts⟩ (c_L_below l D g ([(ol, .inl (g 0, 40, .inl (aI (nZ lf)))), (ob, .inl (g 0, 6, .inl (aI (nZ (Lby L))))), (okk, .inl (g 0, 6, .inl (aI (nZ (Lkd L))))), (ou, .inl (g 0, 3, .inl (aI (nZ uf))))] ++ (wX a g L 0 0 hs tm tk lt)) r_180 n (by omega) _) (va_cwS 2 hts gL_build_L_below rfl rfl rfl (by decide +kernel) ⟨Nat.le_of_ble_eq_true rfl, Nat.le_of_ble_eq_true rfl⟩) (z_preS hK hP hD) rfl rfl hl.1 rfl (lv_room (Nat.le_of_ble_eq_true rfl)) dL_build_189 ⟨show 12 + 5 * Lm L + 0 ≤ 60 from by omega, show 72 + 30 * Lm L + 0 ≤ 6 * 60 from by omega⟩) hS hD hA (fun r w1 H locs hw1 hP hD hS => ?_)
                    obtain ⟨rfl, rfl⟩ := hw1
                    obtain ⟨d_189, e_189⟩ : ∃ d : Nat, d = bel r_180 n := ⟨_, rfl⟩
                    have b_189 : d_189 < n := by rw [e_189]; exact bel_lt _ (by omega)
                    refine z_eqI (y := iI ((d_189 : Nat) : Int)) (by rw [e_189]) ?_
                    refine lv_istore (lv' := [(11, .int (iI ((d_189 : Nat) : Int))), (10, .int (r_180)), (0, .ref (a 0)), (1, .ref (b)), (2, .int (iI ((0 : Nat) : Int))), (3, .ref (ou)), (4, .ref (okk)), (5, .ref (ob)), (6, .ref (ol)), (7, .int (iI ((n : Nat) : Int))), (8, .int (iI ((d_157 : Nat) : Int))), (9, .int (iI ((Lm L : Nat) : Int)))]) hx hb dL_build_192 hl (by decide) rfl (fun ls hl => ?_)
                    refine lv_iload hx hb dL_build_194 (lv_at hl 1 rfl) ?_
                    refine z_ic hx hb dL_build_196 ?_
                    refine lv_ishr hx hb dL_build_197 ?_
                    refine lv_topi (fun y_197 hy_197 => ?_)
                    refine lv_iload hx hb dL_build_198 (lv_at hl 9 rfl) ?_
                    refine z_calli (va_runS (As := [.int (y_197), .int (iI ((n : Nat) : Int))]) (rest := []) ⟨hx, hb, hml, hown, hts⟩ (c_L_below l D g ([(ol, .inl (g 0, 40, .inl (aI (nZ lf)))), (ob, .inl (g 0, 6, .inl (aI (nZ (Lby L))))), (okk, .inl (g 0, 6, .inl (aI (nZ (Lkd L))))), (ou, .inl (g 0, 3, .inl (aI (nZ uf))))] ++ (wX a g L 0 0 hs tm tk lt)) y_197 n (by omega) _) (va_cwS 2 hts gL_build_L_below rfl rfl rfl (by decide +kernel) ⟨Nat.le_of_ble_eq_true rfl, Nat.le_of_ble_eq_true rfl⟩) (z_preS hK hP hD) rfl rfl hl.1 rfl (lv_room (Nat.le_of_ble_eq_true rfl)) dL_build_200 ⟨show 12 + 5 * Lm L + 0 ≤ 60 from by omega, show 72 + 30 * Lm L + 0 ≤ 6 * 60 from by omega⟩) hS hD hA (fun r w1 H locs hw1 hP hD hS => ?_)
                    obtain ⟨rfl, rfl⟩ := hw1
                    obtain ⟨d_200, e_200⟩ : ∃ d : Nat, d = bel y_197 n := ⟨_, rfl⟩
                    have b_200 : d_200 < n := by rw [e_200]; exact bel_lt _ (by omega)
                    refine z_eqI (y := iI ((d_200 : Nat) : Int)) (by rw [e_200]) ?_
                    refine lv_istore (lv' := [(12, .int (iI ((d_200 : Nat) : Int))), (11, .int (iI ((d_189 : Nat) : Int))), (10, .int (r_180)), (0, .ref (a 0)), (1, .ref (b)), (2, .int (iI ((0 : Nat) : Int))), (3, .ref (ou)), (4, .ref (okk)), (5, .ref (ob)), (6, .ref (ol)), (7, .int (iI ((n : Nat) : Int))), (8, .int (iI ((d_157 : Nat) : Int))), (9, .int (iI ((Lm L : Nat) : Int)))]) hx hb dL_build_203 hl (by decide) rfl (fun ls hl => ?_)
                    refine lv_iload hx hb dL_build_205 (lv_at hl 2 rfl) ?_
                    refine z_bip hx hb dL_build_207 (by decide) ?_
                    refine lv_ishr hx hb dL_build_209 ?_
                    refine lv_topi (fun y_209 hy_209 => ?_)
                    refine z_bip hx hb dL_build_210 (by decide) ?_
                    refine z_calli (va_runS (As := [.int (y_209), .int (iI ((7 : Nat) : Int))]) (rest := []) ⟨hx, hb, hml, hown, hts⟩ (c_L_below l D g ([(ol, .inl (g 0, 40, .inl (aI (nZ lf)))), (ob, .inl (g 0, 6, .inl (aI (nZ (Lby L))))), (okk, .inl (g 0, 6, .inl (aI (nZ (Lkd L))))), (ou, .inl (g 0, 3, .inl (aI (nZ uf))))] ++ (wX a g L 0 0 hs tm tk lt)) y_209 7 (by omega) _) (va_cwS 2 hts gL_build_L_below rfl rfl rfl (by decide +kernel) ⟨Nat.le_of_ble_eq_true rfl, Nat.le_of_ble_eq_true rfl⟩) (z_preS hK hP hD) rfl rfl hl.1 rfl (lv_room (Nat.le_of_ble_eq_true rfl)) dL_build_212 ⟨show 12 + 5 * Lm L + 0 ≤ 60 from by omega, show 72 + 30 * Lm L + 0 ≤ 6 * 60 from by omega⟩) hS hD hA (fun r w1 H locs hw1 hP hD hS => ?_)
                    obtain ⟨rfl, rfl⟩ := hw1
                    obtain ⟨d_212, e_212⟩ : ∃ d : Nat, d = bel y_209 7 := ⟨_, rfl⟩
                    have b_212 : d_212 < 7 := by rw [e_212]; exact bel_lt _ (by omega)
                    refine z_eqI (y := iI ((d_212 : Nat) : Int)) (by rw [e_212]) ?_
                    refine lv_istore (lv' := [(13, .int (iI ((d_212 : Nat) : Int))), (12, .int (iI ((d_200 : Nat) : Int))), (11, .int (iI ((d_189 : Nat) : Int))), (10, .int (r_180)), (0, .ref (a 0)), (1, .ref (b)), (2, .int (iI ((0 : Nat) : Int))), (3, .ref (ou)), (4, .ref (okk)), (5, .ref (ob)), (6, .ref (ol)), (7, .int (iI ((n : Nat) : Int))), (8, .int (iI ((d_157 : Nat) : Int))), (9, .int (iI ((Lm L : Nat) : Int)))]) hx hb dL_build_215 hl (by decide) rfl (fun ls hl => ?_)
                    refine lv_iload hx hb dL_build_217 (lv_at hl 2 rfl) ?_
                    refine lv_iload hx hb dL_build_219 (lv_at hl 1 rfl) ?_
                    refine z_icge (a := ((d_189 : Nat) : Int)) (b := ((d_200 : Nat) : Int)) (tgt := 236) hx hb dL_build_221 (by decide) (by omega) (fun c_221 => ?_) (fun c_221 => ?_)
                    · refine z_ic hx hb dL_build_236 ?_
                      refine lv_iload hx hb dL_build_237 (lv_at hl 3 rfl) ?_
                      refine z_bip hx hb dL_build_239 (by decide) ?_
                      refine lv_ishr hx hb dL_build_241 ?_
                      refine lv_topi (fun y_241 hy_241 => ?_)
                      refine z_ic hx hb dL_build_242 ?_
                      refine z_calli (va_runS (As := [.int (y_241), .int (iI ((3 : Nat) : Int))]) (rest := [.int (iI ((1 : Nat) : Int))]) ⟨hx, hb, hml, hown, hts⟩ (c_L_below l D g ([(ol, .inl (g 0, 40, .inl (aI (nZ lf)))), (ob, .inl (g 0, 6, .inl (aI (nZ (Lby L))))), (okk, .inl (g 0, 6, .inl (aI (nZ (Lkd L))))), (ou, .inl (g 0, 3, .inl (aI (nZ uf))))] ++ (wX a g L 0 0 hs tm tk lt)) y_241 3 (by omega) _) (va_cwS 2 hts gL_build_L_below rfl rfl rfl (by decide +kernel) ⟨Nat.le_of_ble_eq_true rfl, Nat.le_of_ble_eq_true rfl⟩) (z_preS hK hP hD) rfl rfl hl.1 rfl (lv_room (Nat.le_of_ble_eq_true rfl)) dL_build_243 ⟨show 12 + 5 * Lm L + 0 ≤ 60 from by omega, show 72 + 30 * Lm L + 0 ≤ 6 * 60 from by omega⟩) hS hD hA (fun r w1 H locs hw1 hP hD hS => ?_)
                      obtain ⟨rfl, rfl⟩ := hw1
                      obtain ⟨d_243, e_243⟩ : ∃ d : Nat, d = bel y_241 3 := ⟨_, rfl⟩
                      have b_243 : d_243 < 3 := by rw [e_243]; exact bel_lt _ (by omega)
                      refine z_eqI (y := iI ((d_243 : Nat) : Int)) (by rw [e_243]) ?_
                      refine z_add (a := 1) (b := ((d_243 : Nat) : Int)) hx hb dL_build_246 ?_
                      refine z_eqI (y := iI ((1 + d_243 : Nat) : Int)) (congrArg iI (by omega)) ?_
                      refine lv_istore (lv' := [(14, .int (iI ((1 + d_243 : Nat) : Int))), (13, .int (iI ((d_212 : Nat) : Int))), (12, .int (iI ((d_200 : Nat) : Int))), (11, .int (iI ((d_189 : Nat) : Int))), (10, .int (r_180)), (0, .ref (a 0)), (1, .ref (b)), (2, .int (iI ((0 : Nat) : Int))), (3, .ref (ou)), (4, .ref (okk)), (5, .ref (ob)), (6, .ref (ol)), (7, .int (iI ((n : Nat) : Int))), (8, .int (iI ((d_157 : Nat) : Int))), (9, .int (iI ((Lm L : Nat) : Int)))]) hx hb dL_build_247 hl (by decide) rfl (fun ls hl => ?_)
                      refine z_ic hx hb dL_build_249 ?_
                      refine z_newa2 (n := iI ((4 : Nat) : Int)) (N' := 4) (a0 := (4, .inl (aI (nZ (fun _ => 0))))) hx hb (hts (.arrayClass .int) (List.mem_of_getElem? (i := 1) rfl)) hK hP hD hS hA 0 rfl (aI0 4) (by decide) (by decide) (by decide) (show 12 + 5 * Lm L + 1 ≤ 60 from by omega) (show 72 + 30 * Lm L + 4 ≤ 6 * 60 from by omega) dL_build_250 (fun oq H hP hD hS => ?_)
                      have hP : va_P D vwCl ([(oq, .inl (g 0, 4, .inl (aI (nZ (fun _ => 0)))))] ++ ([(ol, .inl (g 0, 40, .inl (aI (nZ lf)))), (ob, .inl (g 0, 6, .inl (aI (nZ (Lby L))))), (okk, .inl (g 0, 6, .inl (aI (nZ (Lkd L))))), (ou, .inl (g 0, 3, .inl (aI (nZ uf))))] ++ (wX a g L 0 0 hs tm tk lt))) H := wj_sp hP
                      have hD : va_D A ([(oq, .inl (g 0, 4, .inl (aI (nZ (fun _ => 0)))))] ++ ([(ol, .inl (g 0, 40, .inl (aI (nZ lf)))), (ob, .inl (g 0, 6, .inl (aI (nZ (Lby L))))), (okk, .inl (g 0, 6, .inl (aI (nZ (Lkd L))))), (ou, .inl (g 0, 3, .inl (aI (nZ uf))))] ++ (wX a g L 0 0 hs tm tk lt))) := wj_sd hD
                      have hP : va_P D vwCl ([(oq, .inl (g 0, 4, .inl (aI (nZ (fun _ => 0))))), (ol, .inl (g 0, 40, .inl (aI (nZ lf)))), (ob, .inl (g 0, 6, .inl (aI (nZ (Lby L))))), (okk, .inl (g 0, 6, .inl (aI (nZ (Lkd L))))), (ou, .inl (g 0, 3, .inl (aI (nZ uf))))] ++ (wX a g L 0 0 hs tm tk lt)) H := hP
                      have hD : va_D A ([(oq, .inl (g 0, 4, .inl (aI (nZ (fun _ => 0))))), (ol, .inl (g 0, 40, .inl (aI (nZ lf)))), (ob, .inl (g 0, 6, .inl (aI (nZ (Lby L))))), (okk, .inl (g 0, 6, .inl (aI (nZ (Lkd L))))), (ou, .inl (g 0, 3, .inl (aI (nZ uf))))] ++ (wX a g L 0 0 hs tm tk lt)) := hD
                      refine lv_dup hx hb dL_build_252 rfl ?_
                      refine z_ic hx hb dL_build_253 ?_
                      refine lv_iload hx hb dL_build_254 (lv_at hl 3 rfl) ?_
                      refine z_iastZ (f := (fun _ => 0)) (z := 0) (v := d_189) hx hb hK hP hD hS 0 0 rfl rfl (by omega) (by decide) dL_build_256 (fun H locs hP hD hS => ?_)
                      have hP : va_P D vwCl ([(oq, .inl (g 0, 4, .inl (aI (nZ (upN (fun _ => 0) 0 d_189))))), (ol, .inl (g 0, 40, .inl (aI (nZ lf)))), (ob, .inl (g 0, 6, .inl (aI (nZ (Lby L))))), (okk, .inl (g 0, 6, .inl (aI (nZ (Lkd L))))), (ou, .inl (g 0, 3, .inl (aI (nZ uf))))] ++ (wX a g L 0 0 hs tm tk lt)) H := hP
                      have hD : va_D A ([(oq, .inl (g 0, 4, .inl (aI (nZ (upN (fun _ => 0) 0 d_189))))), (ol, .inl (g 0, 40, .inl (aI (nZ lf)))), (ob, .inl (g 0, 6, .inl (aI (nZ (Lby L))))), (okk, .inl (g 0, 6, .inl (aI (nZ (Lkd L))))), (ou, .inl (g 0, 3, .inl (aI (nZ uf))))] ++ (wX a g L 0 0 hs tm tk lt)) := hD
                      refine lv_dup hx hb dL_build_257 rfl ?_
                      refine z_ic hx hb dL_build_258 ?_
                      refine lv_iload hx hb dL_build_259 (lv_at hl 2 rfl) ?_
                      refine z_iastZ (f := upN (fun _ => 0) 0 d_189) (z := 1) (v := d_200) hx hb hK hP hD hS 0 0 rfl rfl (by omega) (by decide) dL_build_261 (fun H locs hP hD hS => ?_)
                      have hP : va_P D vwCl ([(oq, .inl (g 0, 4, .inl (aI (nZ (upN (upN (fun _ => 0) 0 d_189) 1 d_200))))), (ol, .inl (g 0, 40, .inl (aI (nZ lf)))), (ob, .inl (g 0, 6, .inl (aI (nZ (Lby L))))), (okk, .inl (g 0, 6, .inl (aI (nZ (Lkd L))))), (ou, .inl (g 0, 3, .inl (aI (nZ uf))))] ++ (wX a g L 0 0 hs tm tk lt)) H := hP
                      have hD : va_D A ([(oq, .inl (g 0, 4, .inl (aI (nZ (upN (upN (fun _ => 0) 0 d_189) 1 d_200))))), (ol, .inl (g 0, 40, .inl (aI (nZ lf)))), (ob, .inl (g 0, 6, .inl (aI (nZ (Lby L))))), (okk, .inl (g 0, 6, .inl (aI (nZ (Lkd L))))), (ou, .inl (g 0, 3, .inl (aI (nZ uf))))] ++ (wX a g L 0 0 hs tm tk lt)) := hD
                      refine lv_dup hx hb dL_build_262 rfl ?_
                      refine z_ic hx hb dL_build_263 ?_
                      refine lv_iload hx hb dL_build_264 (lv_at hl 1 rfl) ?_
                      refine z_iastZ (f := upN (upN (fun _ => 0) 0 d_189) 1 d_200) (z := 2) (v := d_212) hx hb hK hP hD hS 0 0 rfl rfl (by omega) (by decide) dL_build_266 (fun H locs hP hD hS => ?_)
                      have hP : va_P D vwCl ([(oq, .inl (g 0, 4, .inl (aI (nZ (upN (upN (upN (fun _ => 0) 0 d_189) 1 d_200) 2 d_212))))), (ol, .inl (g 0, 40, .inl (aI (nZ lf)))), (ob, .inl (g 0, 6, .inl (aI (nZ (Lby L))))), (okk, .inl (g 0, 6, .inl (aI (nZ (Lkd L))))), (ou, .inl (g 0, 3, .inl (aI (nZ uf))))] ++ (wX a g L 0 0 hs tm tk lt)) H := hP
                      have hD : va_D A ([(oq, .inl (g 0, 4, .inl (aI (nZ (upN (upN (upN (fun _ => 0) 0 d_189) 1 d_200) 2 d_212))))), (ol, .inl (g 0, 40, .inl (aI (nZ lf)))), (ob, .inl (g 0, 6, .inl (aI (nZ (Lby L))))), (okk, .inl (g 0, 6, .inl (aI (nZ (Lkd L))))), (ou, .inl (g 0, 3, .inl (aI (nZ uf))))] ++ (wX a g L 0 0 hs tm tk lt)) := hD
                      refine lv_dup hx hb dL_build_267 rfl ?_
                      refine z_ic hx hb dL_build_268 ?_
                      refine lv_iload hx hb dL_build_269 (lv_at hl 0 rfl) ?_
                      refine z_iastZ (f := upN (upN (upN (fun _ => 0) 0 d_189) 1 d_200) 2 d_212) (z := 3) (v := 1 + d_243) hx hb hK hP hD hS 0 0 rfl rfl (by omega) (by decide) dL_build_271 (fun H locs hP hD hS => ?_)
                      have hP : va_P D vwCl ([(oq, .inl (g 0, 4, .inl (aI (nZ (upN (upN (upN (upN (fun _ => 0) 0 d_189) 1 d_200) 2 d_212) 3 (1 + d_243)))))), (ol, .inl (g 0, 40, .inl (aI (nZ lf)))), (ob, .inl (g 0, 6, .inl (aI (nZ (Lby L))))), (okk, .inl (g 0, 6, .inl (aI (nZ (Lkd L))))), (ou, .inl (g 0, 3, .inl (aI (nZ uf))))] ++ (wX a g L 0 0 hs tm tk lt)) H := hP
                      have hD : va_D A ([(oq, .inl (g 0, 4, .inl (aI (nZ (upN (upN (upN (upN (fun _ => 0) 0 d_189) 1 d_200) 2 d_212) 3 (1 + d_243)))))), (ol, .inl (g 0, 40, .inl (aI (nZ lf)))), (ob, .inl (g 0, 6, .inl (aI (nZ (Lby L))))), (okk, .inl (g 0, 6, .inl (aI (nZ (Lkd L))))), (ou, .inl (g 0, 3, .inl (aI (nZ uf))))] ++ (wX a g L 0 0 hs tm tk lt)) := hD
                      refine lv_astore (lv' := [(15, .ref (oq)), (14, .int (iI ((1 + d_243 : Nat) : Int))), (13, .int (iI ((d_212 : Nat) : Int))), (12, .int (iI ((d_200 : Nat) : Int))), (11, .int (iI ((d_189 : Nat) : Int))), (10, .int (r_180)), (0, .ref (a 0)), (1, .ref (b)), (2, .int (iI ((0 : Nat) : Int))), (3, .ref (ou)), (4, .ref (okk)), (5, .ref (ob)), (6, .ref (ol)), (7, .int (iI ((n : Nat) : Int))), (8, .int (iI ((d_157 : Nat) : Int))), (9, .int (iI ((Lm L : Nat) : Int)))]) hx hb dL_build_272 hl (by decide) rfl (fun ls hl => ?_)
                      refine z_ic hx hb dL_build_274 ?_
                      refine lv_istore (lv' := [(16, .int (iI ((0 : Nat) : Int))), (15, .ref (oq)), (14, .int (iI ((1 + d_243 : Nat) : Int))), (13, .int (iI ((d_212 : Nat) : Int))), (12, .int (iI ((d_200 : Nat) : Int))), (11, .int (iI ((d_189 : Nat) : Int))), (10, .int (r_180)), (0, .ref (a 0)), (1, .ref (b)), (2, .int (iI ((0 : Nat) : Int))), (3, .ref (ou)), (4, .ref (okk)), (5, .ref (ob)), (6, .ref (ol)), (7, .int (iI ((n : Nat) : Int))), (8, .int (iI ((d_157 : Nat) : Int))), (9, .int (iI ((Lm L : Nat) : Int)))]) hx hb dL_build_275 hl (by decide) rfl (fun ls hl => ?_)
                      refine lv_iload hx hb dL_build_277 (lv_at hl 0 rfl) ?_
                      refine z_ic hx hb dL_build_279 ?_
                      refine z_icge (a := 0) (b := 4) (tgt := 306) hx hb dL_build_280 (by decide) (by omega) (fun c_280 => ?_) (fun c_280 => ?_)
                      · exact absurd c_280 (by decide)
                      · refine lv_aload hx hb dL_build_283 (lv_at hl 13 rfl) ?_
                        refine z_ic hx hb dL_build_285 ?_
                        refine z_ic hx hb dL_build_286 ?_
                        refine lv_iload hx hb dL_build_287 (lv_at hl 16 rfl) ?_
                        refine z_mul (a := 4) (b := ((Lm L : Nat) : Int)) hx hb dL_build_289 ?_
                        refine z_eqI (y := iI ((4 * Lm L : Nat) : Int)) (congrArg iI (by omega)) ?_
                        refine z_add (a := 1) (b := ((4 * Lm L : Nat) : Int)) hx hb dL_build_290 ?_
                        refine z_eqI (y := iI ((1 + 4 * Lm L : Nat) : Int)) (congrArg iI (by omega)) ?_
                        refine lv_iload hx hb dL_build_291 (lv_at hl 0 rfl) ?_
                        refine z_add (a := ((1 + 4 * Lm L : Nat) : Int)) (b := 0) hx hb dL_build_293 ?_
                        refine z_eqI (y := iI ((1 + 4 * Lm L + 0 : Nat) : Int)) (congrArg iI (by omega)) ?_
                        refine lv_aload hx hb dL_build_294 (lv_at hl 1 rfl) ?_
                        refine lv_iload hx hb dL_build_296 (lv_at hl 0 rfl) ?_
                        refine z_ialdZ (f := upN (upN (upN (upN (fun _ => 0) 0 d_189) 1 d_200) 2 d_212) 3 (1 + d_243)) (z := 0) hx hb hK hP 0 0 rfl rfl (by omega) (by decide) dL_build_298 ?_
                        refine z_eqI (y := (iI ((d_189 : Nat) : Int))) (congrArg iI rfl) ?_
                        refine z_iastZ (f := lf) (z := 1 + 4 * Lm L + 0) (v := d_189) hx hb hK hP hD hS 1 0 rfl rfl (by omega) (by decide) dL_build_299 (fun H locs hP hD hS => ?_)
                        have hP : va_P D vwCl ([(oq, .inl (g 0, 4, .inl (aI (nZ (upN (upN (upN (upN (fun _ => 0) 0 d_189) 1 d_200) 2 d_212) 3 (1 + d_243)))))), (ol, .inl (g 0, 40, .inl (aI (nZ (upN lf (1 + 4 * Lm L + 0) d_189))))), (ob, .inl (g 0, 6, .inl (aI (nZ (Lby L))))), (okk, .inl (g 0, 6, .inl (aI (nZ (Lkd L))))), (ou, .inl (g 0, 3, .inl (aI (nZ uf))))] ++ (wX a g L 0 0 hs tm tk lt)) H := hP
                        have hD : va_D A ([(oq, .inl (g 0, 4, .inl (aI (nZ (upN (upN (upN (upN (fun _ => 0) 0 d_189) 1 d_200) 2 d_212) 3 (1 + d_243)))))), (ol, .inl (g 0, 40, .inl (aI (nZ (upN lf (1 + 4 * Lm L + 0) d_189))))), (ob, .inl (g 0, 6, .inl (aI (nZ (Lby L))))), (okk, .inl (g 0, 6, .inl (aI (nZ (Lkd L))))), (ou, .inl (g 0, 3, .inl (aI (nZ uf))))] ++ (wX a g L 0 0 hs tm tk lt)) := hD
                        refine z_iinc (a := 0) (b := 1) (lv' := [(16, .int (iI ((1 : Nat) : Int))), (15, .ref (oq)), (14, .int (iI ((1 + d_243 : Nat) : Int))), (13, .int (iI ((d_212 : Nat) : Int))), (12, .int (iI ((d_200 : Nat) : Int))), (11, .int (iI ((d_189 : Nat) : Int))), (10, .int (r_180)), (0, .ref (a 0)), (1, .ref (b)), (2, .int (iI ((0 : Nat) : Int))), (3, .ref (ou)), (4, .ref (okk)), (5, .ref (ob)), (6, .ref (ol)), (7, .int (iI ((n : Nat) : Int))), (8, .int (iI ((d_157 : Nat) : Int))), (9, .int (iI ((Lm L : Nat) : Int)))]) hx hb 0 dL_build_300 hl rfl rfl (by decide) rfl (fun ls hl => ?_)
                        refine lv_goto (tgt := 277) hx hb dL_build_303 (by decide) ?_
                        refine lv_iload hx hb dL_build_277 (lv_at hl 0 rfl) ?_
                        refine z_ic hx hb dL_build_279 ?_
                        refine z_icge (a := 1) (b := 4) (tgt := 306) hx hb dL_build_280 (by decide) (by omega) (fun c_280 => ?_) (fun c_280 => ?_)
                        · exact absurd c_280 (by decide)
                        · refine lv_aload hx hb dL_build_283 (lv_at hl 13 rfl) ?_
                          refine z_ic hx hb dL_build_285 ?_
                          refine z_ic hx hb dL_build_286 ?_
                          refine lv_iload hx hb dL_build_287 (lv_at hl 16 rfl) ?_
                          refine z_mul (a := 4) (b := ((Lm L : Nat) : Int)) hx hb dL_build_289 ?_
                          refine z_eqI (y := iI ((4 * Lm L : Nat) : Int)) (congrArg iI (by omega)) ?_
                          refine z_add (a := 1) (b := ((4 * Lm L : Nat) : Int)) hx hb dL_build_290 ?_
                          refine z_eqI (y := iI ((1 + 4 * Lm L : Nat) : Int)) (congrArg iI (by omega)) ?_
                          refine lv_iload hx hb dL_build_291 (lv_at hl 0 rfl) ?_
                          refine z_add (a := ((1 + 4 * Lm L : Nat) : Int)) (b := 1) hx hb dL_build_293 ?_
                          refine z_eqI (y := iI ((1 + 4 * Lm L + 1 : Nat) : Int)) (congrArg iI (by omega)) ?_
                          refine lv_aload hx hb dL_build_294 (lv_at hl 1 rfl) ?_
                          refine lv_iload hx hb dL_build_296 (lv_at hl 0 rfl) ?_
                          refine z_ialdZ (f := upN (upN (upN (upN (fun _ => 0) 0 d_189) 1 d_200) 2 d_212) 3 (1 + d_243)) (z := 1) hx hb hK hP 0 0 rfl rfl (by omega) (by decide) dL_build_298 ?_
                          refine z_eqI (y := (iI ((d_200 : Nat) : Int))) (congrArg iI rfl) ?_
                          refine z_iastZ (f := upN lf (1 + 4 * Lm L + 0) d_189) (z := 1 + 4 * Lm L + 1) (v := d_200) hx hb hK hP hD hS 1 0 rfl rfl (by omega) (by decide) dL_build_299 (fun H locs hP hD hS => ?_)
                          have hP : va_P D vwCl ([(oq, .inl (g 0, 4, .inl (aI (nZ (upN (upN (upN (upN (fun _ => 0) 0 d_189) 1 d_200) 2 d_212) 3 (1 + d_243)))))), (ol, .inl (g 0, 40, .inl (aI (nZ (upN (upN lf (1 + 4 * Lm L + 0) d_189) (1 + 4 * Lm L + 1) d_200))))), (ob, .inl (g 0, 6, .inl (aI (nZ (Lby L))))), (okk, .inl (g 0, 6, .inl (aI (nZ (Lkd L))))), (ou, .inl (g 0, 3, .inl (aI (nZ uf))))] ++ (wX a g L 0 0 hs tm tk lt)) H := hP
                          have hD : va_D A ([(oq, .inl (g 0, 4, .inl (aI (nZ (upN (upN (upN (upN (fun _ => 0) 0 d_189) 1 d_200) 2 d_212) 3 (1 + d_243)))))), (ol, .inl (g 0, 40, .inl (aI (nZ (upN (upN lf (1 + 4 * Lm L + 0) d_189) (1 + 4 * Lm L + 1) d_200))))), (ob, .inl (g 0, 6, .inl (aI (nZ (Lby L))))), (okk, .inl (g 0, 6, .inl (aI (nZ (Lkd L))))), (ou, .inl (g 0, 3, .inl (aI (nZ uf))))] ++ (wX a g L 0 0 hs tm tk lt)) := hD
                          refine z_iinc (a := 1) (b := 2) (lv' := [(16, .int (iI ((2 : Nat) : Int))), (15, .ref (oq)), (14, .int (iI ((1 + d_243 : Nat) : Int))), (13, .int (iI ((d_212 : Nat) : Int))), (12, .int (iI ((d_200 : Nat) : Int))), (11, .int (iI ((d_189 : Nat) : Int))), (10, .int (r_180)), (0, .ref (a 0)), (1, .ref (b)), (2, .int (iI ((0 : Nat) : Int))), (3, .ref (ou)), (4, .ref (okk)), (5, .ref (ob)), (6, .ref (ol)), (7, .int (iI ((n : Nat) : Int))), (8, .int (iI ((d_157 : Nat) : Int))), (9, .int (iI ((Lm L : Nat) : Int)))]) hx hb 0 dL_build_300 hl rfl rfl (by decide) rfl (fun ls hl => ?_)
                          refine lv_goto (tgt := 277) hx hb dL_build_303 (by decide) ?_
                          refine lv_iload hx hb dL_build_277 (lv_at hl 0 rfl) ?_
                          refine z_ic hx hb dL_build_279 ?_
                          refine z_icge (a := 2) (b := 4) (tgt := 306) hx hb dL_build_280 (by decide) (by omega) (fun c_280 => ?_) (fun c_280 => ?_)
                          · exact absurd c_280 (by decide)
                          · refine lv_aload hx hb dL_build_283 (lv_at hl 13 rfl) ?_
                            refine z_ic hx hb dL_build_285 ?_
                            refine z_ic hx hb dL_build_286 ?_
                            refine lv_iload hx hb dL_build_287 (lv_at hl 16 rfl) ?_
                            refine z_mul (a := 4) (b := ((Lm L : Nat) : Int)) hx hb dL_build_289 ?_
                            refine z_eqI (y := iI ((4 * Lm L : Nat) : Int)) (congrArg iI (by omega)) ?_
                            refine z_add (a := 1) (b := ((4 * Lm L : Nat) : Int)) hx hb dL_build_290 ?_
                            refine z_eqI (y := iI ((1 + 4 * Lm L : Nat) : Int)) (congrArg iI (by omega)) ?_
                            refine lv_iload hx hb dL_build_291 (lv_at hl 0 rfl) ?_
                            refine z_add (a := ((1 + 4 * Lm L : Nat) : Int)) (b := 2) hx hb dL_build_293 ?_
                            refine z_eqI (y := iI ((1 + 4 * Lm L + 2 : Nat) : Int)) (congrArg iI (by omega)) ?_
                            refine lv_aload hx hb dL_build_294 (lv_at hl 1 rfl) ?_
                            refine lv_iload hx hb dL_build_296 (lv_at hl 0 rfl) ?_
                            refine z_ialdZ (f := upN (upN (upN (upN (fun _ => 0) 0 d_189) 1 d_200) 2 d_212) 3 (1 + d_243)) (z := 2) hx hb hK hP 0 0 rfl rfl (by omega) (by decide) dL_build_298 ?_
                            refine z_eqI (y := (iI ((d_212 : Nat) : Int))) (congrArg iI rfl) ?_
                            refine z_iastZ (f := upN (upN lf (1 + 4 * Lm L + 0) d_189) (1 + 4 * Lm L + 1) d_200) (z := 1 + 4 * Lm L + 2) (v := d_212) hx hb hK hP hD hS 1 0 rfl rfl (by omega) (by decide) dL_build_299 (fun H locs hP hD hS => ?_)
                            have hP : va_P D vwCl ([(oq, .inl (g 0, 4, .inl (aI (nZ (upN (upN (upN (upN (fun _ => 0) 0 d_189) 1 d_200) 2 d_212) 3 (1 + d_243)))))), (ol, .inl (g 0, 40, .inl (aI (nZ (upN (upN (upN lf (1 + 4 * Lm L + 0) d_189) (1 + 4 * Lm L + 1) d_200) (1 + 4 * Lm L + 2) d_212))))), (ob, .inl (g 0, 6, .inl (aI (nZ (Lby L))))), (okk, .inl (g 0, 6, .inl (aI (nZ (Lkd L))))), (ou, .inl (g 0, 3, .inl (aI (nZ uf))))] ++ (wX a g L 0 0 hs tm tk lt)) H := hP
                            have hD : va_D A ([(oq, .inl (g 0, 4, .inl (aI (nZ (upN (upN (upN (upN (fun _ => 0) 0 d_189) 1 d_200) 2 d_212) 3 (1 + d_243)))))), (ol, .inl (g 0, 40, .inl (aI (nZ (upN (upN (upN lf (1 + 4 * Lm L + 0) d_189) (1 + 4 * Lm L + 1) d_200) (1 + 4 * Lm L + 2) d_212))))), (ob, .inl (g 0, 6, .inl (aI (nZ (Lby L))))), (okk, .inl (g 0, 6, .inl (aI (nZ (Lkd L))))), (ou, .inl (g 0, 3, .inl (aI (nZ uf))))] ++ (wX a g L 0 0 hs tm tk lt)) := hD
                            refine z_iinc (a := 2) (b := 3) (lv' := [(16, .int (iI ((3 : Nat) : Int))), (15, .ref (oq)), (14, .int (iI ((1 + d_243 : Nat) : Int))), (13, .int (iI ((d_212 : Nat) : Int))), (12, .int (iI ((d_200 : Nat) : Int))), (11, .int (iI ((d_189 : Nat) : Int))), (10, .int (r_180)), (0, .ref (a 0)), (1, .ref (b)), (2, .int (iI ((0 : Nat) : Int))), (3, .ref (ou)), (4, .ref (okk)), (5, .ref (ob)), (6, .ref (ol)), (7, .int (iI ((n : Nat) : Int))), (8, .int (iI ((d_157 : Nat) : Int))), (9, .int (iI ((Lm L : Nat) : Int)))]) hx hb 0 dL_build_300 hl rfl rfl (by decide) rfl (fun ls hl => ?_)
                            refine lv_goto (tgt := 277) hx hb dL_build_303 (by decide) ?_
                            refine lv_iload hx hb dL_build_277 (lv_at hl 0 rfl) ?_
                            refine z_ic hx hb dL_build_279 ?_
                            refine z_icge (a := 3) (b := 4) (tgt := 306) hx hb dL_build_280 (by decide) (by omega) (fun c_280 => ?_) (fun c_280 => ?_)
                            · exact absurd c_280 (by decide)
                            · refine lv_aload hx hb dL_build_283 (lv_at hl 13 rfl) ?_
                              refine z_ic hx hb dL_build_285 ?_
                              refine z_ic hx hb dL_build_286 ?_
                              refine lv_iload hx hb dL_build_287 (lv_at hl 16 rfl) ?_
                              refine z_mul (a := 4) (b := ((Lm L : Nat) : Int)) hx hb dL_build_289 ?_
                              refine z_eqI (y := iI ((4 * Lm L : Nat) : Int)) (congrArg iI (by omega)) ?_
                              refine z_add (a := 1) (b := ((4 * Lm L : Nat) : Int)) hx hb dL_build_290 ?_
                              refine z_eqI (y := iI ((1 + 4 * Lm L : Nat) : Int)) (congrArg iI (by omega)) ?_
                              refine lv_iload hx hb dL_build_291 (lv_at hl 0 rfl) ?_
                              refine z_add (a := ((1 + 4 * Lm L : Nat) : Int)) (b := 3) hx hb dL_build_293 ?_
                              refine z_eqI (y := iI ((1 + 4 * Lm L + 3 : Nat) : Int)) (congrArg iI (by omega)) ?_
                              refine lv_aload hx hb dL_build_294 (lv_at hl 1 rfl) ?_
                              refine lv_iload hx hb dL_build_296 (lv_at hl 0 rfl) ?_
                              refine z_ialdZ (f := upN (upN (upN (upN (fun _ => 0) 0 d_189) 1 d_200) 2 d_212) 3 (1 + d_243)) (z := 3) hx hb hK hP 0 0 rfl rfl (by omega) (by decide) dL_build_298 ?_
                              refine z_eqI (y := (iI ((1 + d_243 : Nat) : Int))) (congrArg iI rfl) ?_
                              refine z_iastZ (f := upN (upN (upN lf (1 + 4 * Lm L + 0) d_189) (1 + 4 * Lm L + 1) d_200) (1 + 4 * Lm L + 2) d_212) (z := 1 + 4 * Lm L + 3) (v := 1 + d_243) hx hb hK hP hD hS 1 0 rfl rfl (by omega) (by decide) dL_build_299 (fun H locs hP hD hS => ?_)
                              have hP : va_P D vwCl ([(oq, .inl (g 0, 4, .inl (aI (nZ (upN (upN (upN (upN (fun _ => 0) 0 d_189) 1 d_200) 2 d_212) 3 (1 + d_243)))))), (ol, .inl (g 0, 40, .inl (aI (nZ (upN (upN (upN (upN lf (1 + 4 * Lm L + 0) d_189) (1 + 4 * Lm L + 1) d_200) (1 + 4 * Lm L + 2) d_212) (1 + 4 * Lm L + 3) (1 + d_243)))))), (ob, .inl (g 0, 6, .inl (aI (nZ (Lby L))))), (okk, .inl (g 0, 6, .inl (aI (nZ (Lkd L))))), (ou, .inl (g 0, 3, .inl (aI (nZ uf))))] ++ (wX a g L 0 0 hs tm tk lt)) H := hP
                              have hD : va_D A ([(oq, .inl (g 0, 4, .inl (aI (nZ (upN (upN (upN (upN (fun _ => 0) 0 d_189) 1 d_200) 2 d_212) 3 (1 + d_243)))))), (ol, .inl (g 0, 40, .inl (aI (nZ (upN (upN (upN (upN lf (1 + 4 * Lm L + 0) d_189) (1 + 4 * Lm L + 1) d_200) (1 + 4 * Lm L + 2) d_212) (1 + 4 * Lm L + 3) (1 + d_243)))))), (ob, .inl (g 0, 6, .inl (aI (nZ (Lby L))))), (okk, .inl (g 0, 6, .inl (aI (nZ (Lkd L))))), (ou, .inl (g 0, 3, .inl (aI (nZ uf))))] ++ (wX a g L 0 0 hs tm tk lt)) := hD
                              refine z_iinc (a := 3) (b := 4) (lv' := [(16, .int (iI ((4 : Nat) : Int))), (15, .ref (oq)), (14, .int (iI ((1 + d_243 : Nat) : Int))), (13, .int (iI ((d_212 : Nat) : Int))), (12, .int (iI ((d_200 : Nat) : Int))), (11, .int (iI ((d_189 : Nat) : Int))), (10, .int (r_180)), (0, .ref (a 0)), (1, .ref (b)), (2, .int (iI ((0 : Nat) : Int))), (3, .ref (ou)), (4, .ref (okk)), (5, .ref (ob)), (6, .ref (ol)), (7, .int (iI ((n : Nat) : Int))), (8, .int (iI ((d_157 : Nat) : Int))), (9, .int (iI ((Lm L : Nat) : Int)))]) hx hb 0 dL_build_300 hl rfl rfl (by decide) rfl (fun ls hl => ?_)
                              refine lv_goto (tgt := 277) hx hb dL_build_303 (by decide) ?_
                              refine lv_iload hx hb dL_build_277 (lv_at hl 0 rfl) ?_
                              refine z_ic hx hb dL_build_279 ?_
                              refine z_icge (a := 4) (b := 4) (tgt := 306) hx hb dL_build_280 (by decide) (by omega) (fun c_280 => ?_) (fun c_280 => ?_)
                              · refine lv_aload_n hx hb dL_build_306 rfl (lv_at hl 7 rfl) ?_
                                refine lv_iload hx hb dL_build_307 (lv_at hl 5 rfl) ?_
                                refine lv_iload hx hb dL_build_309 (lv_at hl 4 rfl) ?_
                                refine lv_iload hx hb dL_build_311 (lv_at hl 3 rfl) ?_
                                refine lv_iload hx hb dL_build_313 (lv_at hl 2 rfl) ?_
                                refine j_callQ (u := [(oq, .inl (g 0, 4, .inl (aI (nZ (upN (upN (upN (upN (fun _ => 0) 0 d_189) 1 d_200) 2 d_212) 3 (1 + d_243)))))), (ol, .inl (g 0, 40, .inl (aI (nZ (upN (upN (upN (upN lf (1 + 4 * Lm L + 0) d_189) (1 + 4 * Lm L + 1) d_200) (1 + 4 * Lm L + 2) d_212) (1 + 4 * Lm L + 3) (1 + d_243)))))), (ob, .inl (g 0, 6, .inl (aI (nZ (Lby L))))), (okk, .inl (g 0, 6, .inl (aI (nZ (Lkd L))))), (ou, .inl (g 0, 3, .inl (aI (nZ uf))))]) (v := (wX a g L 0 0 hs tm tk lt)) (k := 4) (fun E u9 h9 => by have hn9 := hK3.2.1; have hm9 := hK3.2.2.1; rcases h9.2 with h | h | h <;> omega) (vx_runV (As := [.int (iI ((d_189 : Nat) : Int)), .int (iI ((d_200 : Nat) : Int)), .int (iI ((d_212 : Nat) : Int)), .int (iI ((1 + d_243 : Nat) : Int))]) (rest := []) ⟨hx, hb, hml, hown, hts⟩ (c_X2_addDependence l hl0 D g a L 0 0 hs tm tk lt ((d_189 : Nat) : Int) ((d_200 : Nat) : Int) ((d_212 : Nat) : Int) ((1 + d_243 : Nat) : Int) hK3.1 (by omega) (by omega) (by omega) (by omega) _) (cwV 4 hts gL_build_X2_addDependence rfl rfl rfl (by decide +kernel) ⟨Nat.le_of_ble_eq_true rfl, Nat.le_of_ble_eq_true rfl⟩) (x_preV 0 hK (wj_r hP) (wj_dr hD) hS hA hE hV rfl rfl) rfl rfl hl.1 rfl (lv_room (Nat.le_of_ble_eq_true rfl)) dL_build_315 ⟨show 12 + 5 * Lm L + 1 + 4 ≤ 60 from by omega, show 72 + 30 * Lm L + 4 + 6 * 4 ≤ 6 * 60 from by omega⟩) hS hP hD hA (fun r w1 H locs hw1 hP hD hS => ?_)
                                obtain ⟨_, rfl, rfl⟩ := hw1
                                have hP : va_P D vwCl ([(oq, .inl (g 0, 4, .inl (aI (nZ (upN (upN (upN (upN (fun _ => 0) 0 d_189) 1 d_200) 2 d_212) 3 (1 + d_243)))))), (ol, .inl (g 0, 40, .inl (aI (nZ (upN (upN (upN (upN lf (1 + 4 * Lm L + 0) d_189) (1 + 4 * Lm L + 1) d_200) (1 + 4 * Lm L + 2) d_212) (1 + 4 * Lm L + 3) (1 + d_243)))))), (ob, .inl (g 0, 6, .inl (aI (nZ (Lby L))))), (okk, .inl (g 0, 6, .inl (aI (nZ (Lkd L))))), (ou, .inl (g 0, 3, .inl (aI (nZ uf))))] ++ (wX a g (Ln L, Lm L + 1, Lu L, Lkd L, Lby L, upN (Lsr L) (Lm L) d_189, upN (Lds L) (Lm L) d_200, upN (Ldl L) (Lm L) d_212, upN (Ldi L) (Lm L) (1 + d_243)) 0 0 hs tm tk lt)) H := hP
                                have hD : va_D A ([(oq, .inl (g 0, 4, .inl (aI (nZ (upN (upN (upN (upN (fun _ => 0) 0 d_189) 1 d_200) 2 d_212) 3 (1 + d_243)))))), (ol, .inl (g 0, 40, .inl (aI (nZ (upN (upN (upN (upN lf (1 + 4 * Lm L + 0) d_189) (1 + 4 * Lm L + 1) d_200) (1 + 4 * Lm L + 2) d_212) (1 + 4 * Lm L + 3) (1 + d_243)))))), (ob, .inl (g 0, 6, .inl (aI (nZ (Lby L))))), (okk, .inl (g 0, 6, .inl (aI (nZ (Lkd L))))), (ou, .inl (g 0, 3, .inl (aI (nZ uf))))] ++ (wX a g (Ln L, Lm L + 1, Lu L, Lkd L, Lby L, upN (Lsr L) (Lm L) d_189, upN (Lds L) (Lm L) d_200, upN (Ldl L) (Lm L) d_212, upN (Ldi L) (Lm L) (1 + d_243)) 0 0 hs tm tk lt)) := hD
                                refine lv_iload hx hb dL_build_318 (lv_at hl 16 rfl) ?_
                                refine z_iceq (a := ((Lm L : Nat) : Int)) (b := ((Lm L : Nat) : Int)) (tgt := 325) hx hb dL_build_320 (by decide) (by omega) (fun c_320 => ?_) (fun c_320 => ?_)
                                · refine z_iinc (a := ((Lm L : Nat) : Int)) (b := ((Lm L + 1 : Nat) : Int)) (lv' := [(9, .int (iI ((Lm L + 1 : Nat) : Int))), (16, .int (iI ((4 : Nat) : Int))), (15, .ref (oq)), (14, .int (iI ((1 + d_243 : Nat) : Int))), (13, .int (iI ((d_212 : Nat) : Int))), (12, .int (iI ((d_200 : Nat) : Int))), (11, .int (iI ((d_189 : Nat) : Int))), (10, .int (r_180)), (0, .ref (a 0)), (1, .ref (b)), (2, .int (iI ((0 : Nat) : Int))), (3, .ref (ou)), (4, .ref (okk)), (5, .ref (ob)), (6, .ref (ol)), (7, .int (iI ((n : Nat) : Int))), (8, .int (iI ((d_157 : Nat) : Int)))]) hx hb 16 dL_build_325 hl rfl rfl (by decide) rfl (fun ls hl => ?_)
                                  refine lv_goto (tgt := 165) hx hb dL_build_328 (by decide) ?_
                                  have hP : va_P D vwCl ([(ol, .inl (g 0, 40, .inl (aI (nZ (upN (upN (upN (upN lf (1 + 4 * Lm L + 0) d_189) (1 + 4 * Lm L + 1) d_200) (1 + 4 * Lm L + 2) d_212) (1 + 4 * Lm L + 3) (1 + d_243)))))), (ob, .inl (g 0, 6, .inl (aI (nZ (Lby L))))), (okk, .inl (g 0, 6, .inl (aI (nZ (Lkd L))))), (ou, .inl (g 0, 3, .inl (aI (nZ uf))))] ++ (wX a g (Ln L, Lm L + 1, Lu L, Lkd L, Lby L, upN (Lsr L) (Lm L) d_189, upN (Lds L) (Lm L) d_200, upN (Ldl L) (Lm L) d_212, upN (Ldi L) (Lm L) (1 + d_243)) 0 0 hs tm tk lt)) H := wj_r (u := [(oq, .inl (g 0, 4, .inl (aI (nZ (upN (upN (upN (upN (fun _ => 0) 0 d_189) 1 d_200) 2 d_212) 3 (1 + d_243))))))]) hP
                                  have hD : va_D A ([(ol, .inl (g 0, 40, .inl (aI (nZ (upN (upN (upN (upN lf (1 + 4 * Lm L + 0) d_189) (1 + 4 * Lm L + 1) d_200) (1 + 4 * Lm L + 2) d_212) (1 + 4 * Lm L + 3) (1 + d_243)))))), (ob, .inl (g 0, 6, .inl (aI (nZ (Lby L))))), (okk, .inl (g 0, 6, .inl (aI (nZ (Lkd L))))), (ou, .inl (g 0, 3, .inl (aI (nZ uf))))] ++ (wX a g (Ln L, Lm L + 1, Lu L, Lkd L, Lby L, upN (Lsr L) (Lm L) d_189, upN (Lds L) (Lm L) d_200, upN (Ldl L) (Lm L) d_212, upN (Ldi L) (Lm L) (1 + d_243)) 0 0 hs tm tk lt)) := wj_dr (u := [(oq, .inl (g 0, 4, .inl (aI (nZ (upN (upN (upN (upN (fun _ => 0) 0 d_189) 1 d_200) 2 d_212) 3 (1 + d_243))))))]) hD
                                  refine W.widen (k := 12 + 5 * Lm (Ln L, Lm L + 1, Lu L, Lkd L, Lby L, upN (Lsr L) (Lm L) d_189, upN (Lds L) (Lm L) d_200, upN (Ldl L) (Lm L) d_212, upN (Ldi L) (Lm L) (1 + d_243))) (n := 72 + 30 * Lm (Ln L, Lm L + 1, Lu L, Lkd L, Lby L, upN (Lsr L) (Lm L) d_189, upN (Lds L) (Lm L) d_200, upN (Ldl L) (Lm L) d_212, upN (Ldi L) (Lm L) (1 + d_243))) (by have e9 : Lm (Ln L, Lm L + 1, Lu L, Lkd L, Lby L, upN (Lsr L) (Lm L) d_189, upN (Lds L) (Lm L) d_200, upN (Ldl L) (Lm L) d_212, upN (Ldi L) (Lm L) (1 + d_243)) = Lm L + 1 := rfl; omega) (by have e9 : Lm (Ln L, Lm L + 1, Lu L, Lkd L, Lby L, upN (Lsr L) (Lm L) d_189, upN (Lds L) (Lm L) d_200, upN (Ldl L) (Lm L) d_212, upN (Ldi L) (Lm L) (1 + d_243)) = Lm L + 1 := rfl; omega) ?_
                                  exact ih165 (Ln L, Lm L + 1, Lu L, Lkd L, Lby L, upN (Lsr L) (Lm L) d_189, upN (Lds L) (Lm L) d_200, upN (Ldl L) (Lm L) d_212, upN (Ldi L) (Lm L) (1 + d_243)) (upN (upN (upN (upN lf (1 + 4 * Lm L + 0) d_189) (1 + 4 * Lm L + 1) d_200) (1 + 4 * Lm L + 2) d_212) (1 + 4 * Lm L + 3) (1 + d_243)) _ _ _ (by show d_157 - (Lm L + 1) < n165; omega) (B3_s hK3 (by omega) (by omega) (by omega) (by omega) (by omega) (by omega) (by omega)) hP hD hS (lv_sub hl [8, 9, 10, 11, 12, 13, 14, 15, 16, 0] rfl)
                                · exact absurd rfl c_320
                              · exact absurd c_280 (by decide)
                    · refine lv_iload hx hb dL_build_224 (lv_at hl 3 rfl) ?_
                      refine z_bip hx hb dL_build_226 (by decide) ?_
                      refine lv_ishr hx hb dL_build_228 ?_
                      refine lv_topi (fun y_228 hy_228 => ?_)
                      refine z_ic hx hb dL_build_229 ?_
                      refine z_calli (va_runS (As := [.int (y_228), .int (iI ((2 : Nat) : Int))]) (rest := []) ⟨hx, hb, hml, hown, hts⟩ (c_L_below l D g ([(ol, .inl (g 0, 40, .inl (aI (nZ lf)))), (ob, .inl (g 0, 6, .inl (aI (nZ (Lby L))))), (okk, .inl (g 0, 6, .inl (aI (nZ (Lkd L))))), (ou, .inl (g 0, 3, .inl (aI (nZ uf))))] ++ (wX a g L 0 0 hs tm tk lt)) y_228 2 (by omega) _) (va_cwS 2 hts gL_build_L_below rfl rfl rfl (by decide +kernel) ⟨Nat.le_of_ble_eq_true rfl, Nat.le_of_ble_eq_true rfl⟩) (z_preS hK hP hD) rfl rfl hl.1 rfl (lv_room (Nat.le_of_ble_eq_true rfl)) dL_build_230 ⟨show 12 + 5 * Lm L + 0 ≤ 60 from by omega, show 72 + 30 * Lm L + 0 ≤ 6 * 60 from by omega⟩) hS hD hA (fun r w1 H locs hw1 hP hD hS => ?_)
                      obtain ⟨rfl, rfl⟩ := hw1
                      obtain ⟨d_230, e_230⟩ : ∃ d : Nat, d = bel y_228 2 := ⟨_, rfl⟩
                      have b_230 : d_230 < 2 := by rw [e_230]; exact bel_lt _ (by omega)
                      refine z_eqI (y := iI ((d_230 : Nat) : Int)) (by rw [e_230]) ?_
                      refine lv_goto (tgt := 247) hx hb dL_build_233 (by decide) ?_
                      refine lv_istore (lv' := [(14, .int (iI ((d_230 : Nat) : Int))), (13, .int (iI ((d_212 : Nat) : Int))), (12, .int (iI ((d_200 : Nat) : Int))), (11, .int (iI ((d_189 : Nat) : Int))), (10, .int (r_180)), (0, .ref (a 0)), (1, .ref (b)), (2, .int (iI ((0 : Nat) : Int))), (3, .ref (ou)), (4, .ref (okk)), (5, .ref (ob)), (6, .ref (ol)), (7, .int (iI ((n : Nat) : Int))), (8, .int (iI ((d_157 : Nat) : Int))), (9, .int (iI ((Lm L : Nat) : Int)))]) hx hb dL_build_247 hl (by decide) rfl (fun ls hl => ?_)
                      refine z_ic hx hb dL_build_249 ?_
                      refine z_newa2 (n := iI ((4 : Nat) : Int)) (N' := 4) (a0 := (4, .inl (aI (nZ (fun _ => 0))))) hx hb (hts (.arrayClass .int) (List.mem_of_getElem? (i := 1) rfl)) hK hP hD hS hA 0 rfl (aI0 4) (by decide) (by decide) (by decide) (show 12 + 5 * Lm L + 1 ≤ 60 from by omega) (show 72 + 30 * Lm L + 4 ≤ 6 * 60 from by omega) dL_build_250 (fun oq H hP hD hS => ?_)
                      have hP : va_P D vwCl ([(oq, .inl (g 0, 4, .inl (aI (nZ (fun _ => 0)))))] ++ ([(ol, .inl (g 0, 40, .inl (aI (nZ lf)))), (ob, .inl (g 0, 6, .inl (aI (nZ (Lby L))))), (okk, .inl (g 0, 6, .inl (aI (nZ (Lkd L))))), (ou, .inl (g 0, 3, .inl (aI (nZ uf))))] ++ (wX a g L 0 0 hs tm tk lt))) H := wj_sp hP
                      have hD : va_D A ([(oq, .inl (g 0, 4, .inl (aI (nZ (fun _ => 0)))))] ++ ([(ol, .inl (g 0, 40, .inl (aI (nZ lf)))), (ob, .inl (g 0, 6, .inl (aI (nZ (Lby L))))), (okk, .inl (g 0, 6, .inl (aI (nZ (Lkd L))))), (ou, .inl (g 0, 3, .inl (aI (nZ uf))))] ++ (wX a g L 0 0 hs tm tk lt))) := wj_sd hD
                      have hP : va_P D vwCl ([(oq, .inl (g 0, 4, .inl (aI (nZ (fun _ => 0))))), (ol, .inl (g 0, 40, .inl (aI (nZ lf)))), (ob, .inl (g 0, 6, .inl (aI (nZ (Lby L))))), (okk, .inl (g 0, 6, .inl (aI (nZ (Lkd L))))), (ou, .inl (g 0, 3, .inl (aI (nZ uf))))] ++ (wX a g L 0 0 hs tm tk lt)) H := hP
                      have hD : va_D A ([(oq, .inl (g 0, 4, .inl (aI (nZ (fun _ => 0))))), (ol, .inl (g 0, 40, .inl (aI (nZ lf)))), (ob, .inl (g 0, 6, .inl (aI (nZ (Lby L))))), (okk, .inl (g 0, 6, .inl (aI (nZ (Lkd L))))), (ou, .inl (g 0, 3, .inl (aI (nZ uf))))] ++ (wX a g L 0 0 hs tm tk lt)) := hD
                      refine lv_dup hx hb dL_build_252 rfl ?_
                      refine z_ic hx hb dL_build_253 ?_
                      refine lv_iload hx hb dL_build_254 (lv_at hl 3 rfl) ?_
                      refine z_iastZ (f := (fun _ => 0)) (z := 0) (v := d_189) hx hb hK hP hD hS 0 0 rfl rfl (by omega) (by decide) dL_build_256 (fun H locs hP hD hS => ?_)
                      have hP : va_P D vwCl ([(oq, .inl (g 0, 4, .inl (aI (nZ (upN (fun _ => 0) 0 d_189))))), (ol, .inl (g 0, 40, .inl (aI (nZ lf)))), (ob, .inl (g 0, 6, .inl (aI (nZ (Lby L))))), (okk, .inl (g 0, 6, .inl (aI (nZ (Lkd L))))), (ou, .inl (g 0, 3, .inl (aI (nZ uf))))] ++ (wX a g L 0 0 hs tm tk lt)) H := hP
                      have hD : va_D A ([(oq, .inl (g 0, 4, .inl (aI (nZ (upN (fun _ => 0) 0 d_189))))), (ol, .inl (g 0, 40, .inl (aI (nZ lf)))), (ob, .inl (g 0, 6, .inl (aI (nZ (Lby L))))), (okk, .inl (g 0, 6, .inl (aI (nZ (Lkd L))))), (ou, .inl (g 0, 3, .inl (aI (nZ uf))))] ++ (wX a g L 0 0 hs tm tk lt)) := hD
                      refine lv_dup hx hb dL_build_257 rfl ?_
                      refine z_ic hx hb dL_build_258 ?_
                      refine lv_iload hx hb dL_build_259 (lv_at hl 2 rfl) ?_
                      refine z_iastZ (f := upN (fun _ => 0) 0 d_189) (z := 1) (v := d_200) hx hb hK hP hD hS 0 0 rfl rfl (by omega) (by decide) dL_build_261 (fun H locs hP hD hS => ?_)
                      have hP : va_P D vwCl ([(oq, .inl (g 0, 4, .inl (aI (nZ (upN (upN (fun _ => 0) 0 d_189) 1 d_200))))), (ol, .inl (g 0, 40, .inl (aI (nZ lf)))), (ob, .inl (g 0, 6, .inl (aI (nZ (Lby L))))), (okk, .inl (g 0, 6, .inl (aI (nZ (Lkd L))))), (ou, .inl (g 0, 3, .inl (aI (nZ uf))))] ++ (wX a g L 0 0 hs tm tk lt)) H := hP
                      have hD : va_D A ([(oq, .inl (g 0, 4, .inl (aI (nZ (upN (upN (fun _ => 0) 0 d_189) 1 d_200))))), (ol, .inl (g 0, 40, .inl (aI (nZ lf)))), (ob, .inl (g 0, 6, .inl (aI (nZ (Lby L))))), (okk, .inl (g 0, 6, .inl (aI (nZ (Lkd L))))), (ou, .inl (g 0, 3, .inl (aI (nZ uf))))] ++ (wX a g L 0 0 hs tm tk lt)) := hD
                      refine lv_dup hx hb dL_build_262 rfl ?_
                      refine z_ic hx hb dL_build_263 ?_
                      refine lv_iload hx hb dL_build_264 (lv_at hl 1 rfl) ?_
                      refine z_iastZ (f := upN (upN (fun _ => 0) 0 d_189) 1 d_200) (z := 2) (v := d_212) hx hb hK hP hD hS 0 0 rfl rfl (by omega) (by decide) dL_build_266 (fun H locs hP hD hS => ?_)
                      have hP : va_P D vwCl ([(oq, .inl (g 0, 4, .inl (aI (nZ (upN (upN (upN (fun _ => 0) 0 d_189) 1 d_200) 2 d_212))))), (ol, .inl (g 0, 40, .inl (aI (nZ lf)))), (ob, .inl (g 0, 6, .inl (aI (nZ (Lby L))))), (okk, .inl (g 0, 6, .inl (aI (nZ (Lkd L))))), (ou, .inl (g 0, 3, .inl (aI (nZ uf))))] ++ (wX a g L 0 0 hs tm tk lt)) H := hP
                      have hD : va_D A ([(oq, .inl (g 0, 4, .inl (aI (nZ (upN (upN (upN (fun _ => 0) 0 d_189) 1 d_200) 2 d_212))))), (ol, .inl (g 0, 40, .inl (aI (nZ lf)))), (ob, .inl (g 0, 6, .inl (aI (nZ (Lby L))))), (okk, .inl (g 0, 6, .inl (aI (nZ (Lkd L))))), (ou, .inl (g 0, 3, .inl (aI (nZ uf))))] ++ (wX a g L 0 0 hs tm tk lt)) := hD
                      refine lv_dup hx hb dL_build_267 rfl ?_
                      refine z_ic hx hb dL_build_268 ?_
                      refine lv_iload hx hb dL_build_269 (lv_at hl 0 rfl) ?_
                      refine z_iastZ (f := upN (upN (upN (fun _ => 0) 0 d_189) 1 d_200) 2 d_212) (z := 3) (v := d_230) hx hb hK hP hD hS 0 0 rfl rfl (by omega) (by decide) dL_build_271 (fun H locs hP hD hS => ?_)
                      have hP : va_P D vwCl ([(oq, .inl (g 0, 4, .inl (aI (nZ (upN (upN (upN (upN (fun _ => 0) 0 d_189) 1 d_200) 2 d_212) 3 d_230))))), (ol, .inl (g 0, 40, .inl (aI (nZ lf)))), (ob, .inl (g 0, 6, .inl (aI (nZ (Lby L))))), (okk, .inl (g 0, 6, .inl (aI (nZ (Lkd L))))), (ou, .inl (g 0, 3, .inl (aI (nZ uf))))] ++ (wX a g L 0 0 hs tm tk lt)) H := hP
                      have hD : va_D A ([(oq, .inl (g 0, 4, .inl (aI (nZ (upN (upN (upN (upN (fun _ => 0) 0 d_189) 1 d_200) 2 d_212) 3 d_230))))), (ol, .inl (g 0, 40, .inl (aI (nZ lf)))), (ob, .inl (g 0, 6, .inl (aI (nZ (Lby L))))), (okk, .inl (g 0, 6, .inl (aI (nZ (Lkd L))))), (ou, .inl (g 0, 3, .inl (aI (nZ uf))))] ++ (wX a g L 0 0 hs tm tk lt)) := hD
                      refine lv_astore (lv' := [(15, .ref (oq)), (14, .int (iI ((d_230 : Nat) : Int))), (13, .int (iI ((d_212 : Nat) : Int))), (12, .int (iI ((d_200 : Nat) : Int))), (11, .int (iI ((d_189 : Nat) : Int))), (10, .int (r_180)), (0, .ref (a 0)), (1, .ref (b)), (2, .int (iI ((0 : Nat) : Int))), (3, .ref (ou)), (4, .ref (okk)), (5, .ref (ob)), (6, .ref (ol)), (7, .int (iI ((n : Nat) : Int))), (8, .int (iI ((d_157 : Nat) : Int))), (9, .int (iI ((Lm L : Nat) : Int)))]) hx hb dL_build_272 hl (by decide) rfl (fun ls hl => ?_)
                      refine z_ic hx hb dL_build_274 ?_
                      refine lv_istore (lv' := [(16, .int (iI ((0 : Nat) : Int))), (15, .ref (oq)), (14, .int (iI ((d_230 : Nat) : Int))), (13, .int (iI ((d_212 : Nat) : Int))), (12, .int (iI ((d_200 : Nat) : Int))), (11, .int (iI ((d_189 : Nat) : Int))), (10, .int (r_180)), (0, .ref (a 0)), (1, .ref (b)), (2, .int (iI ((0 : Nat) : Int))), (3, .ref (ou)), (4, .ref (okk)), (5, .ref (ob)), (6, .ref (ol)), (7, .int (iI ((n : Nat) : Int))), (8, .int (iI ((d_157 : Nat) : Int))), (9, .int (iI ((Lm L : Nat) : Int)))]) hx hb dL_build_275 hl (by decide) rfl (fun ls hl => ?_)
                      refine lv_iload hx hb dL_build_277 (lv_at hl 0 rfl) ?_
                      refine z_ic hx hb dL_build_279 ?_
                      refine z_icge (a := 0) (b := 4) (tgt := 306) hx hb dL_build_280 (by decide) (by omega) (fun c_280 => ?_) (fun c_280 => ?_)
                      · exact absurd c_280 (by decide)
                      · refine lv_aload hx hb dL_build_283 (lv_at hl 13 rfl) ?_
                        refine z_ic hx hb dL_build_285 ?_
                        refine z_ic hx hb dL_build_286 ?_
                        refine lv_iload hx hb dL_build_287 (lv_at hl 16 rfl) ?_
                        refine z_mul (a := 4) (b := ((Lm L : Nat) : Int)) hx hb dL_build_289 ?_
                        refine z_eqI (y := iI ((4 * Lm L : Nat) : Int)) (congrArg iI (by omega)) ?_
                        refine z_add (a := 1) (b := ((4 * Lm L : Nat) : Int)) hx hb dL_build_290 ?_
                        refine z_eqI (y := iI ((1 + 4 * Lm L : Nat) : Int)) (congrArg iI (by omega)) ?_
                        refine lv_iload hx hb dL_build_291 (lv_at hl 0 rfl) ?_
                        refine z_add (a := ((1 + 4 * Lm L : Nat) : Int)) (b := 0) hx hb dL_build_293 ?_
                        refine z_eqI (y := iI ((1 + 4 * Lm L + 0 : Nat) : Int)) (congrArg iI (by omega)) ?_
                        refine lv_aload hx hb dL_build_294 (lv_at hl 1 rfl) ?_
                        refine lv_iload hx hb dL_build_296 (lv_at hl 0 rfl) ?_
                        refine z_ialdZ (f := upN (upN (upN (upN (fun _ => 0) 0 d_189) 1 d_200) 2 d_212) 3 d_230) (z := 0) hx hb hK hP 0 0 rfl rfl (by omega) (by decide) dL_build_298 ?_
                        refine z_eqI (y := (iI ((d_189 : Nat) : Int))) (congrArg iI rfl) ?_
                        refine z_iastZ (f := lf) (z := 1 + 4 * Lm L + 0) (v := d_189) hx hb hK hP hD hS 1 0 rfl rfl (by omega) (by decide) dL_build_299 (fun H locs hP hD hS => ?_)
                        have hP : va_P D vwCl ([(oq, .inl (g 0, 4, .inl (aI (nZ (upN (upN (upN (upN (fun _ => 0) 0 d_189) 1 d_200) 2 d_212) 3 d_230))))), (ol, .inl (g 0, 40, .inl (aI (nZ (upN lf (1 + 4 * Lm L + 0) d_189))))), (ob, .inl (g 0, 6, .inl (aI (nZ (Lby L))))), (okk, .inl (g 0, 6, .inl (aI (nZ (Lkd L))))), (ou, .inl (g 0, 3, .inl (aI (nZ uf))))] ++ (wX a g L 0 0 hs tm tk lt)) H := hP
                        have hD : va_D A ([(oq, .inl (g 0, 4, .inl (aI (nZ (upN (upN (upN (upN (fun _ => 0) 0 d_189) 1 d_200) 2 d_212) 3 d_230))))), (ol, .inl (g 0, 40, .inl (aI (nZ (upN lf (1 + 4 * Lm L + 0) d_189))))), (ob, .inl (g 0, 6, .inl (aI (nZ (Lby L))))), (okk, .inl (g 0, 6, .inl (aI (nZ (Lkd L))))), (ou, .inl (g 0, 3, .inl (aI (nZ uf))))] ++ (wX a g L 0 0 hs tm tk lt)) := hD
                        refine z_iinc (a := 0) (b := 1) (lv' := [(16, .int (iI ((1 : Nat) : Int))), (15, .ref (oq)), (14, .int (iI ((d_230 : Nat) : Int))), (13, .int (iI ((d_212 : Nat) : Int))), (12, .int (iI ((d_200 : Nat) : Int))), (11, .int (iI ((d_189 : Nat) : Int))), (10, .int (r_180)), (0, .ref (a 0)), (1, .ref (b)), (2, .int (iI ((0 : Nat) : Int))), (3, .ref (ou)), (4, .ref (okk)), (5, .ref (ob)), (6, .ref (ol)), (7, .int (iI ((n : Nat) : Int))), (8, .int (iI ((d_157 : Nat) : Int))), (9, .int (iI ((Lm L : Nat) : Int)))]) hx hb 0 dL_build_300 hl rfl rfl (by decide) rfl (fun ls hl => ?_)
                        refine lv_goto (tgt := 277) hx hb dL_build_303 (by decide) ?_
                        refine lv_iload hx hb dL_build_277 (lv_at hl 0 rfl) ?_
                        refine z_ic hx hb dL_build_279 ?_
                        refine z_icge (a := 1) (b := 4) (tgt := 306) hx hb dL_build_280 (by decide) (by omega) (fun c_280 => ?_) (fun c_280 => ?_)
                        · exact absurd c_280 (by decide)
                        · refine lv_aload hx hb dL_build_283 (lv_at hl 13 rfl) ?_
                          refine z_ic hx hb dL_build_285 ?_
                          refine z_ic hx hb dL_build_286 ?_
                          refine lv_iload hx hb dL_build_287 (lv_at hl 16 rfl) ?_
                          refine z_mul (a := 4) (b := ((Lm L : Nat) : Int)) hx hb dL_build_289 ?_
                          refine z_eqI (y := iI ((4 * Lm L : Nat) : Int)) (congrArg iI (by omega)) ?_
                          refine z_add (a := 1) (b := ((4 * Lm L : Nat) : Int)) hx hb dL_build_290 ?_
                          refine z_eqI (y := iI ((1 + 4 * Lm L : Nat) : Int)) (congrArg iI (by omega)) ?_
                          refine lv_iload hx hb dL_build_291 (lv_at hl 0 rfl) ?_
                          refine z_add (a := ((1 + 4 * Lm L : Nat) : Int)) (b := 1) hx hb dL_build_293 ?_
                          refine z_eqI (y := iI ((1 + 4 * Lm L + 1 : Nat) : Int)) (congrArg iI (by omega)) ?_
                          refine lv_aload hx hb dL_build_294 (lv_at hl 1 rfl) ?_
                          refine lv_iload hx hb dL_build_296 (lv_at hl 0 rfl) ?_
                          refine z_ialdZ (f := upN (upN (upN (upN (fun _ => 0) 0 d_189) 1 d_200) 2 d_212) 3 d_230) (z := 1) hx hb hK hP 0 0 rfl rfl (by omega) (by decide) dL_build_298 ?_
                          refine z_eqI (y := (iI ((d_200 : Nat) : Int))) (congrArg iI rfl) ?_
                          refine z_iastZ (f := upN lf (1 + 4 * Lm L + 0) d_189) (z := 1 + 4 * Lm L + 1) (v := d_200) hx hb hK hP hD hS 1 0 rfl rfl (by omega) (by decide) dL_build_299 (fun H locs hP hD hS => ?_)
                          have hP : va_P D vwCl ([(oq, .inl (g 0, 4, .inl (aI (nZ (upN (upN (upN (upN (fun _ => 0) 0 d_189) 1 d_200) 2 d_212) 3 d_230))))), (ol, .inl (g 0, 40, .inl (aI (nZ (upN (upN lf (1 + 4 * Lm L + 0) d_189) (1 + 4 * Lm L + 1) d_200))))), (ob, .inl (g 0, 6, .inl (aI (nZ (Lby L))))), (okk, .inl (g 0, 6, .inl (aI (nZ (Lkd L))))), (ou, .inl (g 0, 3, .inl (aI (nZ uf))))] ++ (wX a g L 0 0 hs tm tk lt)) H := hP
                          have hD : va_D A ([(oq, .inl (g 0, 4, .inl (aI (nZ (upN (upN (upN (upN (fun _ => 0) 0 d_189) 1 d_200) 2 d_212) 3 d_230))))), (ol, .inl (g 0, 40, .inl (aI (nZ (upN (upN lf (1 + 4 * Lm L + 0) d_189) (1 + 4 * Lm L + 1) d_200))))), (ob, .inl (g 0, 6, .inl (aI (nZ (Lby L))))), (okk, .inl (g 0, 6, .inl (aI (nZ (Lkd L))))), (ou, .inl (g 0, 3, .inl (aI (nZ uf))))] ++ (wX a g L 0 0 hs tm tk lt)) := hD
                          refine z_iinc (a := 1) (b := 2) (lv' := [(16, .int (iI ((2 : Nat) : Int))), (15, .ref (oq)), (14, .int (iI ((d_230 : Nat) : Int))), (13, .int (iI ((d_212 : Nat) : Int))), (12, .int (iI ((d_200 : Nat) : Int))), (11, .int (iI ((d_189 : Nat) : Int))), (10, .int (r_180)), (0, .ref (a 0)), (1, .ref (b)), (2, .int (iI ((0 : Nat) : Int))), (3, .ref (ou)), (4, .ref (okk)), (5, .ref (ob)), (6, .ref (ol)), (7, .int (iI ((n : Nat) : Int))), (8, .int (iI ((d_157 : Nat) : Int))), (9, .int (iI ((Lm L : Nat) : Int)))]) hx hb 0 dL_build_300 hl rfl rfl (by decide) rfl (fun ls hl => ?_)
                          refine lv_goto (tgt := 277) hx hb dL_build_303 (by decide) ?_
                          refine lv_iload hx hb dL_build_277 (lv_at hl 0 rfl) ?_
                          refine z_ic hx hb dL_build_279 ?_
                          refine z_icge (a := 2) (b := 4) (tgt := 306) hx hb dL_build_280 (by decide) (by omega) (fun c_280 => ?_) (fun c_280 => ?_)
                          · exact absurd c_280 (by decide)
                          · refine lv_aload hx hb dL_build_283 (lv_at hl 13 rfl) ?_
                            refine z_ic hx hb dL_build_285 ?_
                            refine z_ic hx hb dL_build_286 ?_
                            refine lv_iload hx hb dL_build_287 (lv_at hl 16 rfl) ?_
                            refine z_mul (a := 4) (b := ((Lm L : Nat) : Int)) hx hb dL_build_289 ?_
                            refine z_eqI (y := iI ((4 * Lm L : Nat) : Int)) (congrArg iI (by omega)) ?_
                            refine z_add (a := 1) (b := ((4 * Lm L : Nat) : Int)) hx hb dL_build_290 ?_
                            refine z_eqI (y := iI ((1 + 4 * Lm L : Nat) : Int)) (congrArg iI (by omega)) ?_
                            refine lv_iload hx hb dL_build_291 (lv_at hl 0 rfl) ?_
                            refine z_add (a := ((1 + 4 * Lm L : Nat) : Int)) (b := 2) hx hb dL_build_293 ?_
                            refine z_eqI (y := iI ((1 + 4 * Lm L + 2 : Nat) : Int)) (congrArg iI (by omega)) ?_
                            refine lv_aload hx hb dL_build_294 (lv_at hl 1 rfl) ?_
                            refine lv_iload hx hb dL_build_296 (lv_at hl 0 rfl) ?_
                            refine z_ialdZ (f := upN (upN (upN (upN (fun _ => 0) 0 d_189) 1 d_200) 2 d_212) 3 d_230) (z := 2) hx hb hK hP 0 0 rfl rfl (by omega) (by decide) dL_build_298 ?_
                            refine z_eqI (y := (iI ((d_212 : Nat) : Int))) (congrArg iI rfl) ?_
                            refine z_iastZ (f := upN (upN lf (1 + 4 * Lm L + 0) d_189) (1 + 4 * Lm L + 1) d_200) (z := 1 + 4 * Lm L + 2) (v := d_212) hx hb hK hP hD hS 1 0 rfl rfl (by omega) (by decide) dL_build_299 (fun H locs hP hD hS => ?_)
                            have hP : va_P D vwCl ([(oq, .inl (g 0, 4, .inl (aI (nZ (upN (upN (upN (upN (fun _ => 0) 0 d_189) 1 d_200) 2 d_212) 3 d_230))))), (ol, .inl (g 0, 40, .inl (aI (nZ (upN (upN (upN lf (1 + 4 * Lm L + 0) d_189) (1 + 4 * Lm L + 1) d_200) (1 + 4 * Lm L + 2) d_212))))), (ob, .inl (g 0, 6, .inl (aI (nZ (Lby L))))), (okk, .inl (g 0, 6, .inl (aI (nZ (Lkd L))))), (ou, .inl (g 0, 3, .inl (aI (nZ uf))))] ++ (wX a g L 0 0 hs tm tk lt)) H := hP
                            have hD : va_D A ([(oq, .inl (g 0, 4, .inl (aI (nZ (upN (upN (upN (upN (fun _ => 0) 0 d_189) 1 d_200) 2 d_212) 3 d_230))))), (ol, .inl (g 0, 40, .inl (aI (nZ (upN (upN (upN lf (1 + 4 * Lm L + 0) d_189) (1 + 4 * Lm L + 1) d_200) (1 + 4 * Lm L + 2) d_212))))), (ob, .inl (g 0, 6, .inl (aI (nZ (Lby L))))), (okk, .inl (g 0, 6, .inl (aI (nZ (Lkd L))))), (ou, .inl (g 0, 3, .inl (aI (nZ uf))))] ++ (wX a g L 0 0 hs tm tk lt)) := hD
                            refine z_iinc (a := 2) (b := 3) (lv' := [(16, .int (iI ((3 : Nat) : Int))), (15, .ref (oq)), (14, .int (iI ((d_230 : Nat) : Int))), (13, .int (iI ((d_212 : Nat) : Int))), (12, .int (iI ((d_200 : Nat) : Int))), (11, .int (iI ((d_189 : Nat) : Int))), (10, .int (r_180)), (0, .ref (a 0)), (1, .ref (b)), (2, .int (iI ((0 : Nat) : Int))), (3, .ref (ou)), (4, .ref (okk)), (5, .ref (ob)), (6, .ref (ol)), (7, .int (iI ((n : Nat) : Int))), (8, .int (iI ((d_157 : Nat) : Int))), (9, .int (iI ((Lm L : Nat) : Int)))]) hx hb 0 dL_build_300 hl rfl rfl (by decide) rfl (fun ls hl => ?_)
                            refine lv_goto (tgt := 277) hx hb dL_build_303 (by decide) ?_
                            refine lv_iload hx hb dL_build_277 (lv_at hl 0 rfl) ?_
                            refine z_ic hx hb dL_build_279 ?_
                            refine z_icge (a := 3) (b := 4) (tgt := 306) hx hb dL_build_280 (by decide) (by omega) (fun c_280 => ?_) (fun c_280 => ?_)
                            · exact absurd c_280 (by decide)
                            · refine lv_aload hx hb dL_build_283 (lv_at hl 13 rfl) ?_
                              refine z_ic hx hb dL_build_285 ?_
                              refine z_ic hx hb dL_build_286 ?_
                              refine lv_iload hx hb dL_build_287 (lv_at hl 16 rfl) ?_
                              refine z_mul (a := 4) (b := ((Lm L : Nat) : Int)) hx hb dL_build_289 ?_
                              refine z_eqI (y := iI ((4 * Lm L : Nat) : Int)) (congrArg iI (by omega)) ?_
                              refine z_add (a := 1) (b := ((4 * Lm L : Nat) : Int)) hx hb dL_build_290 ?_
                              refine z_eqI (y := iI ((1 + 4 * Lm L : Nat) : Int)) (congrArg iI (by omega)) ?_
                              refine lv_iload hx hb dL_build_291 (lv_at hl 0 rfl) ?_
                              refine z_add (a := ((1 + 4 * Lm L : Nat) : Int)) (b := 3) hx hb dL_build_293 ?_
                              refine z_eqI (y := iI ((1 + 4 * Lm L + 3 : Nat) : Int)) (congrArg iI (by omega)) ?_
                              refine lv_aload hx hb dL_build_294 (lv_at hl 1 rfl) ?_
                              refine lv_iload hx hb dL_build_296 (lv_at hl 0 rfl) ?_
                              refine z_ialdZ (f := upN (upN (upN (upN (fun _ => 0) 0 d_189) 1 d_200) 2 d_212) 3 d_230) (z := 3) hx hb hK hP 0 0 rfl rfl (by omega) (by decide) dL_build_298 ?_
                              refine z_eqI (y := (iI ((d_230 : Nat) : Int))) (congrArg iI rfl) ?_
                              refine z_iastZ (f := upN (upN (upN lf (1 + 4 * Lm L + 0) d_189) (1 + 4 * Lm L + 1) d_200) (1 + 4 * Lm L + 2) d_212) (z := 1 + 4 * Lm L + 3) (v := d_230) hx hb hK hP hD hS 1 0 rfl rfl (by omega) (by decide) dL_build_299 (fun H locs hP hD hS => ?_)
                              have hP : va_P D vwCl ([(oq, .inl (g 0, 4, .inl (aI (nZ (upN (upN (upN (upN (fun _ => 0) 0 d_189) 1 d_200) 2 d_212) 3 d_230))))), (ol, .inl (g 0, 40, .inl (aI (nZ (upN (upN (upN (upN lf (1 + 4 * Lm L + 0) d_189) (1 + 4 * Lm L + 1) d_200) (1 + 4 * Lm L + 2) d_212) (1 + 4 * Lm L + 3) d_230))))), (ob, .inl (g 0, 6, .inl (aI (nZ (Lby L))))), (okk, .inl (g 0, 6, .inl (aI (nZ (Lkd L))))), (ou, .inl (g 0, 3, .inl (aI (nZ uf))))] ++ (wX a g L 0 0 hs tm tk lt)) H := hP
                              have hD : va_D A ([(oq, .inl (g 0, 4, .inl (aI (nZ (upN (upN (upN (upN (fun _ => 0) 0 d_189) 1 d_200) 2 d_212) 3 d_230))))), (ol, .inl (g 0, 40, .inl (aI (nZ (upN (upN (upN (upN lf (1 + 4 * Lm L + 0) d_189) (1 + 4 * Lm L + 1) d_200) (1 + 4 * Lm L + 2) d_212) (1 + 4 * Lm L + 3) d_230))))), (ob, .inl (g 0, 6, .inl (aI (nZ (Lby L))))), (okk, .inl (g 0, 6, .inl (aI (nZ (Lkd L))))), (ou, .inl (g 0, 3, .inl (aI (nZ uf))))] ++ (wX a g L 0 0 hs tm tk lt)) := hD
                              refine z_iinc (a := 3) (b := 4) (lv' := [(16, .int (iI ((4 : Nat) : Int))), (15, .ref (oq)), (14, .int (iI ((d_230 : Nat) : Int))), (13, .int (iI ((d_212 : Nat) : Int))), (12, .int (iI ((d_200 : Nat) : Int))), (11, .int (iI ((d_189 : Nat) : Int))), (10, .int (r_180)), (0, .ref (a 0)), (1, .ref (b)), (2, .int (iI ((0 : Nat) : Int))), (3, .ref (ou)), (4, .ref (okk)), (5, .ref (ob)), (6, .ref (ol)), (7, .int (iI ((n : Nat) : Int))), (8, .int (iI ((d_157 : Nat) : Int))), (9, .int (iI ((Lm L : Nat) : Int)))]) hx hb 0 dL_build_300 hl rfl rfl (by decide) rfl (fun ls hl => ?_)
                              refine lv_goto (tgt := 277) hx hb dL_build_303 (by decide) ?_
                              refine lv_iload hx hb dL_build_277 (lv_at hl 0 rfl) ?_
                              refine z_ic hx hb dL_build_279 ?_
                              refine z_icge (a := 4) (b := 4) (tgt := 306) hx hb dL_build_280 (by decide) (by omega) (fun c_280 => ?_) (fun c_280 => ?_)
                              · refine lv_aload_n hx hb dL_build_306 rfl (lv_at hl 7 rfl) ?_
                                refine lv_iload hx hb dL_build_307 (lv_at hl 5 rfl) ?_
                                refine lv_iload hx hb dL_build_309 (lv_at hl 4 rfl) ?_
                                refine lv_iload hx hb dL_build_311 (lv_at hl 3 rfl) ?_
                                refine lv_iload hx hb dL_build_313 (lv_at hl 2 rfl) ?_
                                refine j_callQ (u := [(oq, .inl (g 0, 4, .inl (aI (nZ (upN (upN (upN (upN (fun _ => 0) 0 d_189) 1 d_200) 2 d_212) 3 d_230))))), (ol, .inl (g 0, 40, .inl (aI (nZ (upN (upN (upN (upN lf (1 + 4 * Lm L + 0) d_189) (1 + 4 * Lm L + 1) d_200) (1 + 4 * Lm L + 2) d_212) (1 + 4 * Lm L + 3) d_230))))), (ob, .inl (g 0, 6, .inl (aI (nZ (Lby L))))), (okk, .inl (g 0, 6, .inl (aI (nZ (Lkd L))))), (ou, .inl (g 0, 3, .inl (aI (nZ uf))))]) (v := (wX a g L 0 0 hs tm tk lt)) (k := 4) (fun E u9 h9 => by have hn9 := hK3.2.1; have hm9 := hK3.2.2.1; rcases h9.2 with h | h | h <;> omega) (vx_runV (As := [.int (iI ((d_189 : Nat) : Int)), .int (iI ((d_200 : Nat) : Int)), .int (iI ((d_212 : Nat) : Int)), .int (iI ((d_230 : Nat) : Int))]) (rest := []) ⟨hx, hb, hml, hown, hts⟩ (c_X2_addDependence l hl0 D g a L 0 0 hs tm tk lt ((d_189 : Nat) : Int) ((d_200 : Nat) : Int) ((d_212 : Nat) : Int) ((d_230 : Nat) : Int) hK3.1 (by omega) (by omega) (by omega) (by omega) _) (cwV 4 hts gL_build_X2_addDependence rfl rfl rfl (by decide +kernel) ⟨Nat.le_of_ble_eq_true rfl, Nat.le_of_ble_eq_true rfl⟩) (x_preV 0 hK (wj_r hP) (wj_dr hD) hS hA hE hV rfl rfl) rfl rfl hl.1 rfl (lv_room (Nat.le_of_ble_eq_true rfl)) dL_build_315 ⟨show 12 + 5 * Lm L + 1 + 4 ≤ 60 from by omega, show 72 + 30 * Lm L + 4 + 6 * 4 ≤ 6 * 60 from by omega⟩) hS hP hD hA (fun r w1 H locs hw1 hP hD hS => ?_)
                                obtain ⟨_, rfl, rfl⟩ := hw1
                                have hP : va_P D vwCl ([(oq, .inl (g 0, 4, .inl (aI (nZ (upN (upN (upN (upN (fun _ => 0) 0 d_189) 1 d_200) 2 d_212) 3 d_230))))), (ol, .inl (g 0, 40, .inl (aI (nZ (upN (upN (upN (upN lf (1 + 4 * Lm L + 0) d_189) (1 + 4 * Lm L + 1) d_200) (1 + 4 * Lm L + 2) d_212) (1 + 4 * Lm L + 3) d_230))))), (ob, .inl (g 0, 6, .inl (aI (nZ (Lby L))))), (okk, .inl (g 0, 6, .inl (aI (nZ (Lkd L))))), (ou, .inl (g 0, 3, .inl (aI (nZ uf))))] ++ (wX a g (Ln L, Lm L + 1, Lu L, Lkd L, Lby L, upN (Lsr L) (Lm L) d_189, upN (Lds L) (Lm L) d_200, upN (Ldl L) (Lm L) d_212, upN (Ldi L) (Lm L) d_230) 0 0 hs tm tk lt)) H := hP
                                have hD : va_D A ([(oq, .inl (g 0, 4, .inl (aI (nZ (upN (upN (upN (upN (fun _ => 0) 0 d_189) 1 d_200) 2 d_212) 3 d_230))))), (ol, .inl (g 0, 40, .inl (aI (nZ (upN (upN (upN (upN lf (1 + 4 * Lm L + 0) d_189) (1 + 4 * Lm L + 1) d_200) (1 + 4 * Lm L + 2) d_212) (1 + 4 * Lm L + 3) d_230))))), (ob, .inl (g 0, 6, .inl (aI (nZ (Lby L))))), (okk, .inl (g 0, 6, .inl (aI (nZ (Lkd L))))), (ou, .inl (g 0, 3, .inl (aI (nZ uf))))] ++ (wX a g (Ln L, Lm L + 1, Lu L, Lkd L, Lby L, upN (Lsr L) (Lm L) d_189, upN (Lds L) (Lm L) d_200, upN (Ldl L) (Lm L) d_212, upN (Ldi L) (Lm L) d_230) 0 0 hs tm tk lt)) := hD
                                refine lv_iload hx hb dL_build_318 (lv_at hl 16 rfl) ?_
                                refine z_iceq (a := ((Lm L : Nat) : Int)) (b := ((Lm L : Nat) : Int)) (tgt := 325) hx hb dL_build_320 (by decide) (by omega) (fun c_320 => ?_) (fun c_320 => ?_)
                                · refine z_iinc (a := ((Lm L : Nat) : Int)) (b := ((Lm L + 1 : Nat) : Int)) (lv' := [(9, .int (iI ((Lm L + 1 : Nat) : Int))), (16, .int (iI ((4 : Nat) : Int))), (15, .ref (oq)), (14, .int (iI ((d_230 : Nat) : Int))), (13, .int (iI ((d_212 : Nat) : Int))), (12, .int (iI ((d_200 : Nat) : Int))), (11, .int (iI ((d_189 : Nat) : Int))), (10, .int (r_180)), (0, .ref (a 0)), (1, .ref (b)), (2, .int (iI ((0 : Nat) : Int))), (3, .ref (ou)), (4, .ref (okk)), (5, .ref (ob)), (6, .ref (ol)), (7, .int (iI ((n : Nat) : Int))), (8, .int (iI ((d_157 : Nat) : Int)))]) hx hb 16 dL_build_325 hl rfl rfl (by decide) rfl (fun ls hl => ?_)
                                  refine lv_goto (tgt := 165) hx hb dL_build_328 (by decide) ?_
                                  have hP : va_P D vwCl ([(ol, .inl (g 0, 40, .inl (aI (nZ (upN (upN (upN (upN lf (1 + 4 * Lm L + 0) d_189) (1 + 4 * Lm L + 1) d_200) (1 + 4 * Lm L + 2) d_212) (1 + 4 * Lm L + 3) d_230))))), (ob, .inl (g 0, 6, .inl (aI (nZ (Lby L))))), (okk, .inl (g 0, 6, .inl (aI (nZ (Lkd L))))), (ou, .inl (g 0, 3, .inl (aI (nZ uf))))] ++ (wX a g (Ln L, Lm L + 1, Lu L, Lkd L, Lby L, upN (Lsr L) (Lm L) d_189, upN (Lds L) (Lm L) d_200, upN (Ldl L) (Lm L) d_212, upN (Ldi L) (Lm L) d_230) 0 0 hs tm tk lt)) H := wj_r (u := [(oq, .inl (g 0, 4, .inl (aI (nZ (upN (upN (upN (upN (fun _ => 0) 0 d_189) 1 d_200) 2 d_212) 3 d_230)))))]) hP
                                  have hD : va_D A ([(ol, .inl (g 0, 40, .inl (aI (nZ (upN (upN (upN (upN lf (1 + 4 * Lm L + 0) d_189) (1 + 4 * Lm L + 1) d_200) (1 + 4 * Lm L + 2) d_212) (1 + 4 * Lm L + 3) d_230))))), (ob, .inl (g 0, 6, .inl (aI (nZ (Lby L))))), (okk, .inl (g 0, 6, .inl (aI (nZ (Lkd L))))), (ou, .inl (g 0, 3, .inl (aI (nZ uf))))] ++ (wX a g (Ln L, Lm L + 1, Lu L, Lkd L, Lby L, upN (Lsr L) (Lm L) d_189, upN (Lds L) (Lm L) d_200, upN (Ldl L) (Lm L) d_212, upN (Ldi L) (Lm L) d_230) 0 0 hs tm tk lt)) := wj_dr (u := [(oq, .inl (g 0, 4, .inl (aI (nZ (upN (upN (upN (upN (fun _ => 0) 0 d_189) 1 d_200) 2 d_212) 3 d_230)))))]) hD
                                  refine W.widen (k := 12 + 5 * Lm (Ln L, Lm L + 1, Lu L, Lkd L, Lby L, upN (Lsr L) (Lm L) d_189, upN (Lds L) (Lm L) d_200, upN (Ldl L) (Lm L) d_212, upN (Ldi L) (Lm L) d_230)) (n := 72 + 30 * Lm (Ln L, Lm L + 1, Lu L, Lkd L, Lby L, upN (Lsr L) (Lm L) d_189, upN (Lds L) (Lm L) d_200, upN (Ldl L) (Lm L) d_212, upN (Ldi L) (Lm L) d_230)) (by have e9 : Lm (Ln L, Lm L + 1, Lu L, Lkd L, Lby L, upN (Lsr L) (Lm L) d_189, upN (Lds L) (Lm L) d_200, upN (Ldl L) (Lm L) d_212, upN (Ldi L) (Lm L) d_230) = Lm L + 1 := rfl; omega) (by have e9 : Lm (Ln L, Lm L + 1, Lu L, Lkd L, Lby L, upN (Lsr L) (Lm L) d_189, upN (Lds L) (Lm L) d_200, upN (Ldl L) (Lm L) d_212, upN (Ldi L) (Lm L) d_230) = Lm L + 1 := rfl; omega) ?_
                                  exact ih165 (Ln L, Lm L + 1, Lu L, Lkd L, Lby L, upN (Lsr L) (Lm L) d_189, upN (Lds L) (Lm L) d_200, upN (Ldl L) (Lm L) d_212, upN (Ldi L) (Lm L) d_230) (upN (upN (upN (upN lf (1 + 4 * Lm L + 0) d_189) (1 + 4 * Lm L + 1) d_200) (1 + 4 * Lm L + 2) d_212) (1 + 4 * Lm L + 3) d_230) _ _ _ (by show d_157 - (Lm L + 1) < n165; omega) (B3_s hK3 (by omega) (by omega) (by omega) (by omega) (by omega) (by omega) (by omega)) hP hD hS (lv_sub hl [8, 9, 10, 11, 12, 13, 14, 15, 16, 0] rfl)
                                · exact absurd rfl c_320
                              · exact absurd c_280 (by decide)
              refine W.widen (k := 12 + 5 * Lm L) (n := 72 + 30 * Lm L) (by have e9 := hO.2.2.1; omega) (by have e9 := hO.2.2.1; omega) ?_
              exact loop165 ((d_157 - Lm L) + 1) L (fun _ => 0) _ _ _ (Nat.lt_succ_self _) (B3_0 hO (by omega)) hP hD hS (by rw [show Lm L = 0 from hO.2.2.1]; exact lv_sub hl [2, 3, 4, 5, 6, 7, 8, 9, 1, 0] rfl)
            · refine lv_aload hx hb dL_build_78 (lv_at hl 4 rfl) ?_
              refine lv_iload hx hb dL_build_80 (lv_at hl 8 rfl) ?_
              refine lv_aload_n hx hb dL_build_82 rfl (lv_at hl 1 rfl) ?_
              refine lv_iload_n hx hb dL_build_83 rfl (lv_at hl 2 rfl) ?_
              refine z_ic hx hb dL_build_84 ?_
              refine z_add (a := 0) (b := 1) hx hb dL_build_85 ?_
              refine z_eqI (y := iI ((1 : Nat) : Int)) (congrArg iI (by omega)) ?_
              refine lv_iload hx hb dL_build_86 (lv_at hl 8 rfl) ?_
              refine z_add (a := 1) (b := ((Ln L : Nat) : Int)) hx hb dL_build_88 ?_
              refine z_eqI (y := iI ((1 + Ln L : Nat) : Int)) (congrArg iI (by omega)) ?_
              refine j_call0 (vx_runS (As := [.ref (b), .int (iI ((1 + Ln L : Nat) : Int))]) (rest := [.int (iI ((Ln L : Nat) : Int)), .ref (okk)]) ⟨hx, hb, hml, hown, hts⟩ (c_L_cell l D g b Lx xs hLx (1 + Ln L) (by omega) _) (va_cwS 2 hts gL_build_L_cell rfl rfl rfl (by decide +kernel) ⟨Nat.le_of_ble_eq_true rfl, Nat.le_of_ble_eq_true rfl⟩) (b_preS hK b_nilP b_nil hS hA hE hV hX hbl hbA) rfl rfl hl.1 rfl (lv_room (Nat.le_of_ble_eq_true rfl)) dL_build_89 ⟨show 6 + Ln L + 0 ≤ 60 from by omega, show 36 + 6 * Ln L + 6 * 0 ≤ 6 * 60 from by omega⟩) hS hP hD hA (fun _ _ h => h.2) (fun r_89 H locs hw1 hP hD hS => ?_)
              have q_89 := hw1.1
              refine z_ic hx hb dL_build_92 ?_
              refine z_calli (va_runS (As := [.int (r_89), .int (iI ((3 : Nat) : Int))]) (rest := [.int (iI ((Ln L : Nat) : Int)), .ref (okk)]) ⟨hx, hb, hml, hown, hts⟩ (c_L_below l D g ([(ol, .inl (g 0, 40, .inl (aI (nZ (fun _ => 0))))), (ob, .inl (g 0, 6, .inl (aI (nZ (Lby L))))), (okk, .inl (g 0, 6, .inl (aI (nZ (Lkd L))))), (ou, .inl (g 0, 3, .inl (aI (nZ uf))))] ++ (wX a g L 0 0 hs tm tk lt)) r_89 3 (by omega) _) (va_cwS 2 hts gL_build_L_below rfl rfl rfl (by decide +kernel) ⟨Nat.le_of_ble_eq_true rfl, Nat.le_of_ble_eq_true rfl⟩) (z_preS hK hP hD) rfl rfl hl.1 rfl (lv_room (Nat.le_of_ble_eq_true rfl)) dL_build_93 ⟨show 6 + Ln L + 0 ≤ 60 from by omega, show 36 + 6 * Ln L + 0 ≤ 6 * 60 from by omega⟩) hS hD hA (fun r w1 H locs hw1 hP hD hS => ?_)
              obtain ⟨rfl, rfl⟩ := hw1
              obtain ⟨d_93, e_93⟩ : ∃ d : Nat, d = bel r_89 3 := ⟨_, rfl⟩
              have b_93 : d_93 < 3 := by rw [e_93]; exact bel_lt _ (by omega)
              refine z_eqI (y := iI ((d_93 : Nat) : Int)) (by rw [e_93]) ?_
              refine z_iastZ (f := Lkd L) (z := Ln L) (v := d_93) hx hb hK hP hD hS 2 0 rfl rfl (by omega) (by decide) dL_build_96 (fun H locs hP hD hS => ?_)
              have hP : va_P D vwCl ([(ol, .inl (g 0, 40, .inl (aI (nZ (fun _ => 0))))), (ob, .inl (g 0, 6, .inl (aI (nZ (Lby L))))), (okk, .inl (g 0, 6, .inl (aI (nZ (upN (Lkd L) (Ln L) d_93))))), (ou, .inl (g 0, 3, .inl (aI (nZ uf))))] ++ (wX a g L 0 0 hs tm tk lt)) H := hP
              have hD : va_D A ([(ol, .inl (g 0, 40, .inl (aI (nZ (fun _ => 0))))), (ob, .inl (g 0, 6, .inl (aI (nZ (Lby L))))), (okk, .inl (g 0, 6, .inl (aI (nZ (upN (Lkd L) (Ln L) d_93))))), (ou, .inl (g 0, 3, .inl (aI (nZ uf))))] ++ (wX a g L 0 0 hs tm tk lt)) := hD
              refine lv_aload hx hb dL_build_97 (lv_at hl 5 rfl) ?_
              refine lv_iload hx hb dL_build_99 (lv_at hl 8 rfl) ?_
              refine z_ic hx hb dL_build_101 ?_
              refine lv_aload_n hx hb dL_build_102 rfl (lv_at hl 1 rfl) ?_
              refine lv_iload_n hx hb dL_build_103 rfl (lv_at hl 2 rfl) ?_
              refine z_ic hx hb dL_build_104 ?_
              refine z_add (a := 0) (b := 1) hx hb dL_build_105 ?_
              refine z_eqI (y := iI ((1 : Nat) : Int)) (congrArg iI (by omega)) ?_
              refine lv_iload hx hb dL_build_106 (lv_at hl 8 rfl) ?_
              refine z_add (a := 1) (b := ((Ln L : Nat) : Int)) hx hb dL_build_108 ?_
              refine z_eqI (y := iI ((1 + Ln L : Nat) : Int)) (congrArg iI (by omega)) ?_
              refine j_call0 (vx_runS (As := [.ref (b), .int (iI ((1 + Ln L : Nat) : Int))]) (rest := [.int (iI ((1 : Nat) : Int)), .int (iI ((Ln L : Nat) : Int)), .ref (ob)]) ⟨hx, hb, hml, hown, hts⟩ (c_L_cell l D g b Lx xs hLx (1 + Ln L) (by omega) _) (va_cwS 2 hts gL_build_L_cell rfl rfl rfl (by decide +kernel) ⟨Nat.le_of_ble_eq_true rfl, Nat.le_of_ble_eq_true rfl⟩) (b_preS hK b_nilP b_nil hS hA hE hV hX hbl hbA) rfl rfl hl.1 rfl (lv_room (Nat.le_of_ble_eq_true rfl)) dL_build_109 ⟨show 6 + Ln L + 0 ≤ 60 from by omega, show 36 + 6 * Ln L + 6 * 0 ≤ 6 * 60 from by omega⟩) hS hP hD hA (fun _ _ h => h.2) (fun r_109 H locs hw1 hP hD hS => ?_)
              have q_109 := hw1.1
              refine z_ic hx hb dL_build_112 ?_
              refine lv_ishr hx hb dL_build_113 ?_
              refine lv_topi (fun y_113 hy_113 => ?_)
              refine z_ic hx hb dL_build_114 ?_
              refine z_calli (va_runS (As := [.int (y_113), .int (iI ((3 : Nat) : Int))]) (rest := [.int (iI ((1 : Nat) : Int)), .int (iI ((Ln L : Nat) : Int)), .ref (ob)]) ⟨hx, hb, hml, hown, hts⟩ (c_L_below l D g ([(ol, .inl (g 0, 40, .inl (aI (nZ (fun _ => 0))))), (ob, .inl (g 0, 6, .inl (aI (nZ (Lby L))))), (okk, .inl (g 0, 6, .inl (aI (nZ (upN (Lkd L) (Ln L) d_93))))), (ou, .inl (g 0, 3, .inl (aI (nZ uf))))] ++ (wX a g L 0 0 hs tm tk lt)) y_113 3 (by omega) _) (va_cwS 2 hts gL_build_L_below rfl rfl rfl (by decide +kernel) ⟨Nat.le_of_ble_eq_true rfl, Nat.le_of_ble_eq_true rfl⟩) (z_preS hK hP hD) rfl rfl hl.1 rfl (lv_room (Nat.le_of_ble_eq_true rfl)) dL_build_115 ⟨show 6 + Ln L + 0 ≤ 60 from by omega, show 36 + 6 * Ln L + 0 ≤ 6 * 60 from by omega⟩) hS hD hA (fun r w1 H locs hw1 hP hD hS => ?_)
              obtain ⟨rfl, rfl⟩ := hw1
              obtain ⟨d_115, e_115⟩ : ∃ d : Nat, d = bel y_113 3 := ⟨_, rfl⟩
              have b_115 : d_115 < 3 := by rw [e_115]; exact bel_lt _ (by omega)
              refine z_eqI (y := iI ((d_115 : Nat) : Int)) (by rw [e_115]) ?_
              refine z_add (a := 1) (b := ((d_115 : Nat) : Int)) hx hb dL_build_118 ?_
              refine z_eqI (y := iI ((1 + d_115 : Nat) : Int)) (congrArg iI (by omega)) ?_
              refine z_iastZ (f := Lby L) (z := Ln L) (v := 1 + d_115) hx hb hK hP hD hS 1 0 rfl rfl (by omega) (by decide) dL_build_119 (fun H locs hP hD hS => ?_)
              have hP : va_P D vwCl ([(ol, .inl (g 0, 40, .inl (aI (nZ (fun _ => 0))))), (ob, .inl (g 0, 6, .inl (aI (nZ (upN (Lby L) (Ln L) (1 + d_115)))))), (okk, .inl (g 0, 6, .inl (aI (nZ (upN (Lkd L) (Ln L) d_93))))), (ou, .inl (g 0, 3, .inl (aI (nZ uf))))] ++ (wX a g L 0 0 hs tm tk lt)) H := hP
              have hD : va_D A ([(ol, .inl (g 0, 40, .inl (aI (nZ (fun _ => 0))))), (ob, .inl (g 0, 6, .inl (aI (nZ (upN (Lby L) (Ln L) (1 + d_115)))))), (okk, .inl (g 0, 6, .inl (aI (nZ (upN (Lkd L) (Ln L) d_93))))), (ou, .inl (g 0, 3, .inl (aI (nZ uf))))] ++ (wX a g L 0 0 hs tm tk lt)) := hD
              refine lv_aload_n hx hb dL_build_120 rfl (lv_at hl 0 rfl) ?_
              refine lv_aload hx hb dL_build_121 (lv_at hl 4 rfl) ?_
              refine lv_iload hx hb dL_build_123 (lv_at hl 8 rfl) ?_
              refine z_ialdZ (f := upN (Lkd L) (Ln L) d_93) (z := Ln L) hx hb hK hP 2 0 rfl rfl (by omega) (by decide) dL_build_125 ?_
              refine z_eqI (y := (iI ((d_93 : Nat) : Int))) (congrArg iI (by rw [upN_s])) ?_
              refine lv_aload hx hb dL_build_126 (lv_at hl 5 rfl) ?_
              refine lv_iload hx hb dL_build_128 (lv_at hl 8 rfl) ?_
              refine z_ialdZ (f := upN (Lby L) (Ln L) (1 + d_115)) (z := Ln L) hx hb hK hP 1 0 rfl rfl (by omega) (by decide) dL_build_130 ?_
              refine z_eqI (y := (iI ((1 + d_115 : Nat) : Int))) (congrArg iI (by rw [upN_s])) ?_
              refine j_callQ (u := [(ol, .inl (g 0, 40, .inl (aI (nZ (fun _ => 0))))), (ob, .inl (g 0, 6, .inl (aI (nZ (upN (Lby L) (Ln L) (1 + d_115)))))), (okk, .inl (g 0, 6, .inl (aI (nZ (upN (Lkd L) (Ln L) d_93))))), (ou, .inl (g 0, 3, .inl (aI (nZ uf))))]) (v := (wX a g L 0 0 hs tm tk lt)) (k := 1) (fun E u9 h9 => by rcases h9.2 with h | h <;> omega) (vx_runV (As := [.int (iI ((d_93 : Nat) : Int)), .int (iI ((1 + d_115 : Nat) : Int))]) (rest := []) ⟨hx, hb, hml, hown, hts⟩ (c_X2_addOperation l hl0 D g a L 0 0 hs tm tk lt ((d_93 : Nat) : Int) ((1 + d_115 : Nat) : Int) hO.1 (by omega) (by omega) _) (cwV 2 hts gL_build_X2_addOperation rfl rfl rfl (by decide +kernel) ⟨Nat.le_of_ble_eq_true rfl, Nat.le_of_ble_eq_true rfl⟩) (x_preV 0 hK (wj_r hP) (wj_dr hD) hS hA hE hV rfl rfl) rfl rfl hl.1 rfl (lv_room (Nat.le_of_ble_eq_true rfl)) dL_build_131 ⟨show 6 + Ln L + 1 ≤ 60 from by omega, show 36 + 6 * Ln L + 6 * 1 ≤ 6 * 60 from by omega⟩) hS hP hD hA (fun r w1 H locs hw1 hP hD hS => ?_)
              obtain ⟨_, rfl, rfl⟩ := hw1
              have hP : va_P D vwCl ([(ol, .inl (g 0, 40, .inl (aI (nZ (fun _ => 0))))), (ob, .inl (g 0, 6, .inl (aI (nZ (upN (Lby L) (Ln L) (1 + d_115)))))), (okk, .inl (g 0, 6, .inl (aI (nZ (upN (Lkd L) (Ln L) d_93))))), (ou, .inl (g 0, 3, .inl (aI (nZ uf))))] ++ (wX a g (Ln L + 1, Lm L, Lu L, upN (Lkd L) (Ln L) d_93, upN (Lby L) (Ln L) (1 + d_115), Lsr L, Lds L, Ldl L, Ldi L) 0 0 hs tm tk lt)) H := hP
              have hD : va_D A ([(ol, .inl (g 0, 40, .inl (aI (nZ (fun _ => 0))))), (ob, .inl (g 0, 6, .inl (aI (nZ (upN (Lby L) (Ln L) (1 + d_115)))))), (okk, .inl (g 0, 6, .inl (aI (nZ (upN (Lkd L) (Ln L) d_93))))), (ou, .inl (g 0, 3, .inl (aI (nZ uf))))] ++ (wX a g (Ln L + 1, Lm L, Lu L, upN (Lkd L) (Ln L) d_93, upN (Lby L) (Ln L) (1 + d_115), Lsr L, Lds L, Ldl L, Ldi L) 0 0 hs tm tk lt)) := hD
              refine lv_iload hx hb dL_build_134 (lv_at hl 8 rfl) ?_
              refine z_iceq (a := ((Ln L : Nat) : Int)) (b := ((Ln L : Nat) : Int)) (tgt := 141) hx hb dL_build_136 (by decide) (by omega) (fun c_136 => ?_) (fun c_136 => ?_)
              · refine z_iinc (a := ((Ln L : Nat) : Int)) (b := ((Ln L + 1 : Nat) : Int)) (lv' := [(8, .int (iI ((Ln L + 1 : Nat) : Int))), (0, .ref (a 0)), (1, .ref (b)), (2, .int (iI ((0 : Nat) : Int))), (3, .ref (ou)), (4, .ref (okk)), (5, .ref (ob)), (6, .ref (ol)), (7, .int (iI ((n : Nat) : Int)))]) hx hb 8 dL_build_141 hl rfl rfl (by decide) rfl (fun ls hl => ?_)
                refine lv_goto (tgt := 71) hx hb dL_build_144 (by decide) ?_
                refine W.widen (k := 6 + Ln (Ln L + 1, Lm L, Lu L, upN (Lkd L) (Ln L) d_93, upN (Lby L) (Ln L) (1 + d_115), Lsr L, Lds L, Ldl L, Ldi L)) (n := 36 + 6 * Ln (Ln L + 1, Lm L, Lu L, upN (Lkd L) (Ln L) d_93, upN (Lby L) (Ln L) (1 + d_115), Lsr L, Lds L, Ldl L, Ldi L)) (by have e9 : Ln (Ln L + 1, Lm L, Lu L, upN (Lkd L) (Ln L) d_93, upN (Lby L) (Ln L) (1 + d_115), Lsr L, Lds L, Ldl L, Ldi L) = Ln L + 1 := rfl; omega) (by have e9 : Ln (Ln L + 1, Lm L, Lu L, upN (Lkd L) (Ln L) d_93, upN (Lby L) (Ln L) (1 + d_115), Lsr L, Lds L, Ldl L, Ldi L) = Ln L + 1 := rfl; omega) ?_
                exact ih71 (Ln L + 1, Lm L, Lu L, upN (Lkd L) (Ln L) d_93, upN (Lby L) (Ln L) (1 + d_115), Lsr L, Lds L, Ldl L, Ldi L) _ _ _ (by show n - (Ln L + 1) < n71; omega) (B2_s hO (by omega) (by omega) (by omega) ⟨by omega, by omega⟩) hP hD hS (lv_sub hl [1, 2, 3, 4, 5, 6, 7, 8, 0] rfl)
              · exact absurd rfl c_136
        have hP : va_P D vwCl ([(ol, .inl (g 0, 40, .inl (aI (nZ (fun _ => 0))))), (ob, .inl (g 0, 6, .inl (aI (nZ (Lby L))))), (okk, .inl (g 0, 6, .inl (aI (nZ (Lkd L))))), (ou, .inl (g 0, 3, .inl (aI (nZ uf))))] ++ (wX a g L 0 0 hs tm tk lt)) H := by rw [show Lkd L = _ from hB.2.2.2.2.2.1, show Lby L = _ from hB.2.2.2.2.2.2]; exact hP
        have hD : va_D A ([(ol, .inl (g 0, 40, .inl (aI (nZ (fun _ => 0))))), (ob, .inl (g 0, 6, .inl (aI (nZ (Lby L))))), (okk, .inl (g 0, 6, .inl (aI (nZ (Lkd L))))), (ou, .inl (g 0, 3, .inl (aI (nZ uf))))] ++ (wX a g L 0 0 hs tm tk lt)) := by rw [show Lkd L = _ from hB.2.2.2.2.2.1, show Lby L = _ from hB.2.2.2.2.2.2]; exact hD
        have hLn0 := hB.2.1
        refine W.widen (k := 6 + Ln L) (n := 36 + 6 * Ln L) (by omega) (by omega) ?_
        exact loop71 ((n - Ln L) + 1) L _ _ _ (Nat.lt_succ_self _) (B2_0 hB) hP hD hS (by rw [show Ln L = 0 from hB.2.1]; exact lv_sub hl [2, 3, 4, 5, 6, 7, 8, 1, 0] rfl)
      · refine lv_aload_n hx hb dL_build_9 rfl (lv_at hl 3 rfl) ?_
        refine lv_iload hx hb dL_build_10 (lv_at hl 7 rfl) ?_
        refine z_ic hx hb dL_build_12 ?_
        refine lv_aload_n hx hb dL_build_13 rfl (lv_at hl 1 rfl) ?_
        refine lv_iload_n hx hb dL_build_14 rfl (lv_at hl 2 rfl) ?_
        refine j_call0 (vx_runS (As := [.ref (b), .int (iI ((0 : Nat) : Int))]) (rest := [.int (iI ((1 : Nat) : Int)), .int (iI ((q : Nat) : Int)), .ref (ou)]) ⟨hx, hb, hml, hown, hts⟩ (c_L_cell l D g b Lx xs hLx 0 (by omega) _) (va_cwS 2 hts gL_build_L_cell rfl rfl rfl (by decide +kernel) ⟨Nat.le_of_ble_eq_true rfl, Nat.le_of_ble_eq_true rfl⟩) (b_preS hK b_nilP b_nil hS hA hE hV hX hbl hbA) rfl rfl hl.1 rfl (lv_room (Nat.le_of_ble_eq_true rfl)) dL_build_15 ⟨show 2 * q + 0 ≤ 60 from by omega, show 12 * q + 6 * 0 ≤ 6 * 60 from by omega⟩) hS hP hD hA (fun _ _ h => h.2) (fun r_15 H locs hw1 hP hD hS => ?_)
        have q_15 := hw1.1
        refine z_ic hx hb dL_build_18 ?_
        refine lv_iload hx hb dL_build_19 (lv_at hl 7 rfl) ?_
        refine z_mul (a := 3) (b := ((q : Nat) : Int)) hx hb dL_build_21 ?_
        refine lv_ishr hx hb dL_build_22 ?_
        refine lv_topi (fun y_22 hy_22 => ?_)
        refine z_ic hx hb dL_build_23 ?_
        refine z_calli (va_runS (As := [.int (y_22), .int (iI ((3 : Nat) : Int))]) (rest := [.int (iI ((1 : Nat) : Int)), .int (iI ((q : Nat) : Int)), .ref (ou)]) ⟨hx, hb, hml, hown, hts⟩ (c_L_below l D g ([(ol, .inl (g 0, 40, .inl (aI (nZ (fun _ => 0))))), (ob, .inl (g 0, 6, .inl (aI (nZ (fun _ => 0))))), (okk, .inl (g 0, 6, .inl (aI (nZ (fun _ => 0))))), (ou, .inl (g 0, 3, .inl (aI (nZ uf))))] ++ (wX a g L 0 0 hs tm tk lt)) y_22 3 (by omega) _) (va_cwS 2 hts gL_build_L_below rfl rfl rfl (by decide +kernel) ⟨Nat.le_of_ble_eq_true rfl, Nat.le_of_ble_eq_true rfl⟩) (z_preS hK hP hD) rfl rfl hl.1 rfl (lv_room (Nat.le_of_ble_eq_true rfl)) dL_build_24 ⟨show 2 * q + 0 ≤ 60 from by omega, show 12 * q + 0 ≤ 6 * 60 from by omega⟩) hS hD hA (fun r w1 H locs hw1 hP hD hS => ?_)
        obtain ⟨rfl, rfl⟩ := hw1
        obtain ⟨d_24, e_24⟩ : ∃ d : Nat, d = bel y_22 3 := ⟨_, rfl⟩
        have b_24 : d_24 < 3 := by rw [e_24]; exact bel_lt _ (by omega)
        refine z_eqI (y := iI ((d_24 : Nat) : Int)) (by rw [e_24]) ?_
        refine z_add (a := 1) (b := ((d_24 : Nat) : Int)) hx hb dL_build_27 ?_
        refine z_eqI (y := iI ((1 + d_24 : Nat) : Int)) (congrArg iI (by omega)) ?_
        refine z_iastZ (f := uf) (z := q) (v := 1 + d_24) hx hb hK hP hD hS 3 0 rfl rfl (by omega) (by decide) dL_build_28 (fun H locs hP hD hS => ?_)
        have hP : va_P D vwCl ([(ol, .inl (g 0, 40, .inl (aI (nZ (fun _ => 0))))), (ob, .inl (g 0, 6, .inl (aI (nZ (fun _ => 0))))), (okk, .inl (g 0, 6, .inl (aI (nZ (fun _ => 0))))), (ou, .inl (g 0, 3, .inl (aI (nZ (upN uf q (1 + d_24))))))] ++ (wX a g L 0 0 hs tm tk lt)) H := hP
        have hD : va_D A ([(ol, .inl (g 0, 40, .inl (aI (nZ (fun _ => 0))))), (ob, .inl (g 0, 6, .inl (aI (nZ (fun _ => 0))))), (okk, .inl (g 0, 6, .inl (aI (nZ (fun _ => 0))))), (ou, .inl (g 0, 3, .inl (aI (nZ (upN uf q (1 + d_24))))))] ++ (wX a g L 0 0 hs tm tk lt)) := hD
        refine lv_aload_n hx hb dL_build_29 rfl (lv_at hl 0 rfl) ?_
        refine lv_iload hx hb dL_build_30 (lv_at hl 7 rfl) ?_
        refine lv_aload_n hx hb dL_build_32 rfl (lv_at hl 3 rfl) ?_
        refine lv_iload hx hb dL_build_33 (lv_at hl 7 rfl) ?_
        refine z_ialdZ (f := upN uf q (1 + d_24)) (z := q) hx hb hK hP 3 0 rfl rfl (by omega) (by decide) dL_build_35 ?_
        refine z_eqI (y := (iI ((1 + d_24 : Nat) : Int))) (congrArg iI (by rw [upN_s])) ?_
        refine j_callQ (u := [(ol, .inl (g 0, 40, .inl (aI (nZ (fun _ => 0))))), (ob, .inl (g 0, 6, .inl (aI (nZ (fun _ => 0))))), (okk, .inl (g 0, 6, .inl (aI (nZ (fun _ => 0))))), (ou, .inl (g 0, 3, .inl (aI (nZ (upN uf q (1 + d_24))))))]) (v := (wX a g L 0 0 hs tm tk lt)) (k := 2) (fun E u9 h9 => by rcases h9.2 with h | h <;> omega) (vx_runV (As := [.int (iI ((q : Nat) : Int)), .int (iI ((1 + d_24 : Nat) : Int))]) (rest := []) ⟨hx, hb, hml, hown, hts⟩ (c_X2_setUnits l hl0 D g a L 0 0 hs tm tk lt ((q : Nat) : Int) ((1 + d_24 : Nat) : Int) (by omega) (by omega) _) (cwV 2 hts gL_build_X2_setUnits rfl rfl rfl (by decide +kernel) ⟨Nat.le_of_ble_eq_true rfl, Nat.le_of_ble_eq_true rfl⟩) (x_preV 0 hK (wj_r hP) (wj_dr hD) hS hA hE hV rfl rfl) rfl rfl hl.1 rfl (lv_room (Nat.le_of_ble_eq_true rfl)) dL_build_36 ⟨show 2 * q + 2 ≤ 60 from by omega, show 12 * q + 6 * 2 ≤ 6 * 60 from by omega⟩) hS hP hD hA (fun r w1 H locs hw1 hP hD hS => ?_)
        obtain ⟨_, rfl, rfl⟩ := hw1
        have hP : va_P D vwCl ([(ol, .inl (g 0, 40, .inl (aI (nZ (fun _ => 0))))), (ob, .inl (g 0, 6, .inl (aI (nZ (fun _ => 0))))), (okk, .inl (g 0, 6, .inl (aI (nZ (fun _ => 0))))), (ou, .inl (g 0, 3, .inl (aI (nZ (upN uf q (1 + d_24))))))] ++ (wX a g (Ln L, Lm L, upN (Lu L) q (1 + d_24), Lkd L, Lby L, Lsr L, Lds L, Ldl L, Ldi L) 0 0 hs tm tk lt)) H := hP
        have hD : va_D A ([(ol, .inl (g 0, 40, .inl (aI (nZ (fun _ => 0))))), (ob, .inl (g 0, 6, .inl (aI (nZ (fun _ => 0))))), (okk, .inl (g 0, 6, .inl (aI (nZ (fun _ => 0))))), (ou, .inl (g 0, 3, .inl (aI (nZ (upN uf q (1 + d_24))))))] ++ (wX a g (Ln L, Lm L, upN (Lu L) q (1 + d_24), Lkd L, Lby L, Lsr L, Lds L, Ldl L, Ldi L) 0 0 hs tm tk lt)) := hD
        refine z_eqI (y := (iI ((1 : Nat) : Int))) (congrArg iI (by rw [show Lu L ((q : Nat) : Int).toNat = 1 from hB.2.2.2.2.1 q (Nat.le_refl q) (by omega)])) ?_
        refine z_ic hx hb dL_build_39 ?_
        refine z_iceq (a := 1) (b := 1) (tgt := 45) hx hb dL_build_40 (by decide) (by omega) (fun c_40 => ?_) (fun c_40 => ?_)
        · refine z_iinc (a := ((q : Nat) : Int)) (b := ((q + 1 : Nat) : Int)) (lv' := [(7, .int (iI ((q + 1 : Nat) : Int))), (0, .ref (a 0)), (1, .ref (b)), (2, .int (iI ((0 : Nat) : Int))), (3, .ref (ou)), (4, .ref (okk)), (5, .ref (ob)), (6, .ref (ol))]) hx hb 7 dL_build_45 hl rfl rfl (by decide) rfl (fun ls hl => ?_)
          refine lv_goto (tgt := 3) hx hb dL_build_48 (by decide) ?_
          refine W.widen (k := 2 * (q + 1)) (n := 12 * (q + 1)) (by omega) (by omega) ?_
          exact ih3 (q + 1) (upN uf q (1 + d_24)) (Ln L, Lm L, upN (Lu L) q (1 + d_24), Lkd L, Lby L, Lsr L, Lds L, Ldl L, Ldi L) _ _ _ (by omega) (by omega) (B1_s hB ⟨by omega, by omega⟩) hP hD hS (lv_sub hl [1, 2, 3, 4, 5, 6, 7, 0] rfl)
        · exact absurd c_40 (by decide)
  refine W.widen (k := 2 * 0) (n := 12 * 0) (by omega) (by omega) ?_
  exact loop3 ((3 - 0) + 1) 0 (fun _ => 0) L00 _ _ _ (Nat.lt_succ_self _) (by omega) B1_0 hP hD hS (lv_sub hl [1, 2, 3, 4, 5, 6, 7, 0] rfl)

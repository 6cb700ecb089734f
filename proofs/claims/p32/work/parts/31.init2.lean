def L00 : LD := (0, 0, uL0, fun _ => 0, fun _ => 0, fun _ => 0, fun _ => 0, fun _ => 0, fun _ => 0)
def gOf (c0 c1 : ClassId) : Nat → ClassId := fun k => match k with
  | 0 => c0
  | _ => c1
def a2 (h0 : Nat) (b : Nat → Nat) : Nat → Nat := fun k => match k with
  | 0 => h0
  | k + 1 => b k
def wXf (a : Nat → Nat) (g : Nat → ClassId) (L : LD) (att T : Nat) (hs tm : Nat → Int) (tk : Nat → Nat → Int) (lt : Nat → Int) (fo : Nat → Option Nat) : va_W :=
  [(a 0, .inr (2, [.ref (a 1), .ref (a 2), .int (iI (att : Int))])),
   (a 1, .inr (0, [.ref (a 3), .ref (a 4), .ref (a 5), .ref (a 6), .ref (a 7), .ref (a 8), .ref (a 9), .ref (a 10), .int (iI (Ln L : Int)), .int (iI (Lm L : Int))])),
   (a 2, .inr (1, [.ref (a 1), .ref (a 11), .ref (a 12), .ref (a 16), .int (iI (T : Int))])),
   (a 3, .inl (g 0, 3, .inl (aI (nZ (Lu L))))), (a 4, .inl (g 0, 14, .inl (aI (nZ (Lkd L))))), (a 5, .inl (g 0, 14, .inl (aI (nZ (Lby L))))),
   (a 6, .inl (g 0, 40, .inl (aI (nZ (Lsr L))))), (a 7, .inl (g 0, 40, .inl (aI (nZ (Lds L))))), (a 8, .inl (g 0, 40, .inl (aI (nZ (Ldl L))))), (a 9, .inl (g 0, 40, .inl (aI (nZ (Ldi L))))),
   (a 10, .inl (g 0, 14, .inl (aI hs))), (a 11, .inl (g 0, 14, .inl (aI tm))), (a 12, .inl (g 1, 3, .inr (.inr (.inr (.inr fo))))),
   (a 13, .inl (g 0, 200, .inl (aI (tk 0)))), (a 14, .inl (g 0, 200, .inl (aI (tk 1)))), (a 15, .inl (g 0, 200, .inl (aI (tk 2)))), (a 16, .inl (g 0, 14, .inl (aI lt)))]
theorem wf_L00 : wf L00 := by
  refine ⟨by decide, by decide, fun k hk => ?_, fun _ => (show 0 < 3 by decide), fun _ => (show 0 ≤ 4 by decide), fun i hi => absurd hi (Nat.not_lt_zero i), fun i hi => absurd hi (Nat.not_lt_zero i), fun _ => ⟨(show 0 < 14 by decide), (show 0 < 14 by decide)⟩, fun _ => (show 0 ≤ 12 by decide), fun _ => (show 0 ≤ 3 by decide)⟩
  have : ∀ k, k < 3 → 1 ≤ uL0 k ∧ uL0 k ≤ 3 := by decide
  exact this k hk
set_option maxHeartbeats 4000000 in
set_option maxRecDepth 100000 in
theorem c_X2_init (l : Launch) (D : va_G) (h0 : Nat) (sz : Nat) : Met l yX2_init wsX2_init ({ frames := 2, cells := 16, slots := 851, locals := 33 }) (va_Pc [.ref h0] (fun U => U.heap.size = sz ∧ va_P D vwCl [(h0, .inr (2, [.null, .null, .int (iI 0)]))] U.heap ∧ va_K D vwCl [] U ∧ va_D (fun _ => True) [(h0, .inr (2, [.null, .null, .int (iI 0)]))] ∧ va_AOA .int U)) (va_Qv (fun _ : ClassId × ClassId × (Nat → Nat) => True) (fun u t => va_P D vwCl (wX (a2 h0 u.2.2) (gOf u.1 u.2.1) L00 0 0 (nZ (fun _ => 0)) (nZ (fun _ => 0)) (fun _ => nZ (fun _ => 0)) (nZ (fun _ => 0))) t.heap ∧ va_K D vwCl [(u.1, .int), (u.2.1, .array .int)] t ∧ va_D (va_A [(h0, .inr (2, [.null, .null, .int (iI 0)]))] sz) (wX (a2 h0 u.2.2) (gOf u.1 u.2.1) L00 0 0 (nZ (fun _ => 0)) (nZ (fun _ => 0)) (fun _ => nZ (fun _ => 0)) (nZ (fun _ => 0)))) (va_A [(h0, .inr (2, [.null, .null, .int (iI 0)]))] sz)) 16 851 (va_A [(h0, .inr (2, [.null, .null, .int (iI 0)]))] sz) := by
  refine Met.ofW (cc := cX2_init) (maxL := 1) (ret := none) (by decide) rfl ?_
  intro p e s m args below meth c s₁ B hml hv
  obtain ⟨rfl, hsz, hP, hK, hD0, hAO⟩ := hv
  have hx := B.exec
  have hb := B.bytes
  have hr := B.returns
  have hts := atoms_spec (ws := wsX2_init) B.pre
  have hown : s.vm.findClass RX2 = some m.cls := findClass_of_methodNamed B.named
  have hlocks := B.notSynchronized
  have hin : meth.name = "<init>" := (name_of_methodNamed B.named B.method).1
  have hinX2 : ∀ w ∈ u_ws RX2 TX2 3, w ∈ wsX2_init := by decide +kernel
  subst hsz
  have hD := hD0.self (sz := s.heap.size)
  generalize hAe : va_A [(h0, .inr (2, [.null, .null, .int (iI 0)]))] s.heap.size = A at hD ⊢
  have hA : ∀ q : Nat, s.heap.size ≤ q → A q := fun q h => by rw [← hAe]; exact Or.inr h
  have hS : va_S A s.heap s.heap [] := va_S.rf
  have hP : va_P D vwCl [(h0, .inr (2, [.null, .null, .int (iI 0)]))] s.heap := hP
  have hl := lv_entry ([.ref h0]) (n := 1) (Nat.le_of_ble_eq_true rfl)
  rw [lg_entry_eq]
  generalize (lg_sl ([.ref h0]) ++ List.replicate (1 - (lg_sl ([.ref h0])).length) Slot.unset).toArray = ls at hl ⊢
  have hl : lv_has ls 1 [(0, .ref h0)] := hl
  refine lv_aload_n hx hb dX2_init_0 rfl (lv_at hl 0 rfl) ?_
  refine W.objInit hx hb hown (hts (.methodLink RX2 1 objectInit) (by decide +kernel)) (hts (.instanceMethod objectInit) (by decide +kernel)) (hts (.code objectInit ⟨#[0xb1]⟩ 1 none) (by decide +kernel)) rfl (by rw [hml]; exact hl.1) rfl dX2_init_1 (Nat.le_of_ble_eq_true rfl) (Nat.le_of_ble_eq_true rfl) ?_
  refine W.eq (g2 := F0 m 4 ls []) rfl ?_
  refine lv_aload_n hx hb dX2_init_4 rfl (lv_at hl 0 rfl) ?_
  refine va_new (ci := 0) (fs := [.null, .null, .null, .null, .null, .null, .null, .null, .int (iI 0), .int (iI 0)]) (C := RX0) (T := TX0) (N := 10) hx hb hts (by decide +kernel) tyX0 tyX0_ok hown (hts (.classLink RX2 7 RX0) (by decide +kernel)) (hts (.instantiable RX0 10) (by decide +kernel)) (hts (.initialized RX0) (by decide +kernel)) hK hP hD hS hA rfl (fun j hj => by rcases (show j = 0 ∨ j = 1 ∨ j = 2 ∨ j = 3 ∨ j = 4 ∨ j = 5 ∨ j = 6 ∨ j = 7 ∨ j = 8 ∨ j = 9 by omega) with rfl | rfl | rfl | rfl | rfl | rfl | rfl | rfl | rfl | rfl <;> rfl) (Nat.le_of_ble_eq_true rfl) (Nat.le_of_ble_eq_true rfl) dX2_init_5 (fun q1 H hP hD hS => ?_)
  refine W.widen (k := 1) (n := 10) (Nat.le_of_ble_eq_true rfl) (Nat.le_of_ble_eq_true rfl) ?_
  have hP : va_P D vwCl ([(h0, .inr (2, [.null, .null, .int (iI 0)]))] ++ [(q1, .inr (0, [.null, .null, .null, .null, .null, .null, .null, .null, .int (iI 0), .int (iI 0)]))]) H := hP
  have hD : va_D A ([(h0, .inr (2, [.null, .null, .int (iI 0)]))] ++ [(q1, .inr (0, [.null, .null, .null, .null, .null, .null, .null, .null, .int (iI 0), .int (iI 0)]))]) := hD
  have hP : va_P D vwCl ([(q1, .inr (0, [.null, .null, .null, .null, .null, .null, .null, .null, .int (iI 0), .int (iI 0)]))] ++ [(h0, .inr (2, [.null, .null, .int (iI 0)]))]) H := wj_sp hP
  have hD : va_D A ([(q1, .inr (0, [.null, .null, .null, .null, .null, .null, .null, .null, .int (iI 0), .int (iI 0)]))] ++ [(h0, .inr (2, [.null, .null, .int (iI 0)]))]) := wj_sd hD
  refine lv_dup hx hb dX2_init_8 rfl ?_
  refine va_callv (va_runI (As := []) (rest := [.ref q1, .ref h0]) ⟨hx, hb, hml, hown, hts⟩ (c_X0_init l D q1 H.size) (cwI 0 hts gX2_init_X0_init rfl rfl rfl (hts (.initialized RX0) (by decide +kernel)) (hts (.methodLink RX2 9 yX0_init) (by decide +kernel)) (hts (.instanceMethod yX0_init) (by decide +kernel)) rfl (by decide +kernel) ⟨Nat.le_of_ble_eq_true rfl, Nat.le_of_ble_eq_true rfl⟩) (z_preS hK (wj_l hP) (wj_dl hD)) rfl rfl hl.1 rfl (lv_room (Nat.le_of_ble_eq_true rfl)) dX2_init_9 ⟨Nat.le_of_ble_eq_true rfl, Nat.le_of_ble_eq_true rfl⟩) hS (fun q _ h => z_free (wj_dl hD) hS hA q h) (fun q h => z_free (wj_dl hD) hS hA q h) (fun u t H1 locs ht hvm _ hB hz1 hk1 hS1 => ?_)
  obtain ⟨hP1, hK1, hD1⟩ := hB
  rw [ht] at hP1
  have hK1 := va_K.moved hvm.symm hK1
  obtain ⟨hP, hD⟩ := wj_join hP hD hk1 (fun q h => z_free (wj_dl hD) hS hA q h) hP1 hD1
  have hS := hS1
  obtain ⟨c0, b⟩ := u
  have hP : va_P D vwCl (wI0 q1 c0 b ++ [(h0, .inr (2, [.null, .null, .int (iI 0)]))]) H1 := hP
  have hD : va_D A (wI0 q1 c0 b ++ [(h0, .inr (2, [.null, .null, .int (iI 0)]))]) := hD
  have hK : va_K D vwCl [(c0, .int)] s := hK1
  refine W.widen (k := 9) (n := 215) (Nat.le_of_ble_eq_true rfl) (Nat.le_of_ble_eq_true rfl) ?_
  refine va_putF (D := D) (ci := 2) (v := .ref q1) (ty := .object "LoopScheduler$Loop") (C := RX2) (T := TX2) (N := 3) hx hb hts hinX2 tyX2 tyX2_ok nmX2 hown hK hP hD hS 9 rfl rfl 0 (by decide) (hts (.fieldLink RX2 10 "LoopScheduler" "loop" "LLoopScheduler$Loop;") (by decide +kernel)) (fun _ h9 => h9) rfl hin rfl (by decide +kernel) rfl rfl (Nat.le_of_ble_eq_true rfl) dX2_init_12 (fun H locs hP hD hS => ?_)
  have hP : va_P D vwCl (wI0 q1 c0 b ++ [(h0, .inr (2, [.ref q1, .null, .int (iI 0)]))]) H := hP
  have hD : va_D A (wI0 q1 c0 b ++ [(h0, .inr (2, [.ref q1, .null, .int (iI 0)]))]) := hD
  refine lv_aload_n hx hb dX2_init_15 rfl (lv_at hl 0 rfl) ?_
  refine va_new (ci := 1) (fs := [.null, .null, .null, .null, .int (iI 0)]) (C := RX1) (T := TX1) (N := 5) hx hb hts (by decide +kernel) tyX1 tyX1_ok hown (hts (.classLink RX2 16 RX1) (by decide +kernel)) (hts (.instantiable RX1 5) (by decide +kernel)) (hts (.initialized RX1) (by decide +kernel)) hK hP hD hS hA rfl (fun j hj => by rcases (show j = 0 ∨ j = 1 ∨ j = 2 ∨ j = 3 ∨ j = 4 by omega) with rfl | rfl | rfl | rfl | rfl <;> rfl) (Nat.le_of_ble_eq_true rfl) (Nat.le_of_ble_eq_true rfl) dX2_init_16 (fun q2 H hP hD hS => ?_)
  refine W.widen (k := 10) (n := 220) (Nat.le_of_ble_eq_true rfl) (Nat.le_of_ble_eq_true rfl) ?_
  have hP : va_P D vwCl ([(q2, .inr (1, [.null, .null, .null, .null, .int (iI 0)]))] ++ (wI0 q1 c0 b ++ [(h0, .inr (2, [.ref q1, .null, .int (iI 0)]))])) H := wj_sp hP
  have hD : va_D A ([(q2, .inr (1, [.null, .null, .null, .null, .int (iI 0)]))] ++ (wI0 q1 c0 b ++ [(h0, .inr (2, [.ref q1, .null, .int (iI 0)]))])) := wj_sd hD
  refine lv_dup hx hb dX2_init_19 rfl ?_
  refine lv_aload_n hx hb dX2_init_20 rfl (lv_at hl 0 rfl) ?_
  refine va_get (ci := 2) (C := RX2) (T := TX2) (N := 3) hx hb hts hinX2 hown hK hP 10 rfl rfl 0 (by decide) (hts (.fieldLink RX2 10 "LoopScheduler" "loop" "LLoopScheduler$Loop;") (by decide +kernel)) (fun _ h9 => h9) rfl dX2_init_21 ?_
  refine va_callv (va_runI (As := [.ref q1]) (rest := [.ref q2, .ref h0]) ⟨hx, hb, hml, hown, hts⟩ (c_X1_init l D q2 q1 H.size) (cwI 1 hts gX2_init_X1_init rfl rfl rfl (hts (.initialized RX1) (by decide +kernel)) (hts (.methodLink RX2 18 yX1_init) (by decide +kernel)) (hts (.instanceMethod yX1_init) (by decide +kernel)) rfl (by decide +kernel) ⟨Nat.le_of_ble_eq_true rfl, Nat.le_of_ble_eq_true rfl⟩) ⟨fun a U g mk q => by obtain ⟨q0, q1, qP, qK, qD, qA⟩ := q; exact ⟨q0, q1, qP, va_K.moved (u := U) (U := U.calling g mk a) (Vm.Alike.refl U.vm) qK, qD, va_AOA.moved (u := U) (U := U.calling g mk a) (Vm.Alike.refl U.vm) qA⟩, fun U hU hW => ⟨rfl, by rw [hU], by rw [hU]; exact wj_l hP, va_K.moved hW.alike (hK.sub (tys' := []) [] rfl), (wj_dl hD).weaken (fun _ _ _ _ => trivial), va_AOA.moved hW.alike hAO⟩⟩ rfl rfl hl.1 rfl (lv_room (Nat.le_of_ble_eq_true rfl)) dX2_init_24 ⟨Nat.le_of_ble_eq_true rfl, Nat.le_of_ble_eq_true rfl⟩) hS (fun q _ h => z_free (wj_dl hD) hS hA q h) (fun q h => z_free (wj_dl hD) hS hA q h) (fun u t H1 locs ht hvm _ hB hz1 hk1 hS1 => ?_)
  obtain ⟨hP1, hK1, hD1⟩ := hB
  rw [ht] at hP1
  have hK1 := va_K.moved hvm.symm hK1
  obtain ⟨hP, hD⟩ := wj_join hP hD hk1 (fun q h => z_free (wj_dl hD) hS hA q h) hP1 hD1
  have hS := hS1
  obtain ⟨c0x, c1, b2⟩ := u
  have hK9 : va_K D vwCl [(c0x, .int), (c1, .array .int)] s := hK1
  clear hK1
  obtain rfl : c0x = c0 := k_uq (i := 0) (j := 0) hK9 rfl hK rfl
  have hP : va_P D vwCl (wI1 q2 q1 c0x c1 b2 ++ (wI0 q1 c0x b ++ [(h0, .inr (2, [.ref q1, .null, .int (iI 0)]))])) H1 := hP
  have hD : va_D A (wI1 q2 q1 c0x c1 b2 ++ (wI0 q1 c0x b ++ [(h0, .inr (2, [.ref q1, .null, .int (iI 0)]))])) := hD
  have hK : va_K D vwCl [(c0x, .int), (c1, .array .int)] s := hK9
  refine W.widen (k := 16) (n := 851) (Nat.le_of_ble_eq_true rfl) (Nat.le_of_ble_eq_true rfl) ?_
  refine va_putF (D := D) (ci := 2) (v := .ref q2) (ty := .object "LoopScheduler$Timetable") (C := RX2) (T := TX2) (N := 3) hx hb hts hinX2 tyX2 tyX2_ok nmX2 hown hK hP hD hS 16 rfl rfl 1 (by decide) (hts (.fieldLink RX2 21 "LoopScheduler" "table" "LLoopScheduler$Timetable;") (by decide +kernel)) (fun _ h9 => h9) rfl hin rfl (by decide +kernel) rfl rfl (Nat.le_of_ble_eq_true rfl) dX2_init_27 (fun H locs hP hD hS => ?_)
  have hP : va_P D vwCl (wI1 q2 q1 c0x c1 b2 ++ (wI0 q1 c0x b ++ [(h0, .inr (2, [.ref q1, .ref q2, .int (iI 0)]))])) H := hP
  have hD : va_D A (wI1 q2 q1 c0x c1 b2 ++ (wI0 q1 c0x b ++ [(h0, .inr (2, [.ref q1, .ref q2, .int (iI 0)]))])) := hD
  have hP := hP.sub (ws' := wXf (a2 h0 (bOf [q1, q2, b 0, b 1, b 2, b 3, b 4, b 5, b 6, b 7, b2 0, b2 1, b2 3, b2 4, b2 5, b2 2])) (gOf c0x c1) L00 0 0 (nZ (fun _ => 0)) (nZ (fun _ => 0)) (fun _ => nZ (fun _ => 0)) (nZ (fun _ => 0)) (fun j => if j < 3 then some (b2 (3 + j)) else none)) [16, 7, 0, 8, 9, 10, 11, 12, 13, 14, 15, 1, 2, 3, 4, 5, 6] rfl
  have hD := hD.sub (ws' := wXf (a2 h0 (bOf [q1, q2, b 0, b 1, b 2, b 3, b 4, b 5, b 6, b 7, b2 0, b2 1, b2 3, b2 4, b2 5, b2 2])) (gOf c0x c1) L00 0 0 (nZ (fun _ => 0)) (nZ (fun _ => 0)) (fun _ => nZ (fun _ => 0)) (nZ (fun _ => 0)) (fun j => if j < 3 then some (b2 (3 + j)) else none)) [16, 7, 0, 8, 9, 10, 11, 12, 13, 14, 15, 1, 2, 3, 4, 5, 6] (by decide) rfl
  have hrf : (fun j => if j < 3 then some (b2 (3 + j)) else none) = (fun j => if j < 3 then some (a2 h0 (bOf [q1, q2, b 0, b 1, b 2, b 3, b 4, b 5, b 6, b 7, b2 0, b2 1, b2 3, b2 4, b2 5, b2 2]) (13 + j)) else none) := funext fun j => by match j with | 0 => rfl | 1 => rfl | 2 => rfl | j + 3 => rw [if_neg (by omega), if_neg (by omega)]
  rw [hrf] at hP hD
  have hP : va_P D vwCl (wX (a2 h0 (bOf [q1, q2, b 0, b 1, b 2, b 3, b 4, b 5, b 6, b 7, b2 0, b2 1, b2 3, b2 4, b2 5, b2 2])) (gOf c0x c1) L00 0 0 (nZ (fun _ => 0)) (nZ (fun _ => 0)) (fun _ => nZ (fun _ => 0)) (nZ (fun _ => 0))) H := hP
  have hD : va_D A (wX (a2 h0 (bOf [q1, q2, b 0, b 1, b 2, b 3, b 4, b 5, b 6, b 7, b2 0, b2 1, b2 3, b2 4, b2 5, b2 2])) (gOf c0x c1) L00 0 0 (nZ (fun _ => 0)) (nZ (fun _ => 0)) (fun _ => nZ (fun _ => 0)) (nZ (fun _ => 0))) := hD
  exact W.vret hx hb hr (fun t ht hW => ⟨⟨(c0x, c1, bOf [q1, q2, b 0, b 1, b 2, b 3, b 4, b 5, b 6, b 7, b2 0, b2 1, b2 3, b2 4, b2 5, b2 2]), rfl, trivial, by rw [ht]; exact hP, va_K.moved hW.alike hK, hD⟩, hS.F ht⟩) hS.2.2 dX2_init_30

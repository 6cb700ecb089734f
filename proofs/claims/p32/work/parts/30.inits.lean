theorem va_AOA.moved {t : FieldType} {u U : State} (hvm : u.vm.Alike U.vm) (h : va_AOA t u) : va_AOA t U := by
  have h1 : (Cond.arrayOver (.array t)).before #[] (u.setVm U.vm) = true := by
    rw [Cond.arrayOver_setVmC hvm]
    exact h
  unfold va_AOA
  simp only [Cond.before, Cond.holds, Cond.value] at h1 ⊢
  exact h1
theorem aI0 (n : Nat) (cA : ClassId) : vp_cell cA (n, .inl (aI (nZ (fun _ => 0)))) = arrV cA n (fun _ => defaultValue .int) := rfl
theorem aB0 (n : Nat) (cA : ClassId) : vp_cell cA (n, .inl (aI (bZ (fun _ => false)))) = arrV cA n (fun _ => defaultValue .boolean) := rfl
theorem aL0 (n : Nat) (cA : ClassId) : vp_cell cA (n, .inr (.inl (fun _ => 0))) = arrV cA n (fun _ => defaultValue .long) := rfl
def bOf (l : List Nat) : Nat → Nat := fun k => l.getD k 0
section ZI
variable {p : Program} {l : Launch} {e : Env} {R : Room} {s : State} {m : MethodId} {args : Array Value} {below : List Frame} {meth : Method} {c : Code} {H : Heap} {locs : List Loc} {cells slots : Nat} {Q : State → Prop}
variable {cc : ByteArray} {pc : Nat} {ls : Array Slot} {rest : List Value} {D : va_G} {cl : List vw_C} {A : Nat → Prop} {tys : List (ClassId × FieldType)} {ws : va_W} {H0 : Heap}
theorem k_uq {tys t2 : List (ClassId × FieldType)} {c1 c2 : ClassId} {i j : Nat} (h1 : va_K D cl tys s) (e1 : tys[i]? = some (c1, .int)) (h2 : va_K D cl t2 s) (e2 : t2[j]? = some (c2, .int)) : c1 = c2 := Option.some.inj ((h1.2 i _ e1).2.symm.trans (h2.2 j _ e2).2)
theorem z_newa2 {c0 : ClassId} {n : Int32} {N' : Nat} {a0 : vp_A} (hexec : p.tables.exec = Jvm.exec) (hb : c.code = cc) (harr : (Cond.arrayClass .int).before args s = true) (hK : va_K D cl tys s) (hP : va_P D cl ws H) (hD : va_D A ws) (hS : va_S A H0 H locs) (hA : ∀ q, H0.size ≤ q → A q) (t0 : Nat) (ht : tys[t0]? = some (c0, .int))
    (ha : ∀ cA : ClassId, vp_cell cA a0 = arrV cA N' (fun _ => defaultValue .int)) (hn : ¬ n < 0) (hN : n.toNatClampNeg = N') (hbytes : N' * componentBytes .int ≤ 536870912) (hcells : cells + 1 ≤ R.cells) (hslots : slots + N' ≤ R.slots) (hdg : decode cc pc = .ok (.newarray .int, 2))
    (kk : ∀ (q : Nat) (H1 : Heap), va_P D cl (ws ++ [(q, .inl (c0, a0))]) H1 → va_D A (ws ++ [(q, .inl (c0, a0))]) → va_S A H0 H1 locs → W p l e R s m args below meth c H1 locs (cells + 1) (slots + N') Q (F0 m (pc + 2) ls (.ref q :: rest))) : W p l e R s m args below meth c H locs cells slots Q (F0 m pc ls (.int n :: rest)) := by
  refine va_newa (atype := .int) (ty := .int) hexec hb harr rfl hK hP hD hS hA ha hn hN hbytes hcells hslots hdg (fun q cA H1 hK1 hP1 hD1 hS1 => ?_)
  have e1 : (tys ++ [(cA, FieldType.int)])[tys.length]? = some (cA, .int) := by simp
  obtain rfl : cA = c0 := k_uq hK1 e1 hK ht
  exact kk q H1 hP1 hD1 hS1
end ZI
def uL0 : Nat → Nat := upN (upN (upN (fun _ => 0) 0 1) 1 1) 2 1
def wI0 (h0 : Nat) (c0 : ClassId) (b : Nat → Nat) : va_W := [(h0, .inr (0, [.ref (b 0), .ref (b 1), .ref (b 2), .ref (b 3), .ref (b 4), .ref (b 5), .ref (b 6), .ref (b 7), .int (iI 0), .int (iI 0)])), (b 0, .inl (c0, 3, .inl (aI (nZ uL0)))), (b 1, .inl (c0, 14, .inl (aI (nZ (fun _ => 0))))), (b 2, .inl (c0, 14, .inl (aI (nZ (fun _ => 0))))), (b 3, .inl (c0, 40, .inl (aI (nZ (fun _ => 0))))), (b 4, .inl (c0, 40, .inl (aI (nZ (fun _ => 0))))), (b 5, .inl (c0, 40, .inl (aI (nZ (fun _ => 0))))), (b 6, .inl (c0, 40, .inl (aI (nZ (fun _ => 0))))), (b 7, .inl (c0, 14, .inl (aI (nZ (fun _ => 0)))))]
def wI1 (h0 r1 : Nat) (c0 c1 : ClassId) (b : Nat → Nat) : va_W := [(h0, .inr (1, [.ref r1, .ref (b 0), .ref (b 1), .ref (b 2), .int (iI 0)])), (b 0, .inl (c0, 14, .inl (aI (nZ (fun _ => 0))))), (b 1, .inl (c1, 3, .inr (.inr (.inr (.inr (fun j => if j < 3 then some (b (3 + j)) else none)))))), (b 3, .inl (c0, 200, .inl (aI (nZ (fun _ => 0))))), (b 4, .inl (c0, 200, .inl (aI (nZ (fun _ => 0))))), (b 5, .inl (c0, 200, .inl (aI (nZ (fun _ => 0))))), (b 2, .inl (c0, 14, .inl (aI (nZ (fun _ => 0)))))]
def wI3 (h0 : Nat) (c0 c1 : ClassId) (b : Nat → Nat) : va_W := [(h0, .inr (3, [.int (iI 0), .ref (b 0), .int (iI 0), .ref (b 1), .ref (b 2), .int (iI 0), .ref (b 3), .ref (b 4), .ref (b 5), .ref (b 6), .int (iI 0), .ref (b 7), .int (iI 0), .ref (b 8), .ref (b 9), .ref (b 10)])), (b 0, .inl (c0, 3, .inl (aI (nZ uL0)))), (b 1, .inl (c0, 14, .inl (aI (nZ (fun _ => 0))))), (b 2, .inl (c0, 14, .inl (aI (nZ (fun _ => 0))))), (b 3, .inl (c0, 40, .inl (aI (nZ (fun _ => 0))))), (b 4, .inl (c0, 40, .inl (aI (nZ (fun _ => 0))))), (b 5, .inl (c0, 40, .inl (aI (nZ (fun _ => 0))))), (b 6, .inl (c0, 40, .inl (aI (nZ (fun _ => 0))))), (b 7, .inl (c0, 14, .inl (aI (nZ (fun _ => 0))))), (b 8, .inl (c0, 14, .inl (aI (nZ (fun _ => 0))))), (b 9, .inl (c1, 14, .inl (aI (bZ (fun _ => false))))), (b 10, .inl (c0, 600, .inl (aI (nZ (fun _ => 0)))))]

set_option maxHeartbeats 4000000 in
set_option maxRecDepth 100000 in
theorem c_X0_init (l : Launch) (D : va_G) (h0 : Nat) (sz : Nat) : Met l yX0_init wsX0_init ({ frames := 1, cells := 8, slots := 205, locals := 12 }) (zPc D [] [(h0, .inr (0, [.null, .null, .null, .null, .null, .null, .null, .null, .int (iI 0), .int (iI 0)]))] [.ref h0] sz) (va_Qv (fun _ : ClassId × (Nat → Nat) => True) (fun u t => va_P D vwCl (wI0 h0 u.1 u.2) t.heap ∧ va_K D vwCl [(u.1, .int)] t ∧ va_D (va_A [(h0, .inr (0, [.null, .null, .null, .null, .null, .null, .null, .null, .int (iI 0), .int (iI 0)]))] sz) (wI0 h0 u.1 u.2)) (va_A [(h0, .inr (0, [.null, .null, .null, .null, .null, .null, .null, .null, .int (iI 0), .int (iI 0)]))] sz)) 8 205 (va_A [(h0, .inr (0, [.null, .null, .null, .null, .null, .null, .null, .null, .int (iI 0), .int (iI 0)]))] sz) := by
  refine Met.ofW (cc := cX0_init) (maxL := 2) (ret := none) (by decide) rfl ?_
  intro p e s m args below meth c s₁ B hml hv
  obtain ⟨rfl, hsz, hP, hK, hD0⟩ := hv
  have hx := B.exec
  have hb := B.bytes
  have hr := B.returns
  have hts := atoms_spec (ws := wsX0_init) B.pre
  have hown : s.vm.findClass RX0 = some m.cls := findClass_of_methodNamed B.named
  have hlocks := B.notSynchronized
  have hin : meth.name = "<init>" := (name_of_methodNamed B.named B.method).1
  have hinX0 : ∀ w ∈ u_ws RX0 TX0 10, w ∈ wsX0_init := by decide +kernel
  subst hsz
  have hD := hD0.self (sz := s.heap.size)
  generalize hAe : va_A [(h0, .inr (0, [.null, .null, .null, .null, .null, .null, .null, .null, .int (iI 0), .int (iI 0)]))] s.heap.size = A at hD ⊢
  have hA : ∀ q : Nat, s.heap.size ≤ q → A q := fun q h => by rw [← hAe]; exact Or.inr h
  have hS : va_S A s.heap s.heap [] := va_S.rf
  have hP : va_P D vwCl [(h0, .inr (0, [.null, .null, .null, .null, .null, .null, .null, .null, .int (iI 0), .int (iI 0)]))] s.heap := hP
  have hl := lv_entry ([.ref h0]) (n := 2) (Nat.le_of_ble_eq_true rfl)
  rw [lg_entry_eq]
  generalize (lg_sl ([.ref h0]) ++ List.replicate (2 - (lg_sl ([.ref h0])).length) Slot.unset).toArray = ls at hl ⊢
  have hl : lv_has ls 2 [(0, .ref h0)] := hl
  refine lv_aload_n hx hb dX0_init_0 rfl (lv_at hl 0 rfl) ?_
  refine W.objInit hx hb hown (hts (.methodLink RX0 3 objectInit) (List.mem_of_getElem? (i := 1) rfl)) (hts (.instanceMethod objectInit) (List.mem_of_getElem? (i := 2) rfl)) (hts (.code objectInit ⟨#[0xb1]⟩ 1 none) (List.mem_of_getElem? (i := 3) rfl)) rfl (by rw [hml]; exact hl.1) rfl dX0_init_1 (Nat.le_of_ble_eq_true rfl) (Nat.le_of_ble_eq_true rfl) ?_
  refine W.eq (g2 := F0 m 4 ls []) rfl ?_
  refine lv_aload_n hx hb dX0_init_4 rfl (lv_at hl 0 rfl) ?_
  refine z_ic hx hb dX0_init_5 ?_
  refine va_newa (atype := .int) (ty := .int) (n := iI 3) (N' := 3) hx hb (hts (.arrayClass .int) (List.mem_of_getElem? (i := 4) rfl)) rfl hK hP hD hS hA (aI0 3) (by decide) (by decide) (Nat.le_of_ble_eq_true rfl) (Nat.le_of_ble_eq_true rfl) (Nat.le_of_ble_eq_true rfl) dX0_init_6 (fun q0 ci H hK hP hD hS => ?_)
  have hK : va_K D vwCl [(ci, .int)] s := hK
  have hP : va_P D vwCl [(h0, .inr (0, [.null, .null, .null, .null, .null, .null, .null, .null, .int (iI 0), .int (iI 0)])), (q0, .inl (ci, 3, .inl (aI (nZ (fun _ => 0)))))] H := hP
  have hD : va_D A [(h0, .inr (0, [.null, .null, .null, .null, .null, .null, .null, .null, .int (iI 0), .int (iI 0)])), (q0, .inl (ci, 3, .inl (aI (nZ (fun _ => 0)))))] := hD
  refine W.widen (k := 1) (n := 3) (Nat.le_of_ble_eq_true rfl) (Nat.le_of_ble_eq_true rfl) ?_
  refine va_putF (D := D) (ci := 0) (v := .ref q0) (ty := .array .int) (C := RX0) (T := TX0) (N := 10) hx hb hts hinX0 tyX0 tyX0_ok nmX0 hown hK hP hD hS 0 rfl rfl 0 (by decide) (hts (.fieldLink RX0 9 "LoopScheduler$Loop" "units" "[I") (List.mem_of_getElem? (i := 5) rfl)) (fun _ h9 => h9) rfl hin rfl (by decide +kernel) rfl rfl (Nat.le_of_ble_eq_true rfl) dX0_init_8 (fun H locs hP hD hS => ?_)
  have hP : va_P D vwCl [(h0, .inr (0, [.ref q0, .null, .null, .null, .null, .null, .null, .null, .int (iI 0), .int (iI 0)])), (q0, .inl (ci, 3, .inl (aI (nZ (fun _ => 0)))))] H := hP
  have hD : va_D A [(h0, .inr (0, [.ref q0, .null, .null, .null, .null, .null, .null, .null, .int (iI 0), .int (iI 0)])), (q0, .inl (ci, 3, .inl (aI (nZ (fun _ => 0)))))] := hD
  refine lv_aload_n hx hb dX0_init_11 rfl (lv_at hl 0 rfl) ?_
  refine z_bip hx hb dX0_init_12 (by decide) ?_
  refine z_newa2 (c0 := ci) (n := iI 14) (N' := 14) hx hb (hts (.arrayClass .int) (List.mem_of_getElem? (i := 4) rfl)) hK hP hD hS hA 0 rfl (aI0 14) (by decide) (by decide) (Nat.le_of_ble_eq_true rfl) (Nat.le_of_ble_eq_true rfl) (Nat.le_of_ble_eq_true rfl) dX0_init_14 (fun q1 H hP hD hS => ?_)
  have hP : va_P D vwCl [(h0, .inr (0, [.ref q0, .null, .null, .null, .null, .null, .null, .null, .int (iI 0), .int (iI 0)])), (q0, .inl (ci, 3, .inl (aI (nZ (fun _ => 0))))), (q1, .inl (ci, 14, .inl (aI (nZ (fun _ => 0)))))] H := hP
  have hD : va_D A [(h0, .inr (0, [.ref q0, .null, .null, .null, .null, .null, .null, .null, .int (iI 0), .int (iI 0)])), (q0, .inl (ci, 3, .inl (aI (nZ (fun _ => 0))))), (q1, .inl (ci, 14, .inl (aI (nZ (fun _ => 0)))))] := hD
  refine W.widen (k := 2) (n := 17) (Nat.le_of_ble_eq_true rfl) (Nat.le_of_ble_eq_true rfl) ?_
  refine va_putF (D := D) (ci := 0) (v := .ref q1) (ty := .array .int) (C := RX0) (T := TX0) (N := 10) hx hb hts hinX0 tyX0 tyX0_ok nmX0 hown hK hP hD hS 0 rfl rfl 1 (by decide) (hts (.fieldLink RX0 15 "LoopScheduler$Loop" "kinds" "[I") (List.mem_of_getElem? (i := 6) rfl)) (fun _ h9 => h9) rfl hin rfl (by decide +kernel) rfl rfl (Nat.le_of_ble_eq_true rfl) dX0_init_16 (fun H locs hP hD hS => ?_)
  have hP : va_P D vwCl [(h0, .inr (0, [.ref q0, .ref q1, .null, .null, .null, .null, .null, .null, .int (iI 0), .int (iI 0)])), (q0, .inl (ci, 3, .inl (aI (nZ (fun _ => 0))))), (q1, .inl (ci, 14, .inl (aI (nZ (fun _ => 0)))))] H := hP
  have hD : va_D A [(h0, .inr (0, [.ref q0, .ref q1, .null, .null, .null, .null, .null, .null, .int (iI 0), .int (iI 0)])), (q0, .inl (ci, 3, .inl (aI (nZ (fun _ => 0))))), (q1, .inl (ci, 14, .inl (aI (nZ (fun _ => 0)))))] := hD
  refine lv_aload_n hx hb dX0_init_19 rfl (lv_at hl 0 rfl) ?_
  refine z_bip hx hb dX0_init_20 (by decide) ?_
  refine z_newa2 (c0 := ci) (n := iI 14) (N' := 14) hx hb (hts (.arrayClass .int) (List.mem_of_getElem? (i := 4) rfl)) hK hP hD hS hA 0 rfl (aI0 14) (by decide) (by decide) (Nat.le_of_ble_eq_true rfl) (Nat.le_of_ble_eq_true rfl) (Nat.le_of_ble_eq_true rfl) dX0_init_22 (fun q2 H hP hD hS => ?_)
  have hP : va_P D vwCl [(h0, .inr (0, [.ref q0, .ref q1, .null, .null, .null, .null, .null, .null, .int (iI 0), .int (iI 0)])), (q0, .inl (ci, 3, .inl (aI (nZ (fun _ => 0))))), (q1, .inl (ci, 14, .inl (aI (nZ (fun _ => 0))))), (q2, .inl (ci, 14, .inl (aI (nZ (fun _ => 0)))))] H := hP
  have hD : va_D A [(h0, .inr (0, [.ref q0, .ref q1, .null, .null, .null, .null, .null, .null, .int (iI 0), .int (iI 0)])), (q0, .inl (ci, 3, .inl (aI (nZ (fun _ => 0))))), (q1, .inl (ci, 14, .inl (aI (nZ (fun _ => 0))))), (q2, .inl (ci, 14, .inl (aI (nZ (fun _ => 0)))))] := hD
  refine W.widen (k := 3) (n := 31) (Nat.le_of_ble_eq_true rfl) (Nat.le_of_ble_eq_true rfl) ?_
  refine va_putF (D := D) (ci := 0) (v := .ref q2) (ty := .array .int) (C := RX0) (T := TX0) (N := 10) hx hb hts hinX0 tyX0 tyX0_ok nmX0 hown hK hP hD hS 0 rfl rfl 2 (by decide) (hts (.fieldLink RX0 18 "LoopScheduler$Loop" "busy" "[I") (List.mem_of_getElem? (i := 7) rfl)) (fun _ h9 => h9) rfl hin rfl (by decide +kernel) rfl rfl (Nat.le_of_ble_eq_true rfl) dX0_init_24 (fun H locs hP hD hS => ?_)
  have hP : va_P D vwCl [(h0, .inr (0, [.ref q0, .ref q1, .ref q2, .null, .null, .null, .null, .null, .int (iI 0), .int (iI 0)])), (q0, .inl (ci, 3, .inl (aI (nZ (fun _ => 0))))), (q1, .inl (ci, 14, .inl (aI (nZ (fun _ => 0))))), (q2, .inl (ci, 14, .inl (aI (nZ (fun _ => 0)))))] H := hP
  have hD : va_D A [(h0, .inr (0, [.ref q0, .ref q1, .ref q2, .null, .null, .null, .null, .null, .int (iI 0), .int (iI 0)])), (q0, .inl (ci, 3, .inl (aI (nZ (fun _ => 0))))), (q1, .inl (ci, 14, .inl (aI (nZ (fun _ => 0))))), (q2, .inl (ci, 14, .inl (aI (nZ (fun _ => 0)))))] := hD
  refine lv_aload_n hx hb dX0_init_27 rfl (lv_at hl 0 rfl) ?_
  refine z_bip hx hb dX0_init_28 (by decide) ?_
  refine z_newa2 (c0 := ci) (n := iI 40) (N' := 40) hx hb (hts (.arrayClass .int) (List.mem_of_getElem? (i := 4) rfl)) hK hP hD hS hA 0 rfl (aI0 40) (by decide) (by decide) (Nat.le_of_ble_eq_true rfl) (Nat.le_of_ble_eq_true rfl) (Nat.le_of_ble_eq_true rfl) dX0_init_30 (fun q3 H hP hD hS => ?_)
  have hP : va_P D vwCl [(h0, .inr (0, [.ref q0, .ref q1, .ref q2, .null, .null, .null, .null, .null, .int (iI 0), .int (iI 0)])), (q0, .inl (ci, 3, .inl (aI (nZ (fun _ => 0))))), (q1, .inl (ci, 14, .inl (aI (nZ (fun _ => 0))))), (q2, .inl (ci, 14, .inl (aI (nZ (fun _ => 0))))), (q3, .inl (ci, 40, .inl (aI (nZ (fun _ => 0)))))] H := hP
  have hD : va_D A [(h0, .inr (0, [.ref q0, .ref q1, .ref q2, .null, .null, .null, .null, .null, .int (iI 0), .int (iI 0)])), (q0, .inl (ci, 3, .inl (aI (nZ (fun _ => 0))))), (q1, .inl (ci, 14, .inl (aI (nZ (fun _ => 0))))), (q2, .inl (ci, 14, .inl (aI (nZ (fun _ => 0))))), (q3, .inl (ci, 40, .inl (aI (nZ (fun _ => 0)))))] := hD
  refine W.widen (k := 4) (n := 71) (Nat.le_of_ble_eq_true rfl) (Nat.le_of_ble_eq_true rfl) ?_
  refine va_putF (D := D) (ci := 0) (v := .ref q3) (ty := .array .int) (C := RX0) (T := TX0) (N := 10) hx hb hts hinX0 tyX0 tyX0_ok nmX0 hown hK hP hD hS 0 rfl rfl 3 (by decide) (hts (.fieldLink RX0 21 "LoopScheduler$Loop" "sources" "[I") (List.mem_of_getElem? (i := 8) rfl)) (fun _ h9 => h9) rfl hin rfl (by decide +kernel) rfl rfl (Nat.le_of_ble_eq_true rfl) dX0_init_32 (fun H locs hP hD hS => ?_)
  have hP : va_P D vwCl [(h0, .inr (0, [.ref q0, .ref q1, .ref q2, .ref q3, .null, .null, .null, .null, .int (iI 0), .int (iI 0)])), (q0, .inl (ci, 3, .inl (aI (nZ (fun _ => 0))))), (q1, .inl (ci, 14, .inl (aI (nZ (fun _ => 0))))), (q2, .inl (ci, 14, .inl (aI (nZ (fun _ => 0))))), (q3, .inl (ci, 40, .inl (aI (nZ (fun _ => 0)))))] H := hP
  have hD : va_D A [(h0, .inr (0, [.ref q0, .ref q1, .ref q2, .ref q3, .null, .null, .null, .null, .int (iI 0), .int (iI 0)])), (q0, .inl (ci, 3, .inl (aI (nZ (fun _ => 0))))), (q1, .inl (ci, 14, .inl (aI (nZ (fun _ => 0))))), (q2, .inl (ci, 14, .inl (aI (nZ (fun _ => 0))))), (q3, .inl (ci, 40, .inl (aI (nZ (fun _ => 0)))))] := hD
  refine lv_aload_n hx hb dX0_init_35 rfl (lv_at hl 0 rfl) ?_
  refine z_bip hx hb dX0_init_36 (by decide) ?_
  refine z_newa2 (c0 := ci) (n := iI 40) (N' := 40) hx hb (hts (.arrayClass .int) (List.mem_of_getElem? (i := 4) rfl)) hK hP hD hS hA 0 rfl (aI0 40) (by decide) (by decide) (Nat.le_of_ble_eq_true rfl) (Nat.le_of_ble_eq_true rfl) (Nat.le_of_ble_eq_true rfl) dX0_init_38 (fun q4 H hP hD hS => ?_)
  have hP : va_P D vwCl [(h0, .inr (0, [.ref q0, .ref q1, .ref q2, .ref q3, .null, .null, .null, .null, .int (iI 0), .int (iI 0)])), (q0, .inl (ci, 3, .inl (aI (nZ (fun _ => 0))))), (q1, .inl (ci, 14, .inl (aI (nZ (fun _ => 0))))), (q2, .inl (ci, 14, .inl (aI (nZ (fun _ => 0))))), (q3, .inl (ci, 40, .inl (aI (nZ (fun _ => 0))))), (q4, .inl (ci, 40, .inl (aI (nZ (fun _ => 0)))))] H := hP
  have hD : va_D A [(h0, .inr (0, [.ref q0, .ref q1, .ref q2, .ref q3, .null, .null, .null, .null, .int (iI 0), .int (iI 0)])), (q0, .inl (ci, 3, .inl (aI (nZ (fun _ => 0))))), (q1, .inl (ci, 14, .inl (aI (nZ (fun _ => 0))))), (q2, .inl (ci, 14, .inl (aI (nZ (fun _ => 0))))), (q3, .inl (ci, 40, .inl (aI (nZ (fun _ => 0))))), (q4, .inl (ci, 40, .inl (aI (nZ (fun _ => 0)))))] := hD
  refine W.widen (k := 5) (n := 111) (Nat.le_of_ble_eq_true rfl) (Nat.le_of_ble_eq_true rfl) ?_
  refine va_putF (D := D) (ci := 0) (v := .ref q4) (ty := .array .int) (C := RX0) (T := TX0) (N := 10) hx hb hts hinX0 tyX0 tyX0_ok nmX0 hown hK hP hD hS 0 rfl rfl 4 (by decide) (hts (.fieldLink RX0 24 "LoopScheduler$Loop" "targets" "[I") (List.mem_of_getElem? (i := 9) rfl)) (fun _ h9 => h9) rfl hin rfl (by decide +kernel) rfl rfl (Nat.le_of_ble_eq_true rfl) dX0_init_40 (fun H locs hP hD hS => ?_)
  have hP : va_P D vwCl [(h0, .inr (0, [.ref q0, .ref q1, .ref q2, .ref q3, .ref q4, .null, .null, .null, .int (iI 0), .int (iI 0)])), (q0, .inl (ci, 3, .inl (aI (nZ (fun _ => 0))))), (q1, .inl (ci, 14, .inl (aI (nZ (fun _ => 0))))), (q2, .inl (ci, 14, .inl (aI (nZ (fun _ => 0))))), (q3, .inl (ci, 40, .inl (aI (nZ (fun _ => 0))))), (q4, .inl (ci, 40, .inl (aI (nZ (fun _ => 0)))))] H := hP
  have hD : va_D A [(h0, .inr (0, [.ref q0, .ref q1, .ref q2, .ref q3, .ref q4, .null, .null, .null, .int (iI 0), .int (iI 0)])), (q0, .inl (ci, 3, .inl (aI (nZ (fun _ => 0))))), (q1, .inl (ci, 14, .inl (aI (nZ (fun _ => 0))))), (q2, .inl (ci, 14, .inl (aI (nZ (fun _ => 0))))), (q3, .inl (ci, 40, .inl (aI (nZ (fun _ => 0))))), (q4, .inl (ci, 40, .inl (aI (nZ (fun _ => 0)))))] := hD
  refine lv_aload_n hx hb dX0_init_43 rfl (lv_at hl 0 rfl) ?_
  refine z_bip hx hb dX0_init_44 (by decide) ?_
  refine z_newa2 (c0 := ci) (n := iI 40) (N' := 40) hx hb (hts (.arrayClass .int) (List.mem_of_getElem? (i := 4) rfl)) hK hP hD hS hA 0 rfl (aI0 40) (by decide) (by decide) (Nat.le_of_ble_eq_true rfl) (Nat.le_of_ble_eq_true rfl) (Nat.le_of_ble_eq_true rfl) dX0_init_46 (fun q5 H hP hD hS => ?_)
  have hP : va_P D vwCl [(h0, .inr (0, [.ref q0, .ref q1, .ref q2, .ref q3, .ref q4, .null, .null, .null, .int (iI 0), .int (iI 0)])), (q0, .inl (ci, 3, .inl (aI (nZ (fun _ => 0))))), (q1, .inl (ci, 14, .inl (aI (nZ (fun _ => 0))))), (q2, .inl (ci, 14, .inl (aI (nZ (fun _ => 0))))), (q3, .inl (ci, 40, .inl (aI (nZ (fun _ => 0))))), (q4, .inl (ci, 40, .inl (aI (nZ (fun _ => 0))))), (q5, .inl (ci, 40, .inl (aI (nZ (fun _ => 0)))))] H := hP
  have hD : va_D A [(h0, .inr (0, [.ref q0, .ref q1, .ref q2, .ref q3, .ref q4, .null, .null, .null, .int (iI 0), .int (iI 0)])), (q0, .inl (ci, 3, .inl (aI (nZ (fun _ => 0))))), (q1, .inl (ci, 14, .inl (aI (nZ (fun _ => 0))))), (q2, .inl (ci, 14, .inl (aI (nZ (fun _ => 0))))), (q3, .inl (ci, 40, .inl (aI (nZ (fun _ => 0))))), (q4, .inl (ci, 40, .inl (aI (nZ (fun _ => 0))))), (q5, .inl (ci, 40, .inl (aI (nZ (fun _ => 0)))))] := hD
  refine W.widen (k := 6) (n := 151) (Nat.le_of_ble_eq_true rfl) (Nat.le_of_ble_eq_true rfl) ?_
  refine va_putF (D := D) (ci := 0) (v := .ref q5) (ty := .array .int) (C := RX0) (T := TX0) (N := 10) hx hb hts hinX0 tyX0 tyX0_ok nmX0 hown hK hP hD hS 0 rfl rfl 5 (by decide) (hts (.fieldLink RX0 27 "LoopScheduler$Loop" "delays" "[I") (List.mem_of_getElem? (i := 10) rfl)) (fun _ h9 => h9) rfl hin rfl (by decide +kernel) rfl rfl (Nat.le_of_ble_eq_true rfl) dX0_init_48 (fun H locs hP hD hS => ?_)
  have hP : va_P D vwCl [(h0, .inr (0, [.ref q0, .ref q1, .ref q2, .ref q3, .ref q4, .ref q5, .null, .null, .int (iI 0), .int (iI 0)])), (q0, .inl (ci, 3, .inl (aI (nZ (fun _ => 0))))), (q1, .inl (ci, 14, .inl (aI (nZ (fun _ => 0))))), (q2, .inl (ci, 14, .inl (aI (nZ (fun _ => 0))))), (q3, .inl (ci, 40, .inl (aI (nZ (fun _ => 0))))), (q4, .inl (ci, 40, .inl (aI (nZ (fun _ => 0))))), (q5, .inl (ci, 40, .inl (aI (nZ (fun _ => 0)))))] H := hP
  have hD : va_D A [(h0, .inr (0, [.ref q0, .ref q1, .ref q2, .ref q3, .ref q4, .ref q5, .null, .null, .int (iI 0), .int (iI 0)])), (q0, .inl (ci, 3, .inl (aI (nZ (fun _ => 0))))), (q1, .inl (ci, 14, .inl (aI (nZ (fun _ => 0))))), (q2, .inl (ci, 14, .inl (aI (nZ (fun _ => 0))))), (q3, .inl (ci, 40, .inl (aI (nZ (fun _ => 0))))), (q4, .inl (ci, 40, .inl (aI (nZ (fun _ => 0))))), (q5, .inl (ci, 40, .inl (aI (nZ (fun _ => 0)))))] := hD
  refine lv_aload_n hx hb dX0_init_51 rfl (lv_at hl 0 rfl) ?_
  refine z_bip hx hb dX0_init_52 (by decide) ?_
  refine z_newa2 (c0 := ci) (n := iI 40) (N' := 40) hx hb (hts (.arrayClass .int) (List.mem_of_getElem? (i := 4) rfl)) hK hP hD hS hA 0 rfl (aI0 40) (by decide) (by decide) (Nat.le_of_ble_eq_true rfl) (Nat.le_of_ble_eq_true rfl) (Nat.le_of_ble_eq_true rfl) dX0_init_54 (fun q6 H hP hD hS => ?_)
  have hP : va_P D vwCl [(h0, .inr (0, [.ref q0, .ref q1, .ref q2, .ref q3, .ref q4, .ref q5, .null, .null, .int (iI 0), .int (iI 0)])), (q0, .inl (ci, 3, .inl (aI (nZ (fun _ => 0))))), (q1, .inl (ci, 14, .inl (aI (nZ (fun _ => 0))))), (q2, .inl (ci, 14, .inl (aI (nZ (fun _ => 0))))), (q3, .inl (ci, 40, .inl (aI (nZ (fun _ => 0))))), (q4, .inl (ci, 40, .inl (aI (nZ (fun _ => 0))))), (q5, .inl (ci, 40, .inl (aI (nZ (fun _ => 0))))), (q6, .inl (ci, 40, .inl (aI (nZ (fun _ => 0)))))] H := hP
  have hD : va_D A [(h0, .inr (0, [.ref q0, .ref q1, .ref q2, .ref q3, .ref q4, .ref q5, .null, .null, .int (iI 0), .int (iI 0)])), (q0, .inl (ci, 3, .inl (aI (nZ (fun _ => 0))))), (q1, .inl (ci, 14, .inl (aI (nZ (fun _ => 0))))), (q2, .inl (ci, 14, .inl (aI (nZ (fun _ => 0))))), (q3, .inl (ci, 40, .inl (aI (nZ (fun _ => 0))))), (q4, .inl (ci, 40, .inl (aI (nZ (fun _ => 0))))), (q5, .inl (ci, 40, .inl (aI (nZ (fun _ => 0))))), (q6, .inl (ci, 40, .inl (aI (nZ (fun _ => 0)))))] := hD
  refine W.widen (k := 7) (n := 191) (Nat.le_of_ble_eq_true rfl) (Nat.le_of_ble_eq_true rfl) ?_
  refine va_putF (D := D) (ci := 0) (v := .ref q6) (ty := .array .int) (C := RX0) (T := TX0) (N := 10) hx hb hts hinX0 tyX0 tyX0_ok nmX0 hown hK hP hD hS 0 rfl rfl 6 (by decide) (hts (.fieldLink RX0 30 "LoopScheduler$Loop" "distances" "[I") (List.mem_of_getElem? (i := 11) rfl)) (fun _ h9 => h9) rfl hin rfl (by decide +kernel) rfl rfl (Nat.le_of_ble_eq_true rfl) dX0_init_56 (fun H locs hP hD hS => ?_)
  have hP : va_P D vwCl [(h0, .inr (0, [.ref q0, .ref q1, .ref q2, .ref q3, .ref q4, .ref q5, .ref q6, .null, .int (iI 0), .int (iI 0)])), (q0, .inl (ci, 3, .inl (aI (nZ (fun _ => 0))))), (q1, .inl (ci, 14, .inl (aI (nZ (fun _ => 0))))), (q2, .inl (ci, 14, .inl (aI (nZ (fun _ => 0))))), (q3, .inl (ci, 40, .inl (aI (nZ (fun _ => 0))))), (q4, .inl (ci, 40, .inl (aI (nZ (fun _ => 0))))), (q5, .inl (ci, 40, .inl (aI (nZ (fun _ => 0))))), (q6, .inl (ci, 40, .inl (aI (nZ (fun _ => 0)))))] H := hP
  have hD : va_D A [(h0, .inr (0, [.ref q0, .ref q1, .ref q2, .ref q3, .ref q4, .ref q5, .ref q6, .null, .int (iI 0), .int (iI 0)])), (q0, .inl (ci, 3, .inl (aI (nZ (fun _ => 0))))), (q1, .inl (ci, 14, .inl (aI (nZ (fun _ => 0))))), (q2, .inl (ci, 14, .inl (aI (nZ (fun _ => 0))))), (q3, .inl (ci, 40, .inl (aI (nZ (fun _ => 0))))), (q4, .inl (ci, 40, .inl (aI (nZ (fun _ => 0))))), (q5, .inl (ci, 40, .inl (aI (nZ (fun _ => 0))))), (q6, .inl (ci, 40, .inl (aI (nZ (fun _ => 0)))))] := hD
  refine lv_aload_n hx hb dX0_init_59 rfl (lv_at hl 0 rfl) ?_
  refine z_bip hx hb dX0_init_60 (by decide) ?_
  refine z_newa2 (c0 := ci) (n := iI 14) (N' := 14) hx hb (hts (.arrayClass .int) (List.mem_of_getElem? (i := 4) rfl)) hK hP hD hS hA 0 rfl (aI0 14) (by decide) (by decide) (Nat.le_of_ble_eq_true rfl) (Nat.le_of_ble_eq_true rfl) (Nat.le_of_ble_eq_true rfl) dX0_init_62 (fun q7 H hP hD hS => ?_)
  have hP : va_P D vwCl [(h0, .inr (0, [.ref q0, .ref q1, .ref q2, .ref q3, .ref q4, .ref q5, .ref q6, .null, .int (iI 0), .int (iI 0)])), (q0, .inl (ci, 3, .inl (aI (nZ (fun _ => 0))))), (q1, .inl (ci, 14, .inl (aI (nZ (fun _ => 0))))), (q2, .inl (ci, 14, .inl (aI (nZ (fun _ => 0))))), (q3, .inl (ci, 40, .inl (aI (nZ (fun _ => 0))))), (q4, .inl (ci, 40, .inl (aI (nZ (fun _ => 0))))), (q5, .inl (ci, 40, .inl (aI (nZ (fun _ => 0))))), (q6, .inl (ci, 40, .inl (aI (nZ (fun _ => 0))))), (q7, .inl (ci, 14, .inl (aI (nZ (fun _ => 0)))))] H := hP
  have hD : va_D A [(h0, .inr (0, [.ref q0, .ref q1, .ref q2, .ref q3, .ref q4, .ref q5, .ref q6, .null, .int (iI 0), .int (iI 0)])), (q0, .inl (ci, 3, .inl (aI (nZ (fun _ => 0))))), (q1, .inl (ci, 14, .inl (aI (nZ (fun _ => 0))))), (q2, .inl (ci, 14, .inl (aI (nZ (fun _ => 0))))), (q3, .inl (ci, 40, .inl (aI (nZ (fun _ => 0))))), (q4, .inl (ci, 40, .inl (aI (nZ (fun _ => 0))))), (q5, .inl (ci, 40, .inl (aI (nZ (fun _ => 0))))), (q6, .inl (ci, 40, .inl (aI (nZ (fun _ => 0))))), (q7, .inl (ci, 14, .inl (aI (nZ (fun _ => 0)))))] := hD
  refine W.widen (k := 8) (n := 205) (Nat.le_of_ble_eq_true rfl) (Nat.le_of_ble_eq_true rfl) ?_
  refine va_putF (D := D) (ci := 0) (v := .ref q7) (ty := .array .int) (C := RX0) (T := TX0) (N := 10) hx hb hts hinX0 tyX0 tyX0_ok nmX0 hown hK hP hD hS 0 rfl rfl 7 (by decide) (hts (.fieldLink RX0 33 "LoopScheduler$Loop" "heights" "[I") (List.mem_of_getElem? (i := 12) rfl)) (fun _ h9 => h9) rfl hin rfl (by decide +kernel) rfl rfl (Nat.le_of_ble_eq_true rfl) dX0_init_64 (fun H locs hP hD hS => ?_)
  have hP : va_P D vwCl [(h0, .inr (0, [.ref q0, .ref q1, .ref q2, .ref q3, .ref q4, .ref q5, .ref q6, .ref q7, .int (iI 0), .int (iI 0)])), (q0, .inl (ci, 3, .inl (aI (nZ (fun _ => 0))))), (q1, .inl (ci, 14, .inl (aI (nZ (fun _ => 0))))), (q2, .inl (ci, 14, .inl (aI (nZ (fun _ => 0))))), (q3, .inl (ci, 40, .inl (aI (nZ (fun _ => 0))))), (q4, .inl (ci, 40, .inl (aI (nZ (fun _ => 0))))), (q5, .inl (ci, 40, .inl (aI (nZ (fun _ => 0))))), (q6, .inl (ci, 40, .inl (aI (nZ (fun _ => 0))))), (q7, .inl (ci, 14, .inl (aI (nZ (fun _ => 0)))))] H := hP
  have hD : va_D A [(h0, .inr (0, [.ref q0, .ref q1, .ref q2, .ref q3, .ref q4, .ref q5, .ref q6, .ref q7, .int (iI 0), .int (iI 0)])), (q0, .inl (ci, 3, .inl (aI (nZ (fun _ => 0))))), (q1, .inl (ci, 14, .inl (aI (nZ (fun _ => 0))))), (q2, .inl (ci, 14, .inl (aI (nZ (fun _ => 0))))), (q3, .inl (ci, 40, .inl (aI (nZ (fun _ => 0))))), (q4, .inl (ci, 40, .inl (aI (nZ (fun _ => 0))))), (q5, .inl (ci, 40, .inl (aI (nZ (fun _ => 0))))), (q6, .inl (ci, 40, .inl (aI (nZ (fun _ => 0))))), (q7, .inl (ci, 14, .inl (aI (nZ (fun _ => 0)))))] := hD
  refine z_ic hx hb dX0_init_67 ?_
  refine lv_istore_n (lv' := [(1, .int (iI 0)), (0, .ref h0)]) hx hb dX0_init_68 rfl hl (by decide) rfl (fun ls hl => ?_)
  refine lv_iload_n hx hb dX0_init_69 rfl (lv_at hl 0 rfl) ?_
  refine z_ic hx hb dX0_init_70 ?_
  refine z_icge (a := 0) (b := 3) (tgt := 87) hx hb dX0_init_71 (by decide) ⟨by decide, by decide⟩ (fun h9 => absurd h9 (by decide)) (fun _ => ?_)
  refine lv_aload_n hx hb dX0_init_74 rfl (lv_at hl 1 rfl) ?_
  refine va_get (ci := 0) (C := RX0) (T := TX0) (N := 10) hx hb hts hinX0 hown hK hP 0 rfl rfl 0 (by decide) (hts (.fieldLink RX0 9 "LoopScheduler$Loop" "units" "[I") (List.mem_of_getElem? (i := 5) rfl)) (fun _ h9 => h9) rfl dX0_init_75 ?_
  refine lv_iload_n hx hb dX0_init_78 rfl (lv_at hl 0 rfl) ?_
  refine z_ic hx hb dX0_init_79 ?_
  refine z_iastZ (f := (fun _ => 0)) (z := 0) (v := 1) hx hb hK hP hD hS 1 0 rfl rfl (by decide) (by decide) dX0_init_80 (fun H locs hP hD hS => ?_)
  have hP : va_P D vwCl [(h0, .inr (0, [.ref q0, .ref q1, .ref q2, .ref q3, .ref q4, .ref q5, .ref q6, .ref q7, .int (iI 0), .int (iI 0)])), (q0, .inl (ci, 3, .inl (aI (nZ (upN (fun _ => 0) 0 1))))), (q1, .inl (ci, 14, .inl (aI (nZ (fun _ => 0))))), (q2, .inl (ci, 14, .inl (aI (nZ (fun _ => 0))))), (q3, .inl (ci, 40, .inl (aI (nZ (fun _ => 0))))), (q4, .inl (ci, 40, .inl (aI (nZ (fun _ => 0))))), (q5, .inl (ci, 40, .inl (aI (nZ (fun _ => 0))))), (q6, .inl (ci, 40, .inl (aI (nZ (fun _ => 0))))), (q7, .inl (ci, 14, .inl (aI (nZ (fun _ => 0)))))] H := hP
  have hD : va_D A [(h0, .inr (0, [.ref q0, .ref q1, .ref q2, .ref q3, .ref q4, .ref q5, .ref q6, .ref q7, .int (iI 0), .int (iI 0)])), (q0, .inl (ci, 3, .inl (aI (nZ (upN (fun _ => 0) 0 1))))), (q1, .inl (ci, 14, .inl (aI (nZ (fun _ => 0))))), (q2, .inl (ci, 14, .inl (aI (nZ (fun _ => 0))))), (q3, .inl (ci, 40, .inl (aI (nZ (fun _ => 0))))), (q4, .inl (ci, 40, .inl (aI (nZ (fun _ => 0))))), (q5, .inl (ci, 40, .inl (aI (nZ (fun _ => 0))))), (q6, .inl (ci, 40, .inl (aI (nZ (fun _ => 0))))), (q7, .inl (ci, 14, .inl (aI (nZ (fun _ => 0)))))] := hD
  refine z_iinc (a := 0) (b := 1) (lv' := [(1, .int (iI 1)), (0, .ref h0)]) hx hb 0 dX0_init_81 hl rfl (by decide) (by decide) rfl (fun ls hl => ?_)
  refine lv_goto (tgt := 69) hx hb dX0_init_84 (by decide) ?_
  refine lv_iload_n hx hb dX0_init_69 rfl (lv_at hl 0 rfl) ?_
  refine z_ic hx hb dX0_init_70 ?_
  refine z_icge (a := 1) (b := 3) (tgt := 87) hx hb dX0_init_71 (by decide) ⟨by decide, by decide⟩ (fun h9 => absurd h9 (by decide)) (fun _ => ?_)
  refine lv_aload_n hx hb dX0_init_74 rfl (lv_at hl 1 rfl) ?_
  refine va_get (ci := 0) (C := RX0) (T := TX0) (N := 10) hx hb hts hinX0 hown hK hP 0 rfl rfl 0 (by decide) (hts (.fieldLink RX0 9 "LoopScheduler$Loop" "units" "[I") (List.mem_of_getElem? (i := 5) rfl)) (fun _ h9 => h9) rfl dX0_init_75 ?_
  refine lv_iload_n hx hb dX0_init_78 rfl (lv_at hl 0 rfl) ?_
  refine z_ic hx hb dX0_init_79 ?_
  refine z_iastZ (f := (upN (fun _ => 0) 0 1)) (z := 1) (v := 1) hx hb hK hP hD hS 1 0 rfl rfl (by decide) (by decide) dX0_init_80 (fun H locs hP hD hS => ?_)
  have hP : va_P D vwCl [(h0, .inr (0, [.ref q0, .ref q1, .ref q2, .ref q3, .ref q4, .ref q5, .ref q6, .ref q7, .int (iI 0), .int (iI 0)])), (q0, .inl (ci, 3, .inl (aI (nZ (upN (upN (fun _ => 0) 0 1) 1 1))))), (q1, .inl (ci, 14, .inl (aI (nZ (fun _ => 0))))), (q2, .inl (ci, 14, .inl (aI (nZ (fun _ => 0))))), (q3, .inl (ci, 40, .inl (aI (nZ (fun _ => 0))))), (q4, .inl (ci, 40, .inl (aI (nZ (fun _ => 0))))), (q5, .inl (ci, 40, .inl (aI (nZ (fun _ => 0))))), (q6, .inl (ci, 40, .inl (aI (nZ (fun _ => 0))))), (q7, .inl (ci, 14, .inl (aI (nZ (fun _ => 0)))))] H := hP
  have hD : va_D A [(h0, .inr (0, [.ref q0, .ref q1, .ref q2, .ref q3, .ref q4, .ref q5, .ref q6, .ref q7, .int (iI 0), .int (iI 0)])), (q0, .inl (ci, 3, .inl (aI (nZ (upN (upN (fun _ => 0) 0 1) 1 1))))), (q1, .inl (ci, 14, .inl (aI (nZ (fun _ => 0))))), (q2, .inl (ci, 14, .inl (aI (nZ (fun _ => 0))))), (q3, .inl (ci, 40, .inl (aI (nZ (fun _ => 0))))), (q4, .inl (ci, 40, .inl (aI (nZ (fun _ => 0))))), (q5, .inl (ci, 40, .inl (aI (nZ (fun _ => 0))))), (q6, .inl (ci, 40, .inl (aI (nZ (fun _ => 0))))), (q7, .inl (ci, 14, .inl (aI (nZ (fun _ => 0)))))] := hD
  refine z_iinc (a := 1) (b := 2) (lv' := [(1, .int (iI 2)), (0, .ref h0)]) hx hb 0 dX0_init_81 hl rfl (by decide) (by decide) rfl (fun ls hl => ?_)
  refine lv_goto (tgt := 69) hx hb dX0_init_84 (by decide) ?_
  refine lv_iload_n hx hb dX0_init_69 rfl (lv_at hl 0 rfl) ?_
  refine z_ic hx hb dX0_init_70 ?_
  refine z_icge (a := 2) (b := 3) (tgt := 87) hx hb dX0_init_71 (by decide) ⟨by decide, by decide⟩ (fun h9 => absurd h9 (by decide)) (fun _ => ?_)
  refine lv_aload_n hx hb dX0_init_74 rfl (lv_at hl 1 rfl) ?_
  refine va_get (ci := 0) (C := RX0) (T := TX0) (N := 10) hx hb hts hinX0 hown hK hP 0 rfl rfl 0 (by decide) (hts (.fieldLink RX0 9 "LoopScheduler$Loop" "units" "[I") (List.mem_of_getElem? (i := 5) rfl)) (fun _ h9 => h9) rfl dX0_init_75 ?_
  refine lv_iload_n hx hb dX0_init_78 rfl (lv_at hl 0 rfl) ?_
  refine z_ic hx hb dX0_init_79 ?_
  refine z_iastZ (f := (upN (upN (fun _ => 0) 0 1) 1 1)) (z := 2) (v := 1) hx hb hK hP hD hS 1 0 rfl rfl (by decide) (by decide) dX0_init_80 (fun H locs hP hD hS => ?_)
  have hP : va_P D vwCl [(h0, .inr (0, [.ref q0, .ref q1, .ref q2, .ref q3, .ref q4, .ref q5, .ref q6, .ref q7, .int (iI 0), .int (iI 0)])), (q0, .inl (ci, 3, .inl (aI (nZ (upN (upN (upN (fun _ => 0) 0 1) 1 1) 2 1))))), (q1, .inl (ci, 14, .inl (aI (nZ (fun _ => 0))))), (q2, .inl (ci, 14, .inl (aI (nZ (fun _ => 0))))), (q3, .inl (ci, 40, .inl (aI (nZ (fun _ => 0))))), (q4, .inl (ci, 40, .inl (aI (nZ (fun _ => 0))))), (q5, .inl (ci, 40, .inl (aI (nZ (fun _ => 0))))), (q6, .inl (ci, 40, .inl (aI (nZ (fun _ => 0))))), (q7, .inl (ci, 14, .inl (aI (nZ (fun _ => 0)))))] H := hP
  have hD : va_D A [(h0, .inr (0, [.ref q0, .ref q1, .ref q2, .ref q3, .ref q4, .ref q5, .ref q6, .ref q7, .int (iI 0), .int (iI 0)])), (q0, .inl (ci, 3, .inl (aI (nZ (upN (upN (upN (fun _ => 0) 0 1) 1 1) 2 1))))), (q1, .inl (ci, 14, .inl (aI (nZ (fun _ => 0))))), (q2, .inl (ci, 14, .inl (aI (nZ (fun _ => 0))))), (q3, .inl (ci, 40, .inl (aI (nZ (fun _ => 0))))), (q4, .inl (ci, 40, .inl (aI (nZ (fun _ => 0))))), (q5, .inl (ci, 40, .inl (aI (nZ (fun _ => 0))))), (q6, .inl (ci, 40, .inl (aI (nZ (fun _ => 0))))), (q7, .inl (ci, 14, .inl (aI (nZ (fun _ => 0)))))] := hD
  refine z_iinc (a := 2) (b := 3) (lv' := [(1, .int (iI 3)), (0, .ref h0)]) hx hb 0 dX0_init_81 hl rfl (by decide) (by decide) rfl (fun ls hl => ?_)
  refine lv_goto (tgt := 69) hx hb dX0_init_84 (by decide) ?_
  refine lv_iload_n hx hb dX0_init_69 rfl (lv_at hl 0 rfl) ?_
  refine z_ic hx hb dX0_init_70 ?_
  refine z_icge (a := 3) (b := 3) (tgt := 87) hx hb dX0_init_71 (by decide) ⟨by decide, by decide⟩ (fun _ => ?_) (fun h9 => absurd (by decide) h9)
  have hP : va_P D vwCl (wI0 h0 ci (bOf [q0, q1, q2, q3, q4, q5, q6, q7])) H := hP
  have hD : va_D A (wI0 h0 ci (bOf [q0, q1, q2, q3, q4, q5, q6, q7])) := hD
  exact W.vret hx hb hr (fun t ht hW => ⟨⟨(ci, bOf [q0, q1, q2, q3, q4, q5, q6, q7]), rfl, trivial, by rw [ht]; exact hP, va_K.moved hW.alike hK, hD⟩, hS.F ht⟩) hS.2.2 dX0_init_87
set_option maxHeartbeats 4000000 in
set_option maxRecDepth 100000 in
theorem c_X1_init (l : Launch) (D : va_G) (h0 r1 : Nat) (sz : Nat) : Met l yX1_init wsX1_init ({ frames := 1, cells := 6, slots := 631, locals := 12 }) (va_Pc [.ref h0, .ref r1] (fun U => U.heap.size = sz ∧ va_P D vwCl [(h0, .inr (1, [.null, .null, .null, .null, .int (iI 0)]))] U.heap ∧ va_K D vwCl [] U ∧ va_D (fun _ => True) [(h0, .inr (1, [.null, .null, .null, .null, .int (iI 0)]))] ∧ va_AOA .int U)) (va_Qv (fun _ : ClassId × ClassId × (Nat → Nat) => True) (fun u t => va_P D vwCl (wI1 h0 r1 u.1 u.2.1 u.2.2) t.heap ∧ va_K D vwCl [(u.1, .int), (u.2.1, .array .int)] t ∧ va_D (va_A [(h0, .inr (1, [.null, .null, .null, .null, .int (iI 0)]))] sz) (wI1 h0 r1 u.1 u.2.1 u.2.2)) (va_A [(h0, .inr (1, [.null, .null, .null, .null, .int (iI 0)]))] sz)) 6 631 (va_A [(h0, .inr (1, [.null, .null, .null, .null, .int (iI 0)]))] sz) := by
  refine Met.ofW (cc := cX1_init) (maxL := 2) (ret := none) (by decide) rfl ?_
  intro p e s m args below meth c s₁ B hml hv
  obtain ⟨rfl, hsz, hP, hK, hD0, hAO⟩ := hv
  have hx := B.exec
  have hb := B.bytes
  have hr := B.returns
  have hts := atoms_spec (ws := wsX1_init) B.pre
  have hown : s.vm.findClass RX1 = some m.cls := findClass_of_methodNamed B.named
  have hlocks := B.notSynchronized
  have hin : meth.name = "<init>" := (name_of_methodNamed B.named B.method).1
  have hinX1 : ∀ w ∈ u_ws RX1 TX1 5, w ∈ wsX1_init := by decide +kernel
  subst hsz
  have hD := hD0.self (sz := s.heap.size)
  generalize hAe : va_A [(h0, .inr (1, [.null, .null, .null, .null, .int (iI 0)]))] s.heap.size = A at hD ⊢
  have hA : ∀ q : Nat, s.heap.size ≤ q → A q := fun q h => by rw [← hAe]; exact Or.inr h
  have hS : va_S A s.heap s.heap [] := va_S.rf
  have hP : va_P D vwCl [(h0, .inr (1, [.null, .null, .null, .null, .int (iI 0)]))] s.heap := hP
  have hl := lv_entry ([.ref h0, .ref r1]) (n := 2) (Nat.le_of_ble_eq_true rfl)
  rw [lg_entry_eq]
  generalize (lg_sl ([.ref h0, .ref r1]) ++ List.replicate (2 - (lg_sl ([.ref h0, .ref r1])).length) Slot.unset).toArray = ls at hl ⊢
  have hl : lv_has ls 2 [(0, .ref h0), (1, .ref r1)] := hl
  refine lv_aload_n hx hb dX1_init_0 rfl (lv_at hl 0 rfl) ?_
  refine W.objInit hx hb hown (hts (.methodLink RX1 3 objectInit) (List.mem_of_getElem? (i := 1) rfl)) (hts (.instanceMethod objectInit) (List.mem_of_getElem? (i := 2) rfl)) (hts (.code objectInit ⟨#[0xb1]⟩ 1 none) (List.mem_of_getElem? (i := 3) rfl)) rfl (by rw [hml]; exact hl.1) rfl dX1_init_1 (Nat.le_of_ble_eq_true rfl) (Nat.le_of_ble_eq_true rfl) ?_
  refine W.eq (g2 := F0 m 4 ls []) rfl ?_
  refine lv_aload_n hx hb dX1_init_4 rfl (lv_at hl 0 rfl) ?_
  refine z_bip hx hb dX1_init_5 (by decide) ?_
  refine va_newa (atype := .int) (ty := .int) (n := iI 14) (N' := 14) hx hb (hts (.arrayClass .int) (List.mem_of_getElem? (i := 4) rfl)) rfl hK hP hD hS hA (aI0 14) (by decide) (by decide) (Nat.le_of_ble_eq_true rfl) (Nat.le_of_ble_eq_true rfl) (Nat.le_of_ble_eq_true rfl) dX1_init_7 (fun q0 ci H hK hP hD hS => ?_)
  have hK : va_K D vwCl [(ci, .int)] s := hK
  have hP : va_P D vwCl [(h0, .inr (1, [.null, .null, .null, .null, .int (iI 0)])), (q0, .inl (ci, 14, .inl (aI (nZ (fun _ => 0)))))] H := hP
  have hD : va_D A [(h0, .inr (1, [.null, .null, .null, .null, .int (iI 0)])), (q0, .inl (ci, 14, .inl (aI (nZ (fun _ => 0)))))] := hD
  refine W.widen (k := 1) (n := 14) (Nat.le_of_ble_eq_true rfl) (Nat.le_of_ble_eq_true rfl) ?_
  refine va_putF (D := D) (ci := 1) (v := .ref q0) (ty := .array .int) (C := RX1) (T := TX1) (N := 5) hx hb hts hinX1 tyX1 tyX1_ok nmX1 hown hK hP hD hS 0 rfl rfl 1 (by decide) (hts (.fieldLink RX1 9 "LoopScheduler$Timetable" "times" "[I") (List.mem_of_getElem? (i := 5) rfl)) (fun _ h9 => h9) rfl hin rfl (by decide +kernel) rfl rfl (Nat.le_of_ble_eq_true rfl) dX1_init_9 (fun H locs hP hD hS => ?_)
  have hP : va_P D vwCl [(h0, .inr (1, [.null, .ref q0, .null, .null, .int (iI 0)])), (q0, .inl (ci, 14, .inl (aI (nZ (fun _ => 0)))))] H := hP
  have hD : va_D A [(h0, .inr (1, [.null, .ref q0, .null, .null, .int (iI 0)])), (q0, .inl (ci, 14, .inl (aI (nZ (fun _ => 0)))))] := hD
  refine lv_aload_n hx hb dX1_init_12 rfl (lv_at hl 0 rfl) ?_
  refine z_ic hx hb dX1_init_13 ?_
  refine z_sip hx hb dX1_init_14 (by decide) ?_
  refine va_mna (ty := .int) (cy := ci) (X := [(h0, .inr (1, [.null, .ref q0, .null, .null, .int (iI 0)])), (q0, .inl (ci, 14, .inl (aI (nZ (fun _ => 0)))))]) (L := []) (f := fun _ => .inl (ci, 200, .inl (aI (nZ (fun _ => 0))))) (n := iI 3) (k := iI 200) (N' := 3) (K' := 200) (z := (200, .inl (aI (nZ (fun _ => 0))))) hx hb hown (hts (.classLink RX1 15 "[[I") (List.mem_of_getElem? (i := 6) rfl)) hAO (hts (.arrayClass .int) (List.mem_of_getElem? (i := 4) rfl)) (hK.2 0 _ rfl).2 hK hP hD hS hA (by decide) (by decide) (by decide) (by decide) (Nat.le_of_ble_eq_true rfl) (Nat.le_of_ble_eq_true rfl) (Nat.le_of_ble_eq_true rfl) rfl rfl (Nat.le_of_ble_eq_true rfl) (Nat.le_of_ble_eq_true rfl) (fun cA => (arrV_new cA 200 (defaultValue .int)).trans (aI0 200 cA).symm) dX1_init_17 (fun q1 r c1 H hri _ hK hP hD hS => ?_)
  have hvr : vr_up (fun _ : Nat => (.inl (ci, 200, .inl (aI (nZ (fun _ => 0)))) : va_E)) ((List.range 3).map r) (.inl (ci, 200, .inl (aI (nZ (fun _ => 0))))) = fun _ => .inl (ci, 200, .inl (aI (nZ (fun _ => 0)))) := funext fun x => ite_self _
  rw [hvr] at hP hD
  have hP : va_P D vwCl [(h0, .inr (1, [.null, .ref q0, .null, .null, .int (iI 0)])), (q0, .inl (ci, 14, .inl (aI (nZ (fun _ => 0))))), (q1, .inl (c1, 3, .inr (.inr (.inr (.inr (fun i => if i < 3 then some (r i) else none)))))), (r 0, .inl (ci, 200, .inl (aI (nZ (fun _ => 0))))), (r 1, .inl (ci, 200, .inl (aI (nZ (fun _ => 0))))), (r 2, .inl (ci, 200, .inl (aI (nZ (fun _ => 0)))))] H := hP
  have hD : va_D A [(h0, .inr (1, [.null, .ref q0, .null, .null, .int (iI 0)])), (q0, .inl (ci, 14, .inl (aI (nZ (fun _ => 0))))), (q1, .inl (c1, 3, .inr (.inr (.inr (.inr (fun i => if i < 3 then some (r i) else none)))))), (r 0, .inl (ci, 200, .inl (aI (nZ (fun _ => 0))))), (r 1, .inl (ci, 200, .inl (aI (nZ (fun _ => 0))))), (r 2, .inl (ci, 200, .inl (aI (nZ (fun _ => 0)))))] := hD
  have hK : va_K D vwCl [(ci, .int), (c1, .array .int)] s := hK
  refine W.widen (k := 5) (n := 617) (Nat.le_of_ble_eq_true rfl) (Nat.le_of_ble_eq_true rfl) ?_
  refine va_putF (D := D) (ci := 1) (v := .ref q1) (ty := .array (.array .int)) (C := RX1) (T := TX1) (N := 5) hx hb hts hinX1 tyX1 tyX1_ok nmX1 hown hK hP hD hS 0 rfl rfl 2 (by decide) (hts (.fieldLink RX1 17 "LoopScheduler$Timetable" "takenUnits" "[[I") (List.mem_of_getElem? (i := 7) rfl)) (fun _ h9 => h9) rfl hin rfl (by decide +kernel) rfl rfl (Nat.le_of_ble_eq_true rfl) dX1_init_21 (fun H locs hP hD hS => ?_)
  have hP : va_P D vwCl [(h0, .inr (1, [.null, .ref q0, .ref q1, .null, .int (iI 0)])), (q0, .inl (ci, 14, .inl (aI (nZ (fun _ => 0))))), (q1, .inl (c1, 3, .inr (.inr (.inr (.inr (fun i => if i < 3 then some (r i) else none)))))), (r 0, .inl (ci, 200, .inl (aI (nZ (fun _ => 0))))), (r 1, .inl (ci, 200, .inl (aI (nZ (fun _ => 0))))), (r 2, .inl (ci, 200, .inl (aI (nZ (fun _ => 0)))))] H := hP
  have hD : va_D A [(h0, .inr (1, [.null, .ref q0, .ref q1, .null, .int (iI 0)])), (q0, .inl (ci, 14, .inl (aI (nZ (fun _ => 0))))), (q1, .inl (c1, 3, .inr (.inr (.inr (.inr (fun i => if i < 3 then some (r i) else none)))))), (r 0, .inl (ci, 200, .inl (aI (nZ (fun _ => 0))))), (r 1, .inl (ci, 200, .inl (aI (nZ (fun _ => 0))))), (r 2, .inl (ci, 200, .inl (aI (nZ (fun _ => 0)))))] := hD
  refine lv_aload_n hx hb dX1_init_24 rfl (lv_at hl 0 rfl) ?_
  refine z_bip hx hb dX1_init_25 (by decide) ?_
  refine z_newa2 (c0 := ci) (n := iI 14) (N' := 14) hx hb (hts (.arrayClass .int) (List.mem_of_getElem? (i := 4) rfl)) hK hP hD hS hA 0 rfl (aI0 14) (by decide) (by decide) (Nat.le_of_ble_eq_true rfl) (Nat.le_of_ble_eq_true rfl) (Nat.le_of_ble_eq_true rfl) dX1_init_27 (fun q2 H hP hD hS => ?_)
  have hP : va_P D vwCl [(h0, .inr (1, [.null, .ref q0, .ref q1, .null, .int (iI 0)])), (q0, .inl (ci, 14, .inl (aI (nZ (fun _ => 0))))), (q1, .inl (c1, 3, .inr (.inr (.inr (.inr (fun i => if i < 3 then some (r i) else none)))))), (r 0, .inl (ci, 200, .inl (aI (nZ (fun _ => 0))))), (r 1, .inl (ci, 200, .inl (aI (nZ (fun _ => 0))))), (r 2, .inl (ci, 200, .inl (aI (nZ (fun _ => 0))))), (q2, .inl (ci, 14, .inl (aI (nZ (fun _ => 0)))))] H := hP
  have hD : va_D A [(h0, .inr (1, [.null, .ref q0, .ref q1, .null, .int (iI 0)])), (q0, .inl (ci, 14, .inl (aI (nZ (fun _ => 0))))), (q1, .inl (c1, 3, .inr (.inr (.inr (.inr (fun i => if i < 3 then some (r i) else none)))))), (r 0, .inl (ci, 200, .inl (aI (nZ (fun _ => 0))))), (r 1, .inl (ci, 200, .inl (aI (nZ (fun _ => 0))))), (r 2, .inl (ci, 200, .inl (aI (nZ (fun _ => 0))))), (q2, .inl (ci, 14, .inl (aI (nZ (fun _ => 0)))))] := hD
  refine W.widen (k := 6) (n := 631) (Nat.le_of_ble_eq_true rfl) (Nat.le_of_ble_eq_true rfl) ?_
  refine va_putF (D := D) (ci := 1) (v := .ref q2) (ty := .array .int) (C := RX1) (T := TX1) (N := 5) hx hb hts hinX1 tyX1 tyX1_ok nmX1 hown hK hP hD hS 0 rfl rfl 3 (by decide) (hts (.fieldLink RX1 20 "LoopScheduler$Timetable" "lifetimes" "[I") (List.mem_of_getElem? (i := 8) rfl)) (fun _ h9 => h9) rfl hin rfl (by decide +kernel) rfl rfl (Nat.le_of_ble_eq_true rfl) dX1_init_29 (fun H locs hP hD hS => ?_)
  have hP : va_P D vwCl [(h0, .inr (1, [.null, .ref q0, .ref q1, .ref q2, .int (iI 0)])), (q0, .inl (ci, 14, .inl (aI (nZ (fun _ => 0))))), (q1, .inl (c1, 3, .inr (.inr (.inr (.inr (fun i => if i < 3 then some (r i) else none)))))), (r 0, .inl (ci, 200, .inl (aI (nZ (fun _ => 0))))), (r 1, .inl (ci, 200, .inl (aI (nZ (fun _ => 0))))), (r 2, .inl (ci, 200, .inl (aI (nZ (fun _ => 0))))), (q2, .inl (ci, 14, .inl (aI (nZ (fun _ => 0)))))] H := hP
  have hD : va_D A [(h0, .inr (1, [.null, .ref q0, .ref q1, .ref q2, .int (iI 0)])), (q0, .inl (ci, 14, .inl (aI (nZ (fun _ => 0))))), (q1, .inl (c1, 3, .inr (.inr (.inr (.inr (fun i => if i < 3 then some (r i) else none)))))), (r 0, .inl (ci, 200, .inl (aI (nZ (fun _ => 0))))), (r 1, .inl (ci, 200, .inl (aI (nZ (fun _ => 0))))), (r 2, .inl (ci, 200, .inl (aI (nZ (fun _ => 0))))), (q2, .inl (ci, 14, .inl (aI (nZ (fun _ => 0)))))] := hD
  refine lv_aload_n hx hb dX1_init_32 rfl (lv_at hl 0 rfl) ?_
  refine lv_aload_n hx hb dX1_init_33 rfl (lv_at hl 1 rfl) ?_
  refine va_putF (D := D) (ci := 1) (v := .ref r1) (ty := .object "LoopScheduler$Loop") (C := RX1) (T := TX1) (N := 5) hx hb hts hinX1 tyX1 tyX1_ok nmX1 hown hK hP hD hS 0 rfl rfl 0 (by decide) (hts (.fieldLink RX1 23 "LoopScheduler$Timetable" "loop" "LLoopScheduler$Loop;") (List.mem_of_getElem? (i := 9) rfl)) (fun _ h9 => h9) rfl hin rfl (by decide +kernel) rfl rfl (Nat.le_of_ble_eq_true rfl) dX1_init_34 (fun H locs hP hD hS => ?_)
  have hP : va_P D vwCl [(h0, .inr (1, [.ref r1, .ref q0, .ref q1, .ref q2, .int (iI 0)])), (q0, .inl (ci, 14, .inl (aI (nZ (fun _ => 0))))), (q1, .inl (c1, 3, .inr (.inr (.inr (.inr (fun i => if i < 3 then some (r i) else none)))))), (r 0, .inl (ci, 200, .inl (aI (nZ (fun _ => 0))))), (r 1, .inl (ci, 200, .inl (aI (nZ (fun _ => 0))))), (r 2, .inl (ci, 200, .inl (aI (nZ (fun _ => 0))))), (q2, .inl (ci, 14, .inl (aI (nZ (fun _ => 0)))))] H := hP
  have hD : va_D A [(h0, .inr (1, [.ref r1, .ref q0, .ref q1, .ref q2, .int (iI 0)])), (q0, .inl (ci, 14, .inl (aI (nZ (fun _ => 0))))), (q1, .inl (c1, 3, .inr (.inr (.inr (.inr (fun i => if i < 3 then some (r i) else none)))))), (r 0, .inl (ci, 200, .inl (aI (nZ (fun _ => 0))))), (r 1, .inl (ci, 200, .inl (aI (nZ (fun _ => 0))))), (r 2, .inl (ci, 200, .inl (aI (nZ (fun _ => 0))))), (q2, .inl (ci, 14, .inl (aI (nZ (fun _ => 0)))))] := hD
  have hrf : (fun i => if i < 3 then some (r i) else none) = (fun j => if j < 3 then some ((bOf [q0, q1, q2, r 0, r 1, r 2]) (3 + j)) else none) := funext fun j => by match j with | 0 => rfl | 1 => rfl | 2 => rfl | j + 3 => rw [if_neg (by omega), if_neg (by omega)]
  rw [hrf] at hP hD
  have hP : va_P D vwCl (wI1 h0 r1 ci c1 (bOf [q0, q1, q2, r 0, r 1, r 2])) H := hP
  have hD : va_D A (wI1 h0 r1 ci c1 (bOf [q0, q1, q2, r 0, r 1, r 2])) := hD
  exact W.vret hx hb hr (fun t ht hW => ⟨⟨(ci, c1, (bOf [q0, q1, q2, r 0, r 1, r 2])), rfl, trivial, by rw [ht]; exact hP, va_K.moved hW.alike hK, hD⟩, hS.F ht⟩) hS.2.2 dX1_init_37

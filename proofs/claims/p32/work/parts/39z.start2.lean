set_option maxHeartbeats 8000000 in
set_option maxRecDepth 100000 in
theorem whole_start {p : Program} {e : Env} {s : State} {m : MethodId} {below : List Frame} {meth : Method} {c : Code} (l : Launch) (hflags : l.flags = flags0) {b L : Nat} {xs : Nat → Int32} (hL : L ≤ 260) (C0 : lw_At p s m meth c b L xs) : W p l e room_1 s m #[Value.ref b] below meth c s.heap [] 0 0 (lw_Z below #[Value.ref b] s) (entryFrame m ([Value.ref b] : List Value).toArray 16) := by
  obtain ⟨hx, hb, hr, hml, hown, hts0, hX, hbl, hlocks, hgv⟩ := id C0
  have hl0 : l.stackTraces = false := by
    unfold Launch.stackTraces
    rw [hflags]
    decide +kernel
  have hown : s.vm.findClass RL = some m.cls := hown
  have hts : ∀ w ∈ wsL_law, w.before #[Value.ref b] s = true := fun w h => hts0 w (wsL_law_in w h)
  have hA : ∀ q : Nat, s.heap.size ≤ q → (fun q : Nat => s.heap.size ≤ q) q := fun _ h => h
  have hbA : ¬ (fun q : Nat => s.heap.size ≤ q) b := Nat.not_le.mpr hbl
  have hE := w_hE hts0 hgv
  have hV := w_hV hts0 hgv
  obtain ⟨dX0, iX0, hKnX0⟩ := u_known (C := RX0) (T := TX0) (N := 10) (n := 10) hts0 inTX0 (hts0 (.instantiable RX0 10) (List.mem_of_getElem? (i := 35) (by decide +kernel)))
  obtain ⟨dX1, iX1, hKnX1⟩ := u_known (C := RX1) (T := TX1) (N := 5) (n := 5) hts0 inTX1 (hts0 (.instantiable RX1 5) (List.mem_of_getElem? (i := 86) (by decide +kernel)))
  obtain ⟨dX2, iX2, hKnX2⟩ := u_known (C := RX2) (T := TX2) (N := 3) (n := 3) hts0 inTX2 (hts0 (.instantiable RX2 3) (List.mem_of_getElem? (i := 27) (by decide +kernel)))
  obtain ⟨D, hKc⟩ : ∃ D : va_G, ∀ (k : Nat) (q : vw_C), vwCl[k]? = some q → u_Kn s q.1 q.2.1 q.2.2 (D.1 k) (D.2 k) := by
    refine ⟨(fun k => if k = 0 then dX0 else if k = 1 then dX1 else dX2, fun k => if k = 0 then iX0 else if k = 1 then iX1 else iX2), ?_⟩
    intro k q hq
    match k, hq with
    | 0, hq => cases hq; exact hKnX0
    | 1, hq => cases hq; exact hKnX1
    | 2, hq => cases hq; exact hKnX2
    | k + 3, hq => simp [vwCl] at hq
  have hS : va_S (fun q : Nat => s.heap.size ≤ q) s.heap s.heap [] := va_S.rf
  have hK0 : va_K D vwCl [] s := ⟨hKc, fun k q h => by simp at h⟩
  have hP : va_P D vwCl [] s.heap := fun k q h => by simp at h
  have hD : va_D (fun q : Nat => s.heap.size ≤ q) [] := ⟨fun i j p q h => by simp at h, fun k q h => by simp at h⟩
  have hAO : va_AOA .int s := va_AOA.of (hts0 (.arrayOver (.array .int)) (List.mem_of_getElem? (i := 92) (by decide +kernel)))
  have hl := lv_entry ([.ref b]) (n := 16) (Nat.le_of_ble_eq_true rfl)
  rw [lg_entry_eq]
  generalize (lg_sl ([.ref b]) ++ List.replicate (16 - (lg_sl ([.ref b])).length) Slot.unset).toArray = ls at hl ⊢
  have hl : lv_has ls 16 [(0, .ref b)] := hl
  refine va_new (ci := 2) (fs := [.null, .null, .int (iI 0)]) (C := RX2) (T := TX2) (N := 3) hx hb hts0 inTX2 tyX2 tyX2_ok hown (hts0 (.classLink RL 20 RX2) (List.mem_of_getElem? (i := 26) (by decide +kernel))) (hts0 (.instantiable RX2 3) (List.mem_of_getElem? (i := 27) (by decide +kernel))) (hts0 (.initialized RX2) (List.mem_of_getElem? (i := 15) (by decide +kernel))) hK0 hP hD hS hA rfl (fun j hj => by rcases (show j = 0 ∨ j = 1 ∨ j = 2 by omega) with rfl | rfl | rfl <;> rfl) (Nat.le_of_ble_eq_true rfl) (Nat.le_of_ble_eq_true rfl) dL_law_0 (fun q0 H hP hD hS => ?_)
  have hP : va_P D vwCl ([(q0, .inr (2, [.null, .null, .int (iI 0)]))] ++ []) H := hP
  have hD : va_D (fun q : Nat => s.heap.size ≤ q) ([(q0, .inr (2, [.null, .null, .int (iI 0)]))] ++ []) := hD
  refine W.widen (k := 1) (n := 3) (Nat.le_of_ble_eq_true rfl) (Nat.le_of_ble_eq_true rfl) ?_
  refine lv_dup hx hb dL_law_3 rfl ?_
  refine va_callv (va_runI (As := []) (rest := [.ref q0]) ⟨hx, hb, hml, hown, hts⟩ (c_X2_init l D q0 H.size) (cwI 0 hts gL_law_X2_init rfl rfl rfl (hts0 (.initialized RX2) (List.mem_of_getElem? (i := 15) (by decide +kernel))) (hts0 (.methodLink RL 31 yX2_init) (List.mem_of_getElem? (i := 28) (by decide +kernel))) (hts0 (.instanceMethod yX2_init) (List.mem_of_getElem? (i := 29) (by decide +kernel))) rfl (by decide +kernel) ⟨Nat.le_of_ble_eq_true rfl, Nat.le_of_ble_eq_true rfl⟩) ⟨fun a U g mk q => by obtain ⟨q0, q1, qP, qK, qD, qA⟩ := q; exact ⟨q0, q1, qP, va_K.moved (u := U) (U := U.calling g mk a) (Vm.Alike.refl U.vm) qK, qD, va_AOA.moved (u := U) (U := U.calling g mk a) (Vm.Alike.refl U.vm) qA⟩, fun U hU hW => ⟨rfl, by rw [hU], by rw [hU]; exact wj_l hP, va_K.moved hW.alike hK0, (wj_dl hD).weaken (fun _ _ _ _ => trivial), va_AOA.moved hW.alike hAO⟩⟩ rfl rfl hl.1 rfl (lv_room (Nat.le_of_ble_eq_true rfl)) dL_law_4 ⟨Nat.le_of_ble_eq_true rfl, Nat.le_of_ble_eq_true rfl⟩) hS (fun q _ h => z_free (wj_dl hD) hS hA q h) (fun q h => z_free (wj_dl hD) hS hA q h) (fun u t H1 locs ht hvm _ hB hz1 hk1 hS1 => ?_)
  obtain ⟨hP1, hK1, hD1⟩ := hB
  rw [ht] at hP1
  have hK1 := va_K.moved hvm.symm hK1
  obtain ⟨hP, hD⟩ := wj_join hP hD hk1 (fun q h => z_free (wj_dl hD) hS hA q h) hP1 hD1
  have hS := hS1
  obtain ⟨c0, c1, b2⟩ := u
  have hK : va_K D vwCl (zT (gOf c0 c1)) s := hK1
  clear hK1
  rw [List.append_nil] at hP hD
  have hP : va_P D vwCl (wX (a2 q0 b2) (gOf c0 c1) L00 0 0 (nZ (fun _ => 0)) (nZ (fun _ => 0)) (fun _ => (nZ (fun _ => 0))) (nZ (fun _ => 0))) H1 := hP
  have hD : va_D (fun q : Nat => s.heap.size ≤ q) (wX (a2 q0 b2) (gOf c0 c1) L00 0 0 (nZ (fun _ => 0)) (nZ (fun _ => 0)) (fun _ => (nZ (fun _ => 0))) (nZ (fun _ => 0))) := hD
  obtain ⟨g, hg⟩ : ∃ g : Nat → ClassId, g = gOf c0 c1 := ⟨_, rfl⟩
  obtain ⟨a, ha⟩ : ∃ a : Nat → Nat, a = a2 q0 b2 := ⟨_, rfl⟩
  rw [← hg] at hP hD hK
  rw [← ha] at hP hD
  refine W.widen (k := 17) (n := 854) (Nat.le_of_ble_eq_true rfl) (Nat.le_of_ble_eq_true rfl) ?_
  have hq0 : Value.ref q0 = Value.ref (a 0) := by rw [ha]; rfl
  rw [hq0]
  refine lv_astore_n (lv' := [(1, .ref (a 0)), (0, .ref b)]) hx hb dL_law_7 rfl hl (by decide) rfl (fun ls hl => ?_)
  exact law_8 ⟨C0, hL, hl0, hK, hE, hV⟩ (a := a) (hs := (nZ (fun _ => 0))) (tm := (nZ (fun _ => 0))) (tk := fun _ => (nZ (fun _ => 0))) (lt := (nZ (fun _ => 0))) hP hD hS (lv_sub hl [1, 0] rfl)

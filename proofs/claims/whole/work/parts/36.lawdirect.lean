set_option maxHeartbeats 4000000 in
set_option maxRecDepth 100000 in
theorem law_operationCount {p : Program} {l : Launch} {e : Env} {s : State} {m : MethodId} {below : List Frame} {meth : Method} {c : Code} {b Lx : Nat} {xs : Nat → Int32} {D : va_G} {g : Nat → ClassId} (hC : LC p l s m meth c b Lx xs D g) {a b' : Nat → Nat} {o iv cells slots : Nat} {Q : State → Prop} (hi : iv + 5 ≤ Lx) (hcs : cells + 7 ≤ 601024 ∧ slots + 42 ≤ 7293034) (kk : KQ p l e s m below meth c b o a b' g D iv (cells + 7) (slots + 42) Q) {L : LD} {att T : Nat} {hs tm : Nat → Int} {tk : Nat → Nat → Int} {lt : Nat → Int} {f : Nat → Int64} {th : Int} {hm : Nat → Int} {tn : Nat → Nat} {pl : Nat → Bool} (hJ : JJ L T tm tk hm tn) {H : Heap} {locs : List Loc} {ls : Array Slot} (hP : va_P D vwCl (uw a g o L att T hs tm tk lt f ++ wM b' g th L att T hm tn pl (fun _ => 0)) H) (hD : va_D (fun q : Nat => s.heap.size ≤ q) (uw a g o L att T hs tm tk lt f ++ wM b' g th L att T hm tn pl (fun _ => 0))) (hS : va_S (fun q : Nat => s.heap.size ≤ q) s.heap H locs) (hl : lv_has ls 7 [(0, .ref b), (1, .ref (a 0)), (2, .ref (b' 0)), (3, .ref o), (4, .int (iI ((iv : Nat) : Int)))]) : W p l e room_1 s m #[Value.ref b] below meth c H locs cells slots Q (F0 m 464 ls []) := by
  obtain ⟨⟨hx, hb, hr, hml, hown, hts0, hX, hbl, hlocks, hgv⟩, hLx, hl0, hK, hE, hV, hN⟩ := hC
  have hts : ∀ w ∈ wsL_law, w.before #[Value.ref b] s = true := fun w h => hts0 w (wsL_law_in w h)
  have hA : ∀ q : Nat, s.heap.size ≤ q → (fun q : Nat => s.heap.size ≤ q) q := fun _ h => h
  have hbA : ¬ (fun q : Nat => s.heap.size ≤ q) b := Nat.not_le.mpr hbl
  refine lv_aload_n hx hb dL_law_464 rfl (lv_at hl 1 rfl) ?_
  unfold uw at hP hD
  rw [List.append_assoc] at hP hD
  refine j_callL (va_runV (As := []) (rest := []) ⟨hx, hb, hml, hown, hts⟩ (c_X2_operationCount l D g a L att T hs tm tk lt H.size) (cwV 0 hts gL_law_X2_operationCount rfl rfl rfl (by decide +kernel) ⟨Nat.le_of_ble_eq_true rfl, Nat.le_of_ble_eq_true rfl⟩) (z_preV 0 hK (wj_l hP) (wj_dl hD) rfl rfl) rfl rfl hl.1 rfl (lv_room (Nat.le_of_ble_eq_true rfl)) dL_law_465 ⟨(show cells + 0 ≤ 601024 by omega), (show slots + 0 ≤ 7293034 by omega)⟩) hS hP hD hA (fun r u1 H locs h1 hP hD hS => ?_)
  obtain ⟨rfl, rfl⟩ := h1
  rw [← List.append_assoc] at hP hD
  refine lv_aload_n hx hb dL_law_468 rfl (lv_at hl 2 rfl) ?_
  refine j_calli (va_runV (As := []) (rest := [.int (iI ((Ln L : Nat)))]) ⟨hx, hb, hml, hown, hts⟩ (c_X3_operationCount l D g b' th L att T hm tn pl H.size) (cwV 0 hts gL_law_X3_operationCount rfl rfl rfl (by decide +kernel) ⟨Nat.le_of_ble_eq_true rfl, Nat.le_of_ble_eq_true rfl⟩) (z_preV 0 hK (wj_r hP) (wj_dr hD) rfl rfl) rfl rfl hl.1 rfl (lv_room (Nat.le_of_ble_eq_true rfl)) dL_law_469 ⟨(show cells + 0 ≤ 601024 by omega), (show slots + 0 ≤ 7293034 by omega)⟩) hS hP hD hA (fun r2 v1 H locs h2 hP hD hS => ?_)
  obtain ⟨rfl, rfl⟩ := h2
  refine lv_icmp_eq (tgt := 1571) hx hb dL_law_472 (by decide) (fun _ => ?_) (fun h9 => absurd rfl h9)
  refine W.widen (k := cells + 7) (n := slots + 42) (by omega) (by omega) ?_
  exact kk L att T hs tm tk lt f 0 hm tn pl hJ H locs ls hP hD hS hl
set_option maxHeartbeats 4000000 in
set_option maxRecDepth 100000 in
theorem law_dependenceCount {p : Program} {l : Launch} {e : Env} {s : State} {m : MethodId} {below : List Frame} {meth : Method} {c : Code} {b Lx : Nat} {xs : Nat → Int32} {D : va_G} {g : Nat → ClassId} (hC : LC p l s m meth c b Lx xs D g) {a b' : Nat → Nat} {o iv cells slots : Nat} {Q : State → Prop} (hi : iv + 5 ≤ Lx) (hcs : cells + 7 ≤ 601024 ∧ slots + 42 ≤ 7293034) (kk : KQ p l e s m below meth c b o a b' g D iv (cells + 7) (slots + 42) Q) {L : LD} {att T : Nat} {hs tm : Nat → Int} {tk : Nat → Nat → Int} {lt : Nat → Int} {f : Nat → Int64} {th : Int} {hm : Nat → Int} {tn : Nat → Nat} {pl : Nat → Bool} (hJ : JJ L T tm tk hm tn) {H : Heap} {locs : List Loc} {ls : Array Slot} (hP : va_P D vwCl (uw a g o L att T hs tm tk lt f ++ wM b' g th L att T hm tn pl (fun _ => 0)) H) (hD : va_D (fun q : Nat => s.heap.size ≤ q) (uw a g o L att T hs tm tk lt f ++ wM b' g th L att T hm tn pl (fun _ => 0))) (hS : va_S (fun q : Nat => s.heap.size ≤ q) s.heap H locs) (hl : lv_has ls 7 [(0, .ref b), (1, .ref (a 0)), (2, .ref (b' 0)), (3, .ref o), (4, .int (iI ((iv : Nat) : Int)))]) : W p l e room_1 s m #[Value.ref b] below meth c H locs cells slots Q (F0 m 477 ls []) := by
  obtain ⟨⟨hx, hb, hr, hml, hown, hts0, hX, hbl, hlocks, hgv⟩, hLx, hl0, hK, hE, hV, hN⟩ := hC
  have hts : ∀ w ∈ wsL_law, w.before #[Value.ref b] s = true := fun w h => hts0 w (wsL_law_in w h)
  have hA : ∀ q : Nat, s.heap.size ≤ q → (fun q : Nat => s.heap.size ≤ q) q := fun _ h => h
  have hbA : ¬ (fun q : Nat => s.heap.size ≤ q) b := Nat.not_le.mpr hbl
  refine lv_aload_n hx hb dL_law_477 rfl (lv_at hl 1 rfl) ?_
  unfold uw at hP hD
  rw [List.append_assoc] at hP hD
  refine j_callL (va_runV (As := []) (rest := []) ⟨hx, hb, hml, hown, hts⟩ (c_X2_dependenceCount l D g a L att T hs tm tk lt H.size) (cwV 0 hts gL_law_X2_dependenceCount rfl rfl rfl (by decide +kernel) ⟨Nat.le_of_ble_eq_true rfl, Nat.le_of_ble_eq_true rfl⟩) (z_preV 0 hK (wj_l hP) (wj_dl hD) rfl rfl) rfl rfl hl.1 rfl (lv_room (Nat.le_of_ble_eq_true rfl)) dL_law_478 ⟨(show cells + 0 ≤ 601024 by omega), (show slots + 0 ≤ 7293034 by omega)⟩) hS hP hD hA (fun r u1 H locs h1 hP hD hS => ?_)
  obtain ⟨rfl, rfl⟩ := h1
  rw [← List.append_assoc] at hP hD
  refine lv_aload_n hx hb dL_law_481 rfl (lv_at hl 2 rfl) ?_
  refine j_calli (va_runV (As := []) (rest := [.int (iI ((Lm L : Nat)))]) ⟨hx, hb, hml, hown, hts⟩ (c_X3_dependenceCount l D g b' th L att T hm tn pl H.size) (cwV 0 hts gL_law_X3_dependenceCount rfl rfl rfl (by decide +kernel) ⟨Nat.le_of_ble_eq_true rfl, Nat.le_of_ble_eq_true rfl⟩) (z_preV 0 hK (wj_r hP) (wj_dr hD) rfl rfl) rfl rfl hl.1 rfl (lv_room (Nat.le_of_ble_eq_true rfl)) dL_law_482 ⟨(show cells + 0 ≤ 601024 by omega), (show slots + 0 ≤ 7293034 by omega)⟩) hS hP hD hA (fun r2 v1 H locs h2 hP hD hS => ?_)
  obtain ⟨rfl, rfl⟩ := h2
  refine lv_icmp_eq (tgt := 1571) hx hb dL_law_485 (by decide) (fun _ => ?_) (fun h9 => absurd rfl h9)
  refine W.widen (k := cells + 7) (n := slots + 42) (by omega) (by omega) ?_
  exact kk L att T hs tm tk lt f 0 hm tn pl hJ H locs ls hP hD hS hl
set_option maxHeartbeats 4000000 in
set_option maxRecDepth 100000 in
theorem law_resourceBound {p : Program} {l : Launch} {e : Env} {s : State} {m : MethodId} {below : List Frame} {meth : Method} {c : Code} {b Lx : Nat} {xs : Nat → Int32} {D : va_G} {g : Nat → ClassId} (hC : LC p l s m meth c b Lx xs D g) {a b' : Nat → Nat} {o iv cells slots : Nat} {Q : State → Prop} (hi : iv + 5 ≤ Lx) (hcs : cells + 7 ≤ 601024 ∧ slots + 42 ≤ 7293034) (kk : KQ p l e s m below meth c b o a b' g D iv (cells + 7) (slots + 42) Q) {L : LD} {att T : Nat} {hs tm : Nat → Int} {tk : Nat → Nat → Int} {lt : Nat → Int} {f : Nat → Int64} {th : Int} {hm : Nat → Int} {tn : Nat → Nat} {pl : Nat → Bool} (hJ : JJ L T tm tk hm tn) {H : Heap} {locs : List Loc} {ls : Array Slot} (hP : va_P D vwCl (uw a g o L att T hs tm tk lt f ++ wM b' g th L att T hm tn pl (fun _ => 0)) H) (hD : va_D (fun q : Nat => s.heap.size ≤ q) (uw a g o L att T hs tm tk lt f ++ wM b' g th L att T hm tn pl (fun _ => 0))) (hS : va_S (fun q : Nat => s.heap.size ≤ q) s.heap H locs) (hl : lv_has ls 7 [(0, .ref b), (1, .ref (a 0)), (2, .ref (b' 0)), (3, .ref o), (4, .int (iI ((iv : Nat) : Int)))]) : W p l e room_1 s m #[Value.ref b] below meth c H locs cells slots Q (F0 m 490 ls []) := by
  obtain ⟨⟨hx, hb, hr, hml, hown, hts0, hX, hbl, hlocks, hgv⟩, hLx, hl0, hK, hE, hV, hN⟩ := hC
  have hts : ∀ w ∈ wsL_law, w.before #[Value.ref b] s = true := fun w h => hts0 w (wsL_law_in w h)
  have hA : ∀ q : Nat, s.heap.size ≤ q → (fun q : Nat => s.heap.size ≤ q) q := fun _ h => h
  have hbA : ¬ (fun q : Nat => s.heap.size ≤ q) b := Nat.not_le.mpr hbl
  refine lv_aload_n hx hb dL_law_490 rfl (lv_at hl 1 rfl) ?_
  unfold uw at hP hD
  rw [List.append_assoc] at hP hD
  refine j_callL (va_runV (As := []) (rest := []) ⟨hx, hb, hml, hown, hts⟩ (c_X2_resourceBound l D g a L att T hs tm tk lt hJ.1 H.size) (cwV 0 hts gL_law_X2_resourceBound rfl rfl rfl (by decide +kernel) ⟨Nat.le_of_ble_eq_true rfl, Nat.le_of_ble_eq_true rfl⟩) (z_preV 0 hK (wj_l hP) (wj_dl hD) rfl rfl) rfl rfl hl.1 rfl (lv_room (Nat.le_of_ble_eq_true rfl)) dL_law_491 ⟨(show cells + 0 ≤ 601024 by omega), (show slots + 0 ≤ 7293034 by omega)⟩) hS hP hD hA (fun r u1 H locs h1 hP hD hS => ?_)
  obtain ⟨rfl, rfl⟩ := h1
  rw [← List.append_assoc] at hP hD
  refine lv_aload_n hx hb dL_law_494 rfl (lv_at hl 2 rfl) ?_
  refine j_calli (va_runV (As := []) (rest := [.int (iI ((rs L : Nat)))]) ⟨hx, hb, hml, hown, hts⟩ (c_X3_resourceBound l D g b' th L att T hm tn pl hJ.1 H.size) (cwV 0 hts gL_law_X3_resourceBound rfl rfl rfl (by decide +kernel) ⟨Nat.le_of_ble_eq_true rfl, Nat.le_of_ble_eq_true rfl⟩) (z_preV 0 hK (wj_r hP) (wj_dr hD) rfl rfl) rfl rfl hl.1 rfl (lv_room (Nat.le_of_ble_eq_true rfl)) dL_law_495 ⟨(show cells + 0 ≤ 601024 by omega), (show slots + 0 ≤ 7293034 by omega)⟩) hS hP hD hA (fun r2 v1 H locs h2 hP hD hS => ?_)
  obtain ⟨rfl, rfl⟩ := h2
  refine lv_icmp_eq (tgt := 1571) hx hb dL_law_498 (by decide) (fun _ => ?_) (fun h9 => absurd rfl h9)
  refine W.widen (k := cells + 7) (n := slots + 42) (by omega) (by omega) ?_
  exact kk L att T hs tm tk lt f 0 hm tn pl hJ H locs ls hP hD hS hl
set_option maxHeartbeats 4000000 in
set_option maxRecDepth 100000 in
theorem law_recurrenceBound {p : Program} {l : Launch} {e : Env} {s : State} {m : MethodId} {below : List Frame} {meth : Method} {c : Code} {b Lx : Nat} {xs : Nat → Int32} {D : va_G} {g : Nat → ClassId} (hC : LC p l s m meth c b Lx xs D g) {a b' : Nat → Nat} {o iv cells slots : Nat} {Q : State → Prop} (hi : iv + 5 ≤ Lx) (hcs : cells + 7 ≤ 601024 ∧ slots + 42 ≤ 7293034) (kk : KQ p l e s m below meth c b o a b' g D iv (cells + 7) (slots + 42) Q) {L : LD} {att T : Nat} {hs tm : Nat → Int} {tk : Nat → Nat → Int} {lt : Nat → Int} {f : Nat → Int64} {th : Int} {hm : Nat → Int} {tn : Nat → Nat} {pl : Nat → Bool} (hJ : JJ L T tm tk hm tn) {H : Heap} {locs : List Loc} {ls : Array Slot} (hP : va_P D vwCl (uw a g o L att T hs tm tk lt f ++ wM b' g th L att T hm tn pl (fun _ => 0)) H) (hD : va_D (fun q : Nat => s.heap.size ≤ q) (uw a g o L att T hs tm tk lt f ++ wM b' g th L att T hm tn pl (fun _ => 0))) (hS : va_S (fun q : Nat => s.heap.size ≤ q) s.heap H locs) (hl : lv_has ls 7 [(0, .ref b), (1, .ref (a 0)), (2, .ref (b' 0)), (3, .ref o), (4, .int (iI ((iv : Nat) : Int)))]) : W p l e room_1 s m #[Value.ref b] below meth c H locs cells slots Q (F0 m 503 ls []) := by
  obtain ⟨⟨hx, hb, hr, hml, hown, hts0, hX, hbl, hlocks, hgv⟩, hLx, hl0, hK, hE, hV, hN⟩ := hC
  have hts : ∀ w ∈ wsL_law, w.before #[Value.ref b] s = true := fun w h => hts0 w (wsL_law_in w h)
  have hA : ∀ q : Nat, s.heap.size ≤ q → (fun q : Nat => s.heap.size ≤ q) q := fun _ h => h
  have hbA : ¬ (fun q : Nat => s.heap.size ≤ q) b := Nat.not_le.mpr hbl
  refine lv_aload_n hx hb dL_law_503 rfl (lv_at hl 1 rfl) ?_
  unfold uw at hP hD
  rw [List.append_assoc] at hP hD
  refine j_callL (va_runV (As := []) (rest := []) ⟨hx, hb, hml, hown, hts⟩ (c_X2_recurrenceBound l D g a L att T hs tm tk lt hJ.1 H.size) (cwV 0 hts gL_law_X2_recurrenceBound rfl rfl rfl (by decide +kernel) ⟨Nat.le_of_ble_eq_true rfl, Nat.le_of_ble_eq_true rfl⟩) (z_preV 0 hK (wj_l hP) (wj_dl hD) rfl rfl) rfl rfl hl.1 rfl (lv_room (Nat.le_of_ble_eq_true rfl)) dL_law_504 ⟨(show cells + 0 ≤ 601024 by omega), (show slots + 0 ≤ 7293034 by omega)⟩) hS hP hD hA (fun r u1 H locs h1 hP hD hS => ?_)
  obtain ⟨rfl, hs, rfl⟩ := h1
  rw [← List.append_assoc] at hP hD
  refine lv_aload_n hx hb dL_law_507 rfl (lv_at hl 2 rfl) ?_
  refine j_calli (va_runV (As := []) (rest := [.int (iI (rBz L))]) ⟨hx, hb, hml, hown, hts⟩ (c_X3_recurrenceBound l D g b' th L att T hm tn pl hJ.1 hJ.2.1 H.size) (cwV 0 hts gL_law_X3_recurrenceBound rfl rfl rfl (by decide +kernel) ⟨Nat.le_of_ble_eq_true rfl, Nat.le_of_ble_eq_true rfl⟩) (z_preV 0 hK (wj_r hP) (wj_dr hD) rfl rfl) rfl rfl hl.1 rfl (lv_room (Nat.le_of_ble_eq_true rfl)) dL_law_508 ⟨(show cells + 0 ≤ 601024 by omega), (show slots + 0 ≤ 7293034 by omega)⟩) hS hP hD hA (fun r2 v1 H locs h2 hP hD hS => ?_)
  obtain ⟨rfl, hm, hz2, rfl⟩ := h2
  have hJ : JJ L T tm tk hm tn := ⟨hJ.1, hz2, hJ.2.2⟩
  rw [rLB hJ.1]
  refine lv_icmp_eq (tgt := 1571) hx hb dL_law_511 (by decide) (fun _ => ?_) (fun h9 => absurd rfl h9)
  refine W.widen (k := cells + 7) (n := slots + 42) (by omega) (by omega) ?_
  exact kk L att T hs tm tk lt f 0 hm tn pl hJ H locs ls hP hD hS hl
set_option maxHeartbeats 4000000 in
set_option maxRecDepth 100000 in
theorem law_attempts {p : Program} {l : Launch} {e : Env} {s : State} {m : MethodId} {below : List Frame} {meth : Method} {c : Code} {b Lx : Nat} {xs : Nat → Int32} {D : va_G} {g : Nat → ClassId} (hC : LC p l s m meth c b Lx xs D g) {a b' : Nat → Nat} {o iv cells slots : Nat} {Q : State → Prop} (hi : iv + 5 ≤ Lx) (hcs : cells + 7 ≤ 601024 ∧ slots + 42 ≤ 7293034) (kk : KQ p l e s m below meth c b o a b' g D iv (cells + 7) (slots + 42) Q) {L : LD} {att T : Nat} {hs tm : Nat → Int} {tk : Nat → Nat → Int} {lt : Nat → Int} {f : Nat → Int64} {th : Int} {hm : Nat → Int} {tn : Nat → Nat} {pl : Nat → Bool} (hJ : JJ L T tm tk hm tn) {H : Heap} {locs : List Loc} {ls : Array Slot} (hP : va_P D vwCl (uw a g o L att T hs tm tk lt f ++ wM b' g th L att T hm tn pl (fun _ => 0)) H) (hD : va_D (fun q : Nat => s.heap.size ≤ q) (uw a g o L att T hs tm tk lt f ++ wM b' g th L att T hm tn pl (fun _ => 0))) (hS : va_S (fun q : Nat => s.heap.size ≤ q) s.heap H locs) (hl : lv_has ls 7 [(0, .ref b), (1, .ref (a 0)), (2, .ref (b' 0)), (3, .ref o), (4, .int (iI ((iv : Nat) : Int)))]) : W p l e room_1 s m #[Value.ref b] below meth c H locs cells slots Q (F0 m 640 ls []) := by
  obtain ⟨⟨hx, hb, hr, hml, hown, hts0, hX, hbl, hlocks, hgv⟩, hLx, hl0, hK, hE, hV, hN⟩ := hC
  have hts : ∀ w ∈ wsL_law, w.before #[Value.ref b] s = true := fun w h => hts0 w (wsL_law_in w h)
  have hA : ∀ q : Nat, s.heap.size ≤ q → (fun q : Nat => s.heap.size ≤ q) q := fun _ h => h
  have hbA : ¬ (fun q : Nat => s.heap.size ≤ q) b := Nat.not_le.mpr hbl
  refine lv_aload_n hx hb dL_law_640 rfl (lv_at hl 1 rfl) ?_
  unfold uw at hP hD
  rw [List.append_assoc] at hP hD
  refine j_callL (va_runV (As := []) (rest := []) ⟨hx, hb, hml, hown, hts⟩ (c_X2_attempts l D g a L att T hs tm tk lt H.size) (cwV 0 hts gL_law_X2_attempts rfl rfl rfl (by decide +kernel) ⟨Nat.le_of_ble_eq_true rfl, Nat.le_of_ble_eq_true rfl⟩) (z_preV 0 hK (wj_l hP) (wj_dl hD) rfl rfl) rfl rfl hl.1 rfl (lv_room (Nat.le_of_ble_eq_true rfl)) dL_law_641 ⟨(show cells + 0 ≤ 601024 by omega), (show slots + 0 ≤ 7293034 by omega)⟩) hS hP hD hA (fun r u1 H locs h1 hP hD hS => ?_)
  obtain ⟨rfl, rfl⟩ := h1
  rw [← List.append_assoc] at hP hD
  refine lv_aload_n hx hb dL_law_644 rfl (lv_at hl 2 rfl) ?_
  refine j_calli (va_runV (As := []) (rest := [.int (iI ((att : Nat)))]) ⟨hx, hb, hml, hown, hts⟩ (c_X3_attempts l D g b' th L att T hm tn pl H.size) (cwV 0 hts gL_law_X3_attempts rfl rfl rfl (by decide +kernel) ⟨Nat.le_of_ble_eq_true rfl, Nat.le_of_ble_eq_true rfl⟩) (z_preV 0 hK (wj_r hP) (wj_dr hD) rfl rfl) rfl rfl hl.1 rfl (lv_room (Nat.le_of_ble_eq_true rfl)) dL_law_645 ⟨(show cells + 0 ≤ 601024 by omega), (show slots + 0 ≤ 7293034 by omega)⟩) hS hP hD hA (fun r2 v1 H locs h2 hP hD hS => ?_)
  obtain ⟨rfl, rfl⟩ := h2
  refine lv_icmp_eq (tgt := 1571) hx hb dL_law_648 (by decide) (fun _ => ?_) (fun h9 => absurd rfl h9)
  refine W.widen (k := cells + 7) (n := slots + 42) (by omega) (by omega) ?_
  exact kk L att T hs tm tk lt f 0 hm tn pl hJ H locs ls hP hD hS hl
set_option maxHeartbeats 4000000 in
set_option maxRecDepth 100000 in
theorem law_hasSchedule {p : Program} {l : Launch} {e : Env} {s : State} {m : MethodId} {below : List Frame} {meth : Method} {c : Code} {b Lx : Nat} {xs : Nat → Int32} {D : va_G} {g : Nat → ClassId} (hC : LC p l s m meth c b Lx xs D g) {a b' : Nat → Nat} {o iv cells slots : Nat} {Q : State → Prop} (hi : iv + 5 ≤ Lx) (hcs : cells + 7 ≤ 601024 ∧ slots + 42 ≤ 7293034) (kk : KQ p l e s m below meth c b o a b' g D iv (cells + 7) (slots + 42) Q) {L : LD} {att T : Nat} {hs tm : Nat → Int} {tk : Nat → Nat → Int} {lt : Nat → Int} {f : Nat → Int64} {th : Int} {hm : Nat → Int} {tn : Nat → Nat} {pl : Nat → Bool} (hJ : JJ L T tm tk hm tn) {H : Heap} {locs : List Loc} {ls : Array Slot} (hP : va_P D vwCl (uw a g o L att T hs tm tk lt f ++ wM b' g th L att T hm tn pl (fun _ => 0)) H) (hD : va_D (fun q : Nat => s.heap.size ≤ q) (uw a g o L att T hs tm tk lt f ++ wM b' g th L att T hm tn pl (fun _ => 0))) (hS : va_S (fun q : Nat => s.heap.size ≤ q) s.heap H locs) (hl : lv_has ls 7 [(0, .ref b), (1, .ref (a 0)), (2, .ref (b' 0)), (3, .ref o), (4, .int (iI ((iv : Nat) : Int)))]) : W p l e room_1 s m #[Value.ref b] below meth c H locs cells slots Q (F0 m 653 ls []) := by
  obtain ⟨⟨hx, hb, hr, hml, hown, hts0, hX, hbl, hlocks, hgv⟩, hLx, hl0, hK, hE, hV, hN⟩ := hC
  have hts : ∀ w ∈ wsL_law, w.before #[Value.ref b] s = true := fun w h => hts0 w (wsL_law_in w h)
  have hA : ∀ q : Nat, s.heap.size ≤ q → (fun q : Nat => s.heap.size ≤ q) q := fun _ h => h
  have hbA : ¬ (fun q : Nat => s.heap.size ≤ q) b := Nat.not_le.mpr hbl
  refine lv_aload_n hx hb dL_law_653 rfl (lv_at hl 1 rfl) ?_
  unfold uw at hP hD
  rw [List.append_assoc] at hP hD
  refine j_callL (va_runV (As := []) (rest := []) ⟨hx, hb, hml, hown, hts⟩ (c_X2_hasSchedule l D g a L att T hs tm tk lt hJ.2.2.2.1 H.size) (cwV 0 hts gL_law_X2_hasSchedule rfl rfl rfl (by decide +kernel) ⟨Nat.le_of_ble_eq_true rfl, Nat.le_of_ble_eq_true rfl⟩) (z_preV 0 hK (wj_l hP) (wj_dl hD) rfl rfl) rfl rfl hl.1 rfl (lv_room (Nat.le_of_ble_eq_true rfl)) dL_law_654 ⟨(show cells + 0 ≤ 601024 by omega), (show slots + 0 ≤ 7293034 by omega)⟩) hS hP hD hA (fun r u1 H locs h1 hP hD hS => ?_)
  obtain ⟨rfl, rfl⟩ := h1
  rw [← List.append_assoc] at hP hD
  refine lv_aload_n hx hb dL_law_657 rfl (lv_at hl 2 rfl) ?_
  refine j_calli (va_runV (As := []) (rest := [.int (iI (bI (decide (0 < T))))]) ⟨hx, hb, hml, hown, hts⟩ (c_X3_hasSchedule l D g b' th L att T hm tn pl hJ.2.2.2.1 H.size) (cwV 0 hts gL_law_X3_hasSchedule rfl rfl rfl (by decide +kernel) ⟨Nat.le_of_ble_eq_true rfl, Nat.le_of_ble_eq_true rfl⟩) (z_preV 0 hK (wj_r hP) (wj_dr hD) rfl rfl) rfl rfl hl.1 rfl (lv_room (Nat.le_of_ble_eq_true rfl)) dL_law_658 ⟨(show cells + 0 ≤ 601024 by omega), (show slots + 0 ≤ 7293034 by omega)⟩) hS hP hD hA (fun r2 v1 H locs h2 hP hD hS => ?_)
  obtain ⟨rfl, rfl⟩ := h2
  refine lv_icmp_eq (tgt := 1571) hx hb dL_law_661 (by decide) (fun _ => ?_) (fun h9 => absurd rfl h9)
  refine W.widen (k := cells + 7) (n := slots + 42) (by omega) (by omega) ?_
  exact kk L att T hs tm tk lt f 0 hm tn pl hJ H locs ls hP hD hS hl
set_option maxHeartbeats 4000000 in
set_option maxRecDepth 100000 in
theorem law_digest {p : Program} {l : Launch} {e : Env} {s : State} {m : MethodId} {below : List Frame} {meth : Method} {c : Code} {b Lx : Nat} {xs : Nat → Int32} {D : va_G} {g : Nat → ClassId} (hC : LC p l s m meth c b Lx xs D g) {a b' : Nat → Nat} {o iv cells slots : Nat} {Q : State → Prop} (hi : iv + 5 ≤ Lx) (hcs : cells + 7 ≤ 601024 ∧ slots + 42 ≤ 7293034) (kk : KQ p l e s m below meth c b o a b' g D iv (cells + 7) (slots + 42) Q) {L : LD} {att T : Nat} {hs tm : Nat → Int} {tk : Nat → Nat → Int} {lt : Nat → Int} {f : Nat → Int64} {th : Int} {hm : Nat → Int} {tn : Nat → Nat} {pl : Nat → Bool} (hJ : JJ L T tm tk hm tn) {H : Heap} {locs : List Loc} {ls : Array Slot} (hP : va_P D vwCl (uw a g o L att T hs tm tk lt f ++ wM b' g th L att T hm tn pl (fun _ => 0)) H) (hD : va_D (fun q : Nat => s.heap.size ≤ q) (uw a g o L att T hs tm tk lt f ++ wM b' g th L att T hm tn pl (fun _ => 0))) (hS : va_S (fun q : Nat => s.heap.size ≤ q) s.heap H locs) (hl : lv_has ls 7 [(0, .ref b), (1, .ref (a 0)), (2, .ref (b' 0)), (3, .ref o), (4, .int (iI ((iv : Nat) : Int)))]) : W p l e room_1 s m #[Value.ref b] below meth c H locs cells slots Q (F0 m 1557 ls []) := by
  obtain ⟨⟨hx, hb, hr, hml, hown, hts0, hX, hbl, hlocks, hgv⟩, hLx, hl0, hK, hE, hV, hN⟩ := hC
  have hts : ∀ w ∈ wsL_law, w.before #[Value.ref b] s = true := fun w h => hts0 w (wsL_law_in w h)
  have hA : ∀ q : Nat, s.heap.size ≤ q → (fun q : Nat => s.heap.size ≤ q) q := fun _ h => h
  have hbA : ¬ (fun q : Nat => s.heap.size ≤ q) b := Nat.not_le.mpr hbl
  refine lv_aload_n hx hb dL_law_1557 rfl (lv_at hl 1 rfl) ?_
  unfold uw at hP hD
  rw [List.append_assoc] at hP hD
  refine j_calllL (va_runV (As := []) (rest := []) ⟨hx, hb, hml, hown, hts⟩ (c_X2_digest l D g a L att T hs tm tk lt hJ.1 hJ.2.2.2.1 H.size) (cwV 0 hts gL_law_X2_digest rfl rfl rfl (by decide +kernel) ⟨Nat.le_of_ble_eq_true rfl, Nat.le_of_ble_eq_true rfl⟩) (z_preV 0 hK (wj_l hP) (wj_dl hD) rfl rfl) rfl rfl hl.1 rfl (lv_room (Nat.le_of_ble_eq_true rfl)) dL_law_1558 ⟨(show cells + 0 ≤ 601024 by omega), (show slots + 0 ≤ 7293034 by omega)⟩) hS hP hD hA (fun r u1 H locs h1 hP hD hS => ?_)
  obtain ⟨rfl, rfl⟩ := h1
  rw [← List.append_assoc] at hP hD
  refine lv_aload_n hx hb dL_law_1561 rfl (lv_at hl 2 rfl) ?_
  refine j_calll (va_runV (As := []) (rest := [.long (dg L T tm)]) ⟨hx, hb, hml, hown, hts⟩ (c_X3_digest l D g b' th L att T hm tn pl hJ.1 hJ.2.2.2.1 H.size) (cwV 0 hts gL_law_X3_digest rfl rfl rfl (by decide +kernel) ⟨Nat.le_of_ble_eq_true rfl, Nat.le_of_ble_eq_true rfl⟩) (z_preV 0 hK (wj_r hP) (wj_dr hD) rfl rfl) rfl rfl hl.1 rfl (lv_room (Nat.le_of_ble_eq_true rfl)) dL_law_1562 ⟨(show cells + 0 ≤ 601024 by omega), (show slots + 0 ≤ 7293034 by omega)⟩) hS hP hD hA (fun r2 v1 H locs h2 hP hD hS => ?_)
  obtain ⟨rfl, rfl⟩ := h2
  have hdg9 : dg L T tm = dg L T (nZ tn) := by
    unfold dg
    by_cases h0 : 0 < T
    · rw [if_pos h0, if_pos h0]; exact dgT_cg (Ln L) (JJ_r hJ h0)
    · rw [if_neg h0, if_neg h0]; rfl
  rw [hdg9]
  refine W.lcmp hx hb dL_law_1565 ?_
  rw [cmp_s]
  refine lv_if_eq (tgt := 1571) hx hb dL_law_1566 (by decide) (fun _ => ?_) (fun h9 => absurd rfl h9)
  refine W.widen (k := cells + 7) (n := slots + 42) (by omega) (by omega) ?_
  exact kk L att T hs tm tk lt f 0 hm tn pl hJ H locs ls hP hD hS hl

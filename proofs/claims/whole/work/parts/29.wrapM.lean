theorem updL_0 (f : Nat → Int64) (x : Int64) : vp_updL f (iI 0).toNatClampNeg x 0 = x := if_pos (by decide)
theorem vin0 : vp_in (iI 0) 1 := by unfold vp_in; decide
set_option maxHeartbeats 4000000 in
set_option maxRecDepth 100000 in
theorem c_L_setUnits (l : Launch) (D : va_G) (g : Nat → ClassId) (o ad : Nat) (f0 : Nat → Int64) (u : va_W) (fs : List Value) (hu0 : u[0]? = some (ad, .inr (2, fs))) (i1 : Int32) (i2 : Int32) (post : Int32 → va_W → Prop) (px : String → va_W → Prop) (hM : xMi l D (zT g) yX2_setUnits wsX2_setUnits 7 102 2 u [.ref ad, .int i1, .int i2] post px) (hpx : ∀ (E : String) (w9 : va_W), px E w9 → E = nIX ∨ E = nIA) : yMi l D (zT g) yL_setUnits wsL_setUnits 8 125 2 (u ++ [(o, oc g f0)]) [.ref ad, .int i1, .int i2, .ref o] (wpost post px g o f0 (fun r0 => r0.toInt64) [(nIX, 1), (nIA, 2)]) := by
  refine y_of (cc := cL_setUnits) (maxL := 5) (hh := [(0, 10, 13, 13), (0, 10, 17, 15)]) (by decide) rfl (Nat.le_of_ble_eq_true rfl) ?_
  intro p e s m args below meth c A ls hx hb hr hts hown hlocks hml hP hK hD hS hA hl hE hV hN htb Q hQ
  have hown : s.vm.findClass RL = some m.cls := hown
  have hl : lv_has ls 5 [(0, .ref ad), (1, .int i1), (2, .int i2), (3, .ref o)] := hl
  have hPu := wj_l hP
  have hDu := wj_dl hD
  refine lv_aload_n hx hb dL_setUnits_0 rfl (lv_at hl 3 rfl) ?_
  refine z_ic hx hb dL_setUnits_1 ?_
  refine lv_aload_n hx hb dL_setUnits_2 rfl (lv_at hl 0 rfl) ?_
  refine lv_iload_n hx hb dL_setUnits_3 rfl (lv_at hl 1 rfl) ?_
  refine lv_iload_n hx hb dL_setUnits_4 rfl (lv_at hl 2 rfl) ?_
  refine vx_calli (vx_runV (As := [.int i1, .int i2]) (rest := [.int (iI 0), .ref o]) ⟨hx, hb, hml, hown, hts⟩ (hM s.heap.size) (cwV 2 hts gL_setUnits_X2_setUnits rfl rfl rfl (by decide +kernel) ⟨Nat.le_of_ble_eq_true rfl, Nat.le_of_ble_eq_true rfl⟩) (x_preV 0 hK hPu hDu hS hA hE hV rfl hu0) rfl rfl hl.1 rfl (lv_room (Nat.le_of_ble_eq_true rfl)) dL_setUnits_5 ⟨Nat.le_of_ble_eq_true rfl, Nat.le_of_ble_eq_true rfl⟩) hS (fun q _ h => z_free hDu hS hA q h) (fun q h => z_free hDu hS hA q h) (fun q _ h => z_free hDu hS hA q h) (fun E ce q9 u1 t H locs ht hvm _ hB hz hkeep hS1 hcell hv hcl => ?_) (fun r u1 t H locs ht hvm hp hB hz hkeep hS1 => ?_)
  · obtain ⟨hpu, hP1, hK1, hD1⟩ := hB
    rw [ht] at hP1
    obtain ⟨hP, hD⟩ := wj_join hP hD hkeep (fun q h => z_free hDu hS hA q h) hP1 hD1
    rcases hpx E u1 hpu with rfl | rfl
    · refine vx_catch (name := "java/lang/IndexOutOfBoundsException") hown [] ⟨0, 10, 13, 13⟩ [⟨0, 10, 17, 15⟩] htb (fun z hz => absurd hz List.not_mem_nil) rfl (by decide) (hts (.classLink RL 13 "java/lang/IndexOutOfBoundsException") (List.mem_of_getElem? (i := 1) rfl)) (va_Nw.use rfl hV.1.2.2.2.2.2) hcell hv hcl ?_
      refine lv_astore (lv' := [(4, .ref q9), (0, .ref ad), (1, .int i1), (2, .int i2), (3, .ref o)]) hx hb dL_setUnits_13 hl (by decide) rfl (fun ls hl => ?_)
      refine z_ic hx hb dL_setUnits_15 ?_
      exact x_iret (w := u1 ++ [(o, oc g f0)]) (v := iI 1) (px := yF) hQ hx hb hr hlocks (Or.inr ⟨_, u1, 1, List.mem_of_getElem? (i := 0) rfl, hpu, rfl, rfl⟩) hK hP hD hS1 (Nat.le_of_ble_eq_true rfl) (Nat.le_of_ble_eq_true rfl) dL_setUnits_16
    · refine vx_catch (name := "java/lang/IllegalArgumentException") hown [⟨0, 10, 13, 13⟩] ⟨0, 10, 17, 15⟩ [] htb (fun z hz => by obtain rfl := List.mem_singleton.mp hz; exact Or.inr ⟨by decide, "java/lang/IndexOutOfBoundsException", (hts (.classLink RL 13 "java/lang/IndexOutOfBoundsException") (List.mem_of_getElem? (i := 1) rfl)), hN _ (List.mem_of_getElem? (i := 1) rfl)⟩) rfl (by decide) (hts (.classLink RL 15 "java/lang/IllegalArgumentException") (List.mem_of_getElem? (i := 2) rfl)) (va_Nw.use rfl hV.1.2.2.2.1) hcell hv hcl ?_
      refine lv_astore (lv' := [(4, .ref q9), (0, .ref ad), (1, .int i1), (2, .int i2), (3, .ref o)]) hx hb dL_setUnits_17 hl (by decide) rfl (fun ls hl => ?_)
      refine z_ic hx hb dL_setUnits_19 ?_
      exact x_iret (w := u1 ++ [(o, oc g f0)]) (v := iI 2) (px := yF) hQ hx hb hr hlocks (Or.inr ⟨_, u1, 2, List.mem_of_getElem? (i := 1) rfl, hpu, rfl, rfl⟩) hK hP hD hS1 (Nat.le_of_ble_eq_true rfl) (Nat.le_of_ble_eq_true rfl) dL_setUnits_20
  · obtain ⟨hP1, hK1, hD1⟩ := hB
    rw [ht] at hP1
    obtain ⟨hP, hD⟩ := wj_join hP hD hkeep (fun q h => z_free hDu hS hA q h) hP1 hD1
    refine lv_i2l (v := r.toInt64) hx hb dL_setUnits_8 rfl ?_
    refine va_last (x := r.toInt64) hx hb hK hP hD hS1 u1.length 3 wj_at rfl vin0 dL_setUnits_9 (fun H locs hP hD hS => ?_)
    rw [wj_set] at hP hD
    refine lv_goto (tgt := 21) hx hb dL_setUnits_10 (by decide) ?_
    refine z_ic hx hb dL_setUnits_21 ?_
    exact x_iret (w := u1 ++ [(o, oc g (vp_updL f0 (iI 0).toNatClampNeg r.toInt64))]) (v := iI 0) (px := yF) hQ hx hb hr hlocks (Or.inl ⟨r, u1, _, hp, rfl, updL_0 _ _, rfl⟩) hK hP hD hS (Nat.le_of_ble_eq_true rfl) (Nat.le_of_ble_eq_true rfl) dL_setUnits_22
set_option maxHeartbeats 4000000 in
set_option maxRecDepth 100000 in
theorem c_L_addOperation (l : Launch) (D : va_G) (g : Nat → ClassId) (o ad : Nat) (f0 : Nat → Int64) (u : va_W) (fs : List Value) (hu0 : u[0]? = some (ad, .inr (2, fs))) (i1 : Int32) (i2 : Int32) (post : Int32 → va_W → Prop) (px : String → va_W → Prop) (hM : xMi l D (zT g) yX2_addOperation wsX2_addOperation 6 82 1 u [.ref ad, .int i1, .int i2] post px) (hpx : ∀ (E : String) (w9 : va_W), px E w9 → E = nIA ∨ E = nIS) : yMi l D (zT g) yL_addOperation wsL_addOperation 7 104 1 (u ++ [(o, oc g f0)]) [.ref ad, .int i1, .int i2, .ref o] (wpost post px g o f0 (fun r0 => r0.toInt64) [(nIA, 1), (nIS, 2)]) := by
  refine y_of (cc := cL_addOperation) (maxL := 5) (hh := [(0, 10, 13, 15), (0, 10, 17, 20)]) (by decide) rfl (Nat.le_of_ble_eq_true rfl) ?_
  intro p e s m args below meth c A ls hx hb hr hts hown hlocks hml hP hK hD hS hA hl hE hV hN htb Q hQ
  have hown : s.vm.findClass RL = some m.cls := hown
  have hl : lv_has ls 5 [(0, .ref ad), (1, .int i1), (2, .int i2), (3, .ref o)] := hl
  have hPu := wj_l hP
  have hDu := wj_dl hD
  refine lv_aload_n hx hb dL_addOperation_0 rfl (lv_at hl 3 rfl) ?_
  refine z_ic hx hb dL_addOperation_1 ?_
  refine lv_aload_n hx hb dL_addOperation_2 rfl (lv_at hl 0 rfl) ?_
  refine lv_iload_n hx hb dL_addOperation_3 rfl (lv_at hl 1 rfl) ?_
  refine lv_iload_n hx hb dL_addOperation_4 rfl (lv_at hl 2 rfl) ?_
  refine vx_calli (vx_runV (As := [.int i1, .int i2]) (rest := [.int (iI 0), .ref o]) ⟨hx, hb, hml, hown, hts⟩ (hM s.heap.size) (cwV 2 hts gL_addOperation_X2_addOperation rfl rfl rfl (by decide +kernel) ⟨Nat.le_of_ble_eq_true rfl, Nat.le_of_ble_eq_true rfl⟩) (x_preV 0 hK hPu hDu hS hA hE hV rfl hu0) rfl rfl hl.1 rfl (lv_room (Nat.le_of_ble_eq_true rfl)) dL_addOperation_5 ⟨Nat.le_of_ble_eq_true rfl, Nat.le_of_ble_eq_true rfl⟩) hS (fun q _ h => z_free hDu hS hA q h) (fun q h => z_free hDu hS hA q h) (fun q _ h => z_free hDu hS hA q h) (fun E ce q9 u1 t H locs ht hvm _ hB hz hkeep hS1 hcell hv hcl => ?_) (fun r u1 t H locs ht hvm hp hB hz hkeep hS1 => ?_)
  · obtain ⟨hpu, hP1, hK1, hD1⟩ := hB
    rw [ht] at hP1
    obtain ⟨hP, hD⟩ := wj_join hP hD hkeep (fun q h => z_free hDu hS hA q h) hP1 hD1
    rcases hpx E u1 hpu with rfl | rfl
    · refine vx_catch (name := "java/lang/IllegalArgumentException") hown [] ⟨0, 10, 13, 15⟩ [⟨0, 10, 17, 20⟩] htb (fun z hz => absurd hz List.not_mem_nil) rfl (by decide) (hts (.classLink RL 15 "java/lang/IllegalArgumentException") (List.mem_of_getElem? (i := 1) rfl)) (va_Nw.use rfl hV.1.2.2.2.1) hcell hv hcl ?_
      refine lv_astore (lv' := [(4, .ref q9), (0, .ref ad), (1, .int i1), (2, .int i2), (3, .ref o)]) hx hb dL_addOperation_13 hl (by decide) rfl (fun ls hl => ?_)
      refine z_ic hx hb dL_addOperation_15 ?_
      exact x_iret (w := u1 ++ [(o, oc g f0)]) (v := iI 1) (px := yF) hQ hx hb hr hlocks (Or.inr ⟨_, u1, 1, List.mem_of_getElem? (i := 0) rfl, hpu, rfl, rfl⟩) hK hP hD hS1 (Nat.le_of_ble_eq_true rfl) (Nat.le_of_ble_eq_true rfl) dL_addOperation_16
    · refine vx_catch (name := "java/lang/IllegalStateException") hown [⟨0, 10, 13, 15⟩] ⟨0, 10, 17, 20⟩ [] htb (fun z hz => by obtain rfl := List.mem_singleton.mp hz; exact Or.inr ⟨by decide, "java/lang/IllegalArgumentException", (hts (.classLink RL 15 "java/lang/IllegalArgumentException") (List.mem_of_getElem? (i := 1) rfl)), hN _ (List.mem_of_getElem? (i := 2) rfl)⟩) rfl (by decide) (hts (.classLink RL 20 "java/lang/IllegalStateException") (List.mem_of_getElem? (i := 2) rfl)) (va_Nw.use rfl hV.1.2.2.2.2.1) hcell hv hcl ?_
      refine lv_astore (lv' := [(4, .ref q9), (0, .ref ad), (1, .int i1), (2, .int i2), (3, .ref o)]) hx hb dL_addOperation_17 hl (by decide) rfl (fun ls hl => ?_)
      refine z_ic hx hb dL_addOperation_19 ?_
      exact x_iret (w := u1 ++ [(o, oc g f0)]) (v := iI 2) (px := yF) hQ hx hb hr hlocks (Or.inr ⟨_, u1, 2, List.mem_of_getElem? (i := 1) rfl, hpu, rfl, rfl⟩) hK hP hD hS1 (Nat.le_of_ble_eq_true rfl) (Nat.le_of_ble_eq_true rfl) dL_addOperation_20
  · obtain ⟨hP1, hK1, hD1⟩ := hB
    rw [ht] at hP1
    obtain ⟨hP, hD⟩ := wj_join hP hD hkeep (fun q h => z_free hDu hS hA q h) hP1 hD1
    refine lv_i2l (v := r.toInt64) hx hb dL_addOperation_8 rfl ?_
    refine va_last (x := r.toInt64) hx hb hK hP hD hS1 u1.length 3 wj_at rfl vin0 dL_addOperation_9 (fun H locs hP hD hS => ?_)
    rw [wj_set] at hP hD
    refine lv_goto (tgt := 21) hx hb dL_addOperation_10 (by decide) ?_
    refine z_ic hx hb dL_addOperation_21 ?_
    exact x_iret (w := u1 ++ [(o, oc g (vp_updL f0 (iI 0).toNatClampNeg r.toInt64))]) (v := iI 0) (px := yF) hQ hx hb hr hlocks (Or.inl ⟨r, u1, _, hp, rfl, updL_0 _ _, rfl⟩) hK hP hD hS (Nat.le_of_ble_eq_true rfl) (Nat.le_of_ble_eq_true rfl) dL_addOperation_22
set_option maxHeartbeats 4000000 in
set_option maxRecDepth 100000 in
theorem c_L_addDependence (l : Launch) (D : va_G) (g : Nat → ClassId) (o ad : Nat) (f0 : Nat → Int64) (u : va_W) (fs : List Value) (hu0 : u[0]? = some (ad, .inr (2, fs))) (i1 : Int32) (i2 : Int32) (i3 : Int32) (i4 : Int32) (post : Int32 → va_W → Prop) (px : String → va_W → Prop) (hM : xMi l D (zT g) yX2_addDependence wsX2_addDependence 7 103 4 u [.ref ad, .int i1, .int i2, .int i3, .int i4] post px) (hpx : ∀ (E : String) (w9 : va_W), px E w9 → E = nIX ∨ E = nIA ∨ E = nIS) : yMi l D (zT g) yL_addDependence wsL_addDependence 8 127 4 (u ++ [(o, oc g f0)]) [.ref ad, .int i1, .int i2, .int i3, .int i4, .ref o] (wpost post px g o f0 (fun r0 => r0.toInt64) [(nIX, 1), (nIA, 2), (nIS, 3)]) := by
  refine y_of (cc := cL_addDependence) (maxL := 7) (hh := [(0, 14, 17, 13), (0, 14, 21, 15), (0, 14, 25, 20)]) (by decide) rfl (Nat.le_of_ble_eq_true rfl) ?_
  intro p e s m args below meth c A ls hx hb hr hts hown hlocks hml hP hK hD hS hA hl hE hV hN htb Q hQ
  have hown : s.vm.findClass RL = some m.cls := hown
  have hl : lv_has ls 7 [(0, .ref ad), (1, .int i1), (2, .int i2), (3, .int i3), (4, .int i4), (5, .ref o)] := hl
  have hPu := wj_l hP
  have hDu := wj_dl hD
  refine lv_aload hx hb dL_addDependence_0 (lv_at hl 5 rfl) ?_
  refine z_ic hx hb dL_addDependence_2 ?_
  refine lv_aload_n hx hb dL_addDependence_3 rfl (lv_at hl 0 rfl) ?_
  refine lv_iload_n hx hb dL_addDependence_4 rfl (lv_at hl 1 rfl) ?_
  refine lv_iload_n hx hb dL_addDependence_5 rfl (lv_at hl 2 rfl) ?_
  refine lv_iload_n hx hb dL_addDependence_6 rfl (lv_at hl 3 rfl) ?_
  refine lv_iload hx hb dL_addDependence_7 (lv_at hl 4 rfl) ?_
  refine vx_calli (vx_runV (As := [.int i1, .int i2, .int i3, .int i4]) (rest := [.int (iI 0), .ref o]) ⟨hx, hb, hml, hown, hts⟩ (hM s.heap.size) (cwV 4 hts gL_addDependence_X2_addDependence rfl rfl rfl (by decide +kernel) ⟨Nat.le_of_ble_eq_true rfl, Nat.le_of_ble_eq_true rfl⟩) (x_preV 0 hK hPu hDu hS hA hE hV rfl hu0) rfl rfl hl.1 rfl (lv_room (Nat.le_of_ble_eq_true rfl)) dL_addDependence_9 ⟨Nat.le_of_ble_eq_true rfl, Nat.le_of_ble_eq_true rfl⟩) hS (fun q _ h => z_free hDu hS hA q h) (fun q h => z_free hDu hS hA q h) (fun q _ h => z_free hDu hS hA q h) (fun E ce q9 u1 t H locs ht hvm _ hB hz hkeep hS1 hcell hv hcl => ?_) (fun r u1 t H locs ht hvm hp hB hz hkeep hS1 => ?_)
  · obtain ⟨hpu, hP1, hK1, hD1⟩ := hB
    rw [ht] at hP1
    obtain ⟨hP, hD⟩ := wj_join hP hD hkeep (fun q h => z_free hDu hS hA q h) hP1 hD1
    rcases hpx E u1 hpu with rfl | rfl | rfl
    · refine vx_catch (name := "java/lang/IndexOutOfBoundsException") hown [] ⟨0, 14, 17, 13⟩ [⟨0, 14, 21, 15⟩, ⟨0, 14, 25, 20⟩] htb (fun z hz => absurd hz List.not_mem_nil) rfl (by decide) (hts (.classLink RL 13 "java/lang/IndexOutOfBoundsException") (List.mem_of_getElem? (i := 1) rfl)) (va_Nw.use rfl hV.1.2.2.2.2.2) hcell hv hcl ?_
      refine lv_astore (lv' := [(6, .ref q9), (0, .ref ad), (1, .int i1), (2, .int i2), (3, .int i3), (4, .int i4), (5, .ref o)]) hx hb dL_addDependence_17 hl (by decide) rfl (fun ls hl => ?_)
      refine z_ic hx hb dL_addDependence_19 ?_
      exact x_iret (w := u1 ++ [(o, oc g f0)]) (v := iI 1) (px := yF) hQ hx hb hr hlocks (Or.inr ⟨_, u1, 1, List.mem_of_getElem? (i := 0) rfl, hpu, rfl, rfl⟩) hK hP hD hS1 (Nat.le_of_ble_eq_true rfl) (Nat.le_of_ble_eq_true rfl) dL_addDependence_20
    · refine vx_catch (name := "java/lang/IllegalArgumentException") hown [⟨0, 14, 17, 13⟩] ⟨0, 14, 21, 15⟩ [⟨0, 14, 25, 20⟩] htb (fun z hz => by obtain rfl := List.mem_singleton.mp hz; exact Or.inr ⟨by decide, "java/lang/IndexOutOfBoundsException", (hts (.classLink RL 13 "java/lang/IndexOutOfBoundsException") (List.mem_of_getElem? (i := 1) rfl)), hN _ (List.mem_of_getElem? (i := 1) rfl)⟩) rfl (by decide) (hts (.classLink RL 15 "java/lang/IllegalArgumentException") (List.mem_of_getElem? (i := 2) rfl)) (va_Nw.use rfl hV.1.2.2.2.1) hcell hv hcl ?_
      refine lv_astore (lv' := [(6, .ref q9), (0, .ref ad), (1, .int i1), (2, .int i2), (3, .int i3), (4, .int i4), (5, .ref o)]) hx hb dL_addDependence_21 hl (by decide) rfl (fun ls hl => ?_)
      refine z_ic hx hb dL_addDependence_23 ?_
      exact x_iret (w := u1 ++ [(o, oc g f0)]) (v := iI 2) (px := yF) hQ hx hb hr hlocks (Or.inr ⟨_, u1, 2, List.mem_of_getElem? (i := 1) rfl, hpu, rfl, rfl⟩) hK hP hD hS1 (Nat.le_of_ble_eq_true rfl) (Nat.le_of_ble_eq_true rfl) dL_addDependence_24
    · refine vx_catch (name := "java/lang/IllegalStateException") hown [⟨0, 14, 17, 13⟩, ⟨0, 14, 21, 15⟩] ⟨0, 14, 25, 20⟩ [] htb (fun z hz => (List.mem_cons.mp hz).elim (fun e9 => by subst e9; exact Or.inr ⟨by decide, "java/lang/IndexOutOfBoundsException", (hts (.classLink RL 13 "java/lang/IndexOutOfBoundsException") (List.mem_of_getElem? (i := 1) rfl)), hN _ (List.mem_of_getElem? (i := 3) rfl)⟩) (fun h9 => by obtain rfl := List.mem_singleton.mp h9; exact Or.inr ⟨by decide, "java/lang/IllegalArgumentException", (hts (.classLink RL 15 "java/lang/IllegalArgumentException") (List.mem_of_getElem? (i := 2) rfl)), hN _ (List.mem_of_getElem? (i := 2) rfl)⟩)) rfl (by decide) (hts (.classLink RL 20 "java/lang/IllegalStateException") (List.mem_of_getElem? (i := 3) rfl)) (va_Nw.use rfl hV.1.2.2.2.2.1) hcell hv hcl ?_
      refine lv_astore (lv' := [(6, .ref q9), (0, .ref ad), (1, .int i1), (2, .int i2), (3, .int i3), (4, .int i4), (5, .ref o)]) hx hb dL_addDependence_25 hl (by decide) rfl (fun ls hl => ?_)
      refine z_ic hx hb dL_addDependence_27 ?_
      exact x_iret (w := u1 ++ [(o, oc g f0)]) (v := iI 3) (px := yF) hQ hx hb hr hlocks (Or.inr ⟨_, u1, 3, List.mem_of_getElem? (i := 2) rfl, hpu, rfl, rfl⟩) hK hP hD hS1 (Nat.le_of_ble_eq_true rfl) (Nat.le_of_ble_eq_true rfl) dL_addDependence_28
  · obtain ⟨hP1, hK1, hD1⟩ := hB
    rw [ht] at hP1
    obtain ⟨hP, hD⟩ := wj_join hP hD hkeep (fun q h => z_free hDu hS hA q h) hP1 hD1
    refine lv_i2l (v := r.toInt64) hx hb dL_addDependence_12 rfl ?_
    refine va_last (x := r.toInt64) hx hb hK hP hD hS1 u1.length 3 wj_at rfl vin0 dL_addDependence_13 (fun H locs hP hD hS => ?_)
    rw [wj_set] at hP hD
    refine lv_goto (tgt := 29) hx hb dL_addDependence_14 (by decide) ?_
    refine z_ic hx hb dL_addDependence_29 ?_
    exact x_iret (w := u1 ++ [(o, oc g (vp_updL f0 (iI 0).toNatClampNeg r.toInt64))]) (v := iI 0) (px := yF) hQ hx hb hr hlocks (Or.inl ⟨r, u1, _, hp, rfl, updL_0 _ _, rfl⟩) hK hP hD hS (Nat.le_of_ble_eq_true rfl) (Nat.le_of_ble_eq_true rfl) dL_addDependence_30
set_option maxHeartbeats 4000000 in
set_option maxRecDepth 100000 in
theorem c_L_setDelay (l : Launch) (D : va_G) (g : Nat → ClassId) (o ad : Nat) (f0 : Nat → Int64) (u : va_W) (fs : List Value) (hu0 : u[0]? = some (ad, .inr (2, fs))) (i1 : Int32) (i2 : Int32) (post : Int32 → va_W → Prop) (px : String → va_W → Prop) (hM : xMi l D (zT g) yX2_setDelay wsX2_setDelay 7 102 2 u [.ref ad, .int i1, .int i2] post px) (hpx : ∀ (E : String) (w9 : va_W), px E w9 → E = nIX ∨ E = nIA) : yMi l D (zT g) yL_setDelay wsL_setDelay 8 125 2 (u ++ [(o, oc g f0)]) [.ref ad, .int i1, .int i2, .ref o] (wpost post px g o f0 (fun r0 => r0.toInt64) [(nIX, 1), (nIA, 2)]) := by
  refine y_of (cc := cL_setDelay) (maxL := 5) (hh := [(0, 10, 13, 13), (0, 10, 17, 15)]) (by decide) rfl (Nat.le_of_ble_eq_true rfl) ?_
  intro p e s m args below meth c A ls hx hb hr hts hown hlocks hml hP hK hD hS hA hl hE hV hN htb Q hQ
  have hown : s.vm.findClass RL = some m.cls := hown
  have hl : lv_has ls 5 [(0, .ref ad), (1, .int i1), (2, .int i2), (3, .ref o)] := hl
  have hPu := wj_l hP
  have hDu := wj_dl hD
  refine lv_aload_n hx hb dL_setDelay_0 rfl (lv_at hl 3 rfl) ?_
  refine z_ic hx hb dL_setDelay_1 ?_
  refine lv_aload_n hx hb dL_setDelay_2 rfl (lv_at hl 0 rfl) ?_
  refine lv_iload_n hx hb dL_setDelay_3 rfl (lv_at hl 1 rfl) ?_
  refine lv_iload_n hx hb dL_setDelay_4 rfl (lv_at hl 2 rfl) ?_
  refine vx_calli (vx_runV (As := [.int i1, .int i2]) (rest := [.int (iI 0), .ref o]) ⟨hx, hb, hml, hown, hts⟩ (hM s.heap.size) (cwV 2 hts gL_setDelay_X2_setDelay rfl rfl rfl (by decide +kernel) ⟨Nat.le_of_ble_eq_true rfl, Nat.le_of_ble_eq_true rfl⟩) (x_preV 0 hK hPu hDu hS hA hE hV rfl hu0) rfl rfl hl.1 rfl (lv_room (Nat.le_of_ble_eq_true rfl)) dL_setDelay_5 ⟨Nat.le_of_ble_eq_true rfl, Nat.le_of_ble_eq_true rfl⟩) hS (fun q _ h => z_free hDu hS hA q h) (fun q h => z_free hDu hS hA q h) (fun q _ h => z_free hDu hS hA q h) (fun E ce q9 u1 t H locs ht hvm _ hB hz hkeep hS1 hcell hv hcl => ?_) (fun r u1 t H locs ht hvm hp hB hz hkeep hS1 => ?_)
  · obtain ⟨hpu, hP1, hK1, hD1⟩ := hB
    rw [ht] at hP1
    obtain ⟨hP, hD⟩ := wj_join hP hD hkeep (fun q h => z_free hDu hS hA q h) hP1 hD1
    rcases hpx E u1 hpu with rfl | rfl
    · refine vx_catch (name := "java/lang/IndexOutOfBoundsException") hown [] ⟨0, 10, 13, 13⟩ [⟨0, 10, 17, 15⟩] htb (fun z hz => absurd hz List.not_mem_nil) rfl (by decide) (hts (.classLink RL 13 "java/lang/IndexOutOfBoundsException") (List.mem_of_getElem? (i := 1) rfl)) (va_Nw.use rfl hV.1.2.2.2.2.2) hcell hv hcl ?_
      refine lv_astore (lv' := [(4, .ref q9), (0, .ref ad), (1, .int i1), (2, .int i2), (3, .ref o)]) hx hb dL_setDelay_13 hl (by decide) rfl (fun ls hl => ?_)
      refine z_ic hx hb dL_setDelay_15 ?_
      exact x_iret (w := u1 ++ [(o, oc g f0)]) (v := iI 1) (px := yF) hQ hx hb hr hlocks (Or.inr ⟨_, u1, 1, List.mem_of_getElem? (i := 0) rfl, hpu, rfl, rfl⟩) hK hP hD hS1 (Nat.le_of_ble_eq_true rfl) (Nat.le_of_ble_eq_true rfl) dL_setDelay_16
    · refine vx_catch (name := "java/lang/IllegalArgumentException") hown [⟨0, 10, 13, 13⟩] ⟨0, 10, 17, 15⟩ [] htb (fun z hz => by obtain rfl := List.mem_singleton.mp hz; exact Or.inr ⟨by decide, "java/lang/IndexOutOfBoundsException", (hts (.classLink RL 13 "java/lang/IndexOutOfBoundsException") (List.mem_of_getElem? (i := 1) rfl)), hN _ (List.mem_of_getElem? (i := 1) rfl)⟩) rfl (by decide) (hts (.classLink RL 15 "java/lang/IllegalArgumentException") (List.mem_of_getElem? (i := 2) rfl)) (va_Nw.use rfl hV.1.2.2.2.1) hcell hv hcl ?_
      refine lv_astore (lv' := [(4, .ref q9), (0, .ref ad), (1, .int i1), (2, .int i2), (3, .ref o)]) hx hb dL_setDelay_17 hl (by decide) rfl (fun ls hl => ?_)
      refine z_ic hx hb dL_setDelay_19 ?_
      exact x_iret (w := u1 ++ [(o, oc g f0)]) (v := iI 2) (px := yF) hQ hx hb hr hlocks (Or.inr ⟨_, u1, 2, List.mem_of_getElem? (i := 1) rfl, hpu, rfl, rfl⟩) hK hP hD hS1 (Nat.le_of_ble_eq_true rfl) (Nat.le_of_ble_eq_true rfl) dL_setDelay_20
  · obtain ⟨hP1, hK1, hD1⟩ := hB
    rw [ht] at hP1
    obtain ⟨hP, hD⟩ := wj_join hP hD hkeep (fun q h => z_free hDu hS hA q h) hP1 hD1
    refine lv_i2l (v := r.toInt64) hx hb dL_setDelay_8 rfl ?_
    refine va_last (x := r.toInt64) hx hb hK hP hD hS1 u1.length 3 wj_at rfl vin0 dL_setDelay_9 (fun H locs hP hD hS => ?_)
    rw [wj_set] at hP hD
    refine lv_goto (tgt := 21) hx hb dL_setDelay_10 (by decide) ?_
    refine z_ic hx hb dL_setDelay_21 ?_
    exact x_iret (w := u1 ++ [(o, oc g (vp_updL f0 (iI 0).toNatClampNeg r.toInt64))]) (v := iI 0) (px := yF) hQ hx hb hr hlocks (Or.inl ⟨r, u1, _, hp, rfl, updL_0 _ _, rfl⟩) hK hP hD hS (Nat.le_of_ble_eq_true rfl) (Nat.le_of_ble_eq_true rfl) dL_setDelay_22
set_option maxHeartbeats 4000000 in
set_option maxRecDepth 100000 in
theorem c_L_height (l : Launch) (D : va_G) (g : Nat → ClassId) (o ad : Nat) (f0 : Nat → Int64) (u : va_W) (fs : List Value) (hu0 : u[0]? = some (ad, .inr (2, fs))) (i1 : Int32) (i2 : Int32) (post : Int32 → va_W → Prop) (px : String → va_W → Prop) (hM : xMi l D (zT g) yX2_height wsX2_height 7 103 2 u [.ref ad, .int i1, .int i2] post px) (hpx : ∀ (E : String) (w9 : va_W), px E w9 → E = nIX ∨ E = nIA) : yMi l D (zT g) yL_height wsL_height 8 126 2 (u ++ [(o, oc g f0)]) [.ref ad, .int i1, .int i2, .ref o] (wpost post px g o f0 (fun r0 => r0.toInt64) [(nIX, 1), (nIA, 2)]) := by
  refine y_of (cc := cL_height) (maxL := 5) (hh := [(0, 10, 13, 13), (0, 10, 17, 15)]) (by decide) rfl (Nat.le_of_ble_eq_true rfl) ?_
  intro p e s m args below meth c A ls hx hb hr hts hown hlocks hml hP hK hD hS hA hl hE hV hN htb Q hQ
  have hown : s.vm.findClass RL = some m.cls := hown
  have hl : lv_has ls 5 [(0, .ref ad), (1, .int i1), (2, .int i2), (3, .ref o)] := hl
  have hPu := wj_l hP
  have hDu := wj_dl hD
  refine lv_aload_n hx hb dL_height_0 rfl (lv_at hl 3 rfl) ?_
  refine z_ic hx hb dL_height_1 ?_
  refine lv_aload_n hx hb dL_height_2 rfl (lv_at hl 0 rfl) ?_
  refine lv_iload_n hx hb dL_height_3 rfl (lv_at hl 1 rfl) ?_
  refine lv_iload_n hx hb dL_height_4 rfl (lv_at hl 2 rfl) ?_
  refine vx_calli (vx_runV (As := [.int i1, .int i2]) (rest := [.int (iI 0), .ref o]) ⟨hx, hb, hml, hown, hts⟩ (hM s.heap.size) (cwV 2 hts gL_height_X2_height rfl rfl rfl (by decide +kernel) ⟨Nat.le_of_ble_eq_true rfl, Nat.le_of_ble_eq_true rfl⟩) (x_preV 0 hK hPu hDu hS hA hE hV rfl hu0) rfl rfl hl.1 rfl (lv_room (Nat.le_of_ble_eq_true rfl)) dL_height_5 ⟨Nat.le_of_ble_eq_true rfl, Nat.le_of_ble_eq_true rfl⟩) hS (fun q _ h => z_free hDu hS hA q h) (fun q h => z_free hDu hS hA q h) (fun q _ h => z_free hDu hS hA q h) (fun E ce q9 u1 t H locs ht hvm _ hB hz hkeep hS1 hcell hv hcl => ?_) (fun r u1 t H locs ht hvm hp hB hz hkeep hS1 => ?_)
  · obtain ⟨hpu, hP1, hK1, hD1⟩ := hB
    rw [ht] at hP1
    obtain ⟨hP, hD⟩ := wj_join hP hD hkeep (fun q h => z_free hDu hS hA q h) hP1 hD1
    rcases hpx E u1 hpu with rfl | rfl
    · refine vx_catch (name := "java/lang/IndexOutOfBoundsException") hown [] ⟨0, 10, 13, 13⟩ [⟨0, 10, 17, 15⟩] htb (fun z hz => absurd hz List.not_mem_nil) rfl (by decide) (hts (.classLink RL 13 "java/lang/IndexOutOfBoundsException") (List.mem_of_getElem? (i := 1) rfl)) (va_Nw.use rfl hV.1.2.2.2.2.2) hcell hv hcl ?_
      refine lv_astore (lv' := [(4, .ref q9), (0, .ref ad), (1, .int i1), (2, .int i2), (3, .ref o)]) hx hb dL_height_13 hl (by decide) rfl (fun ls hl => ?_)
      refine z_ic hx hb dL_height_15 ?_
      exact x_iret (w := u1 ++ [(o, oc g f0)]) (v := iI 1) (px := yF) hQ hx hb hr hlocks (Or.inr ⟨_, u1, 1, List.mem_of_getElem? (i := 0) rfl, hpu, rfl, rfl⟩) hK hP hD hS1 (Nat.le_of_ble_eq_true rfl) (Nat.le_of_ble_eq_true rfl) dL_height_16
    · refine vx_catch (name := "java/lang/IllegalArgumentException") hown [⟨0, 10, 13, 13⟩] ⟨0, 10, 17, 15⟩ [] htb (fun z hz => by obtain rfl := List.mem_singleton.mp hz; exact Or.inr ⟨by decide, "java/lang/IndexOutOfBoundsException", (hts (.classLink RL 13 "java/lang/IndexOutOfBoundsException") (List.mem_of_getElem? (i := 1) rfl)), hN _ (List.mem_of_getElem? (i := 1) rfl)⟩) rfl (by decide) (hts (.classLink RL 15 "java/lang/IllegalArgumentException") (List.mem_of_getElem? (i := 2) rfl)) (va_Nw.use rfl hV.1.2.2.2.1) hcell hv hcl ?_
      refine lv_astore (lv' := [(4, .ref q9), (0, .ref ad), (1, .int i1), (2, .int i2), (3, .ref o)]) hx hb dL_height_17 hl (by decide) rfl (fun ls hl => ?_)
      refine z_ic hx hb dL_height_19 ?_
      exact x_iret (w := u1 ++ [(o, oc g f0)]) (v := iI 2) (px := yF) hQ hx hb hr hlocks (Or.inr ⟨_, u1, 2, List.mem_of_getElem? (i := 1) rfl, hpu, rfl, rfl⟩) hK hP hD hS1 (Nat.le_of_ble_eq_true rfl) (Nat.le_of_ble_eq_true rfl) dL_height_20
  · obtain ⟨hP1, hK1, hD1⟩ := hB
    rw [ht] at hP1
    obtain ⟨hP, hD⟩ := wj_join hP hD hkeep (fun q h => z_free hDu hS hA q h) hP1 hD1
    refine lv_i2l (v := r.toInt64) hx hb dL_height_8 rfl ?_
    refine va_last (x := r.toInt64) hx hb hK hP hD hS1 u1.length 3 wj_at rfl vin0 dL_height_9 (fun H locs hP hD hS => ?_)
    rw [wj_set] at hP hD
    refine lv_goto (tgt := 21) hx hb dL_height_10 (by decide) ?_
    refine z_ic hx hb dL_height_21 ?_
    exact x_iret (w := u1 ++ [(o, oc g (vp_updL f0 (iI 0).toNatClampNeg r.toInt64))]) (v := iI 0) (px := yF) hQ hx hb hr hlocks (Or.inl ⟨r, u1, _, hp, rfl, updL_0 _ _, rfl⟩) hK hP hD hS (Nat.le_of_ble_eq_true rfl) (Nat.le_of_ble_eq_true rfl) dL_height_22
set_option maxHeartbeats 4000000 in
set_option maxRecDepth 100000 in
theorem c_L_schedule (l : Launch) (D : va_G) (g : Nat → ClassId) (o ad : Nat) (f0 : Nat → Int64) (u : va_W) (fs : List Value) (hu0 : u[0]? = some (ad, .inr (2, fs))) (i1 : Int32) (post : Int32 → va_W → Prop) (px : String → va_W → Prop) (hM : xMi l D (zT g) yX2_schedule wsX2_schedule 6 106 1 u [.ref ad, .int i1] post px) (hpx : ∀ (E : String) (w9 : va_W), px E w9 → E = nIA) : yMi l D (zT g) yL_schedule wsL_schedule 7 130 1 (u ++ [(o, oc g f0)]) [.ref ad, .int i1, .ref o] (wpost post px g o f0 (fun r0 => r0.toInt64) [(nIA, 1)]) := by
  refine y_of (cc := cL_schedule) (maxL := 4) (hh := [(0, 9, 12, 15)]) (by decide) rfl (Nat.le_of_ble_eq_true rfl) ?_
  intro p e s m args below meth c A ls hx hb hr hts hown hlocks hml hP hK hD hS hA hl hE hV hN htb Q hQ
  have hown : s.vm.findClass RL = some m.cls := hown
  have hl : lv_has ls 4 [(0, .ref ad), (1, .int i1), (2, .ref o)] := hl
  have hPu := wj_l hP
  have hDu := wj_dl hD
  refine lv_aload_n hx hb dL_schedule_0 rfl (lv_at hl 2 rfl) ?_
  refine z_ic hx hb dL_schedule_1 ?_
  refine lv_aload_n hx hb dL_schedule_2 rfl (lv_at hl 0 rfl) ?_
  refine lv_iload_n hx hb dL_schedule_3 rfl (lv_at hl 1 rfl) ?_
  refine vx_calli (vx_runV (As := [.int i1]) (rest := [.int (iI 0), .ref o]) ⟨hx, hb, hml, hown, hts⟩ (hM s.heap.size) (cwV 1 hts gL_schedule_X2_schedule rfl rfl rfl (by decide +kernel) ⟨Nat.le_of_ble_eq_true rfl, Nat.le_of_ble_eq_true rfl⟩) (x_preV 0 hK hPu hDu hS hA hE hV rfl hu0) rfl rfl hl.1 rfl (lv_room (Nat.le_of_ble_eq_true rfl)) dL_schedule_4 ⟨Nat.le_of_ble_eq_true rfl, Nat.le_of_ble_eq_true rfl⟩) hS (fun q _ h => z_free hDu hS hA q h) (fun q h => z_free hDu hS hA q h) (fun q _ h => z_free hDu hS hA q h) (fun E ce q9 u1 t H locs ht hvm _ hB hz hkeep hS1 hcell hv hcl => ?_) (fun r u1 t H locs ht hvm hp hB hz hkeep hS1 => ?_)
  · obtain ⟨hpu, hP1, hK1, hD1⟩ := hB
    rw [ht] at hP1
    obtain ⟨hP, hD⟩ := wj_join hP hD hkeep (fun q h => z_free hDu hS hA q h) hP1 hD1
    rcases hpx E u1 hpu with rfl
    · refine vx_catch (name := "java/lang/IllegalArgumentException") hown [] ⟨0, 9, 12, 15⟩ [] htb (fun z hz => absurd hz List.not_mem_nil) rfl (by decide) (hts (.classLink RL 15 "java/lang/IllegalArgumentException") (List.mem_of_getElem? (i := 1) rfl)) (va_Nw.use rfl hV.1.2.2.2.1) hcell hv hcl ?_
      refine lv_astore_n (lv' := [(3, .ref q9), (0, .ref ad), (1, .int i1), (2, .ref o)]) hx hb dL_schedule_12 rfl hl (by decide) rfl (fun ls hl => ?_)
      refine z_ic hx hb dL_schedule_13 ?_
      exact x_iret (w := u1 ++ [(o, oc g f0)]) (v := iI 1) (px := yF) hQ hx hb hr hlocks (Or.inr ⟨_, u1, 1, List.mem_of_getElem? (i := 0) rfl, hpu, rfl, rfl⟩) hK hP hD hS1 (Nat.le_of_ble_eq_true rfl) (Nat.le_of_ble_eq_true rfl) dL_schedule_14
  · obtain ⟨hP1, hK1, hD1⟩ := hB
    rw [ht] at hP1
    obtain ⟨hP, hD⟩ := wj_join hP hD hkeep (fun q h => z_free hDu hS hA q h) hP1 hD1
    refine lv_i2l (v := r.toInt64) hx hb dL_schedule_7 rfl ?_
    refine va_last (x := r.toInt64) hx hb hK hP hD hS1 u1.length 3 wj_at rfl vin0 dL_schedule_8 (fun H locs hP hD hS => ?_)
    rw [wj_set] at hP hD
    refine lv_goto (tgt := 15) hx hb dL_schedule_9 (by decide) ?_
    refine z_ic hx hb dL_schedule_15 ?_
    exact x_iret (w := u1 ++ [(o, oc g (vp_updL f0 (iI 0).toNatClampNeg r.toInt64))]) (v := iI 0) (px := yF) hQ hx hb hr hlocks (Or.inl ⟨r, u1, _, hp, rfl, updL_0 _ _, rfl⟩) hK hP hD hS (Nat.le_of_ble_eq_true rfl) (Nat.le_of_ble_eq_true rfl) dL_schedule_16
set_option maxHeartbeats 4000000 in
set_option maxRecDepth 100000 in
theorem c_L_interval (l : Launch) (D : va_G) (g : Nat → ClassId) (o ad : Nat) (f0 : Nat → Int64) (u : va_W) (fs : List Value) (hu0 : u[0]? = some (ad, .inr (2, fs))) (post : Int32 → va_W → Prop) (px : String → va_W → Prop) (hM : xMi l D (zT g) yX2_interval wsX2_interval 7 102 1 u [.ref ad] post px) (hpx : ∀ (E : String) (w9 : va_W), px E w9 → E = nIS) : yMi l D (zT g) yL_interval wsL_interval 8 122 1 (u ++ [(o, oc g f0)]) [.ref ad, .ref o] (wpost post px g o f0 (fun r0 => r0.toInt64) [(nIS, 1)]) := by
  refine y_of (cc := cL_interval) (maxL := 3) (hh := [(0, 8, 11, 20)]) (by decide) rfl (Nat.le_of_ble_eq_true rfl) ?_
  intro p e s m args below meth c A ls hx hb hr hts hown hlocks hml hP hK hD hS hA hl hE hV hN htb Q hQ
  have hown : s.vm.findClass RL = some m.cls := hown
  have hl : lv_has ls 3 [(0, .ref ad), (1, .ref o)] := hl
  have hPu := wj_l hP
  have hDu := wj_dl hD
  refine lv_aload_n hx hb dL_interval_0 rfl (lv_at hl 1 rfl) ?_
  refine z_ic hx hb dL_interval_1 ?_
  refine lv_aload_n hx hb dL_interval_2 rfl (lv_at hl 0 rfl) ?_
  refine vx_calli (vx_runV (As := []) (rest := [.int (iI 0), .ref o]) ⟨hx, hb, hml, hown, hts⟩ (hM s.heap.size) (cwV 0 hts gL_interval_X2_interval rfl rfl rfl (by decide +kernel) ⟨Nat.le_of_ble_eq_true rfl, Nat.le_of_ble_eq_true rfl⟩) (x_preV 0 hK hPu hDu hS hA hE hV rfl hu0) rfl rfl hl.1 rfl (lv_room (Nat.le_of_ble_eq_true rfl)) dL_interval_3 ⟨Nat.le_of_ble_eq_true rfl, Nat.le_of_ble_eq_true rfl⟩) hS (fun q _ h => z_free hDu hS hA q h) (fun q h => z_free hDu hS hA q h) (fun q _ h => z_free hDu hS hA q h) (fun E ce q9 u1 t H locs ht hvm _ hB hz hkeep hS1 hcell hv hcl => ?_) (fun r u1 t H locs ht hvm hp hB hz hkeep hS1 => ?_)
  · obtain ⟨hpu, hP1, hK1, hD1⟩ := hB
    rw [ht] at hP1
    obtain ⟨hP, hD⟩ := wj_join hP hD hkeep (fun q h => z_free hDu hS hA q h) hP1 hD1
    rcases hpx E u1 hpu with rfl
    · refine vx_catch (name := "java/lang/IllegalStateException") hown [] ⟨0, 8, 11, 20⟩ [] htb (fun z hz => absurd hz List.not_mem_nil) rfl (by decide) (hts (.classLink RL 20 "java/lang/IllegalStateException") (List.mem_of_getElem? (i := 1) rfl)) (va_Nw.use rfl hV.1.2.2.2.2.1) hcell hv hcl ?_
      refine lv_astore_n (lv' := [(2, .ref q9), (0, .ref ad), (1, .ref o)]) hx hb dL_interval_11 rfl hl (by decide) rfl (fun ls hl => ?_)
      refine z_ic hx hb dL_interval_12 ?_
      exact x_iret (w := u1 ++ [(o, oc g f0)]) (v := iI 1) (px := yF) hQ hx hb hr hlocks (Or.inr ⟨_, u1, 1, List.mem_of_getElem? (i := 0) rfl, hpu, rfl, rfl⟩) hK hP hD hS1 (Nat.le_of_ble_eq_true rfl) (Nat.le_of_ble_eq_true rfl) dL_interval_13
  · obtain ⟨hP1, hK1, hD1⟩ := hB
    rw [ht] at hP1
    obtain ⟨hP, hD⟩ := wj_join hP hD hkeep (fun q h => z_free hDu hS hA q h) hP1 hD1
    refine lv_i2l (v := r.toInt64) hx hb dL_interval_6 rfl ?_
    refine va_last (x := r.toInt64) hx hb hK hP hD hS1 u1.length 3 wj_at rfl vin0 dL_interval_7 (fun H locs hP hD hS => ?_)
    rw [wj_set] at hP hD
    refine lv_goto (tgt := 14) hx hb dL_interval_8 (by decide) ?_
    refine z_ic hx hb dL_interval_14 ?_
    exact x_iret (w := u1 ++ [(o, oc g (vp_updL f0 (iI 0).toNatClampNeg r.toInt64))]) (v := iI 0) (px := yF) hQ hx hb hr hlocks (Or.inl ⟨r, u1, _, hp, rfl, updL_0 _ _, rfl⟩) hK hP hD hS (Nat.le_of_ble_eq_true rfl) (Nat.le_of_ble_eq_true rfl) dL_interval_15
set_option maxHeartbeats 4000000 in
set_option maxRecDepth 100000 in
theorem c_L_time (l : Launch) (D : va_G) (g : Nat → ClassId) (o ad : Nat) (f0 : Nat → Int64) (u : va_W) (fs : List Value) (hu0 : u[0]? = some (ad, .inr (2, fs))) (i1 : Int32) (post : Int32 → va_W → Prop) (px : String → va_W → Prop) (hM : xMi l D (zT g) yX2_time wsX2_time 7 103 2 u [.ref ad, .int i1] post px) (hpx : ∀ (E : String) (w9 : va_W), px E w9 → E = nIX ∨ E = nIS) : yMi l D (zT g) yL_time wsL_time 8 124 2 (u ++ [(o, oc g f0)]) [.ref ad, .int i1, .ref o] (wpost post px g o f0 (fun r0 => r0.toInt64) [(nIX, 1), (nIS, 2)]) := by
  refine y_of (cc := cL_time) (maxL := 4) (hh := [(0, 9, 12, 13), (0, 9, 15, 20)]) (by decide) rfl (Nat.le_of_ble_eq_true rfl) ?_
  intro p e s m args below meth c A ls hx hb hr hts hown hlocks hml hP hK hD hS hA hl hE hV hN htb Q hQ
  have hown : s.vm.findClass RL = some m.cls := hown
  have hl : lv_has ls 4 [(0, .ref ad), (1, .int i1), (2, .ref o)] := hl
  have hPu := wj_l hP
  have hDu := wj_dl hD
  refine lv_aload_n hx hb dL_time_0 rfl (lv_at hl 2 rfl) ?_
  refine z_ic hx hb dL_time_1 ?_
  refine lv_aload_n hx hb dL_time_2 rfl (lv_at hl 0 rfl) ?_
  refine lv_iload_n hx hb dL_time_3 rfl (lv_at hl 1 rfl) ?_
  refine vx_calli (vx_runV (As := [.int i1]) (rest := [.int (iI 0), .ref o]) ⟨hx, hb, hml, hown, hts⟩ (hM s.heap.size) (cwV 1 hts gL_time_X2_time rfl rfl rfl (by decide +kernel) ⟨Nat.le_of_ble_eq_true rfl, Nat.le_of_ble_eq_true rfl⟩) (x_preV 0 hK hPu hDu hS hA hE hV rfl hu0) rfl rfl hl.1 rfl (lv_room (Nat.le_of_ble_eq_true rfl)) dL_time_4 ⟨Nat.le_of_ble_eq_true rfl, Nat.le_of_ble_eq_true rfl⟩) hS (fun q _ h => z_free hDu hS hA q h) (fun q h => z_free hDu hS hA q h) (fun q _ h => z_free hDu hS hA q h) (fun E ce q9 u1 t H locs ht hvm _ hB hz hkeep hS1 hcell hv hcl => ?_) (fun r u1 t H locs ht hvm hp hB hz hkeep hS1 => ?_)
  · obtain ⟨hpu, hP1, hK1, hD1⟩ := hB
    rw [ht] at hP1
    obtain ⟨hP, hD⟩ := wj_join hP hD hkeep (fun q h => z_free hDu hS hA q h) hP1 hD1
    rcases hpx E u1 hpu with rfl | rfl
    · refine vx_catch (name := "java/lang/IndexOutOfBoundsException") hown [] ⟨0, 9, 12, 13⟩ [⟨0, 9, 15, 20⟩] htb (fun z hz => absurd hz List.not_mem_nil) rfl (by decide) (hts (.classLink RL 13 "java/lang/IndexOutOfBoundsException") (List.mem_of_getElem? (i := 1) rfl)) (va_Nw.use rfl hV.1.2.2.2.2.2) hcell hv hcl ?_
      refine lv_astore_n (lv' := [(3, .ref q9), (0, .ref ad), (1, .int i1), (2, .ref o)]) hx hb dL_time_12 rfl hl (by decide) rfl (fun ls hl => ?_)
      refine z_ic hx hb dL_time_13 ?_
      exact x_iret (w := u1 ++ [(o, oc g f0)]) (v := iI 1) (px := yF) hQ hx hb hr hlocks (Or.inr ⟨_, u1, 1, List.mem_of_getElem? (i := 0) rfl, hpu, rfl, rfl⟩) hK hP hD hS1 (Nat.le_of_ble_eq_true rfl) (Nat.le_of_ble_eq_true rfl) dL_time_14
    · refine vx_catch (name := "java/lang/IllegalStateException") hown [⟨0, 9, 12, 13⟩] ⟨0, 9, 15, 20⟩ [] htb (fun z hz => by obtain rfl := List.mem_singleton.mp hz; exact Or.inr ⟨by decide, "java/lang/IndexOutOfBoundsException", (hts (.classLink RL 13 "java/lang/IndexOutOfBoundsException") (List.mem_of_getElem? (i := 1) rfl)), hN _ (List.mem_of_getElem? (i := 3) rfl)⟩) rfl (by decide) (hts (.classLink RL 20 "java/lang/IllegalStateException") (List.mem_of_getElem? (i := 2) rfl)) (va_Nw.use rfl hV.1.2.2.2.2.1) hcell hv hcl ?_
      refine lv_astore_n (lv' := [(3, .ref q9), (0, .ref ad), (1, .int i1), (2, .ref o)]) hx hb dL_time_15 rfl hl (by decide) rfl (fun ls hl => ?_)
      refine z_ic hx hb dL_time_16 ?_
      exact x_iret (w := u1 ++ [(o, oc g f0)]) (v := iI 2) (px := yF) hQ hx hb hr hlocks (Or.inr ⟨_, u1, 2, List.mem_of_getElem? (i := 1) rfl, hpu, rfl, rfl⟩) hK hP hD hS1 (Nat.le_of_ble_eq_true rfl) (Nat.le_of_ble_eq_true rfl) dL_time_17
  · obtain ⟨hP1, hK1, hD1⟩ := hB
    rw [ht] at hP1
    obtain ⟨hP, hD⟩ := wj_join hP hD hkeep (fun q h => z_free hDu hS hA q h) hP1 hD1
    refine lv_i2l (v := r.toInt64) hx hb dL_time_7 rfl ?_
    refine va_last (x := r.toInt64) hx hb hK hP hD hS1 u1.length 3 wj_at rfl vin0 dL_time_8 (fun H locs hP hD hS => ?_)
    rw [wj_set] at hP hD
    refine lv_goto (tgt := 18) hx hb dL_time_9 (by decide) ?_
    refine z_ic hx hb dL_time_18 ?_
    exact x_iret (w := u1 ++ [(o, oc g (vp_updL f0 (iI 0).toNatClampNeg r.toInt64))]) (v := iI 0) (px := yF) hQ hx hb hr hlocks (Or.inl ⟨r, u1, _, hp, rfl, updL_0 _ _, rfl⟩) hK hP hD hS (Nat.le_of_ble_eq_true rfl) (Nat.le_of_ble_eq_true rfl) dL_time_19
set_option maxHeartbeats 4000000 in
set_option maxRecDepth 100000 in
theorem c_L_move (l : Launch) (D : va_G) (g : Nat → ClassId) (o ad : Nat) (f0 : Nat → Int64) (u : va_W) (fs : List Value) (hu0 : u[0]? = some (ad, .inr (2, fs))) (i1 : Int32) (i2 : Int32) (post : Int32 → va_W → Prop) (px : String → va_W → Prop) (hM : xMi l D (zT g) yX2_move wsX2_move 7 103 3 u [.ref ad, .int i1, .int i2] post px) (hpx : ∀ (E : String) (w9 : va_W), px E w9 → E = nIX ∨ E = nIA ∨ E = nIS) : yMi l D (zT g) yL_move wsL_move 8 125 3 (u ++ [(o, oc g f0)]) [.ref ad, .int i1, .int i2, .ref o] (wpost post px g o f0 (fun r0 => if r0 = 0 then 0 else 1) [(nIX, 1), (nIA, 2), (nIS, 3)]) := by
  refine y_of (cc := cL_move) (maxL := 5) (hh := [(0, 17, 20, 13), (0, 17, 24, 15), (0, 17, 28, 20)]) (by decide) rfl (Nat.le_of_ble_eq_true rfl) ?_
  intro p e s m args below meth c A ls hx hb hr hts hown hlocks hml hP hK hD hS hA hl hE hV hN htb Q hQ
  have hown : s.vm.findClass RL = some m.cls := hown
  have hl : lv_has ls 5 [(0, .ref ad), (1, .int i1), (2, .int i2), (3, .ref o)] := hl
  have hPu := wj_l hP
  have hDu := wj_dl hD
  refine lv_aload_n hx hb dL_move_0 rfl (lv_at hl 3 rfl) ?_
  refine z_ic hx hb dL_move_1 ?_
  refine lv_aload_n hx hb dL_move_2 rfl (lv_at hl 0 rfl) ?_
  refine lv_iload_n hx hb dL_move_3 rfl (lv_at hl 1 rfl) ?_
  refine lv_iload_n hx hb dL_move_4 rfl (lv_at hl 2 rfl) ?_
  refine vx_calli (vx_runV (As := [.int i1, .int i2]) (rest := [.int (iI 0), .ref o]) ⟨hx, hb, hml, hown, hts⟩ (hM s.heap.size) (cwV 2 hts gL_move_X2_move rfl rfl rfl (by decide +kernel) ⟨Nat.le_of_ble_eq_true rfl, Nat.le_of_ble_eq_true rfl⟩) (x_preV 0 hK hPu hDu hS hA hE hV rfl hu0) rfl rfl hl.1 rfl (lv_room (Nat.le_of_ble_eq_true rfl)) dL_move_5 ⟨Nat.le_of_ble_eq_true rfl, Nat.le_of_ble_eq_true rfl⟩) hS (fun q _ h => z_free hDu hS hA q h) (fun q h => z_free hDu hS hA q h) (fun q _ h => z_free hDu hS hA q h) (fun E ce q9 u1 t H locs ht hvm _ hB hz hkeep hS1 hcell hv hcl => ?_) (fun r u1 t H locs ht hvm hp hB hz hkeep hS1 => ?_)
  · obtain ⟨hpu, hP1, hK1, hD1⟩ := hB
    rw [ht] at hP1
    obtain ⟨hP, hD⟩ := wj_join hP hD hkeep (fun q h => z_free hDu hS hA q h) hP1 hD1
    rcases hpx E u1 hpu with rfl | rfl | rfl
    · refine vx_catch (name := "java/lang/IndexOutOfBoundsException") hown [] ⟨0, 17, 20, 13⟩ [⟨0, 17, 24, 15⟩, ⟨0, 17, 28, 20⟩] htb (fun z hz => absurd hz List.not_mem_nil) rfl (by decide) (hts (.classLink RL 13 "java/lang/IndexOutOfBoundsException") (List.mem_of_getElem? (i := 1) rfl)) (va_Nw.use rfl hV.1.2.2.2.2.2) hcell hv hcl ?_
      refine lv_astore (lv' := [(4, .ref q9), (0, .ref ad), (1, .int i1), (2, .int i2), (3, .ref o)]) hx hb dL_move_20 hl (by decide) rfl (fun ls hl => ?_)
      refine z_ic hx hb dL_move_22 ?_
      exact x_iret (w := u1 ++ [(o, oc g f0)]) (v := iI 1) (px := yF) hQ hx hb hr hlocks (Or.inr ⟨_, u1, 1, List.mem_of_getElem? (i := 0) rfl, hpu, rfl, rfl⟩) hK hP hD hS1 (Nat.le_of_ble_eq_true rfl) (Nat.le_of_ble_eq_true rfl) dL_move_23
    · refine vx_catch (name := "java/lang/IllegalArgumentException") hown [⟨0, 17, 20, 13⟩] ⟨0, 17, 24, 15⟩ [⟨0, 17, 28, 20⟩] htb (fun z hz => by obtain rfl := List.mem_singleton.mp hz; exact Or.inr ⟨by decide, "java/lang/IndexOutOfBoundsException", (hts (.classLink RL 13 "java/lang/IndexOutOfBoundsException") (List.mem_of_getElem? (i := 1) rfl)), hN _ (List.mem_of_getElem? (i := 1) rfl)⟩) rfl (by decide) (hts (.classLink RL 15 "java/lang/IllegalArgumentException") (List.mem_of_getElem? (i := 2) rfl)) (va_Nw.use rfl hV.1.2.2.2.1) hcell hv hcl ?_
      refine lv_astore (lv' := [(4, .ref q9), (0, .ref ad), (1, .int i1), (2, .int i2), (3, .ref o)]) hx hb dL_move_24 hl (by decide) rfl (fun ls hl => ?_)
      refine z_ic hx hb dL_move_26 ?_
      exact x_iret (w := u1 ++ [(o, oc g f0)]) (v := iI 2) (px := yF) hQ hx hb hr hlocks (Or.inr ⟨_, u1, 2, List.mem_of_getElem? (i := 1) rfl, hpu, rfl, rfl⟩) hK hP hD hS1 (Nat.le_of_ble_eq_true rfl) (Nat.le_of_ble_eq_true rfl) dL_move_27
    · refine vx_catch (name := "java/lang/IllegalStateException") hown [⟨0, 17, 20, 13⟩, ⟨0, 17, 24, 15⟩] ⟨0, 17, 28, 20⟩ [] htb (fun z hz => (List.mem_cons.mp hz).elim (fun e9 => by subst e9; exact Or.inr ⟨by decide, "java/lang/IndexOutOfBoundsException", (hts (.classLink RL 13 "java/lang/IndexOutOfBoundsException") (List.mem_of_getElem? (i := 1) rfl)), hN _ (List.mem_of_getElem? (i := 3) rfl)⟩) (fun h9 => by obtain rfl := List.mem_singleton.mp h9; exact Or.inr ⟨by decide, "java/lang/IllegalArgumentException", (hts (.classLink RL 15 "java/lang/IllegalArgumentException") (List.mem_of_getElem? (i := 2) rfl)), hN _ (List.mem_of_getElem? (i := 2) rfl)⟩)) rfl (by decide) (hts (.classLink RL 20 "java/lang/IllegalStateException") (List.mem_of_getElem? (i := 3) rfl)) (va_Nw.use rfl hV.1.2.2.2.2.1) hcell hv hcl ?_
      refine lv_astore (lv' := [(4, .ref q9), (0, .ref ad), (1, .int i1), (2, .int i2), (3, .ref o)]) hx hb dL_move_28 hl (by decide) rfl (fun ls hl => ?_)
      refine z_ic hx hb dL_move_30 ?_
      exact x_iret (w := u1 ++ [(o, oc g f0)]) (v := iI 3) (px := yF) hQ hx hb hr hlocks (Or.inr ⟨_, u1, 3, List.mem_of_getElem? (i := 2) rfl, hpu, rfl, rfl⟩) hK hP hD hS1 (Nat.le_of_ble_eq_true rfl) (Nat.le_of_ble_eq_true rfl) dL_move_31
  · obtain ⟨hP1, hK1, hD1⟩ := hB
    rw [ht] at hP1
    obtain ⟨hP, hD⟩ := wj_join hP hD hkeep (fun q h => z_free hDu hS hA q h) hP1 hD1
    refine lv_if_eq (tgt := 15) hx hb dL_move_8 (by decide) (fun h9 => ?_) (fun h9 => ?_)
    · refine lv_lconst (v := 0) hx hb dL_move_15 (by decide) ?_
      refine va_last (x := 0) hx hb hK hP hD hS1 u1.length 3 wj_at rfl vin0 dL_move_16 (fun H locs hP hD hS => ?_)
      rw [wj_set] at hP hD
      refine lv_goto (tgt := 32) hx hb dL_move_17 (by decide) ?_
      refine z_ic hx hb dL_move_32 ?_
      exact x_iret (w := u1 ++ [(o, oc g (vp_updL f0 (iI 0).toNatClampNeg 0))]) (v := iI 0) (px := yF) hQ hx hb hr hlocks (Or.inl ⟨r, u1, _, hp, rfl, (updL_0 _ _).trans (if_pos h9).symm, rfl⟩) hK hP hD hS (Nat.le_of_ble_eq_true rfl) (Nat.le_of_ble_eq_true rfl) dL_move_33
    · refine lv_lconst (v := 1) hx hb dL_move_11 (by decide) ?_
      refine lv_goto (tgt := 16) hx hb dL_move_12 (by decide) ?_
      refine va_last (x := 1) hx hb hK hP hD hS1 u1.length 3 wj_at rfl vin0 dL_move_16 (fun H locs hP hD hS => ?_)
      rw [wj_set] at hP hD
      refine lv_goto (tgt := 32) hx hb dL_move_17 (by decide) ?_
      refine z_ic hx hb dL_move_32 ?_
      exact x_iret (w := u1 ++ [(o, oc g (vp_updL f0 (iI 0).toNatClampNeg 1))]) (v := iI 0) (px := yF) hQ hx hb hr hlocks (Or.inl ⟨r, u1, _, hp, rfl, (updL_0 _ _).trans (if_neg h9).symm, rfl⟩) hK hP hD hS (Nat.le_of_ble_eq_true rfl) (Nat.le_of_ble_eq_true rfl) dL_move_33
set_option maxHeartbeats 4000000 in
set_option maxRecDepth 100000 in
theorem c_L_freedom (l : Launch) (D : va_G) (g : Nat → ClassId) (o ad : Nat) (f0 : Nat → Int64) (u : va_W) (fs : List Value) (hu0 : u[0]? = some (ad, .inr (2, fs))) (i1 : Int32) (post : Int32 → va_W → Prop) (px : String → va_W → Prop) (hM : xMi l D (zT g) yX2_freedom wsX2_freedom 7 103 2 u [.ref ad, .int i1] post px) (hpx : ∀ (E : String) (w9 : va_W), px E w9 → E = nIX ∨ E = nIS) : yMi l D (zT g) yL_freedom wsL_freedom 8 124 2 (u ++ [(o, oc g f0)]) [.ref ad, .int i1, .ref o] (wpost post px g o f0 (fun r0 => r0.toInt64) [(nIX, 1), (nIS, 2)]) := by
  refine y_of (cc := cL_freedom) (maxL := 4) (hh := [(0, 9, 12, 13), (0, 9, 15, 20)]) (by decide) rfl (Nat.le_of_ble_eq_true rfl) ?_
  intro p e s m args below meth c A ls hx hb hr hts hown hlocks hml hP hK hD hS hA hl hE hV hN htb Q hQ
  have hown : s.vm.findClass RL = some m.cls := hown
  have hl : lv_has ls 4 [(0, .ref ad), (1, .int i1), (2, .ref o)] := hl
  have hPu := wj_l hP
  have hDu := wj_dl hD
  refine lv_aload_n hx hb dL_freedom_0 rfl (lv_at hl 2 rfl) ?_
  refine z_ic hx hb dL_freedom_1 ?_
  refine lv_aload_n hx hb dL_freedom_2 rfl (lv_at hl 0 rfl) ?_
  refine lv_iload_n hx hb dL_freedom_3 rfl (lv_at hl 1 rfl) ?_
  refine vx_calli (vx_runV (As := [.int i1]) (rest := [.int (iI 0), .ref o]) ⟨hx, hb, hml, hown, hts⟩ (hM s.heap.size) (cwV 1 hts gL_freedom_X2_freedom rfl rfl rfl (by decide +kernel) ⟨Nat.le_of_ble_eq_true rfl, Nat.le_of_ble_eq_true rfl⟩) (x_preV 0 hK hPu hDu hS hA hE hV rfl hu0) rfl rfl hl.1 rfl (lv_room (Nat.le_of_ble_eq_true rfl)) dL_freedom_4 ⟨Nat.le_of_ble_eq_true rfl, Nat.le_of_ble_eq_true rfl⟩) hS (fun q _ h => z_free hDu hS hA q h) (fun q h => z_free hDu hS hA q h) (fun q _ h => z_free hDu hS hA q h) (fun E ce q9 u1 t H locs ht hvm _ hB hz hkeep hS1 hcell hv hcl => ?_) (fun r u1 t H locs ht hvm hp hB hz hkeep hS1 => ?_)
  · obtain ⟨hpu, hP1, hK1, hD1⟩ := hB
    rw [ht] at hP1
    obtain ⟨hP, hD⟩ := wj_join hP hD hkeep (fun q h => z_free hDu hS hA q h) hP1 hD1
    rcases hpx E u1 hpu with rfl | rfl
    · refine vx_catch (name := "java/lang/IndexOutOfBoundsException") hown [] ⟨0, 9, 12, 13⟩ [⟨0, 9, 15, 20⟩] htb (fun z hz => absurd hz List.not_mem_nil) rfl (by decide) (hts (.classLink RL 13 "java/lang/IndexOutOfBoundsException") (List.mem_of_getElem? (i := 1) rfl)) (va_Nw.use rfl hV.1.2.2.2.2.2) hcell hv hcl ?_
      refine lv_astore_n (lv' := [(3, .ref q9), (0, .ref ad), (1, .int i1), (2, .ref o)]) hx hb dL_freedom_12 rfl hl (by decide) rfl (fun ls hl => ?_)
      refine z_ic hx hb dL_freedom_13 ?_
      exact x_iret (w := u1 ++ [(o, oc g f0)]) (v := iI 1) (px := yF) hQ hx hb hr hlocks (Or.inr ⟨_, u1, 1, List.mem_of_getElem? (i := 0) rfl, hpu, rfl, rfl⟩) hK hP hD hS1 (Nat.le_of_ble_eq_true rfl) (Nat.le_of_ble_eq_true rfl) dL_freedom_14
    · refine vx_catch (name := "java/lang/IllegalStateException") hown [⟨0, 9, 12, 13⟩] ⟨0, 9, 15, 20⟩ [] htb (fun z hz => by obtain rfl := List.mem_singleton.mp hz; exact Or.inr ⟨by decide, "java/lang/IndexOutOfBoundsException", (hts (.classLink RL 13 "java/lang/IndexOutOfBoundsException") (List.mem_of_getElem? (i := 1) rfl)), hN _ (List.mem_of_getElem? (i := 3) rfl)⟩) rfl (by decide) (hts (.classLink RL 20 "java/lang/IllegalStateException") (List.mem_of_getElem? (i := 2) rfl)) (va_Nw.use rfl hV.1.2.2.2.2.1) hcell hv hcl ?_
      refine lv_astore_n (lv' := [(3, .ref q9), (0, .ref ad), (1, .int i1), (2, .ref o)]) hx hb dL_freedom_15 rfl hl (by decide) rfl (fun ls hl => ?_)
      refine z_ic hx hb dL_freedom_16 ?_
      exact x_iret (w := u1 ++ [(o, oc g f0)]) (v := iI 2) (px := yF) hQ hx hb hr hlocks (Or.inr ⟨_, u1, 2, List.mem_of_getElem? (i := 1) rfl, hpu, rfl, rfl⟩) hK hP hD hS1 (Nat.le_of_ble_eq_true rfl) (Nat.le_of_ble_eq_true rfl) dL_freedom_17
  · obtain ⟨hP1, hK1, hD1⟩ := hB
    rw [ht] at hP1
    obtain ⟨hP, hD⟩ := wj_join hP hD hkeep (fun q h => z_free hDu hS hA q h) hP1 hD1
    refine lv_i2l (v := r.toInt64) hx hb dL_freedom_7 rfl ?_
    refine va_last (x := r.toInt64) hx hb hK hP hD hS1 u1.length 3 wj_at rfl vin0 dL_freedom_8 (fun H locs hP hD hS => ?_)
    rw [wj_set] at hP hD
    refine lv_goto (tgt := 18) hx hb dL_freedom_9 (by decide) ?_
    refine z_ic hx hb dL_freedom_18 ?_
    exact x_iret (w := u1 ++ [(o, oc g (vp_updL f0 (iI 0).toNatClampNeg r.toInt64))]) (v := iI 0) (px := yF) hQ hx hb hr hlocks (Or.inl ⟨r, u1, _, hp, rfl, updL_0 _ _, rfl⟩) hK hP hD hS (Nat.le_of_ble_eq_true rfl) (Nat.le_of_ble_eq_true rfl) dL_freedom_19
set_option maxHeartbeats 4000000 in
set_option maxRecDepth 100000 in
theorem c_L_stages (l : Launch) (D : va_G) (g : Nat → ClassId) (o ad : Nat) (f0 : Nat → Int64) (u : va_W) (fs : List Value) (hu0 : u[0]? = some (ad, .inr (2, fs))) (post : Int32 → va_W → Prop) (px : String → va_W → Prop) (hM : xMi l D (zT g) yX2_stages wsX2_stages 7 102 1 u [.ref ad] post px) (hpx : ∀ (E : String) (w9 : va_W), px E w9 → E = nIS) : yMi l D (zT g) yL_stages wsL_stages 8 122 1 (u ++ [(o, oc g f0)]) [.ref ad, .ref o] (wpost post px g o f0 (fun r0 => r0.toInt64) [(nIS, 1)]) := by
  refine y_of (cc := cL_stages) (maxL := 3) (hh := [(0, 8, 11, 20)]) (by decide) rfl (Nat.le_of_ble_eq_true rfl) ?_
  intro p e s m args below meth c A ls hx hb hr hts hown hlocks hml hP hK hD hS hA hl hE hV hN htb Q hQ
  have hown : s.vm.findClass RL = some m.cls := hown
  have hl : lv_has ls 3 [(0, .ref ad), (1, .ref o)] := hl
  have hPu := wj_l hP
  have hDu := wj_dl hD
  refine lv_aload_n hx hb dL_stages_0 rfl (lv_at hl 1 rfl) ?_
  refine z_ic hx hb dL_stages_1 ?_
  refine lv_aload_n hx hb dL_stages_2 rfl (lv_at hl 0 rfl) ?_
  refine vx_calli (vx_runV (As := []) (rest := [.int (iI 0), .ref o]) ⟨hx, hb, hml, hown, hts⟩ (hM s.heap.size) (cwV 0 hts gL_stages_X2_stages rfl rfl rfl (by decide +kernel) ⟨Nat.le_of_ble_eq_true rfl, Nat.le_of_ble_eq_true rfl⟩) (x_preV 0 hK hPu hDu hS hA hE hV rfl hu0) rfl rfl hl.1 rfl (lv_room (Nat.le_of_ble_eq_true rfl)) dL_stages_3 ⟨Nat.le_of_ble_eq_true rfl, Nat.le_of_ble_eq_true rfl⟩) hS (fun q _ h => z_free hDu hS hA q h) (fun q h => z_free hDu hS hA q h) (fun q _ h => z_free hDu hS hA q h) (fun E ce q9 u1 t H locs ht hvm _ hB hz hkeep hS1 hcell hv hcl => ?_) (fun r u1 t H locs ht hvm hp hB hz hkeep hS1 => ?_)
  · obtain ⟨hpu, hP1, hK1, hD1⟩ := hB
    rw [ht] at hP1
    obtain ⟨hP, hD⟩ := wj_join hP hD hkeep (fun q h => z_free hDu hS hA q h) hP1 hD1
    rcases hpx E u1 hpu with rfl
    · refine vx_catch (name := "java/lang/IllegalStateException") hown [] ⟨0, 8, 11, 20⟩ [] htb (fun z hz => absurd hz List.not_mem_nil) rfl (by decide) (hts (.classLink RL 20 "java/lang/IllegalStateException") (List.mem_of_getElem? (i := 1) rfl)) (va_Nw.use rfl hV.1.2.2.2.2.1) hcell hv hcl ?_
      refine lv_astore_n (lv' := [(2, .ref q9), (0, .ref ad), (1, .ref o)]) hx hb dL_stages_11 rfl hl (by decide) rfl (fun ls hl => ?_)
      refine z_ic hx hb dL_stages_12 ?_
      exact x_iret (w := u1 ++ [(o, oc g f0)]) (v := iI 1) (px := yF) hQ hx hb hr hlocks (Or.inr ⟨_, u1, 1, List.mem_of_getElem? (i := 0) rfl, hpu, rfl, rfl⟩) hK hP hD hS1 (Nat.le_of_ble_eq_true rfl) (Nat.le_of_ble_eq_true rfl) dL_stages_13
  · obtain ⟨hP1, hK1, hD1⟩ := hB
    rw [ht] at hP1
    obtain ⟨hP, hD⟩ := wj_join hP hD hkeep (fun q h => z_free hDu hS hA q h) hP1 hD1
    refine lv_i2l (v := r.toInt64) hx hb dL_stages_6 rfl ?_
    refine va_last (x := r.toInt64) hx hb hK hP hD hS1 u1.length 3 wj_at rfl vin0 dL_stages_7 (fun H locs hP hD hS => ?_)
    rw [wj_set] at hP hD
    refine lv_goto (tgt := 14) hx hb dL_stages_8 (by decide) ?_
    refine z_ic hx hb dL_stages_14 ?_
    exact x_iret (w := u1 ++ [(o, oc g (vp_updL f0 (iI 0).toNatClampNeg r.toInt64))]) (v := iI 0) (px := yF) hQ hx hb hr hlocks (Or.inl ⟨r, u1, _, hp, rfl, updL_0 _ _, rfl⟩) hK hP hD hS (Nat.le_of_ble_eq_true rfl) (Nat.le_of_ble_eq_true rfl) dL_stages_15
set_option maxHeartbeats 4000000 in
set_option maxRecDepth 100000 in
theorem c_L_taken (l : Launch) (D : va_G) (g : Nat → ClassId) (o ad : Nat) (f0 : Nat → Int64) (u : va_W) (fs : List Value) (hu0 : u[0]? = some (ad, .inr (2, fs))) (i1 : Int32) (i2 : Int32) (post : Int32 → va_W → Prop) (px : String → va_W → Prop) (hM : xMi l D (zT g) yX2_taken wsX2_taken 7 103 3 u [.ref ad, .int i1, .int i2] post px) (hpx : ∀ (E : String) (w9 : va_W), px E w9 → E = nIX ∨ E = nIS ∨ E = nIA) : yMi l D (zT g) yL_taken wsL_taken 8 125 3 (u ++ [(o, oc g f0)]) [.ref ad, .int i1, .int i2, .ref o] (wpost post px g o f0 (fun r0 => r0.toInt64) [(nIX, 1), (nIS, 2), (nIA, 3)]) := by
  refine y_of (cc := cL_taken) (maxL := 5) (hh := [(0, 10, 13, 13), (0, 10, 17, 20), (0, 10, 21, 15)]) (by decide) rfl (Nat.le_of_ble_eq_true rfl) ?_
  intro p e s m args below meth c A ls hx hb hr hts hown hlocks hml hP hK hD hS hA hl hE hV hN htb Q hQ
  have hown : s.vm.findClass RL = some m.cls := hown
  have hl : lv_has ls 5 [(0, .ref ad), (1, .int i1), (2, .int i2), (3, .ref o)] := hl
  have hPu := wj_l hP
  have hDu := wj_dl hD
  refine lv_aload_n hx hb dL_taken_0 rfl (lv_at hl 3 rfl) ?_
  refine z_ic hx hb dL_taken_1 ?_
  refine lv_aload_n hx hb dL_taken_2 rfl (lv_at hl 0 rfl) ?_
  refine lv_iload_n hx hb dL_taken_3 rfl (lv_at hl 1 rfl) ?_
  refine lv_iload_n hx hb dL_taken_4 rfl (lv_at hl 2 rfl) ?_
  refine vx_calli (vx_runV (As := [.int i1, .int i2]) (rest := [.int (iI 0), .ref o]) ⟨hx, hb, hml, hown, hts⟩ (hM s.heap.size) (cwV 2 hts gL_taken_X2_taken rfl rfl rfl (by decide +kernel) ⟨Nat.le_of_ble_eq_true rfl, Nat.le_of_ble_eq_true rfl⟩) (x_preV 0 hK hPu hDu hS hA hE hV rfl hu0) rfl rfl hl.1 rfl (lv_room (Nat.le_of_ble_eq_true rfl)) dL_taken_5 ⟨Nat.le_of_ble_eq_true rfl, Nat.le_of_ble_eq_true rfl⟩) hS (fun q _ h => z_free hDu hS hA q h) (fun q h => z_free hDu hS hA q h) (fun q _ h => z_free hDu hS hA q h) (fun E ce q9 u1 t H locs ht hvm _ hB hz hkeep hS1 hcell hv hcl => ?_) (fun r u1 t H locs ht hvm hp hB hz hkeep hS1 => ?_)
  · obtain ⟨hpu, hP1, hK1, hD1⟩ := hB
    rw [ht] at hP1
    obtain ⟨hP, hD⟩ := wj_join hP hD hkeep (fun q h => z_free hDu hS hA q h) hP1 hD1
    rcases hpx E u1 hpu with rfl | rfl | rfl
    · refine vx_catch (name := "java/lang/IndexOutOfBoundsException") hown [] ⟨0, 10, 13, 13⟩ [⟨0, 10, 17, 20⟩, ⟨0, 10, 21, 15⟩] htb (fun z hz => absurd hz List.not_mem_nil) rfl (by decide) (hts (.classLink RL 13 "java/lang/IndexOutOfBoundsException") (List.mem_of_getElem? (i := 1) rfl)) (va_Nw.use rfl hV.1.2.2.2.2.2) hcell hv hcl ?_
      refine lv_astore (lv' := [(4, .ref q9), (0, .ref ad), (1, .int i1), (2, .int i2), (3, .ref o)]) hx hb dL_taken_13 hl (by decide) rfl (fun ls hl => ?_)
      refine z_ic hx hb dL_taken_15 ?_
      exact x_iret (w := u1 ++ [(o, oc g f0)]) (v := iI 1) (px := yF) hQ hx hb hr hlocks (Or.inr ⟨_, u1, 1, List.mem_of_getElem? (i := 0) rfl, hpu, rfl, rfl⟩) hK hP hD hS1 (Nat.le_of_ble_eq_true rfl) (Nat.le_of_ble_eq_true rfl) dL_taken_16
    · refine vx_catch (name := "java/lang/IllegalStateException") hown [⟨0, 10, 13, 13⟩] ⟨0, 10, 17, 20⟩ [⟨0, 10, 21, 15⟩] htb (fun z hz => by obtain rfl := List.mem_singleton.mp hz; exact Or.inr ⟨by decide, "java/lang/IndexOutOfBoundsException", (hts (.classLink RL 13 "java/lang/IndexOutOfBoundsException") (List.mem_of_getElem? (i := 1) rfl)), hN _ (List.mem_of_getElem? (i := 3) rfl)⟩) rfl (by decide) (hts (.classLink RL 20 "java/lang/IllegalStateException") (List.mem_of_getElem? (i := 2) rfl)) (va_Nw.use rfl hV.1.2.2.2.2.1) hcell hv hcl ?_
      refine lv_astore (lv' := [(4, .ref q9), (0, .ref ad), (1, .int i1), (2, .int i2), (3, .ref o)]) hx hb dL_taken_17 hl (by decide) rfl (fun ls hl => ?_)
      refine z_ic hx hb dL_taken_19 ?_
      exact x_iret (w := u1 ++ [(o, oc g f0)]) (v := iI 2) (px := yF) hQ hx hb hr hlocks (Or.inr ⟨_, u1, 2, List.mem_of_getElem? (i := 1) rfl, hpu, rfl, rfl⟩) hK hP hD hS1 (Nat.le_of_ble_eq_true rfl) (Nat.le_of_ble_eq_true rfl) dL_taken_20
    · refine vx_catch (name := "java/lang/IllegalArgumentException") hown [⟨0, 10, 13, 13⟩, ⟨0, 10, 17, 20⟩] ⟨0, 10, 21, 15⟩ [] htb (fun z hz => (List.mem_cons.mp hz).elim (fun e9 => by subst e9; exact Or.inr ⟨by decide, "java/lang/IndexOutOfBoundsException", (hts (.classLink RL 13 "java/lang/IndexOutOfBoundsException") (List.mem_of_getElem? (i := 1) rfl)), hN _ (List.mem_of_getElem? (i := 1) rfl)⟩) (fun h9 => by obtain rfl := List.mem_singleton.mp h9; exact Or.inr ⟨by decide, "java/lang/IllegalStateException", (hts (.classLink RL 20 "java/lang/IllegalStateException") (List.mem_of_getElem? (i := 2) rfl)), hN _ (List.mem_of_getElem? (i := 0) rfl)⟩)) rfl (by decide) (hts (.classLink RL 15 "java/lang/IllegalArgumentException") (List.mem_of_getElem? (i := 3) rfl)) (va_Nw.use rfl hV.1.2.2.2.1) hcell hv hcl ?_
      refine lv_astore (lv' := [(4, .ref q9), (0, .ref ad), (1, .int i1), (2, .int i2), (3, .ref o)]) hx hb dL_taken_21 hl (by decide) rfl (fun ls hl => ?_)
      refine z_ic hx hb dL_taken_23 ?_
      exact x_iret (w := u1 ++ [(o, oc g f0)]) (v := iI 3) (px := yF) hQ hx hb hr hlocks (Or.inr ⟨_, u1, 3, List.mem_of_getElem? (i := 2) rfl, hpu, rfl, rfl⟩) hK hP hD hS1 (Nat.le_of_ble_eq_true rfl) (Nat.le_of_ble_eq_true rfl) dL_taken_24
  · obtain ⟨hP1, hK1, hD1⟩ := hB
    rw [ht] at hP1
    obtain ⟨hP, hD⟩ := wj_join hP hD hkeep (fun q h => z_free hDu hS hA q h) hP1 hD1
    refine lv_i2l (v := r.toInt64) hx hb dL_taken_8 rfl ?_
    refine va_last (x := r.toInt64) hx hb hK hP hD hS1 u1.length 3 wj_at rfl vin0 dL_taken_9 (fun H locs hP hD hS => ?_)
    rw [wj_set] at hP hD
    refine lv_goto (tgt := 25) hx hb dL_taken_10 (by decide) ?_
    refine z_ic hx hb dL_taken_25 ?_
    exact x_iret (w := u1 ++ [(o, oc g (vp_updL f0 (iI 0).toNatClampNeg r.toInt64))]) (v := iI 0) (px := yF) hQ hx hb hr hlocks (Or.inl ⟨r, u1, _, hp, rfl, updL_0 _ _, rfl⟩) hK hP hD hS (Nat.le_of_ble_eq_true rfl) (Nat.le_of_ble_eq_true rfl) dL_taken_26
set_option maxHeartbeats 4000000 in
set_option maxRecDepth 100000 in
theorem c_L_lifetime (l : Launch) (D : va_G) (g : Nat → ClassId) (o ad : Nat) (f0 : Nat → Int64) (u : va_W) (fs : List Value) (hu0 : u[0]? = some (ad, .inr (2, fs))) (i1 : Int32) (post : Int32 → va_W → Prop) (px : String → va_W → Prop) (hM : xMi l D (zT g) yX2_lifetime wsX2_lifetime 7 103 2 u [.ref ad, .int i1] post px) (hpx : ∀ (E : String) (w9 : va_W), px E w9 → E = nIX ∨ E = nIS) : yMi l D (zT g) yL_lifetime wsL_lifetime 8 124 2 (u ++ [(o, oc g f0)]) [.ref ad, .int i1, .ref o] (wpost post px g o f0 (fun r0 => r0.toInt64) [(nIX, 1), (nIS, 2)]) := by
  refine y_of (cc := cL_lifetime) (maxL := 4) (hh := [(0, 9, 12, 13), (0, 9, 15, 20)]) (by decide) rfl (Nat.le_of_ble_eq_true rfl) ?_
  intro p e s m args below meth c A ls hx hb hr hts hown hlocks hml hP hK hD hS hA hl hE hV hN htb Q hQ
  have hown : s.vm.findClass RL = some m.cls := hown
  have hl : lv_has ls 4 [(0, .ref ad), (1, .int i1), (2, .ref o)] := hl
  have hPu := wj_l hP
  have hDu := wj_dl hD
  refine lv_aload_n hx hb dL_lifetime_0 rfl (lv_at hl 2 rfl) ?_
  refine z_ic hx hb dL_lifetime_1 ?_
  refine lv_aload_n hx hb dL_lifetime_2 rfl (lv_at hl 0 rfl) ?_
  refine lv_iload_n hx hb dL_lifetime_3 rfl (lv_at hl 1 rfl) ?_
  refine vx_calli (vx_runV (As := [.int i1]) (rest := [.int (iI 0), .ref o]) ⟨hx, hb, hml, hown, hts⟩ (hM s.heap.size) (cwV 1 hts gL_lifetime_X2_lifetime rfl rfl rfl (by decide +kernel) ⟨Nat.le_of_ble_eq_true rfl, Nat.le_of_ble_eq_true rfl⟩) (x_preV 0 hK hPu hDu hS hA hE hV rfl hu0) rfl rfl hl.1 rfl (lv_room (Nat.le_of_ble_eq_true rfl)) dL_lifetime_4 ⟨Nat.le_of_ble_eq_true rfl, Nat.le_of_ble_eq_true rfl⟩) hS (fun q _ h => z_free hDu hS hA q h) (fun q h => z_free hDu hS hA q h) (fun q _ h => z_free hDu hS hA q h) (fun E ce q9 u1 t H locs ht hvm _ hB hz hkeep hS1 hcell hv hcl => ?_) (fun r u1 t H locs ht hvm hp hB hz hkeep hS1 => ?_)
  · obtain ⟨hpu, hP1, hK1, hD1⟩ := hB
    rw [ht] at hP1
    obtain ⟨hP, hD⟩ := wj_join hP hD hkeep (fun q h => z_free hDu hS hA q h) hP1 hD1
    rcases hpx E u1 hpu with rfl | rfl
    · refine vx_catch (name := "java/lang/IndexOutOfBoundsException") hown [] ⟨0, 9, 12, 13⟩ [⟨0, 9, 15, 20⟩] htb (fun z hz => absurd hz List.not_mem_nil) rfl (by decide) (hts (.classLink RL 13 "java/lang/IndexOutOfBoundsException") (List.mem_of_getElem? (i := 1) rfl)) (va_Nw.use rfl hV.1.2.2.2.2.2) hcell hv hcl ?_
      refine lv_astore_n (lv' := [(3, .ref q9), (0, .ref ad), (1, .int i1), (2, .ref o)]) hx hb dL_lifetime_12 rfl hl (by decide) rfl (fun ls hl => ?_)
      refine z_ic hx hb dL_lifetime_13 ?_
      exact x_iret (w := u1 ++ [(o, oc g f0)]) (v := iI 1) (px := yF) hQ hx hb hr hlocks (Or.inr ⟨_, u1, 1, List.mem_of_getElem? (i := 0) rfl, hpu, rfl, rfl⟩) hK hP hD hS1 (Nat.le_of_ble_eq_true rfl) (Nat.le_of_ble_eq_true rfl) dL_lifetime_14
    · refine vx_catch (name := "java/lang/IllegalStateException") hown [⟨0, 9, 12, 13⟩] ⟨0, 9, 15, 20⟩ [] htb (fun z hz => by obtain rfl := List.mem_singleton.mp hz; exact Or.inr ⟨by decide, "java/lang/IndexOutOfBoundsException", (hts (.classLink RL 13 "java/lang/IndexOutOfBoundsException") (List.mem_of_getElem? (i := 1) rfl)), hN _ (List.mem_of_getElem? (i := 3) rfl)⟩) rfl (by decide) (hts (.classLink RL 20 "java/lang/IllegalStateException") (List.mem_of_getElem? (i := 2) rfl)) (va_Nw.use rfl hV.1.2.2.2.2.1) hcell hv hcl ?_
      refine lv_astore_n (lv' := [(3, .ref q9), (0, .ref ad), (1, .int i1), (2, .ref o)]) hx hb dL_lifetime_15 rfl hl (by decide) rfl (fun ls hl => ?_)
      refine z_ic hx hb dL_lifetime_16 ?_
      exact x_iret (w := u1 ++ [(o, oc g f0)]) (v := iI 2) (px := yF) hQ hx hb hr hlocks (Or.inr ⟨_, u1, 2, List.mem_of_getElem? (i := 1) rfl, hpu, rfl, rfl⟩) hK hP hD hS1 (Nat.le_of_ble_eq_true rfl) (Nat.le_of_ble_eq_true rfl) dL_lifetime_17
  · obtain ⟨hP1, hK1, hD1⟩ := hB
    rw [ht] at hP1
    obtain ⟨hP, hD⟩ := wj_join hP hD hkeep (fun q h => z_free hDu hS hA q h) hP1 hD1
    refine lv_i2l (v := r.toInt64) hx hb dL_lifetime_7 rfl ?_
    refine va_last (x := r.toInt64) hx hb hK hP hD hS1 u1.length 3 wj_at rfl vin0 dL_lifetime_8 (fun H locs hP hD hS => ?_)
    rw [wj_set] at hP hD
    refine lv_goto (tgt := 18) hx hb dL_lifetime_9 (by decide) ?_
    refine z_ic hx hb dL_lifetime_18 ?_
    exact x_iret (w := u1 ++ [(o, oc g (vp_updL f0 (iI 0).toNatClampNeg r.toInt64))]) (v := iI 0) (px := yF) hQ hx hb hr hlocks (Or.inl ⟨r, u1, _, hp, rfl, updL_0 _ _, rfl⟩) hK hP hD hS (Nat.le_of_ble_eq_true rfl) (Nat.le_of_ble_eq_true rfl) dL_lifetime_19
set_option maxHeartbeats 4000000 in
set_option maxRecDepth 100000 in
theorem c_L_live (l : Launch) (D : va_G) (g : Nat → ClassId) (o ad : Nat) (f0 : Nat → Int64) (u : va_W) (fs : List Value) (hu0 : u[0]? = some (ad, .inr (2, fs))) (i1 : Int32) (post : Int32 → va_W → Prop) (px : String → va_W → Prop) (hM : xMi l D (zT g) yX2_live wsX2_live 7 103 2 u [.ref ad, .int i1] post px) (hpx : ∀ (E : String) (w9 : va_W), px E w9 → E = nIS ∨ E = nIA) : yMi l D (zT g) yL_live wsL_live 8 124 2 (u ++ [(o, oc g f0)]) [.ref ad, .int i1, .ref o] (wpost post px g o f0 (fun r0 => r0.toInt64) [(nIS, 1), (nIA, 2)]) := by
  refine y_of (cc := cL_live) (maxL := 4) (hh := [(0, 9, 12, 20), (0, 9, 15, 15)]) (by decide) rfl (Nat.le_of_ble_eq_true rfl) ?_
  intro p e s m args below meth c A ls hx hb hr hts hown hlocks hml hP hK hD hS hA hl hE hV hN htb Q hQ
  have hown : s.vm.findClass RL = some m.cls := hown
  have hl : lv_has ls 4 [(0, .ref ad), (1, .int i1), (2, .ref o)] := hl
  have hPu := wj_l hP
  have hDu := wj_dl hD
  refine lv_aload_n hx hb dL_live_0 rfl (lv_at hl 2 rfl) ?_
  refine z_ic hx hb dL_live_1 ?_
  refine lv_aload_n hx hb dL_live_2 rfl (lv_at hl 0 rfl) ?_
  refine lv_iload_n hx hb dL_live_3 rfl (lv_at hl 1 rfl) ?_
  refine vx_calli (vx_runV (As := [.int i1]) (rest := [.int (iI 0), .ref o]) ⟨hx, hb, hml, hown, hts⟩ (hM s.heap.size) (cwV 1 hts gL_live_X2_live rfl rfl rfl (by decide +kernel) ⟨Nat.le_of_ble_eq_true rfl, Nat.le_of_ble_eq_true rfl⟩) (x_preV 0 hK hPu hDu hS hA hE hV rfl hu0) rfl rfl hl.1 rfl (lv_room (Nat.le_of_ble_eq_true rfl)) dL_live_4 ⟨Nat.le_of_ble_eq_true rfl, Nat.le_of_ble_eq_true rfl⟩) hS (fun q _ h => z_free hDu hS hA q h) (fun q h => z_free hDu hS hA q h) (fun q _ h => z_free hDu hS hA q h) (fun E ce q9 u1 t H locs ht hvm _ hB hz hkeep hS1 hcell hv hcl => ?_) (fun r u1 t H locs ht hvm hp hB hz hkeep hS1 => ?_)
  · obtain ⟨hpu, hP1, hK1, hD1⟩ := hB
    rw [ht] at hP1
    obtain ⟨hP, hD⟩ := wj_join hP hD hkeep (fun q h => z_free hDu hS hA q h) hP1 hD1
    rcases hpx E u1 hpu with rfl | rfl
    · refine vx_catch (name := "java/lang/IllegalStateException") hown [] ⟨0, 9, 12, 20⟩ [⟨0, 9, 15, 15⟩] htb (fun z hz => absurd hz List.not_mem_nil) rfl (by decide) (hts (.classLink RL 20 "java/lang/IllegalStateException") (List.mem_of_getElem? (i := 1) rfl)) (va_Nw.use rfl hV.1.2.2.2.2.1) hcell hv hcl ?_
      refine lv_astore_n (lv' := [(3, .ref q9), (0, .ref ad), (1, .int i1), (2, .ref o)]) hx hb dL_live_12 rfl hl (by decide) rfl (fun ls hl => ?_)
      refine z_ic hx hb dL_live_13 ?_
      exact x_iret (w := u1 ++ [(o, oc g f0)]) (v := iI 1) (px := yF) hQ hx hb hr hlocks (Or.inr ⟨_, u1, 1, List.mem_of_getElem? (i := 0) rfl, hpu, rfl, rfl⟩) hK hP hD hS1 (Nat.le_of_ble_eq_true rfl) (Nat.le_of_ble_eq_true rfl) dL_live_14
    · refine vx_catch (name := "java/lang/IllegalArgumentException") hown [⟨0, 9, 12, 20⟩] ⟨0, 9, 15, 15⟩ [] htb (fun z hz => by obtain rfl := List.mem_singleton.mp hz; exact Or.inr ⟨by decide, "java/lang/IllegalStateException", (hts (.classLink RL 20 "java/lang/IllegalStateException") (List.mem_of_getElem? (i := 1) rfl)), hN _ (List.mem_of_getElem? (i := 0) rfl)⟩) rfl (by decide) (hts (.classLink RL 15 "java/lang/IllegalArgumentException") (List.mem_of_getElem? (i := 2) rfl)) (va_Nw.use rfl hV.1.2.2.2.1) hcell hv hcl ?_
      refine lv_astore_n (lv' := [(3, .ref q9), (0, .ref ad), (1, .int i1), (2, .ref o)]) hx hb dL_live_15 rfl hl (by decide) rfl (fun ls hl => ?_)
      refine z_ic hx hb dL_live_16 ?_
      exact x_iret (w := u1 ++ [(o, oc g f0)]) (v := iI 2) (px := yF) hQ hx hb hr hlocks (Or.inr ⟨_, u1, 2, List.mem_of_getElem? (i := 1) rfl, hpu, rfl, rfl⟩) hK hP hD hS1 (Nat.le_of_ble_eq_true rfl) (Nat.le_of_ble_eq_true rfl) dL_live_17
  · obtain ⟨hP1, hK1, hD1⟩ := hB
    rw [ht] at hP1
    obtain ⟨hP, hD⟩ := wj_join hP hD hkeep (fun q h => z_free hDu hS hA q h) hP1 hD1
    refine lv_i2l (v := r.toInt64) hx hb dL_live_7 rfl ?_
    refine va_last (x := r.toInt64) hx hb hK hP hD hS1 u1.length 3 wj_at rfl vin0 dL_live_8 (fun H locs hP hD hS => ?_)
    rw [wj_set] at hP hD
    refine lv_goto (tgt := 18) hx hb dL_live_9 (by decide) ?_
    refine z_ic hx hb dL_live_18 ?_
    exact x_iret (w := u1 ++ [(o, oc g (vp_updL f0 (iI 0).toNatClampNeg r.toInt64))]) (v := iI 0) (px := yF) hQ hx hb hr hlocks (Or.inl ⟨r, u1, _, hp, rfl, updL_0 _ _, rfl⟩) hK hP hD hS (Nat.le_of_ble_eq_true rfl) (Nat.le_of_ble_eq_true rfl) dL_live_19
set_option maxHeartbeats 4000000 in
set_option maxRecDepth 100000 in
theorem c_L_registers (l : Launch) (D : va_G) (g : Nat → ClassId) (o ad : Nat) (f0 : Nat → Int64) (u : va_W) (fs : List Value) (hu0 : u[0]? = some (ad, .inr (2, fs))) (post : Int32 → va_W → Prop) (px : String → va_W → Prop) (hM : xMi l D (zT g) yX2_registers wsX2_registers 7 102 1 u [.ref ad] post px) (hpx : ∀ (E : String) (w9 : va_W), px E w9 → E = nIS) : yMi l D (zT g) yL_registers wsL_registers 8 124 1 (u ++ [(o, oc g f0)]) [.ref ad, .ref o] (wpost post px g o f0 (fun r0 => r0.toInt64) [(nIS, 1)]) := by
  refine y_of (cc := cL_registers) (maxL := 3) (hh := [(0, 8, 11, 20)]) (by decide) rfl (Nat.le_of_ble_eq_true rfl) ?_
  intro p e s m args below meth c A ls hx hb hr hts hown hlocks hml hP hK hD hS hA hl hE hV hN htb Q hQ
  have hown : s.vm.findClass RL = some m.cls := hown
  have hl : lv_has ls 3 [(0, .ref ad), (1, .ref o)] := hl
  have hPu := wj_l hP
  have hDu := wj_dl hD
  refine lv_aload_n hx hb dL_registers_0 rfl (lv_at hl 1 rfl) ?_
  refine z_ic hx hb dL_registers_1 ?_
  refine lv_aload_n hx hb dL_registers_2 rfl (lv_at hl 0 rfl) ?_
  refine vx_calli (vx_runV (As := []) (rest := [.int (iI 0), .ref o]) ⟨hx, hb, hml, hown, hts⟩ (hM s.heap.size) (cwV 0 hts gL_registers_X2_registers rfl rfl rfl (by decide +kernel) ⟨Nat.le_of_ble_eq_true rfl, Nat.le_of_ble_eq_true rfl⟩) (x_preV 0 hK hPu hDu hS hA hE hV rfl hu0) rfl rfl hl.1 rfl (lv_room (Nat.le_of_ble_eq_true rfl)) dL_registers_3 ⟨Nat.le_of_ble_eq_true rfl, Nat.le_of_ble_eq_true rfl⟩) hS (fun q _ h => z_free hDu hS hA q h) (fun q h => z_free hDu hS hA q h) (fun q _ h => z_free hDu hS hA q h) (fun E ce q9 u1 t H locs ht hvm _ hB hz hkeep hS1 hcell hv hcl => ?_) (fun r u1 t H locs ht hvm hp hB hz hkeep hS1 => ?_)
  · obtain ⟨hpu, hP1, hK1, hD1⟩ := hB
    rw [ht] at hP1
    obtain ⟨hP, hD⟩ := wj_join hP hD hkeep (fun q h => z_free hDu hS hA q h) hP1 hD1
    rcases hpx E u1 hpu with rfl
    · refine vx_catch (name := "java/lang/IllegalStateException") hown [] ⟨0, 8, 11, 20⟩ [] htb (fun z hz => absurd hz List.not_mem_nil) rfl (by decide) (hts (.classLink RL 20 "java/lang/IllegalStateException") (List.mem_of_getElem? (i := 1) rfl)) (va_Nw.use rfl hV.1.2.2.2.2.1) hcell hv hcl ?_
      refine lv_astore_n (lv' := [(2, .ref q9), (0, .ref ad), (1, .ref o)]) hx hb dL_registers_11 rfl hl (by decide) rfl (fun ls hl => ?_)
      refine z_ic hx hb dL_registers_12 ?_
      exact x_iret (w := u1 ++ [(o, oc g f0)]) (v := iI 1) (px := yF) hQ hx hb hr hlocks (Or.inr ⟨_, u1, 1, List.mem_of_getElem? (i := 0) rfl, hpu, rfl, rfl⟩) hK hP hD hS1 (Nat.le_of_ble_eq_true rfl) (Nat.le_of_ble_eq_true rfl) dL_registers_13
  · obtain ⟨hP1, hK1, hD1⟩ := hB
    rw [ht] at hP1
    obtain ⟨hP, hD⟩ := wj_join hP hD hkeep (fun q h => z_free hDu hS hA q h) hP1 hD1
    refine lv_i2l (v := r.toInt64) hx hb dL_registers_6 rfl ?_
    refine va_last (x := r.toInt64) hx hb hK hP hD hS1 u1.length 3 wj_at rfl vin0 dL_registers_7 (fun H locs hP hD hS => ?_)
    rw [wj_set] at hP hD
    refine lv_goto (tgt := 14) hx hb dL_registers_8 (by decide) ?_
    refine z_ic hx hb dL_registers_14 ?_
    exact x_iret (w := u1 ++ [(o, oc g (vp_updL f0 (iI 0).toNatClampNeg r.toInt64))]) (v := iI 0) (px := yF) hQ hx hb hr hlocks (Or.inl ⟨r, u1, _, hp, rfl, updL_0 _ _, rfl⟩) hK hP hD hS (Nat.le_of_ble_eq_true rfl) (Nat.le_of_ble_eq_true rfl) dL_registers_15
set_option maxHeartbeats 4000000 in
set_option maxRecDepth 100000 in
theorem c_L_copies (l : Launch) (D : va_G) (g : Nat → ClassId) (o ad : Nat) (f0 : Nat → Int64) (u : va_W) (fs : List Value) (hu0 : u[0]? = some (ad, .inr (2, fs))) (i1 : Int32) (post : Int32 → va_W → Prop) (px : String → va_W → Prop) (hM : xMi l D (zT g) yX2_copies wsX2_copies 7 103 2 u [.ref ad, .int i1] post px) (hpx : ∀ (E : String) (w9 : va_W), px E w9 → E = nIX ∨ E = nIS) : yMi l D (zT g) yL_copies wsL_copies 8 124 2 (u ++ [(o, oc g f0)]) [.ref ad, .int i1, .ref o] (wpost post px g o f0 (fun r0 => r0.toInt64) [(nIX, 1), (nIS, 2)]) := by
  refine y_of (cc := cL_copies) (maxL := 4) (hh := [(0, 9, 12, 13), (0, 9, 15, 20)]) (by decide) rfl (Nat.le_of_ble_eq_true rfl) ?_
  intro p e s m args below meth c A ls hx hb hr hts hown hlocks hml hP hK hD hS hA hl hE hV hN htb Q hQ
  have hown : s.vm.findClass RL = some m.cls := hown
  have hl : lv_has ls 4 [(0, .ref ad), (1, .int i1), (2, .ref o)] := hl
  have hPu := wj_l hP
  have hDu := wj_dl hD
  refine lv_aload_n hx hb dL_copies_0 rfl (lv_at hl 2 rfl) ?_
  refine z_ic hx hb dL_copies_1 ?_
  refine lv_aload_n hx hb dL_copies_2 rfl (lv_at hl 0 rfl) ?_
  refine lv_iload_n hx hb dL_copies_3 rfl (lv_at hl 1 rfl) ?_
  refine vx_calli (vx_runV (As := [.int i1]) (rest := [.int (iI 0), .ref o]) ⟨hx, hb, hml, hown, hts⟩ (hM s.heap.size) (cwV 1 hts gL_copies_X2_copies rfl rfl rfl (by decide +kernel) ⟨Nat.le_of_ble_eq_true rfl, Nat.le_of_ble_eq_true rfl⟩) (x_preV 0 hK hPu hDu hS hA hE hV rfl hu0) rfl rfl hl.1 rfl (lv_room (Nat.le_of_ble_eq_true rfl)) dL_copies_4 ⟨Nat.le_of_ble_eq_true rfl, Nat.le_of_ble_eq_true rfl⟩) hS (fun q _ h => z_free hDu hS hA q h) (fun q h => z_free hDu hS hA q h) (fun q _ h => z_free hDu hS hA q h) (fun E ce q9 u1 t H locs ht hvm _ hB hz hkeep hS1 hcell hv hcl => ?_) (fun r u1 t H locs ht hvm hp hB hz hkeep hS1 => ?_)
  · obtain ⟨hpu, hP1, hK1, hD1⟩ := hB
    rw [ht] at hP1
    obtain ⟨hP, hD⟩ := wj_join hP hD hkeep (fun q h => z_free hDu hS hA q h) hP1 hD1
    rcases hpx E u1 hpu with rfl | rfl
    · refine vx_catch (name := "java/lang/IndexOutOfBoundsException") hown [] ⟨0, 9, 12, 13⟩ [⟨0, 9, 15, 20⟩] htb (fun z hz => absurd hz List.not_mem_nil) rfl (by decide) (hts (.classLink RL 13 "java/lang/IndexOutOfBoundsException") (List.mem_of_getElem? (i := 1) rfl)) (va_Nw.use rfl hV.1.2.2.2.2.2) hcell hv hcl ?_
      refine lv_astore_n (lv' := [(3, .ref q9), (0, .ref ad), (1, .int i1), (2, .ref o)]) hx hb dL_copies_12 rfl hl (by decide) rfl (fun ls hl => ?_)
      refine z_ic hx hb dL_copies_13 ?_
      exact x_iret (w := u1 ++ [(o, oc g f0)]) (v := iI 1) (px := yF) hQ hx hb hr hlocks (Or.inr ⟨_, u1, 1, List.mem_of_getElem? (i := 0) rfl, hpu, rfl, rfl⟩) hK hP hD hS1 (Nat.le_of_ble_eq_true rfl) (Nat.le_of_ble_eq_true rfl) dL_copies_14
    · refine vx_catch (name := "java/lang/IllegalStateException") hown [⟨0, 9, 12, 13⟩] ⟨0, 9, 15, 20⟩ [] htb (fun z hz => by obtain rfl := List.mem_singleton.mp hz; exact Or.inr ⟨by decide, "java/lang/IndexOutOfBoundsException", (hts (.classLink RL 13 "java/lang/IndexOutOfBoundsException") (List.mem_of_getElem? (i := 1) rfl)), hN _ (List.mem_of_getElem? (i := 3) rfl)⟩) rfl (by decide) (hts (.classLink RL 20 "java/lang/IllegalStateException") (List.mem_of_getElem? (i := 2) rfl)) (va_Nw.use rfl hV.1.2.2.2.2.1) hcell hv hcl ?_
      refine lv_astore_n (lv' := [(3, .ref q9), (0, .ref ad), (1, .int i1), (2, .ref o)]) hx hb dL_copies_15 rfl hl (by decide) rfl (fun ls hl => ?_)
      refine z_ic hx hb dL_copies_16 ?_
      exact x_iret (w := u1 ++ [(o, oc g f0)]) (v := iI 2) (px := yF) hQ hx hb hr hlocks (Or.inr ⟨_, u1, 2, List.mem_of_getElem? (i := 1) rfl, hpu, rfl, rfl⟩) hK hP hD hS1 (Nat.le_of_ble_eq_true rfl) (Nat.le_of_ble_eq_true rfl) dL_copies_17
  · obtain ⟨hP1, hK1, hD1⟩ := hB
    rw [ht] at hP1
    obtain ⟨hP, hD⟩ := wj_join hP hD hkeep (fun q h => z_free hDu hS hA q h) hP1 hD1
    refine lv_i2l (v := r.toInt64) hx hb dL_copies_7 rfl ?_
    refine va_last (x := r.toInt64) hx hb hK hP hD hS1 u1.length 3 wj_at rfl vin0 dL_copies_8 (fun H locs hP hD hS => ?_)
    rw [wj_set] at hP hD
    refine lv_goto (tgt := 18) hx hb dL_copies_9 (by decide) ?_
    refine z_ic hx hb dL_copies_18 ?_
    exact x_iret (w := u1 ++ [(o, oc g (vp_updL f0 (iI 0).toNatClampNeg r.toInt64))]) (v := iI 0) (px := yF) hQ hx hb hr hlocks (Or.inl ⟨r, u1, _, hp, rfl, updL_0 _ _, rfl⟩) hK hP hD hS (Nat.le_of_ble_eq_true rfl) (Nat.le_of_ble_eq_true rfl) dL_copies_19
set_option maxHeartbeats 4000000 in
set_option maxRecDepth 100000 in
theorem c_L_unrolling (l : Launch) (D : va_G) (g : Nat → ClassId) (o ad : Nat) (f0 : Nat → Int64) (u : va_W) (fs : List Value) (hu0 : u[0]? = some (ad, .inr (2, fs))) (post : Int32 → va_W → Prop) (px : String → va_W → Prop) (hM : xMi l D (zT g) yX2_unrolling wsX2_unrolling 7 102 1 u [.ref ad] post px) (hpx : ∀ (E : String) (w9 : va_W), px E w9 → E = nIS) : yMi l D (zT g) yL_unrolling wsL_unrolling 8 125 1 (u ++ [(o, oc g f0)]) [.ref ad, .ref o] (wpost post px g o f0 (fun r0 => r0.toInt64) [(nIS, 1)]) := by
  refine y_of (cc := cL_unrolling) (maxL := 3) (hh := [(0, 8, 11, 20)]) (by decide) rfl (Nat.le_of_ble_eq_true rfl) ?_
  intro p e s m args below meth c A ls hx hb hr hts hown hlocks hml hP hK hD hS hA hl hE hV hN htb Q hQ
  have hown : s.vm.findClass RL = some m.cls := hown
  have hl : lv_has ls 3 [(0, .ref ad), (1, .ref o)] := hl
  have hPu := wj_l hP
  have hDu := wj_dl hD
  refine lv_aload_n hx hb dL_unrolling_0 rfl (lv_at hl 1 rfl) ?_
  refine z_ic hx hb dL_unrolling_1 ?_
  refine lv_aload_n hx hb dL_unrolling_2 rfl (lv_at hl 0 rfl) ?_
  refine vx_calli (vx_runV (As := []) (rest := [.int (iI 0), .ref o]) ⟨hx, hb, hml, hown, hts⟩ (hM s.heap.size) (cwV 0 hts gL_unrolling_X2_unrolling rfl rfl rfl (by decide +kernel) ⟨Nat.le_of_ble_eq_true rfl, Nat.le_of_ble_eq_true rfl⟩) (x_preV 0 hK hPu hDu hS hA hE hV rfl hu0) rfl rfl hl.1 rfl (lv_room (Nat.le_of_ble_eq_true rfl)) dL_unrolling_3 ⟨Nat.le_of_ble_eq_true rfl, Nat.le_of_ble_eq_true rfl⟩) hS (fun q _ h => z_free hDu hS hA q h) (fun q h => z_free hDu hS hA q h) (fun q _ h => z_free hDu hS hA q h) (fun E ce q9 u1 t H locs ht hvm _ hB hz hkeep hS1 hcell hv hcl => ?_) (fun r u1 t H locs ht hvm hp hB hz hkeep hS1 => ?_)
  · obtain ⟨hpu, hP1, hK1, hD1⟩ := hB
    rw [ht] at hP1
    obtain ⟨hP, hD⟩ := wj_join hP hD hkeep (fun q h => z_free hDu hS hA q h) hP1 hD1
    rcases hpx E u1 hpu with rfl
    · refine vx_catch (name := "java/lang/IllegalStateException") hown [] ⟨0, 8, 11, 20⟩ [] htb (fun z hz => absurd hz List.not_mem_nil) rfl (by decide) (hts (.classLink RL 20 "java/lang/IllegalStateException") (List.mem_of_getElem? (i := 1) rfl)) (va_Nw.use rfl hV.1.2.2.2.2.1) hcell hv hcl ?_
      refine lv_astore_n (lv' := [(2, .ref q9), (0, .ref ad), (1, .ref o)]) hx hb dL_unrolling_11 rfl hl (by decide) rfl (fun ls hl => ?_)
      refine z_ic hx hb dL_unrolling_12 ?_
      exact x_iret (w := u1 ++ [(o, oc g f0)]) (v := iI 1) (px := yF) hQ hx hb hr hlocks (Or.inr ⟨_, u1, 1, List.mem_of_getElem? (i := 0) rfl, hpu, rfl, rfl⟩) hK hP hD hS1 (Nat.le_of_ble_eq_true rfl) (Nat.le_of_ble_eq_true rfl) dL_unrolling_13
  · obtain ⟨hP1, hK1, hD1⟩ := hB
    rw [ht] at hP1
    obtain ⟨hP, hD⟩ := wj_join hP hD hkeep (fun q h => z_free hDu hS hA q h) hP1 hD1
    refine lv_i2l (v := r.toInt64) hx hb dL_unrolling_6 rfl ?_
    refine va_last (x := r.toInt64) hx hb hK hP hD hS1 u1.length 3 wj_at rfl vin0 dL_unrolling_7 (fun H locs hP hD hS => ?_)
    rw [wj_set] at hP hD
    refine lv_goto (tgt := 14) hx hb dL_unrolling_8 (by decide) ?_
    refine z_ic hx hb dL_unrolling_14 ?_
    exact x_iret (w := u1 ++ [(o, oc g (vp_updL f0 (iI 0).toNatClampNeg r.toInt64))]) (v := iI 0) (px := yF) hQ hx hb hr hlocks (Or.inl ⟨r, u1, _, hp, rfl, updL_0 _ _, rfl⟩) hK hP hD hS (Nat.le_of_ble_eq_true rfl) (Nat.le_of_ble_eq_true rfl) dL_unrolling_15
set_option maxHeartbeats 4000000 in
set_option maxRecDepth 100000 in
theorem c_L_cycles (l : Launch) (D : va_G) (g : Nat → ClassId) (o ad : Nat) (f0 : Nat → Int64) (u : va_W) (fs : List Value) (hu0 : u[0]? = some (ad, .inr (2, fs))) (i1 : Int32) (post : Int32 → va_W → Prop) (px : String → va_W → Prop) (hM : xMi l D (zT g) yX2_cycles wsX2_cycles 7 102 2 u [.ref ad, .int i1] post px) (hpx : ∀ (E : String) (w9 : va_W), px E w9 → E = nIS ∨ E = nIA) : yMi l D (zT g) yL_cycles wsL_cycles 8 123 2 (u ++ [(o, oc g f0)]) [.ref ad, .int i1, .ref o] (wpost post px g o f0 (fun r0 => r0.toInt64) [(nIS, 1), (nIA, 2)]) := by
  refine y_of (cc := cL_cycles) (maxL := 4) (hh := [(0, 9, 12, 20), (0, 9, 15, 15)]) (by decide) rfl (Nat.le_of_ble_eq_true rfl) ?_
  intro p e s m args below meth c A ls hx hb hr hts hown hlocks hml hP hK hD hS hA hl hE hV hN htb Q hQ
  have hown : s.vm.findClass RL = some m.cls := hown
  have hl : lv_has ls 4 [(0, .ref ad), (1, .int i1), (2, .ref o)] := hl
  have hPu := wj_l hP
  have hDu := wj_dl hD
  refine lv_aload_n hx hb dL_cycles_0 rfl (lv_at hl 2 rfl) ?_
  refine z_ic hx hb dL_cycles_1 ?_
  refine lv_aload_n hx hb dL_cycles_2 rfl (lv_at hl 0 rfl) ?_
  refine lv_iload_n hx hb dL_cycles_3 rfl (lv_at hl 1 rfl) ?_
  refine vx_calli (vx_runV (As := [.int i1]) (rest := [.int (iI 0), .ref o]) ⟨hx, hb, hml, hown, hts⟩ (hM s.heap.size) (cwV 1 hts gL_cycles_X2_cycles rfl rfl rfl (by decide +kernel) ⟨Nat.le_of_ble_eq_true rfl, Nat.le_of_ble_eq_true rfl⟩) (x_preV 0 hK hPu hDu hS hA hE hV rfl hu0) rfl rfl hl.1 rfl (lv_room (Nat.le_of_ble_eq_true rfl)) dL_cycles_4 ⟨Nat.le_of_ble_eq_true rfl, Nat.le_of_ble_eq_true rfl⟩) hS (fun q _ h => z_free hDu hS hA q h) (fun q h => z_free hDu hS hA q h) (fun q _ h => z_free hDu hS hA q h) (fun E ce q9 u1 t H locs ht hvm _ hB hz hkeep hS1 hcell hv hcl => ?_) (fun r u1 t H locs ht hvm hp hB hz hkeep hS1 => ?_)
  · obtain ⟨hpu, hP1, hK1, hD1⟩ := hB
    rw [ht] at hP1
    obtain ⟨hP, hD⟩ := wj_join hP hD hkeep (fun q h => z_free hDu hS hA q h) hP1 hD1
    rcases hpx E u1 hpu with rfl | rfl
    · refine vx_catch (name := "java/lang/IllegalStateException") hown [] ⟨0, 9, 12, 20⟩ [⟨0, 9, 15, 15⟩] htb (fun z hz => absurd hz List.not_mem_nil) rfl (by decide) (hts (.classLink RL 20 "java/lang/IllegalStateException") (List.mem_of_getElem? (i := 1) rfl)) (va_Nw.use rfl hV.1.2.2.2.2.1) hcell hv hcl ?_
      refine lv_astore_n (lv' := [(3, .ref q9), (0, .ref ad), (1, .int i1), (2, .ref o)]) hx hb dL_cycles_12 rfl hl (by decide) rfl (fun ls hl => ?_)
      refine z_ic hx hb dL_cycles_13 ?_
      exact x_iret (w := u1 ++ [(o, oc g f0)]) (v := iI 1) (px := yF) hQ hx hb hr hlocks (Or.inr ⟨_, u1, 1, List.mem_of_getElem? (i := 0) rfl, hpu, rfl, rfl⟩) hK hP hD hS1 (Nat.le_of_ble_eq_true rfl) (Nat.le_of_ble_eq_true rfl) dL_cycles_14
    · refine vx_catch (name := "java/lang/IllegalArgumentException") hown [⟨0, 9, 12, 20⟩] ⟨0, 9, 15, 15⟩ [] htb (fun z hz => by obtain rfl := List.mem_singleton.mp hz; exact Or.inr ⟨by decide, "java/lang/IllegalStateException", (hts (.classLink RL 20 "java/lang/IllegalStateException") (List.mem_of_getElem? (i := 1) rfl)), hN _ (List.mem_of_getElem? (i := 0) rfl)⟩) rfl (by decide) (hts (.classLink RL 15 "java/lang/IllegalArgumentException") (List.mem_of_getElem? (i := 2) rfl)) (va_Nw.use rfl hV.1.2.2.2.1) hcell hv hcl ?_
      refine lv_astore_n (lv' := [(3, .ref q9), (0, .ref ad), (1, .int i1), (2, .ref o)]) hx hb dL_cycles_15 rfl hl (by decide) rfl (fun ls hl => ?_)
      refine z_ic hx hb dL_cycles_16 ?_
      exact x_iret (w := u1 ++ [(o, oc g f0)]) (v := iI 2) (px := yF) hQ hx hb hr hlocks (Or.inr ⟨_, u1, 2, List.mem_of_getElem? (i := 1) rfl, hpu, rfl, rfl⟩) hK hP hD hS1 (Nat.le_of_ble_eq_true rfl) (Nat.le_of_ble_eq_true rfl) dL_cycles_17
  · obtain ⟨hP1, hK1, hD1⟩ := hB
    rw [ht] at hP1
    obtain ⟨hP, hD⟩ := wj_join hP hD hkeep (fun q h => z_free hDu hS hA q h) hP1 hD1
    refine lv_i2l (v := r.toInt64) hx hb dL_cycles_7 rfl ?_
    refine va_last (x := r.toInt64) hx hb hK hP hD hS1 u1.length 3 wj_at rfl vin0 dL_cycles_8 (fun H locs hP hD hS => ?_)
    rw [wj_set] at hP hD
    refine lv_goto (tgt := 18) hx hb dL_cycles_9 (by decide) ?_
    refine z_ic hx hb dL_cycles_18 ?_
    exact x_iret (w := u1 ++ [(o, oc g (vp_updL f0 (iI 0).toNatClampNeg r.toInt64))]) (v := iI 0) (px := yF) hQ hx hb hr hlocks (Or.inl ⟨r, u1, _, hp, rfl, updL_0 _ _, rfl⟩) hK hP hD hS (Nat.le_of_ble_eq_true rfl) (Nat.le_of_ble_eq_true rfl) dL_cycles_19
set_option maxHeartbeats 4000000 in
set_option maxRecDepth 100000 in
theorem c_L_issued (l : Launch) (D : va_G) (g : Nat → ClassId) (o ad : Nat) (f0 : Nat → Int64) (u : va_W) (fs : List Value) (hu0 : u[0]? = some (ad, .inr (2, fs))) (i1 : Int32) (i2 : Int32) (post : Int32 → va_W → Prop) (px : String → va_W → Prop) (hM : xMi l D (zT g) yX2_issued wsX2_issued 7 102 3 u [.ref ad, .int i1, .int i2] post px) (hpx : ∀ (E : String) (w9 : va_W), px E w9 → E = nIS ∨ E = nIA) : yMi l D (zT g) yL_issued wsL_issued 8 126 3 (u ++ [(o, oc g f0)]) [.ref ad, .int i1, .int i2, .ref o] (wpost post px g o f0 (fun r0 => r0.toInt64) [(nIS, 1), (nIA, 2)]) := by
  refine y_of (cc := cL_issued) (maxL := 5) (hh := [(0, 10, 13, 20), (0, 10, 17, 15)]) (by decide) rfl (Nat.le_of_ble_eq_true rfl) ?_
  intro p e s m args below meth c A ls hx hb hr hts hown hlocks hml hP hK hD hS hA hl hE hV hN htb Q hQ
  have hown : s.vm.findClass RL = some m.cls := hown
  have hl : lv_has ls 5 [(0, .ref ad), (1, .int i1), (2, .int i2), (3, .ref o)] := hl
  have hPu := wj_l hP
  have hDu := wj_dl hD
  refine lv_aload_n hx hb dL_issued_0 rfl (lv_at hl 3 rfl) ?_
  refine z_ic hx hb dL_issued_1 ?_
  refine lv_aload_n hx hb dL_issued_2 rfl (lv_at hl 0 rfl) ?_
  refine lv_iload_n hx hb dL_issued_3 rfl (lv_at hl 1 rfl) ?_
  refine lv_iload_n hx hb dL_issued_4 rfl (lv_at hl 2 rfl) ?_
  refine vx_calli (vx_runV (As := [.int i1, .int i2]) (rest := [.int (iI 0), .ref o]) ⟨hx, hb, hml, hown, hts⟩ (hM s.heap.size) (cwV 2 hts gL_issued_X2_issued rfl rfl rfl (by decide +kernel) ⟨Nat.le_of_ble_eq_true rfl, Nat.le_of_ble_eq_true rfl⟩) (x_preV 0 hK hPu hDu hS hA hE hV rfl hu0) rfl rfl hl.1 rfl (lv_room (Nat.le_of_ble_eq_true rfl)) dL_issued_5 ⟨Nat.le_of_ble_eq_true rfl, Nat.le_of_ble_eq_true rfl⟩) hS (fun q _ h => z_free hDu hS hA q h) (fun q h => z_free hDu hS hA q h) (fun q _ h => z_free hDu hS hA q h) (fun E ce q9 u1 t H locs ht hvm _ hB hz hkeep hS1 hcell hv hcl => ?_) (fun r u1 t H locs ht hvm hp hB hz hkeep hS1 => ?_)
  · obtain ⟨hpu, hP1, hK1, hD1⟩ := hB
    rw [ht] at hP1
    obtain ⟨hP, hD⟩ := wj_join hP hD hkeep (fun q h => z_free hDu hS hA q h) hP1 hD1
    rcases hpx E u1 hpu with rfl | rfl
    · refine vx_catch (name := "java/lang/IllegalStateException") hown [] ⟨0, 10, 13, 20⟩ [⟨0, 10, 17, 15⟩] htb (fun z hz => absurd hz List.not_mem_nil) rfl (by decide) (hts (.classLink RL 20 "java/lang/IllegalStateException") (List.mem_of_getElem? (i := 1) rfl)) (va_Nw.use rfl hV.1.2.2.2.2.1) hcell hv hcl ?_
      refine lv_astore (lv' := [(4, .ref q9), (0, .ref ad), (1, .int i1), (2, .int i2), (3, .ref o)]) hx hb dL_issued_13 hl (by decide) rfl (fun ls hl => ?_)
      refine z_ic hx hb dL_issued_15 ?_
      exact x_iret (w := u1 ++ [(o, oc g f0)]) (v := iI 1) (px := yF) hQ hx hb hr hlocks (Or.inr ⟨_, u1, 1, List.mem_of_getElem? (i := 0) rfl, hpu, rfl, rfl⟩) hK hP hD hS1 (Nat.le_of_ble_eq_true rfl) (Nat.le_of_ble_eq_true rfl) dL_issued_16
    · refine vx_catch (name := "java/lang/IllegalArgumentException") hown [⟨0, 10, 13, 20⟩] ⟨0, 10, 17, 15⟩ [] htb (fun z hz => by obtain rfl := List.mem_singleton.mp hz; exact Or.inr ⟨by decide, "java/lang/IllegalStateException", (hts (.classLink RL 20 "java/lang/IllegalStateException") (List.mem_of_getElem? (i := 1) rfl)), hN _ (List.mem_of_getElem? (i := 0) rfl)⟩) rfl (by decide) (hts (.classLink RL 15 "java/lang/IllegalArgumentException") (List.mem_of_getElem? (i := 2) rfl)) (va_Nw.use rfl hV.1.2.2.2.1) hcell hv hcl ?_
      refine lv_astore (lv' := [(4, .ref q9), (0, .ref ad), (1, .int i1), (2, .int i2), (3, .ref o)]) hx hb dL_issued_17 hl (by decide) rfl (fun ls hl => ?_)
      refine z_ic hx hb dL_issued_19 ?_
      exact x_iret (w := u1 ++ [(o, oc g f0)]) (v := iI 2) (px := yF) hQ hx hb hr hlocks (Or.inr ⟨_, u1, 2, List.mem_of_getElem? (i := 1) rfl, hpu, rfl, rfl⟩) hK hP hD hS1 (Nat.le_of_ble_eq_true rfl) (Nat.le_of_ble_eq_true rfl) dL_issued_20
  · obtain ⟨hP1, hK1, hD1⟩ := hB
    rw [ht] at hP1
    obtain ⟨hP, hD⟩ := wj_join hP hD hkeep (fun q h => z_free hDu hS hA q h) hP1 hD1
    refine lv_i2l (v := r.toInt64) hx hb dL_issued_8 rfl ?_
    refine va_last (x := r.toInt64) hx hb hK hP hD hS1 u1.length 3 wj_at rfl vin0 dL_issued_9 (fun H locs hP hD hS => ?_)
    rw [wj_set] at hP hD
    refine lv_goto (tgt := 21) hx hb dL_issued_10 (by decide) ?_
    refine z_ic hx hb dL_issued_21 ?_
    exact x_iret (w := u1 ++ [(o, oc g (vp_updL f0 (iI 0).toNatClampNeg r.toInt64))]) (v := iI 0) (px := yF) hQ hx hb hr hlocks (Or.inl ⟨r, u1, _, hp, rfl, updL_0 _ _, rfl⟩) hK hP hD hS (Nat.le_of_ble_eq_true rfl) (Nat.le_of_ble_eq_true rfl) dL_issued_22
set_option maxHeartbeats 4000000 in
set_option maxRecDepth 100000 in
theorem c_L_issue (l : Launch) (D : va_G) (g : Nat → ClassId) (o ad : Nat) (f0 : Nat → Int64) (u : va_W) (fs : List Value) (hu0 : u[0]? = some (ad, .inr (2, fs))) (i1 : Int32) (i2 : Int32) (i3 : Int32) (post : Int32 → va_W → Prop) (px : String → va_W → Prop) (hM : xMi l D (zT g) yX2_issue wsX2_issue 7 102 4 u [.ref ad, .int i1, .int i2, .int i3] post px) (hpx : ∀ (E : String) (w9 : va_W), px E w9 → E = nIS ∨ E = nIA ∨ E = nIX) : yMi l D (zT g) yL_issue wsL_issue 8 126 4 (u ++ [(o, oc g f0)]) [.ref ad, .int i1, .int i2, .int i3, .ref o] (wpost post px g o f0 (fun r0 => r0.toInt64) [(nIS, 1), (nIA, 2), (nIX, 3)]) := by
  refine y_of (cc := cL_issue) (maxL := 6) (hh := [(0, 12, 15, 20), (0, 12, 19, 15), (0, 12, 23, 13)]) (by decide) rfl (Nat.le_of_ble_eq_true rfl) ?_
  intro p e s m args below meth c A ls hx hb hr hts hown hlocks hml hP hK hD hS hA hl hE hV hN htb Q hQ
  have hown : s.vm.findClass RL = some m.cls := hown
  have hl : lv_has ls 6 [(0, .ref ad), (1, .int i1), (2, .int i2), (3, .int i3), (4, .ref o)] := hl
  have hPu := wj_l hP
  have hDu := wj_dl hD
  refine lv_aload hx hb dL_issue_0 (lv_at hl 4 rfl) ?_
  refine z_ic hx hb dL_issue_2 ?_
  refine lv_aload_n hx hb dL_issue_3 rfl (lv_at hl 0 rfl) ?_
  refine lv_iload_n hx hb dL_issue_4 rfl (lv_at hl 1 rfl) ?_
  refine lv_iload_n hx hb dL_issue_5 rfl (lv_at hl 2 rfl) ?_
  refine lv_iload_n hx hb dL_issue_6 rfl (lv_at hl 3 rfl) ?_
  refine vx_calli (vx_runV (As := [.int i1, .int i2, .int i3]) (rest := [.int (iI 0), .ref o]) ⟨hx, hb, hml, hown, hts⟩ (hM s.heap.size) (cwV 3 hts gL_issue_X2_issue rfl rfl rfl (by decide +kernel) ⟨Nat.le_of_ble_eq_true rfl, Nat.le_of_ble_eq_true rfl⟩) (x_preV 0 hK hPu hDu hS hA hE hV rfl hu0) rfl rfl hl.1 rfl (lv_room (Nat.le_of_ble_eq_true rfl)) dL_issue_7 ⟨Nat.le_of_ble_eq_true rfl, Nat.le_of_ble_eq_true rfl⟩) hS (fun q _ h => z_free hDu hS hA q h) (fun q h => z_free hDu hS hA q h) (fun q _ h => z_free hDu hS hA q h) (fun E ce q9 u1 t H locs ht hvm _ hB hz hkeep hS1 hcell hv hcl => ?_) (fun r u1 t H locs ht hvm hp hB hz hkeep hS1 => ?_)
  · obtain ⟨hpu, hP1, hK1, hD1⟩ := hB
    rw [ht] at hP1
    obtain ⟨hP, hD⟩ := wj_join hP hD hkeep (fun q h => z_free hDu hS hA q h) hP1 hD1
    rcases hpx E u1 hpu with rfl | rfl | rfl
    · refine vx_catch (name := "java/lang/IllegalStateException") hown [] ⟨0, 12, 15, 20⟩ [⟨0, 12, 19, 15⟩, ⟨0, 12, 23, 13⟩] htb (fun z hz => absurd hz List.not_mem_nil) rfl (by decide) (hts (.classLink RL 20 "java/lang/IllegalStateException") (List.mem_of_getElem? (i := 1) rfl)) (va_Nw.use rfl hV.1.2.2.2.2.1) hcell hv hcl ?_
      refine lv_astore (lv' := [(5, .ref q9), (0, .ref ad), (1, .int i1), (2, .int i2), (3, .int i3), (4, .ref o)]) hx hb dL_issue_15 hl (by decide) rfl (fun ls hl => ?_)
      refine z_ic hx hb dL_issue_17 ?_
      exact x_iret (w := u1 ++ [(o, oc g f0)]) (v := iI 1) (px := yF) hQ hx hb hr hlocks (Or.inr ⟨_, u1, 1, List.mem_of_getElem? (i := 0) rfl, hpu, rfl, rfl⟩) hK hP hD hS1 (Nat.le_of_ble_eq_true rfl) (Nat.le_of_ble_eq_true rfl) dL_issue_18
    · refine vx_catch (name := "java/lang/IllegalArgumentException") hown [⟨0, 12, 15, 20⟩] ⟨0, 12, 19, 15⟩ [⟨0, 12, 23, 13⟩] htb (fun z hz => by obtain rfl := List.mem_singleton.mp hz; exact Or.inr ⟨by decide, "java/lang/IllegalStateException", (hts (.classLink RL 20 "java/lang/IllegalStateException") (List.mem_of_getElem? (i := 1) rfl)), hN _ (List.mem_of_getElem? (i := 0) rfl)⟩) rfl (by decide) (hts (.classLink RL 15 "java/lang/IllegalArgumentException") (List.mem_of_getElem? (i := 2) rfl)) (va_Nw.use rfl hV.1.2.2.2.1) hcell hv hcl ?_
      refine lv_astore (lv' := [(5, .ref q9), (0, .ref ad), (1, .int i1), (2, .int i2), (3, .int i3), (4, .ref o)]) hx hb dL_issue_19 hl (by decide) rfl (fun ls hl => ?_)
      refine z_ic hx hb dL_issue_21 ?_
      exact x_iret (w := u1 ++ [(o, oc g f0)]) (v := iI 2) (px := yF) hQ hx hb hr hlocks (Or.inr ⟨_, u1, 2, List.mem_of_getElem? (i := 1) rfl, hpu, rfl, rfl⟩) hK hP hD hS1 (Nat.le_of_ble_eq_true rfl) (Nat.le_of_ble_eq_true rfl) dL_issue_22
    · refine vx_catch (name := "java/lang/IndexOutOfBoundsException") hown [⟨0, 12, 15, 20⟩, ⟨0, 12, 19, 15⟩] ⟨0, 12, 23, 13⟩ [] htb (fun z hz => (List.mem_cons.mp hz).elim (fun e9 => by subst e9; exact Or.inr ⟨by decide, "java/lang/IllegalStateException", (hts (.classLink RL 20 "java/lang/IllegalStateException") (List.mem_of_getElem? (i := 1) rfl)), hN _ (List.mem_of_getElem? (i := 5) rfl)⟩) (fun h9 => by obtain rfl := List.mem_singleton.mp h9; exact Or.inr ⟨by decide, "java/lang/IllegalArgumentException", (hts (.classLink RL 15 "java/lang/IllegalArgumentException") (List.mem_of_getElem? (i := 2) rfl)), hN _ (List.mem_of_getElem? (i := 4) rfl)⟩)) rfl (by decide) (hts (.classLink RL 13 "java/lang/IndexOutOfBoundsException") (List.mem_of_getElem? (i := 3) rfl)) (va_Nw.use rfl hV.1.2.2.2.2.2) hcell hv hcl ?_
      refine lv_astore (lv' := [(5, .ref q9), (0, .ref ad), (1, .int i1), (2, .int i2), (3, .int i3), (4, .ref o)]) hx hb dL_issue_23 hl (by decide) rfl (fun ls hl => ?_)
      refine z_ic hx hb dL_issue_25 ?_
      exact x_iret (w := u1 ++ [(o, oc g f0)]) (v := iI 3) (px := yF) hQ hx hb hr hlocks (Or.inr ⟨_, u1, 3, List.mem_of_getElem? (i := 2) rfl, hpu, rfl, rfl⟩) hK hP hD hS1 (Nat.le_of_ble_eq_true rfl) (Nat.le_of_ble_eq_true rfl) dL_issue_26
  · obtain ⟨hP1, hK1, hD1⟩ := hB
    rw [ht] at hP1
    obtain ⟨hP, hD⟩ := wj_join hP hD hkeep (fun q h => z_free hDu hS hA q h) hP1 hD1
    refine lv_i2l (v := r.toInt64) hx hb dL_issue_10 rfl ?_
    refine va_last (x := r.toInt64) hx hb hK hP hD hS1 u1.length 3 wj_at rfl vin0 dL_issue_11 (fun H locs hP hD hS => ?_)
    rw [wj_set] at hP hD
    refine lv_goto (tgt := 27) hx hb dL_issue_12 (by decide) ?_
    refine z_ic hx hb dL_issue_27 ?_
    exact x_iret (w := u1 ++ [(o, oc g (vp_updL f0 (iI 0).toNatClampNeg r.toInt64))]) (v := iI 0) (px := yF) hQ hx hb hr hlocks (Or.inl ⟨r, u1, _, hp, rfl, updL_0 _ _, rfl⟩) hK hP hD hS (Nat.le_of_ble_eq_true rfl) (Nat.le_of_ble_eq_true rfl) dL_issue_28
set_option maxHeartbeats 4000000 in
set_option maxRecDepth 100000 in
theorem c_L_prologue (l : Launch) (D : va_G) (g : Nat → ClassId) (o ad : Nat) (f0 : Nat → Int64) (u : va_W) (fs : List Value) (hu0 : u[0]? = some (ad, .inr (2, fs))) (post : Int32 → va_W → Prop) (px : String → va_W → Prop) (hM : xMi l D (zT g) yX2_prologue wsX2_prologue 7 102 1 u [.ref ad] post px) (hpx : ∀ (E : String) (w9 : va_W), px E w9 → E = nIS) : yMi l D (zT g) yL_prologue wsL_prologue 8 125 1 (u ++ [(o, oc g f0)]) [.ref ad, .ref o] (wpost post px g o f0 (fun r0 => r0.toInt64) [(nIS, 1)]) := by
  refine y_of (cc := cL_prologue) (maxL := 3) (hh := [(0, 8, 11, 20)]) (by decide) rfl (Nat.le_of_ble_eq_true rfl) ?_
  intro p e s m args below meth c A ls hx hb hr hts hown hlocks hml hP hK hD hS hA hl hE hV hN htb Q hQ
  have hown : s.vm.findClass RL = some m.cls := hown
  have hl : lv_has ls 3 [(0, .ref ad), (1, .ref o)] := hl
  have hPu := wj_l hP
  have hDu := wj_dl hD
  refine lv_aload_n hx hb dL_prologue_0 rfl (lv_at hl 1 rfl) ?_
  refine z_ic hx hb dL_prologue_1 ?_
  refine lv_aload_n hx hb dL_prologue_2 rfl (lv_at hl 0 rfl) ?_
  refine vx_calli (vx_runV (As := []) (rest := [.int (iI 0), .ref o]) ⟨hx, hb, hml, hown, hts⟩ (hM s.heap.size) (cwV 0 hts gL_prologue_X2_prologue rfl rfl rfl (by decide +kernel) ⟨Nat.le_of_ble_eq_true rfl, Nat.le_of_ble_eq_true rfl⟩) (x_preV 0 hK hPu hDu hS hA hE hV rfl hu0) rfl rfl hl.1 rfl (lv_room (Nat.le_of_ble_eq_true rfl)) dL_prologue_3 ⟨Nat.le_of_ble_eq_true rfl, Nat.le_of_ble_eq_true rfl⟩) hS (fun q _ h => z_free hDu hS hA q h) (fun q h => z_free hDu hS hA q h) (fun q _ h => z_free hDu hS hA q h) (fun E ce q9 u1 t H locs ht hvm _ hB hz hkeep hS1 hcell hv hcl => ?_) (fun r u1 t H locs ht hvm hp hB hz hkeep hS1 => ?_)
  · obtain ⟨hpu, hP1, hK1, hD1⟩ := hB
    rw [ht] at hP1
    obtain ⟨hP, hD⟩ := wj_join hP hD hkeep (fun q h => z_free hDu hS hA q h) hP1 hD1
    rcases hpx E u1 hpu with rfl
    · refine vx_catch (name := "java/lang/IllegalStateException") hown [] ⟨0, 8, 11, 20⟩ [] htb (fun z hz => absurd hz List.not_mem_nil) rfl (by decide) (hts (.classLink RL 20 "java/lang/IllegalStateException") (List.mem_of_getElem? (i := 1) rfl)) (va_Nw.use rfl hV.1.2.2.2.2.1) hcell hv hcl ?_
      refine lv_astore_n (lv' := [(2, .ref q9), (0, .ref ad), (1, .ref o)]) hx hb dL_prologue_11 rfl hl (by decide) rfl (fun ls hl => ?_)
      refine z_ic hx hb dL_prologue_12 ?_
      exact x_iret (w := u1 ++ [(o, oc g f0)]) (v := iI 1) (px := yF) hQ hx hb hr hlocks (Or.inr ⟨_, u1, 1, List.mem_of_getElem? (i := 0) rfl, hpu, rfl, rfl⟩) hK hP hD hS1 (Nat.le_of_ble_eq_true rfl) (Nat.le_of_ble_eq_true rfl) dL_prologue_13
  · obtain ⟨hP1, hK1, hD1⟩ := hB
    rw [ht] at hP1
    obtain ⟨hP, hD⟩ := wj_join hP hD hkeep (fun q h => z_free hDu hS hA q h) hP1 hD1
    refine lv_i2l (v := r.toInt64) hx hb dL_prologue_6 rfl ?_
    refine va_last (x := r.toInt64) hx hb hK hP hD hS1 u1.length 3 wj_at rfl vin0 dL_prologue_7 (fun H locs hP hD hS => ?_)
    rw [wj_set] at hP hD
    refine lv_goto (tgt := 14) hx hb dL_prologue_8 (by decide) ?_
    refine z_ic hx hb dL_prologue_14 ?_
    exact x_iret (w := u1 ++ [(o, oc g (vp_updL f0 (iI 0).toNatClampNeg r.toInt64))]) (v := iI 0) (px := yF) hQ hx hb hr hlocks (Or.inl ⟨r, u1, _, hp, rfl, updL_0 _ _, rfl⟩) hK hP hD hS (Nat.le_of_ble_eq_true rfl) (Nat.le_of_ble_eq_true rfl) dL_prologue_15
set_option maxHeartbeats 4000000 in
set_option maxRecDepth 100000 in
theorem c_L_epilogue (l : Launch) (D : va_G) (g : Nat → ClassId) (o ad : Nat) (f0 : Nat → Int64) (u : va_W) (fs : List Value) (hu0 : u[0]? = some (ad, .inr (2, fs))) (post : Int32 → va_W → Prop) (px : String → va_W → Prop) (hM : xMi l D (zT g) yX2_epilogue wsX2_epilogue 7 102 1 u [.ref ad] post px) (hpx : ∀ (E : String) (w9 : va_W), px E w9 → E = nIS) : yMi l D (zT g) yL_epilogue wsL_epilogue 8 124 1 (u ++ [(o, oc g f0)]) [.ref ad, .ref o] (wpost post px g o f0 (fun r0 => r0.toInt64) [(nIS, 1)]) := by
  refine y_of (cc := cL_epilogue) (maxL := 3) (hh := [(0, 8, 11, 20)]) (by decide) rfl (Nat.le_of_ble_eq_true rfl) ?_
  intro p e s m args below meth c A ls hx hb hr hts hown hlocks hml hP hK hD hS hA hl hE hV hN htb Q hQ
  have hown : s.vm.findClass RL = some m.cls := hown
  have hl : lv_has ls 3 [(0, .ref ad), (1, .ref o)] := hl
  have hPu := wj_l hP
  have hDu := wj_dl hD
  refine lv_aload_n hx hb dL_epilogue_0 rfl (lv_at hl 1 rfl) ?_
  refine z_ic hx hb dL_epilogue_1 ?_
  refine lv_aload_n hx hb dL_epilogue_2 rfl (lv_at hl 0 rfl) ?_
  refine vx_calli (vx_runV (As := []) (rest := [.int (iI 0), .ref o]) ⟨hx, hb, hml, hown, hts⟩ (hM s.heap.size) (cwV 0 hts gL_epilogue_X2_epilogue rfl rfl rfl (by decide +kernel) ⟨Nat.le_of_ble_eq_true rfl, Nat.le_of_ble_eq_true rfl⟩) (x_preV 0 hK hPu hDu hS hA hE hV rfl hu0) rfl rfl hl.1 rfl (lv_room (Nat.le_of_ble_eq_true rfl)) dL_epilogue_3 ⟨Nat.le_of_ble_eq_true rfl, Nat.le_of_ble_eq_true rfl⟩) hS (fun q _ h => z_free hDu hS hA q h) (fun q h => z_free hDu hS hA q h) (fun q _ h => z_free hDu hS hA q h) (fun E ce q9 u1 t H locs ht hvm _ hB hz hkeep hS1 hcell hv hcl => ?_) (fun r u1 t H locs ht hvm hp hB hz hkeep hS1 => ?_)
  · obtain ⟨hpu, hP1, hK1, hD1⟩ := hB
    rw [ht] at hP1
    obtain ⟨hP, hD⟩ := wj_join hP hD hkeep (fun q h => z_free hDu hS hA q h) hP1 hD1
    rcases hpx E u1 hpu with rfl
    · refine vx_catch (name := "java/lang/IllegalStateException") hown [] ⟨0, 8, 11, 20⟩ [] htb (fun z hz => absurd hz List.not_mem_nil) rfl (by decide) (hts (.classLink RL 20 "java/lang/IllegalStateException") (List.mem_of_getElem? (i := 1) rfl)) (va_Nw.use rfl hV.1.2.2.2.2.1) hcell hv hcl ?_
      refine lv_astore_n (lv' := [(2, .ref q9), (0, .ref ad), (1, .ref o)]) hx hb dL_epilogue_11 rfl hl (by decide) rfl (fun ls hl => ?_)
      refine z_ic hx hb dL_epilogue_12 ?_
      exact x_iret (w := u1 ++ [(o, oc g f0)]) (v := iI 1) (px := yF) hQ hx hb hr hlocks (Or.inr ⟨_, u1, 1, List.mem_of_getElem? (i := 0) rfl, hpu, rfl, rfl⟩) hK hP hD hS1 (Nat.le_of_ble_eq_true rfl) (Nat.le_of_ble_eq_true rfl) dL_epilogue_13
  · obtain ⟨hP1, hK1, hD1⟩ := hB
    rw [ht] at hP1
    obtain ⟨hP, hD⟩ := wj_join hP hD hkeep (fun q h => z_free hDu hS hA q h) hP1 hD1
    refine lv_i2l (v := r.toInt64) hx hb dL_epilogue_6 rfl ?_
    refine va_last (x := r.toInt64) hx hb hK hP hD hS1 u1.length 3 wj_at rfl vin0 dL_epilogue_7 (fun H locs hP hD hS => ?_)
    rw [wj_set] at hP hD
    refine lv_goto (tgt := 14) hx hb dL_epilogue_8 (by decide) ?_
    refine z_ic hx hb dL_epilogue_14 ?_
    exact x_iret (w := u1 ++ [(o, oc g (vp_updL f0 (iI 0).toNatClampNeg r.toInt64))]) (v := iI 0) (px := yF) hQ hx hb hr hlocks (Or.inl ⟨r, u1, _, hp, rfl, updL_0 _ _, rfl⟩) hK hP hD hS (Nat.le_of_ble_eq_true rfl) (Nat.le_of_ble_eq_true rfl) dL_epilogue_15

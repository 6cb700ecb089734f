set_option maxHeartbeats 4000000 in
set_option maxRecDepth 100000 in
theorem law_setUnits {p : Program} {l : Launch} {e : Env} {s : State} {m : MethodId} {below : List Frame} {meth : Method} {c : Code} {b Lx : Nat} {xs : Nat → Int32} {D : va_G} {g : Nat → ClassId} (hC : LC p l s m meth c b Lx xs D g) {a b' : Nat → Nat} {o iv cells slots : Nat} {Q : State → Prop} (hi : iv + 5 ≤ Lx) (hcs : cells + 7 ≤ 601024 ∧ slots + 42 ≤ 7293034) (kk : KQ p l e s m below meth c b o a b' g D iv (cells + 7) (slots + 42) Q) {L : LD} {att T : Nat} {hs tm : Nat → Int} {tk : Nat → Nat → Int} {lt : Nat → Int} {f : Nat → Int64} {th : Int} {hm : Nat → Int} {tn : Nat → Nat} {pl : Nat → Bool} (hJ : JJ L T tm tk hm tn) {H : Heap} {locs : List Loc} {ls : Array Slot} (hP : va_P D vwCl (uw a g o L att T hs tm tk lt f ++ wM b' g th L att T hm tn pl (fun _ => 0)) H) (hD : va_D (fun q : Nat => s.heap.size ≤ q) (uw a g o L att T hs tm tk lt f ++ wM b' g th L att T hm tn pl (fun _ => 0))) (hS : va_S (fun q : Nat => s.heap.size ≤ q) s.heap H locs) (hl : lv_has ls 7 [(0, .ref b), (1, .ref (a 0)), (2, .ref (b' 0)), (3, .ref o), (4, .int (iI ((iv : Nat) : Int)))]) : W p l e room_1 s m #[Value.ref b] below meth c H locs cells slots Q (F0 m 168 ls []) := by
  obtain ⟨⟨hx, hb, hr, hml, hown, hts0, hX, hbl, hlocks, hgv⟩, hLx, hl0, hK, hE, hV, hN⟩ := hC
  have hts : ∀ w ∈ wsL_law, w.before #[Value.ref b] s = true := fun w h => hts0 w (wsL_law_in w h)
  have hA : ∀ q : Nat, s.heap.size ≤ q → (fun q : Nat => s.heap.size ≤ q) q := fun _ h => h
  have hbA : ¬ (fun q : Nat => s.heap.size ≤ q) b := Nat.not_le.mpr hbl
  obtain ⟨z1, e1, r1⟩ := iI_of (xs (iv + 1))
  obtain ⟨z2, e2, r2⟩ := iI_of (xs (iv + 2))
  refine lv_aload_n hx hb dL_law_168 rfl (lv_at hl 1 rfl) ?_
  refine lv_aload_n hx hb dL_law_169 rfl (lv_at hl 0 rfl) ?_
  refine lv_iload hx hb dL_law_170 (lv_at hl 4 rfl) ?_
  refine z_ic hx hb dL_law_172 ?_
  refine z_add hx hb dL_law_173 ?_
  refine l_sld (j := 1) hx hb hX hbl hbA hS (by omega) hLx rfl e1 dL_law_174 ?_
  refine lv_aload_n hx hb dL_law_175 rfl (lv_at hl 0 rfl) ?_
  refine lv_iload hx hb dL_law_176 (lv_at hl 4 rfl) ?_
  refine z_ic hx hb dL_law_178 ?_
  refine z_add hx hb dL_law_179 ?_
  refine l_sld (j := 2) hx hb hX hbl hbA hS (by omega) hLx rfl e2 dL_law_180 ?_
  refine lv_aload_n hx hb dL_law_181 rfl (lv_at hl 3 rfl) ?_
  refine j_callx (vx_runSX (As := [.ref (a 0), .int (iI z1), .int (iI z2), .ref o]) (rest := []) ⟨hx, hb, hml, hown, hts⟩ (c_L_setUnits l D g o (a 0) f (wX a g L att T hs tm tk lt) _ rfl (iI z1) (iI z2) _ _ (c_X2_setUnits l hl0 D g a L att T hs tm tk lt z1 z2 r1 r2) (fun E w9 h => (fun q => q.elim (fun q => (Or.inl q.1)) (fun q => (Or.inr q.1))) h.2) H.size) (vx_cwSW 4 hts gL_law_L_setUnits rfl rfl rfl (by decide +kernel) ⟨Nat.le_of_ble_eq_true rfl, Nat.le_of_ble_eq_true rfl⟩) (y_preS hK (wj_l hP) (wj_dl hD) hS hA hE hV hN) rfl rfl hl.1 rfl (lv_room (Nat.le_of_ble_eq_true rfl)) dL_law_182 ⟨(show cells + 2 ≤ 601024 by omega), (show slots + 6 * 2 ≤ 7293034 by omega)⟩) hS hP hD hA (fun r u1 H locs h1 hP hD hS => ?_)
  refine lv_istore (lv' := [(5, .int r), (0, .ref b), (1, .ref (a 0)), (2, .ref (b' 0)), (3, .ref o), (4, .int (iI ((iv : Nat) : Int)))]) hx hb dL_law_185 hl (by decide) rfl (fun ls hl => ?_)
  refine lv_aload_n hx hb dL_law_187 rfl (lv_at hl 3 rfl) ?_
  refine lv_aload_n hx hb dL_law_188 rfl (lv_at hl 1 rfl) ?_
  refine lv_iload hx hb dL_law_189 (lv_at hl 5 rfl) ?_
  refine z_ic hx hb dL_law_191 ?_
  refine z_add hx hb dL_law_192 ?_
  refine l_sld (j := 1) hx hb hX hbl hbA hS (by omega) hLx rfl e1 dL_law_193 ?_
  refine lv_aload_n hx hb dL_law_194 rfl (lv_at hl 1 rfl) ?_
  refine lv_iload hx hb dL_law_195 (lv_at hl 5 rfl) ?_
  refine z_ic hx hb dL_law_197 ?_
  refine z_add hx hb dL_law_198 ?_
  refine l_sld (j := 2) hx hb hX hbl hbA hS (by omega) hLx rfl e2 dL_law_199 ?_
  refine j_calli (va_runV (As := [.int (iI z1), .int (iI z2)]) (rest := []) ⟨hx, hb, hml, hown, hts⟩ (c_X3_setUnits l D g b' th L att T hm tn pl z1 z2 r1 r2 H.size) (cwV 2 hts gL_law_X3_setUnits rfl rfl rfl (by decide +kernel) ⟨Nat.le_of_ble_eq_true rfl, Nat.le_of_ble_eq_true rfl⟩) (z_preV 0 hK (wj_r hP) (wj_dr hD) rfl rfl) rfl rfl hl.1 rfl (lv_room (Nat.le_of_ble_eq_true rfl)) dL_law_200 ⟨(show cells + 2 + 0 ≤ 601024 by omega), (show slots + 6 * 2 + 0 ≤ 7293034 by omega)⟩) hS hP hD hA (fun r2 v1 H locs h2 hP hD hS => ?_)
  obtain ⟨n, L, att, T, hs, tm, tk, lt, f, hm, tn, pl, rfl, rfl, hJ, hn0, hn3, rfl, hv⟩ := ag_setUnits (hs := hs) (tk := tk) (lt := lt) (att := att) (hm := hm) (pl := pl) hJ h1 h2
  refine lv_istore (lv' := [(6, .int r2), (5, .int (iI n)), (0, .ref b), (1, .ref (a 0)), (2, .ref (b' 0)), (3, .ref o), (4, .int (iI ((iv : Nat) : Int)))]) hx hb dL_law_203 hl (by decide) rfl (fun ls hl => ?_)
  refine lv_aload_n hx hb dL_law_205 rfl (lv_at hl 4 rfl) ?_
  refine j_calli (va_runV (As := []) (rest := []) ⟨hx, hb, hml, hown, hts⟩ (c_X3_thrown l D g b' n L att T hm tn pl H.size) (cwV 0 hts gL_law_X3_thrown rfl rfl rfl (by decide +kernel) ⟨Nat.le_of_ble_eq_true rfl, Nat.le_of_ble_eq_true rfl⟩) (z_preV 0 hK (wj_r hP) (wj_dr hD) rfl rfl) rfl rfl hl.1 rfl (lv_room (Nat.le_of_ble_eq_true rfl)) dL_law_206 ⟨(show cells + 2 + 0 ≤ 601024 by omega), (show slots + 6 * 2 + 0 ≤ 7293034 by omega)⟩) hS hP hD hA (fun r3 v1 H locs h3 hP hD hS => ?_)
  obtain ⟨rfl, rfl⟩ := h3
  refine lv_iload hx hb dL_law_209 (lv_at hl 1 rfl) ?_
  refine lv_icmp_eq (tgt := 216) hx hb dL_law_211 (by decide) (fun _ => ?_) (fun h9 => absurd rfl h9)
  refine lv_iload hx hb dL_law_216 (lv_at hl 1 rfl) ?_
  have kend : W p l e room_1 s m #[Value.ref b] below meth c H locs (cells + 2) (slots + 6 * 2) Q (F0 m 233 ls []) := by
    refine lv_goto (tgt := 1571) hx hb dL_law_233 (by decide) ?_
    refine W.widen (k := cells + 7) (n := slots + 42) (by omega) (by omega) ?_
    exact kk L att T hs tm tk lt f n hm tn pl hJ H locs ls hP hD hS (lv_sub hl [2, 3, 4, 5, 6] rfl)
  refine lv_if_ne (tgt := 233) hx hb dL_law_218 (by decide) (fun _ => kend) (fun h9 => ?_)
  have hn : n = 0 := (iI_0 ⟨hn0, hn3⟩).mp h9
  have hv := hv hn
  refine lv_aload_n hx hb dL_law_221 rfl (lv_at hl 5 rfl) ?_
  refine z_ic hx hb dL_law_222 ?_
  refine l_lald (g := g) hx hb hK hP 17 rfl dL_law_223 ?_
  refine lv_iload hx hb dL_law_224 (lv_at hl 0 rfl) ?_
  refine lv_i2l (v := r2.toInt64) hx hb dL_law_226 rfl ?_
  rw [hv]
  refine W.lcmp hx hb dL_law_227 ?_
  rw [cmp_s]
  exact lv_if_eq (tgt := 233) hx hb dL_law_228 (by decide) (fun _ => kend) (fun h9 => absurd rfl h9)
set_option maxHeartbeats 4000000 in
set_option maxRecDepth 100000 in
theorem law_addOperation {p : Program} {l : Launch} {e : Env} {s : State} {m : MethodId} {below : List Frame} {meth : Method} {c : Code} {b Lx : Nat} {xs : Nat → Int32} {D : va_G} {g : Nat → ClassId} (hC : LC p l s m meth c b Lx xs D g) {a b' : Nat → Nat} {o iv cells slots : Nat} {Q : State → Prop} (hi : iv + 5 ≤ Lx) (hcs : cells + 7 ≤ 601024 ∧ slots + 42 ≤ 7293034) (kk : KQ p l e s m below meth c b o a b' g D iv (cells + 7) (slots + 42) Q) {L : LD} {att T : Nat} {hs tm : Nat → Int} {tk : Nat → Nat → Int} {lt : Nat → Int} {f : Nat → Int64} {th : Int} {hm : Nat → Int} {tn : Nat → Nat} {pl : Nat → Bool} (hJ : JJ L T tm tk hm tn) {H : Heap} {locs : List Loc} {ls : Array Slot} (hP : va_P D vwCl (uw a g o L att T hs tm tk lt f ++ wM b' g th L att T hm tn pl (fun _ => 0)) H) (hD : va_D (fun q : Nat => s.heap.size ≤ q) (uw a g o L att T hs tm tk lt f ++ wM b' g th L att T hm tn pl (fun _ => 0))) (hS : va_S (fun q : Nat => s.heap.size ≤ q) s.heap H locs) (hl : lv_has ls 7 [(0, .ref b), (1, .ref (a 0)), (2, .ref (b' 0)), (3, .ref o), (4, .int (iI ((iv : Nat) : Int)))]) : W p l e room_1 s m #[Value.ref b] below meth c H locs cells slots Q (F0 m 236 ls []) := by
  obtain ⟨⟨hx, hb, hr, hml, hown, hts0, hX, hbl, hlocks, hgv⟩, hLx, hl0, hK, hE, hV, hN⟩ := hC
  have hts : ∀ w ∈ wsL_law, w.before #[Value.ref b] s = true := fun w h => hts0 w (wsL_law_in w h)
  have hA : ∀ q : Nat, s.heap.size ≤ q → (fun q : Nat => s.heap.size ≤ q) q := fun _ h => h
  have hbA : ¬ (fun q : Nat => s.heap.size ≤ q) b := Nat.not_le.mpr hbl
  obtain ⟨z1, e1, r1⟩ := iI_of (xs (iv + 1))
  obtain ⟨z2, e2, r2⟩ := iI_of (xs (iv + 2))
  refine lv_aload_n hx hb dL_law_236 rfl (lv_at hl 1 rfl) ?_
  refine lv_aload_n hx hb dL_law_237 rfl (lv_at hl 0 rfl) ?_
  refine lv_iload hx hb dL_law_238 (lv_at hl 4 rfl) ?_
  refine z_ic hx hb dL_law_240 ?_
  refine z_add hx hb dL_law_241 ?_
  refine l_sld (j := 1) hx hb hX hbl hbA hS (by omega) hLx rfl e1 dL_law_242 ?_
  refine lv_aload_n hx hb dL_law_243 rfl (lv_at hl 0 rfl) ?_
  refine lv_iload hx hb dL_law_244 (lv_at hl 4 rfl) ?_
  refine z_ic hx hb dL_law_246 ?_
  refine z_add hx hb dL_law_247 ?_
  refine l_sld (j := 2) hx hb hX hbl hbA hS (by omega) hLx rfl e2 dL_law_248 ?_
  refine lv_aload_n hx hb dL_law_249 rfl (lv_at hl 3 rfl) ?_
  refine j_callx (vx_runSX (As := [.ref (a 0), .int (iI z1), .int (iI z2), .ref o]) (rest := []) ⟨hx, hb, hml, hown, hts⟩ (c_L_addOperation l D g o (a 0) f (wX a g L att T hs tm tk lt) _ rfl (iI z1) (iI z2) _ _ (c_X2_addOperation l hl0 D g a L att T hs tm tk lt z1 z2 hJ.1 r1 r2) (fun E w9 h => (fun q => q.elim (fun q => (Or.inl q.1)) (fun q => (Or.inr q.1))) h.2) H.size) (vx_cwSW 4 hts gL_law_L_addOperation rfl rfl rfl (by decide +kernel) ⟨Nat.le_of_ble_eq_true rfl, Nat.le_of_ble_eq_true rfl⟩) (y_preS hK (wj_l hP) (wj_dl hD) hS hA hE hV hN) rfl rfl hl.1 rfl (lv_room (Nat.le_of_ble_eq_true rfl)) dL_law_250 ⟨(show cells + 1 ≤ 601024 by omega), (show slots + 6 * 1 ≤ 7293034 by omega)⟩) hS hP hD hA (fun r u1 H locs h1 hP hD hS => ?_)
  refine lv_istore (lv' := [(5, .int r), (0, .ref b), (1, .ref (a 0)), (2, .ref (b' 0)), (3, .ref o), (4, .int (iI ((iv : Nat) : Int)))]) hx hb dL_law_253 hl (by decide) rfl (fun ls hl => ?_)
  refine lv_aload_n hx hb dL_law_255 rfl (lv_at hl 3 rfl) ?_
  refine lv_aload_n hx hb dL_law_256 rfl (lv_at hl 1 rfl) ?_
  refine lv_iload hx hb dL_law_257 (lv_at hl 5 rfl) ?_
  refine z_ic hx hb dL_law_259 ?_
  refine z_add hx hb dL_law_260 ?_
  refine l_sld (j := 1) hx hb hX hbl hbA hS (by omega) hLx rfl e1 dL_law_261 ?_
  refine lv_aload_n hx hb dL_law_262 rfl (lv_at hl 1 rfl) ?_
  refine lv_iload hx hb dL_law_263 (lv_at hl 5 rfl) ?_
  refine z_ic hx hb dL_law_265 ?_
  refine z_add hx hb dL_law_266 ?_
  refine l_sld (j := 2) hx hb hX hbl hbA hS (by omega) hLx rfl e2 dL_law_267 ?_
  refine j_calli (va_runV (As := [.int (iI z1), .int (iI z2)]) (rest := []) ⟨hx, hb, hml, hown, hts⟩ (c_X3_addOperation l D g b' th L att T hm tn pl z1 z2 hJ.1 r1 r2 H.size) (cwV 2 hts gL_law_X3_addOperation rfl rfl rfl (by decide +kernel) ⟨Nat.le_of_ble_eq_true rfl, Nat.le_of_ble_eq_true rfl⟩) (z_preV 0 hK (wj_r hP) (wj_dr hD) rfl rfl) rfl rfl hl.1 rfl (lv_room (Nat.le_of_ble_eq_true rfl)) dL_law_268 ⟨(show cells + 1 + 0 ≤ 601024 by omega), (show slots + 6 * 1 + 0 ≤ 7293034 by omega)⟩) hS hP hD hA (fun r2 v1 H locs h2 hP hD hS => ?_)
  obtain ⟨n, L, att, T, hs, tm, tk, lt, f, hm, tn, pl, rfl, rfl, hJ, hn0, hn3, rfl, hv⟩ := ag_addOperation (hs := hs) (tk := tk) (lt := lt) (att := att) (hm := hm) (pl := pl) hJ h1 h2
  refine lv_istore (lv' := [(6, .int r2), (5, .int (iI n)), (0, .ref b), (1, .ref (a 0)), (2, .ref (b' 0)), (3, .ref o), (4, .int (iI ((iv : Nat) : Int)))]) hx hb dL_law_271 hl (by decide) rfl (fun ls hl => ?_)
  refine lv_aload_n hx hb dL_law_273 rfl (lv_at hl 4 rfl) ?_
  refine j_calli (va_runV (As := []) (rest := []) ⟨hx, hb, hml, hown, hts⟩ (c_X3_thrown l D g b' n L att T hm tn pl H.size) (cwV 0 hts gL_law_X3_thrown rfl rfl rfl (by decide +kernel) ⟨Nat.le_of_ble_eq_true rfl, Nat.le_of_ble_eq_true rfl⟩) (z_preV 0 hK (wj_r hP) (wj_dr hD) rfl rfl) rfl rfl hl.1 rfl (lv_room (Nat.le_of_ble_eq_true rfl)) dL_law_274 ⟨(show cells + 1 + 0 ≤ 601024 by omega), (show slots + 6 * 1 + 0 ≤ 7293034 by omega)⟩) hS hP hD hA (fun r3 v1 H locs h3 hP hD hS => ?_)
  obtain ⟨rfl, rfl⟩ := h3
  refine lv_iload hx hb dL_law_277 (lv_at hl 1 rfl) ?_
  refine lv_icmp_eq (tgt := 284) hx hb dL_law_279 (by decide) (fun _ => ?_) (fun h9 => absurd rfl h9)
  refine lv_iload hx hb dL_law_284 (lv_at hl 1 rfl) ?_
  have kend : W p l e room_1 s m #[Value.ref b] below meth c H locs (cells + 1) (slots + 6 * 1) Q (F0 m 301 ls []) := by
    refine lv_goto (tgt := 1571) hx hb dL_law_301 (by decide) ?_
    refine W.widen (k := cells + 7) (n := slots + 42) (by omega) (by omega) ?_
    exact kk L att T hs tm tk lt f n hm tn pl hJ H locs ls hP hD hS (lv_sub hl [2, 3, 4, 5, 6] rfl)
  refine lv_if_ne (tgt := 301) hx hb dL_law_286 (by decide) (fun _ => kend) (fun h9 => ?_)
  have hn : n = 0 := (iI_0 ⟨hn0, hn3⟩).mp h9
  have hv := hv hn
  refine lv_aload_n hx hb dL_law_289 rfl (lv_at hl 5 rfl) ?_
  refine z_ic hx hb dL_law_290 ?_
  refine l_lald (g := g) hx hb hK hP 17 rfl dL_law_291 ?_
  refine lv_iload hx hb dL_law_292 (lv_at hl 0 rfl) ?_
  refine lv_i2l (v := r2.toInt64) hx hb dL_law_294 rfl ?_
  rw [hv]
  refine W.lcmp hx hb dL_law_295 ?_
  rw [cmp_s]
  exact lv_if_eq (tgt := 301) hx hb dL_law_296 (by decide) (fun _ => kend) (fun h9 => absurd rfl h9)
set_option maxHeartbeats 4000000 in
set_option maxRecDepth 100000 in
theorem law_addDependence {p : Program} {l : Launch} {e : Env} {s : State} {m : MethodId} {below : List Frame} {meth : Method} {c : Code} {b Lx : Nat} {xs : Nat → Int32} {D : va_G} {g : Nat → ClassId} (hC : LC p l s m meth c b Lx xs D g) {a b' : Nat → Nat} {o iv cells slots : Nat} {Q : State → Prop} (hi : iv + 5 ≤ Lx) (hcs : cells + 7 ≤ 601024 ∧ slots + 42 ≤ 7293034) (kk : KQ p l e s m below meth c b o a b' g D iv (cells + 7) (slots + 42) Q) {L : LD} {att T : Nat} {hs tm : Nat → Int} {tk : Nat → Nat → Int} {lt : Nat → Int} {f : Nat → Int64} {th : Int} {hm : Nat → Int} {tn : Nat → Nat} {pl : Nat → Bool} (hJ : JJ L T tm tk hm tn) {H : Heap} {locs : List Loc} {ls : Array Slot} (hP : va_P D vwCl (uw a g o L att T hs tm tk lt f ++ wM b' g th L att T hm tn pl (fun _ => 0)) H) (hD : va_D (fun q : Nat => s.heap.size ≤ q) (uw a g o L att T hs tm tk lt f ++ wM b' g th L att T hm tn pl (fun _ => 0))) (hS : va_S (fun q : Nat => s.heap.size ≤ q) s.heap H locs) (hl : lv_has ls 7 [(0, .ref b), (1, .ref (a 0)), (2, .ref (b' 0)), (3, .ref o), (4, .int (iI ((iv : Nat) : Int)))]) : W p l e room_1 s m #[Value.ref b] below meth c H locs cells slots Q (F0 m 304 ls []) := by
  obtain ⟨⟨hx, hb, hr, hml, hown, hts0, hX, hbl, hlocks, hgv⟩, hLx, hl0, hK, hE, hV, hN⟩ := hC
  have hts : ∀ w ∈ wsL_law, w.before #[Value.ref b] s = true := fun w h => hts0 w (wsL_law_in w h)
  have hA : ∀ q : Nat, s.heap.size ≤ q → (fun q : Nat => s.heap.size ≤ q) q := fun _ h => h
  have hbA : ¬ (fun q : Nat => s.heap.size ≤ q) b := Nat.not_le.mpr hbl
  obtain ⟨z1, e1, r1⟩ := iI_of (xs (iv + 1))
  obtain ⟨z2, e2, r2⟩ := iI_of (xs (iv + 2))
  obtain ⟨z3, e3, r3⟩ := iI_of (xs (iv + 3))
  obtain ⟨z4, e4, r4⟩ := iI_of (xs (iv + 4))
  refine lv_aload_n hx hb dL_law_304 rfl (lv_at hl 1 rfl) ?_
  refine lv_aload_n hx hb dL_law_305 rfl (lv_at hl 0 rfl) ?_
  refine lv_iload hx hb dL_law_306 (lv_at hl 4 rfl) ?_
  refine z_ic hx hb dL_law_308 ?_
  refine z_add hx hb dL_law_309 ?_
  refine l_sld (j := 1) hx hb hX hbl hbA hS (by omega) hLx rfl e1 dL_law_310 ?_
  refine lv_aload_n hx hb dL_law_311 rfl (lv_at hl 0 rfl) ?_
  refine lv_iload hx hb dL_law_312 (lv_at hl 4 rfl) ?_
  refine z_ic hx hb dL_law_314 ?_
  refine z_add hx hb dL_law_315 ?_
  refine l_sld (j := 2) hx hb hX hbl hbA hS (by omega) hLx rfl e2 dL_law_316 ?_
  refine lv_aload_n hx hb dL_law_317 rfl (lv_at hl 0 rfl) ?_
  refine lv_iload hx hb dL_law_318 (lv_at hl 4 rfl) ?_
  refine z_ic hx hb dL_law_320 ?_
  refine z_add hx hb dL_law_321 ?_
  refine l_sld (j := 3) hx hb hX hbl hbA hS (by omega) hLx rfl e3 dL_law_322 ?_
  refine lv_aload_n hx hb dL_law_323 rfl (lv_at hl 0 rfl) ?_
  refine lv_iload hx hb dL_law_324 (lv_at hl 4 rfl) ?_
  refine z_ic hx hb dL_law_326 ?_
  refine z_add hx hb dL_law_327 ?_
  refine l_sld (j := 4) hx hb hX hbl hbA hS (by omega) hLx rfl e4 dL_law_328 ?_
  refine lv_aload_n hx hb dL_law_329 rfl (lv_at hl 3 rfl) ?_
  refine j_callx (vx_runSX (As := [.ref (a 0), .int (iI z1), .int (iI z2), .int (iI z3), .int (iI z4), .ref o]) (rest := []) ⟨hx, hb, hml, hown, hts⟩ (c_L_addDependence l D g o (a 0) f (wX a g L att T hs tm tk lt) _ rfl (iI z1) (iI z2) (iI z3) (iI z4) _ _ (c_X2_addDependence l hl0 D g a L att T hs tm tk lt z1 z2 z3 z4 hJ.1 r1 r2 r3 r4) (fun E w9 h => (fun q => q.elim (fun q => (Or.inl q.1)) (fun q => q.elim (fun q => (Or.inr (Or.inl q.1))) (fun q => (Or.inr (Or.inr q.1))))) h.2) H.size) (vx_cwSW 6 hts gL_law_L_addDependence rfl rfl rfl (by decide +kernel) ⟨Nat.le_of_ble_eq_true rfl, Nat.le_of_ble_eq_true rfl⟩) (y_preS hK (wj_l hP) (wj_dl hD) hS hA hE hV hN) rfl rfl hl.1 rfl (lv_room (Nat.le_of_ble_eq_true rfl)) dL_law_330 ⟨(show cells + 4 ≤ 601024 by omega), (show slots + 6 * 4 ≤ 7293034 by omega)⟩) hS hP hD hA (fun r u1 H locs h1 hP hD hS => ?_)
  refine lv_istore (lv' := [(5, .int r), (0, .ref b), (1, .ref (a 0)), (2, .ref (b' 0)), (3, .ref o), (4, .int (iI ((iv : Nat) : Int)))]) hx hb dL_law_333 hl (by decide) rfl (fun ls hl => ?_)
  refine lv_aload_n hx hb dL_law_335 rfl (lv_at hl 3 rfl) ?_
  refine lv_aload_n hx hb dL_law_336 rfl (lv_at hl 1 rfl) ?_
  refine lv_iload hx hb dL_law_337 (lv_at hl 5 rfl) ?_
  refine z_ic hx hb dL_law_339 ?_
  refine z_add hx hb dL_law_340 ?_
  refine l_sld (j := 1) hx hb hX hbl hbA hS (by omega) hLx rfl e1 dL_law_341 ?_
  refine lv_aload_n hx hb dL_law_342 rfl (lv_at hl 1 rfl) ?_
  refine lv_iload hx hb dL_law_343 (lv_at hl 5 rfl) ?_
  refine z_ic hx hb dL_law_345 ?_
  refine z_add hx hb dL_law_346 ?_
  refine l_sld (j := 2) hx hb hX hbl hbA hS (by omega) hLx rfl e2 dL_law_347 ?_
  refine lv_aload_n hx hb dL_law_348 rfl (lv_at hl 1 rfl) ?_
  refine lv_iload hx hb dL_law_349 (lv_at hl 5 rfl) ?_
  refine z_ic hx hb dL_law_351 ?_
  refine z_add hx hb dL_law_352 ?_
  refine l_sld (j := 3) hx hb hX hbl hbA hS (by omega) hLx rfl e3 dL_law_353 ?_
  refine lv_aload_n hx hb dL_law_354 rfl (lv_at hl 1 rfl) ?_
  refine lv_iload hx hb dL_law_355 (lv_at hl 5 rfl) ?_
  refine z_ic hx hb dL_law_357 ?_
  refine z_add hx hb dL_law_358 ?_
  refine l_sld (j := 4) hx hb hX hbl hbA hS (by omega) hLx rfl e4 dL_law_359 ?_
  refine j_calli (va_runV (As := [.int (iI z1), .int (iI z2), .int (iI z3), .int (iI z4)]) (rest := []) ⟨hx, hb, hml, hown, hts⟩ (c_X3_addDependence l D g b' th L att T hm tn pl z1 z2 z3 z4 hJ.1 r1 r2 r3 r4 H.size) (cwV 4 hts gL_law_X3_addDependence rfl rfl rfl (by decide +kernel) ⟨Nat.le_of_ble_eq_true rfl, Nat.le_of_ble_eq_true rfl⟩) (z_preV 0 hK (wj_r hP) (wj_dr hD) rfl rfl) rfl rfl hl.1 rfl (lv_room (Nat.le_of_ble_eq_true rfl)) dL_law_360 ⟨(show cells + 4 + 0 ≤ 601024 by omega), (show slots + 6 * 4 + 0 ≤ 7293034 by omega)⟩) hS hP hD hA (fun r2 v1 H locs h2 hP hD hS => ?_)
  obtain ⟨n, L, att, T, hs, tm, tk, lt, f, hm, tn, pl, rfl, rfl, hJ, hn0, hn3, rfl, hv⟩ := ag_addDependence (hs := hs) (tk := tk) (lt := lt) (att := att) (hm := hm) (pl := pl) hJ h1 h2
  refine lv_istore (lv' := [(6, .int r2), (5, .int (iI n)), (0, .ref b), (1, .ref (a 0)), (2, .ref (b' 0)), (3, .ref o), (4, .int (iI ((iv : Nat) : Int)))]) hx hb dL_law_363 hl (by decide) rfl (fun ls hl => ?_)
  refine lv_aload_n hx hb dL_law_365 rfl (lv_at hl 4 rfl) ?_
  refine j_calli (va_runV (As := []) (rest := []) ⟨hx, hb, hml, hown, hts⟩ (c_X3_thrown l D g b' n L att T hm tn pl H.size) (cwV 0 hts gL_law_X3_thrown rfl rfl rfl (by decide +kernel) ⟨Nat.le_of_ble_eq_true rfl, Nat.le_of_ble_eq_true rfl⟩) (z_preV 0 hK (wj_r hP) (wj_dr hD) rfl rfl) rfl rfl hl.1 rfl (lv_room (Nat.le_of_ble_eq_true rfl)) dL_law_366 ⟨(show cells + 4 + 0 ≤ 601024 by omega), (show slots + 6 * 4 + 0 ≤ 7293034 by omega)⟩) hS hP hD hA (fun r3 v1 H locs h3 hP hD hS => ?_)
  obtain ⟨rfl, rfl⟩ := h3
  refine lv_iload hx hb dL_law_369 (lv_at hl 1 rfl) ?_
  refine lv_icmp_eq (tgt := 376) hx hb dL_law_371 (by decide) (fun _ => ?_) (fun h9 => absurd rfl h9)
  refine lv_iload hx hb dL_law_376 (lv_at hl 1 rfl) ?_
  have kend : W p l e room_1 s m #[Value.ref b] below meth c H locs (cells + 4) (slots + 6 * 4) Q (F0 m 393 ls []) := by
    refine lv_goto (tgt := 1571) hx hb dL_law_393 (by decide) ?_
    refine W.widen (k := cells + 7) (n := slots + 42) (by omega) (by omega) ?_
    exact kk L att T hs tm tk lt f n hm tn pl hJ H locs ls hP hD hS (lv_sub hl [2, 3, 4, 5, 6] rfl)
  refine lv_if_ne (tgt := 393) hx hb dL_law_378 (by decide) (fun _ => kend) (fun h9 => ?_)
  have hn : n = 0 := (iI_0 ⟨hn0, hn3⟩).mp h9
  have hv := hv hn
  refine lv_aload_n hx hb dL_law_381 rfl (lv_at hl 5 rfl) ?_
  refine z_ic hx hb dL_law_382 ?_
  refine l_lald (g := g) hx hb hK hP 17 rfl dL_law_383 ?_
  refine lv_iload hx hb dL_law_384 (lv_at hl 0 rfl) ?_
  refine lv_i2l (v := r2.toInt64) hx hb dL_law_386 rfl ?_
  rw [hv]
  refine W.lcmp hx hb dL_law_387 ?_
  rw [cmp_s]
  exact lv_if_eq (tgt := 393) hx hb dL_law_388 (by decide) (fun _ => kend) (fun h9 => absurd rfl h9)
set_option maxHeartbeats 4000000 in
set_option maxRecDepth 100000 in
theorem law_setDelay {p : Program} {l : Launch} {e : Env} {s : State} {m : MethodId} {below : List Frame} {meth : Method} {c : Code} {b Lx : Nat} {xs : Nat → Int32} {D : va_G} {g : Nat → ClassId} (hC : LC p l s m meth c b Lx xs D g) {a b' : Nat → Nat} {o iv cells slots : Nat} {Q : State → Prop} (hi : iv + 5 ≤ Lx) (hcs : cells + 7 ≤ 601024 ∧ slots + 42 ≤ 7293034) (kk : KQ p l e s m below meth c b o a b' g D iv (cells + 7) (slots + 42) Q) {L : LD} {att T : Nat} {hs tm : Nat → Int} {tk : Nat → Nat → Int} {lt : Nat → Int} {f : Nat → Int64} {th : Int} {hm : Nat → Int} {tn : Nat → Nat} {pl : Nat → Bool} (hJ : JJ L T tm tk hm tn) {H : Heap} {locs : List Loc} {ls : Array Slot} (hP : va_P D vwCl (uw a g o L att T hs tm tk lt f ++ wM b' g th L att T hm tn pl (fun _ => 0)) H) (hD : va_D (fun q : Nat => s.heap.size ≤ q) (uw a g o L att T hs tm tk lt f ++ wM b' g th L att T hm tn pl (fun _ => 0))) (hS : va_S (fun q : Nat => s.heap.size ≤ q) s.heap H locs) (hl : lv_has ls 7 [(0, .ref b), (1, .ref (a 0)), (2, .ref (b' 0)), (3, .ref o), (4, .int (iI ((iv : Nat) : Int)))]) : W p l e room_1 s m #[Value.ref b] below meth c H locs cells slots Q (F0 m 396 ls []) := by
  obtain ⟨⟨hx, hb, hr, hml, hown, hts0, hX, hbl, hlocks, hgv⟩, hLx, hl0, hK, hE, hV, hN⟩ := hC
  have hts : ∀ w ∈ wsL_law, w.before #[Value.ref b] s = true := fun w h => hts0 w (wsL_law_in w h)
  have hA : ∀ q : Nat, s.heap.size ≤ q → (fun q : Nat => s.heap.size ≤ q) q := fun _ h => h
  have hbA : ¬ (fun q : Nat => s.heap.size ≤ q) b := Nat.not_le.mpr hbl
  obtain ⟨z1, e1, r1⟩ := iI_of (xs (iv + 1))
  obtain ⟨z2, e2, r2⟩ := iI_of (xs (iv + 2))
  refine lv_aload_n hx hb dL_law_396 rfl (lv_at hl 1 rfl) ?_
  refine lv_aload_n hx hb dL_law_397 rfl (lv_at hl 0 rfl) ?_
  refine lv_iload hx hb dL_law_398 (lv_at hl 4 rfl) ?_
  refine z_ic hx hb dL_law_400 ?_
  refine z_add hx hb dL_law_401 ?_
  refine l_sld (j := 1) hx hb hX hbl hbA hS (by omega) hLx rfl e1 dL_law_402 ?_
  refine lv_aload_n hx hb dL_law_403 rfl (lv_at hl 0 rfl) ?_
  refine lv_iload hx hb dL_law_404 (lv_at hl 4 rfl) ?_
  refine z_ic hx hb dL_law_406 ?_
  refine z_add hx hb dL_law_407 ?_
  refine l_sld (j := 2) hx hb hX hbl hbA hS (by omega) hLx rfl e2 dL_law_408 ?_
  refine lv_aload_n hx hb dL_law_409 rfl (lv_at hl 3 rfl) ?_
  refine j_callx (vx_runSX (As := [.ref (a 0), .int (iI z1), .int (iI z2), .ref o]) (rest := []) ⟨hx, hb, hml, hown, hts⟩ (c_L_setDelay l D g o (a 0) f (wX a g L att T hs tm tk lt) _ rfl (iI z1) (iI z2) _ _ (c_X2_setDelay l hl0 D g a L att T hs tm tk lt z1 z2 hJ.1 r1 r2) (fun E w9 h => (fun q => q.elim (fun q => (Or.inl q.1)) (fun q => (Or.inr q.1))) h.2) H.size) (vx_cwSW 4 hts gL_law_L_setDelay rfl rfl rfl (by decide +kernel) ⟨Nat.le_of_ble_eq_true rfl, Nat.le_of_ble_eq_true rfl⟩) (y_preS hK (wj_l hP) (wj_dl hD) hS hA hE hV hN) rfl rfl hl.1 rfl (lv_room (Nat.le_of_ble_eq_true rfl)) dL_law_410 ⟨(show cells + 2 ≤ 601024 by omega), (show slots + 6 * 2 ≤ 7293034 by omega)⟩) hS hP hD hA (fun r u1 H locs h1 hP hD hS => ?_)
  refine lv_istore (lv' := [(5, .int r), (0, .ref b), (1, .ref (a 0)), (2, .ref (b' 0)), (3, .ref o), (4, .int (iI ((iv : Nat) : Int)))]) hx hb dL_law_413 hl (by decide) rfl (fun ls hl => ?_)
  refine lv_aload_n hx hb dL_law_415 rfl (lv_at hl 3 rfl) ?_
  refine lv_aload_n hx hb dL_law_416 rfl (lv_at hl 1 rfl) ?_
  refine lv_iload hx hb dL_law_417 (lv_at hl 5 rfl) ?_
  refine z_ic hx hb dL_law_419 ?_
  refine z_add hx hb dL_law_420 ?_
  refine l_sld (j := 1) hx hb hX hbl hbA hS (by omega) hLx rfl e1 dL_law_421 ?_
  refine lv_aload_n hx hb dL_law_422 rfl (lv_at hl 1 rfl) ?_
  refine lv_iload hx hb dL_law_423 (lv_at hl 5 rfl) ?_
  refine z_ic hx hb dL_law_425 ?_
  refine z_add hx hb dL_law_426 ?_
  refine l_sld (j := 2) hx hb hX hbl hbA hS (by omega) hLx rfl e2 dL_law_427 ?_
  refine j_calli (va_runV (As := [.int (iI z1), .int (iI z2)]) (rest := []) ⟨hx, hb, hml, hown, hts⟩ (c_X3_setDelay l D g b' th L att T hm tn pl z1 z2 hJ.1 r1 r2 H.size) (cwV 2 hts gL_law_X3_setDelay rfl rfl rfl (by decide +kernel) ⟨Nat.le_of_ble_eq_true rfl, Nat.le_of_ble_eq_true rfl⟩) (z_preV 0 hK (wj_r hP) (wj_dr hD) rfl rfl) rfl rfl hl.1 rfl (lv_room (Nat.le_of_ble_eq_true rfl)) dL_law_428 ⟨(show cells + 2 + 0 ≤ 601024 by omega), (show slots + 6 * 2 + 0 ≤ 7293034 by omega)⟩) hS hP hD hA (fun r2 v1 H locs h2 hP hD hS => ?_)
  obtain ⟨n, L, att, T, hs, tm, tk, lt, f, hm, tn, pl, rfl, rfl, hJ, hn0, hn3, rfl, hv⟩ := ag_setDelay (hs := hs) (tk := tk) (lt := lt) (att := att) (hm := hm) (pl := pl) hJ h1 h2
  refine lv_istore (lv' := [(6, .int r2), (5, .int (iI n)), (0, .ref b), (1, .ref (a 0)), (2, .ref (b' 0)), (3, .ref o), (4, .int (iI ((iv : Nat) : Int)))]) hx hb dL_law_431 hl (by decide) rfl (fun ls hl => ?_)
  refine lv_aload_n hx hb dL_law_433 rfl (lv_at hl 4 rfl) ?_
  refine j_calli (va_runV (As := []) (rest := []) ⟨hx, hb, hml, hown, hts⟩ (c_X3_thrown l D g b' n L att T hm tn pl H.size) (cwV 0 hts gL_law_X3_thrown rfl rfl rfl (by decide +kernel) ⟨Nat.le_of_ble_eq_true rfl, Nat.le_of_ble_eq_true rfl⟩) (z_preV 0 hK (wj_r hP) (wj_dr hD) rfl rfl) rfl rfl hl.1 rfl (lv_room (Nat.le_of_ble_eq_true rfl)) dL_law_434 ⟨(show cells + 2 + 0 ≤ 601024 by omega), (show slots + 6 * 2 + 0 ≤ 7293034 by omega)⟩) hS hP hD hA (fun r3 v1 H locs h3 hP hD hS => ?_)
  obtain ⟨rfl, rfl⟩ := h3
  refine lv_iload hx hb dL_law_437 (lv_at hl 1 rfl) ?_
  refine lv_icmp_eq (tgt := 444) hx hb dL_law_439 (by decide) (fun _ => ?_) (fun h9 => absurd rfl h9)
  refine lv_iload hx hb dL_law_444 (lv_at hl 1 rfl) ?_
  have kend : W p l e room_1 s m #[Value.ref b] below meth c H locs (cells + 2) (slots + 6 * 2) Q (F0 m 461 ls []) := by
    refine lv_goto (tgt := 1571) hx hb dL_law_461 (by decide) ?_
    refine W.widen (k := cells + 7) (n := slots + 42) (by omega) (by omega) ?_
    exact kk L att T hs tm tk lt f n hm tn pl hJ H locs ls hP hD hS (lv_sub hl [2, 3, 4, 5, 6] rfl)
  refine lv_if_ne (tgt := 461) hx hb dL_law_446 (by decide) (fun _ => kend) (fun h9 => ?_)
  have hn : n = 0 := (iI_0 ⟨hn0, hn3⟩).mp h9
  have hv := hv hn
  refine lv_aload_n hx hb dL_law_449 rfl (lv_at hl 5 rfl) ?_
  refine z_ic hx hb dL_law_450 ?_
  refine l_lald (g := g) hx hb hK hP 17 rfl dL_law_451 ?_
  refine lv_iload hx hb dL_law_452 (lv_at hl 0 rfl) ?_
  refine lv_i2l (v := r2.toInt64) hx hb dL_law_454 rfl ?_
  rw [hv]
  refine W.lcmp hx hb dL_law_455 ?_
  rw [cmp_s]
  exact lv_if_eq (tgt := 461) hx hb dL_law_456 (by decide) (fun _ => kend) (fun h9 => absurd rfl h9)
set_option maxHeartbeats 4000000 in
set_option maxRecDepth 100000 in
theorem law_height {p : Program} {l : Launch} {e : Env} {s : State} {m : MethodId} {below : List Frame} {meth : Method} {c : Code} {b Lx : Nat} {xs : Nat → Int32} {D : va_G} {g : Nat → ClassId} (hC : LC p l s m meth c b Lx xs D g) {a b' : Nat → Nat} {o iv cells slots : Nat} {Q : State → Prop} (hi : iv + 5 ≤ Lx) (hcs : cells + 7 ≤ 601024 ∧ slots + 42 ≤ 7293034) (kk : KQ p l e s m below meth c b o a b' g D iv (cells + 7) (slots + 42) Q) {L : LD} {att T : Nat} {hs tm : Nat → Int} {tk : Nat → Nat → Int} {lt : Nat → Int} {f : Nat → Int64} {th : Int} {hm : Nat → Int} {tn : Nat → Nat} {pl : Nat → Bool} (hJ : JJ L T tm tk hm tn) {H : Heap} {locs : List Loc} {ls : Array Slot} (hP : va_P D vwCl (uw a g o L att T hs tm tk lt f ++ wM b' g th L att T hm tn pl (fun _ => 0)) H) (hD : va_D (fun q : Nat => s.heap.size ≤ q) (uw a g o L att T hs tm tk lt f ++ wM b' g th L att T hm tn pl (fun _ => 0))) (hS : va_S (fun q : Nat => s.heap.size ≤ q) s.heap H locs) (hl : lv_has ls 7 [(0, .ref b), (1, .ref (a 0)), (2, .ref (b' 0)), (3, .ref o), (4, .int (iI ((iv : Nat) : Int)))]) : W p l e room_1 s m #[Value.ref b] below meth c H locs cells slots Q (F0 m 516 ls []) := by
  obtain ⟨⟨hx, hb, hr, hml, hown, hts0, hX, hbl, hlocks, hgv⟩, hLx, hl0, hK, hE, hV, hN⟩ := hC
  have hts : ∀ w ∈ wsL_law, w.before #[Value.ref b] s = true := fun w h => hts0 w (wsL_law_in w h)
  have hA : ∀ q : Nat, s.heap.size ≤ q → (fun q : Nat => s.heap.size ≤ q) q := fun _ h => h
  have hbA : ¬ (fun q : Nat => s.heap.size ≤ q) b := Nat.not_le.mpr hbl
  obtain ⟨z1, e1, r1⟩ := iI_of (xs (iv + 1))
  obtain ⟨z2, e2, r2⟩ := iI_of (xs (iv + 2))
  refine lv_aload_n hx hb dL_law_516 rfl (lv_at hl 1 rfl) ?_
  refine lv_aload_n hx hb dL_law_517 rfl (lv_at hl 0 rfl) ?_
  refine lv_iload hx hb dL_law_518 (lv_at hl 4 rfl) ?_
  refine z_ic hx hb dL_law_520 ?_
  refine z_add hx hb dL_law_521 ?_
  refine l_sld (j := 1) hx hb hX hbl hbA hS (by omega) hLx rfl e1 dL_law_522 ?_
  refine lv_aload_n hx hb dL_law_523 rfl (lv_at hl 0 rfl) ?_
  refine lv_iload hx hb dL_law_524 (lv_at hl 4 rfl) ?_
  refine z_ic hx hb dL_law_526 ?_
  refine z_add hx hb dL_law_527 ?_
  refine l_sld (j := 2) hx hb hX hbl hbA hS (by omega) hLx rfl e2 dL_law_528 ?_
  refine lv_aload_n hx hb dL_law_529 rfl (lv_at hl 3 rfl) ?_
  refine j_callx (vx_runSX (As := [.ref (a 0), .int (iI z1), .int (iI z2), .ref o]) (rest := []) ⟨hx, hb, hml, hown, hts⟩ (c_L_height l D g o (a 0) f (wX a g L att T hs tm tk lt) _ rfl (iI z1) (iI z2) _ _ (c_X2_height l hl0 D g a L att T hs tm tk lt z1 z2 hJ.1 r1 r2) (fun E w9 h => h.elim (fun h9 h => (fun q => q.elim (fun q => (Or.inl q.1)) (fun q => (Or.inr q.1))) h.2)) H.size) (vx_cwSW 4 hts gL_law_L_height rfl rfl rfl (by decide +kernel) ⟨Nat.le_of_ble_eq_true rfl, Nat.le_of_ble_eq_true rfl⟩) (y_preS hK (wj_l hP) (wj_dl hD) hS hA hE hV hN) rfl rfl hl.1 rfl (lv_room (Nat.le_of_ble_eq_true rfl)) dL_law_530 ⟨(show cells + 2 ≤ 601024 by omega), (show slots + 6 * 2 ≤ 7293034 by omega)⟩) hS hP hD hA (fun r u1 H locs h1 hP hD hS => ?_)
  refine lv_istore (lv' := [(5, .int r), (0, .ref b), (1, .ref (a 0)), (2, .ref (b' 0)), (3, .ref o), (4, .int (iI ((iv : Nat) : Int)))]) hx hb dL_law_533 hl (by decide) rfl (fun ls hl => ?_)
  refine lv_aload_n hx hb dL_law_535 rfl (lv_at hl 3 rfl) ?_
  refine lv_aload_n hx hb dL_law_536 rfl (lv_at hl 1 rfl) ?_
  refine lv_iload hx hb dL_law_537 (lv_at hl 5 rfl) ?_
  refine z_ic hx hb dL_law_539 ?_
  refine z_add hx hb dL_law_540 ?_
  refine l_sld (j := 1) hx hb hX hbl hbA hS (by omega) hLx rfl e1 dL_law_541 ?_
  refine lv_aload_n hx hb dL_law_542 rfl (lv_at hl 1 rfl) ?_
  refine lv_iload hx hb dL_law_543 (lv_at hl 5 rfl) ?_
  refine z_ic hx hb dL_law_545 ?_
  refine z_add hx hb dL_law_546 ?_
  refine l_sld (j := 2) hx hb hX hbl hbA hS (by omega) hLx rfl e2 dL_law_547 ?_
  refine j_calli (va_runV (As := [.int (iI z1), .int (iI z2)]) (rest := []) ⟨hx, hb, hml, hown, hts⟩ (c_X3_height l D g b' th L att T hm tn pl z1 z2 hJ.1 hJ.2.1 r1 r2 H.size) (cwV 2 hts gL_law_X3_height rfl rfl rfl (by decide +kernel) ⟨Nat.le_of_ble_eq_true rfl, Nat.le_of_ble_eq_true rfl⟩) (z_preV 0 hK (wj_r hP) (wj_dr hD) rfl rfl) rfl rfl hl.1 rfl (lv_room (Nat.le_of_ble_eq_true rfl)) dL_law_548 ⟨(show cells + 2 + 0 ≤ 601024 by omega), (show slots + 6 * 2 + 0 ≤ 7293034 by omega)⟩) hS hP hD hA (fun r2 v1 H locs h2 hP hD hS => ?_)
  obtain ⟨n, L, att, T, hs, tm, tk, lt, f, hm, tn, pl, rfl, rfl, hJ, hn0, hn3, rfl, hv⟩ := ag_height (hs := hs) (tk := tk) (lt := lt) (att := att) (hm := hm) (pl := pl) hJ h1 h2
  refine lv_istore (lv' := [(6, .int r2), (5, .int (iI n)), (0, .ref b), (1, .ref (a 0)), (2, .ref (b' 0)), (3, .ref o), (4, .int (iI ((iv : Nat) : Int)))]) hx hb dL_law_551 hl (by decide) rfl (fun ls hl => ?_)
  refine lv_aload_n hx hb dL_law_553 rfl (lv_at hl 4 rfl) ?_
  refine j_calli (va_runV (As := []) (rest := []) ⟨hx, hb, hml, hown, hts⟩ (c_X3_thrown l D g b' n L att T hm tn pl H.size) (cwV 0 hts gL_law_X3_thrown rfl rfl rfl (by decide +kernel) ⟨Nat.le_of_ble_eq_true rfl, Nat.le_of_ble_eq_true rfl⟩) (z_preV 0 hK (wj_r hP) (wj_dr hD) rfl rfl) rfl rfl hl.1 rfl (lv_room (Nat.le_of_ble_eq_true rfl)) dL_law_554 ⟨(show cells + 2 + 0 ≤ 601024 by omega), (show slots + 6 * 2 + 0 ≤ 7293034 by omega)⟩) hS hP hD hA (fun r3 v1 H locs h3 hP hD hS => ?_)
  obtain ⟨rfl, rfl⟩ := h3
  refine lv_iload hx hb dL_law_557 (lv_at hl 1 rfl) ?_
  refine lv_icmp_eq (tgt := 564) hx hb dL_law_559 (by decide) (fun _ => ?_) (fun h9 => absurd rfl h9)
  refine lv_iload hx hb dL_law_564 (lv_at hl 1 rfl) ?_
  have kend : W p l e room_1 s m #[Value.ref b] below meth c H locs (cells + 2) (slots + 6 * 2) Q (F0 m 581 ls []) := by
    refine lv_goto (tgt := 1571) hx hb dL_law_581 (by decide) ?_
    refine W.widen (k := cells + 7) (n := slots + 42) (by omega) (by omega) ?_
    exact kk L att T hs tm tk lt f n hm tn pl hJ H locs ls hP hD hS (lv_sub hl [2, 3, 4, 5, 6] rfl)
  refine lv_if_ne (tgt := 581) hx hb dL_law_566 (by decide) (fun _ => kend) (fun h9 => ?_)
  have hn : n = 0 := (iI_0 ⟨hn0, hn3⟩).mp h9
  have hv := hv hn
  refine lv_aload_n hx hb dL_law_569 rfl (lv_at hl 5 rfl) ?_
  refine z_ic hx hb dL_law_570 ?_
  refine l_lald (g := g) hx hb hK hP 17 rfl dL_law_571 ?_
  refine lv_iload hx hb dL_law_572 (lv_at hl 0 rfl) ?_
  refine lv_i2l (v := r2.toInt64) hx hb dL_law_574 rfl ?_
  rw [hv]
  refine W.lcmp hx hb dL_law_575 ?_
  rw [cmp_s]
  exact lv_if_eq (tgt := 581) hx hb dL_law_576 (by decide) (fun _ => kend) (fun h9 => absurd rfl h9)
set_option maxHeartbeats 4000000 in
set_option maxRecDepth 100000 in
theorem law_schedule {p : Program} {l : Launch} {e : Env} {s : State} {m : MethodId} {below : List Frame} {meth : Method} {c : Code} {b Lx : Nat} {xs : Nat → Int32} {D : va_G} {g : Nat → ClassId} (hC : LC p l s m meth c b Lx xs D g) {a b' : Nat → Nat} {o iv cells slots : Nat} {Q : State → Prop} (hi : iv + 5 ≤ Lx) (hcs : cells + 7 ≤ 601024 ∧ slots + 42 ≤ 7293034) (kk : KQ p l e s m below meth c b o a b' g D iv (cells + 7) (slots + 42) Q) {L : LD} {att T : Nat} {hs tm : Nat → Int} {tk : Nat → Nat → Int} {lt : Nat → Int} {f : Nat → Int64} {th : Int} {hm : Nat → Int} {tn : Nat → Nat} {pl : Nat → Bool} (hJ : JJ L T tm tk hm tn) {H : Heap} {locs : List Loc} {ls : Array Slot} (hP : va_P D vwCl (uw a g o L att T hs tm tk lt f ++ wM b' g th L att T hm tn pl (fun _ => 0)) H) (hD : va_D (fun q : Nat => s.heap.size ≤ q) (uw a g o L att T hs tm tk lt f ++ wM b' g th L att T hm tn pl (fun _ => 0))) (hS : va_S (fun q : Nat => s.heap.size ≤ q) s.heap H locs) (hl : lv_has ls 7 [(0, .ref b), (1, .ref (a 0)), (2, .ref (b' 0)), (3, .ref o), (4, .int (iI ((iv : Nat) : Int)))]) : W p l e room_1 s m #[Value.ref b] below meth c H locs cells slots Q (F0 m 584 ls []) := by
  obtain ⟨⟨hx, hb, hr, hml, hown, hts0, hX, hbl, hlocks, hgv⟩, hLx, hl0, hK, hE, hV, hN⟩ := hC
  have hts : ∀ w ∈ wsL_law, w.before #[Value.ref b] s = true := fun w h => hts0 w (wsL_law_in w h)
  have hA : ∀ q : Nat, s.heap.size ≤ q → (fun q : Nat => s.heap.size ≤ q) q := fun _ h => h
  have hbA : ¬ (fun q : Nat => s.heap.size ≤ q) b := Nat.not_le.mpr hbl
  obtain ⟨z1, e1, r1⟩ := iI_of (xs (iv + 1))
  refine lv_aload_n hx hb dL_law_584 rfl (lv_at hl 1 rfl) ?_
  refine lv_aload_n hx hb dL_law_585 rfl (lv_at hl 0 rfl) ?_
  refine lv_iload hx hb dL_law_586 (lv_at hl 4 rfl) ?_
  refine z_ic hx hb dL_law_588 ?_
  refine z_add hx hb dL_law_589 ?_
  refine l_sld (j := 1) hx hb hX hbl hbA hS (by omega) hLx rfl e1 dL_law_590 ?_
  refine lv_aload_n hx hb dL_law_591 rfl (lv_at hl 3 rfl) ?_
  refine j_callx (vx_runSX (As := [.ref (a 0), .int (iI z1), .ref o]) (rest := []) ⟨hx, hb, hml, hown, hts⟩ (c_L_schedule l D g o (a 0) f (wX a g L att T hs tm tk lt) _ rfl (iI z1) _ _ (c_X2_schedule l hl0 D g a L att T hs tm tk lt z1 hJ.1 r1) (fun E w9 h => (fun q => q.1) h.2) H.size) (vx_cwSW 3 hts gL_law_L_schedule rfl rfl rfl (by decide +kernel) ⟨Nat.le_of_ble_eq_true rfl, Nat.le_of_ble_eq_true rfl⟩) (y_preS hK (wj_l hP) (wj_dl hD) hS hA hE hV hN) rfl rfl hl.1 rfl (lv_room (Nat.le_of_ble_eq_true rfl)) dL_law_592 ⟨(show cells + 1 ≤ 601024 by omega), (show slots + 6 * 1 ≤ 7293034 by omega)⟩) hS hP hD hA (fun r u1 H locs h1 hP hD hS => ?_)
  refine lv_istore (lv' := [(5, .int r), (0, .ref b), (1, .ref (a 0)), (2, .ref (b' 0)), (3, .ref o), (4, .int (iI ((iv : Nat) : Int)))]) hx hb dL_law_595 hl (by decide) rfl (fun ls hl => ?_)
  refine lv_aload_n hx hb dL_law_597 rfl (lv_at hl 3 rfl) ?_
  refine lv_aload_n hx hb dL_law_598 rfl (lv_at hl 1 rfl) ?_
  refine lv_iload hx hb dL_law_599 (lv_at hl 5 rfl) ?_
  refine z_ic hx hb dL_law_601 ?_
  refine z_add hx hb dL_law_602 ?_
  refine l_sld (j := 1) hx hb hX hbl hbA hS (by omega) hLx rfl e1 dL_law_603 ?_
  refine j_calli (va_runV (As := [.int (iI z1)]) (rest := []) ⟨hx, hb, hml, hown, hts⟩ (c_X3_schedule l D g b' th L att T hm tn pl z1 hJ.1 hJ.2.1 hJ.2.2.1 r1 H.size) (cwV 1 hts gL_law_X3_schedule rfl rfl rfl (by decide +kernel) ⟨Nat.le_of_ble_eq_true rfl, Nat.le_of_ble_eq_true rfl⟩) (z_preV 0 hK (wj_r hP) (wj_dr hD) rfl rfl) rfl rfl hl.1 rfl (lv_room (Nat.le_of_ble_eq_true rfl)) dL_law_604 ⟨(show cells + 1 + 0 ≤ 601024 by omega), (show slots + 6 * 1 + 0 ≤ 7293034 by omega)⟩) hS hP hD hA (fun r2 v1 H locs h2 hP hD hS => ?_)
  obtain ⟨n, L, att, T, hs, tm, tk, lt, f, hm, tn, pl, rfl, rfl, hJ, hn0, hn3, rfl, hv⟩ := ag_schedule (hs := hs) (tk := tk) (lt := lt) (att := att) (hm := hm) (pl := pl) hJ h1 h2
  refine lv_istore (lv' := [(6, .int r2), (5, .int (iI n)), (0, .ref b), (1, .ref (a 0)), (2, .ref (b' 0)), (3, .ref o), (4, .int (iI ((iv : Nat) : Int)))]) hx hb dL_law_607 hl (by decide) rfl (fun ls hl => ?_)
  refine lv_aload_n hx hb dL_law_609 rfl (lv_at hl 4 rfl) ?_
  refine j_calli (va_runV (As := []) (rest := []) ⟨hx, hb, hml, hown, hts⟩ (c_X3_thrown l D g b' n L att T hm tn pl H.size) (cwV 0 hts gL_law_X3_thrown rfl rfl rfl (by decide +kernel) ⟨Nat.le_of_ble_eq_true rfl, Nat.le_of_ble_eq_true rfl⟩) (z_preV 0 hK (wj_r hP) (wj_dr hD) rfl rfl) rfl rfl hl.1 rfl (lv_room (Nat.le_of_ble_eq_true rfl)) dL_law_610 ⟨(show cells + 1 + 0 ≤ 601024 by omega), (show slots + 6 * 1 + 0 ≤ 7293034 by omega)⟩) hS hP hD hA (fun r3 v1 H locs h3 hP hD hS => ?_)
  obtain ⟨rfl, rfl⟩ := h3
  refine lv_iload hx hb dL_law_613 (lv_at hl 1 rfl) ?_
  refine lv_icmp_eq (tgt := 620) hx hb dL_law_615 (by decide) (fun _ => ?_) (fun h9 => absurd rfl h9)
  refine lv_iload hx hb dL_law_620 (lv_at hl 1 rfl) ?_
  have kend : W p l e room_1 s m #[Value.ref b] below meth c H locs (cells + 1) (slots + 6 * 1) Q (F0 m 637 ls []) := by
    refine lv_goto (tgt := 1571) hx hb dL_law_637 (by decide) ?_
    refine W.widen (k := cells + 7) (n := slots + 42) (by omega) (by omega) ?_
    exact kk L att T hs tm tk lt f n hm tn pl hJ H locs ls hP hD hS (lv_sub hl [2, 3, 4, 5, 6] rfl)
  refine lv_if_ne (tgt := 637) hx hb dL_law_622 (by decide) (fun _ => kend) (fun h9 => ?_)
  have hn : n = 0 := (iI_0 ⟨hn0, hn3⟩).mp h9
  have hv := hv hn
  refine lv_aload_n hx hb dL_law_625 rfl (lv_at hl 5 rfl) ?_
  refine z_ic hx hb dL_law_626 ?_
  refine l_lald (g := g) hx hb hK hP 17 rfl dL_law_627 ?_
  refine lv_iload hx hb dL_law_628 (lv_at hl 0 rfl) ?_
  refine lv_i2l (v := r2.toInt64) hx hb dL_law_630 rfl ?_
  rw [hv]
  refine W.lcmp hx hb dL_law_631 ?_
  rw [cmp_s]
  exact lv_if_eq (tgt := 637) hx hb dL_law_632 (by decide) (fun _ => kend) (fun h9 => absurd rfl h9)
set_option maxHeartbeats 4000000 in
set_option maxRecDepth 100000 in
theorem law_interval {p : Program} {l : Launch} {e : Env} {s : State} {m : MethodId} {below : List Frame} {meth : Method} {c : Code} {b Lx : Nat} {xs : Nat → Int32} {D : va_G} {g : Nat → ClassId} (hC : LC p l s m meth c b Lx xs D g) {a b' : Nat → Nat} {o iv cells slots : Nat} {Q : State → Prop} (hi : iv + 5 ≤ Lx) (hcs : cells + 7 ≤ 601024 ∧ slots + 42 ≤ 7293034) (kk : KQ p l e s m below meth c b o a b' g D iv (cells + 7) (slots + 42) Q) {L : LD} {att T : Nat} {hs tm : Nat → Int} {tk : Nat → Nat → Int} {lt : Nat → Int} {f : Nat → Int64} {th : Int} {hm : Nat → Int} {tn : Nat → Nat} {pl : Nat → Bool} (hJ : JJ L T tm tk hm tn) {H : Heap} {locs : List Loc} {ls : Array Slot} (hP : va_P D vwCl (uw a g o L att T hs tm tk lt f ++ wM b' g th L att T hm tn pl (fun _ => 0)) H) (hD : va_D (fun q : Nat => s.heap.size ≤ q) (uw a g o L att T hs tm tk lt f ++ wM b' g th L att T hm tn pl (fun _ => 0))) (hS : va_S (fun q : Nat => s.heap.size ≤ q) s.heap H locs) (hl : lv_has ls 7 [(0, .ref b), (1, .ref (a 0)), (2, .ref (b' 0)), (3, .ref o), (4, .int (iI ((iv : Nat) : Int)))]) : W p l e room_1 s m #[Value.ref b] below meth c H locs cells slots Q (F0 m 666 ls []) := by
  obtain ⟨⟨hx, hb, hr, hml, hown, hts0, hX, hbl, hlocks, hgv⟩, hLx, hl0, hK, hE, hV, hN⟩ := hC
  have hts : ∀ w ∈ wsL_law, w.before #[Value.ref b] s = true := fun w h => hts0 w (wsL_law_in w h)
  have hA : ∀ q : Nat, s.heap.size ≤ q → (fun q : Nat => s.heap.size ≤ q) q := fun _ h => h
  have hbA : ¬ (fun q : Nat => s.heap.size ≤ q) b := Nat.not_le.mpr hbl
  refine lv_aload_n hx hb dL_law_666 rfl (lv_at hl 1 rfl) ?_
  refine lv_aload_n hx hb dL_law_667 rfl (lv_at hl 3 rfl) ?_
  refine j_callx (vx_runSX (As := [.ref (a 0), .ref o]) (rest := []) ⟨hx, hb, hml, hown, hts⟩ (c_L_interval l D g o (a 0) f (wX a g L att T hs tm tk lt) _ rfl _ _ (c_X2_interval l hl0 D g a L att T hs tm tk lt hJ.1 (JT_ok hJ.2.2.2)) (fun E w9 h => (fun q => q.1) h.2) H.size) (vx_cwSW 2 hts gL_law_L_interval rfl rfl rfl (by decide +kernel) ⟨Nat.le_of_ble_eq_true rfl, Nat.le_of_ble_eq_true rfl⟩) (y_preS hK (wj_l hP) (wj_dl hD) hS hA hE hV hN) rfl rfl hl.1 rfl (lv_room (Nat.le_of_ble_eq_true rfl)) dL_law_668 ⟨(show cells + 1 ≤ 601024 by omega), (show slots + 6 * 1 ≤ 7293034 by omega)⟩) hS hP hD hA (fun r u1 H locs h1 hP hD hS => ?_)
  refine lv_istore (lv' := [(5, .int r), (0, .ref b), (1, .ref (a 0)), (2, .ref (b' 0)), (3, .ref o), (4, .int (iI ((iv : Nat) : Int)))]) hx hb dL_law_671 hl (by decide) rfl (fun ls hl => ?_)
  refine lv_aload_n hx hb dL_law_673 rfl (lv_at hl 3 rfl) ?_
  refine j_calli (va_runV (As := []) (rest := []) ⟨hx, hb, hml, hown, hts⟩ (c_X3_interval l D g b' th L att T hm tn pl hJ.2.2.2.1 H.size) (cwV 0 hts gL_law_X3_interval rfl rfl rfl (by decide +kernel) ⟨Nat.le_of_ble_eq_true rfl, Nat.le_of_ble_eq_true rfl⟩) (z_preV 0 hK (wj_r hP) (wj_dr hD) rfl rfl) rfl rfl hl.1 rfl (lv_room (Nat.le_of_ble_eq_true rfl)) dL_law_674 ⟨(show cells + 1 + 0 ≤ 601024 by omega), (show slots + 6 * 1 + 0 ≤ 7293034 by omega)⟩) hS hP hD hA (fun r2 v1 H locs h2 hP hD hS => ?_)
  obtain ⟨n, L, att, T, hs, tm, tk, lt, f, hm, tn, pl, rfl, rfl, hJ, hn0, hn3, rfl, hv⟩ := ag_interval (hs := hs) (tk := tk) (lt := lt) (att := att) (hm := hm) (pl := pl) hJ h1 h2
  refine lv_istore (lv' := [(6, .int r2), (5, .int (iI n)), (0, .ref b), (1, .ref (a 0)), (2, .ref (b' 0)), (3, .ref o), (4, .int (iI ((iv : Nat) : Int)))]) hx hb dL_law_677 hl (by decide) rfl (fun ls hl => ?_)
  refine lv_aload_n hx hb dL_law_679 rfl (lv_at hl 4 rfl) ?_
  refine j_calli (va_runV (As := []) (rest := []) ⟨hx, hb, hml, hown, hts⟩ (c_X3_thrown l D g b' n L att T hm tn pl H.size) (cwV 0 hts gL_law_X3_thrown rfl rfl rfl (by decide +kernel) ⟨Nat.le_of_ble_eq_true rfl, Nat.le_of_ble_eq_true rfl⟩) (z_preV 0 hK (wj_r hP) (wj_dr hD) rfl rfl) rfl rfl hl.1 rfl (lv_room (Nat.le_of_ble_eq_true rfl)) dL_law_680 ⟨(show cells + 1 + 0 ≤ 601024 by omega), (show slots + 6 * 1 + 0 ≤ 7293034 by omega)⟩) hS hP hD hA (fun r3 v1 H locs h3 hP hD hS => ?_)
  obtain ⟨rfl, rfl⟩ := h3
  refine lv_iload hx hb dL_law_683 (lv_at hl 1 rfl) ?_
  refine lv_icmp_eq (tgt := 690) hx hb dL_law_685 (by decide) (fun _ => ?_) (fun h9 => absurd rfl h9)
  refine lv_iload hx hb dL_law_690 (lv_at hl 1 rfl) ?_
  have kend : W p l e room_1 s m #[Value.ref b] below meth c H locs (cells + 1) (slots + 6 * 1) Q (F0 m 707 ls []) := by
    refine lv_goto (tgt := 1571) hx hb dL_law_707 (by decide) ?_
    refine W.widen (k := cells + 7) (n := slots + 42) (by omega) (by omega) ?_
    exact kk L att T hs tm tk lt f n hm tn pl hJ H locs ls hP hD hS (lv_sub hl [2, 3, 4, 5, 6] rfl)
  refine lv_if_ne (tgt := 707) hx hb dL_law_692 (by decide) (fun _ => kend) (fun h9 => ?_)
  have hn : n = 0 := (iI_0 ⟨hn0, hn3⟩).mp h9
  have hv := hv hn
  refine lv_aload_n hx hb dL_law_695 rfl (lv_at hl 5 rfl) ?_
  refine z_ic hx hb dL_law_696 ?_
  refine l_lald (g := g) hx hb hK hP 17 rfl dL_law_697 ?_
  refine lv_iload hx hb dL_law_698 (lv_at hl 0 rfl) ?_
  refine lv_i2l (v := r2.toInt64) hx hb dL_law_700 rfl ?_
  rw [hv]
  refine W.lcmp hx hb dL_law_701 ?_
  rw [cmp_s]
  exact lv_if_eq (tgt := 707) hx hb dL_law_702 (by decide) (fun _ => kend) (fun h9 => absurd rfl h9)
set_option maxHeartbeats 4000000 in
set_option maxRecDepth 100000 in
theorem law_time {p : Program} {l : Launch} {e : Env} {s : State} {m : MethodId} {below : List Frame} {meth : Method} {c : Code} {b Lx : Nat} {xs : Nat → Int32} {D : va_G} {g : Nat → ClassId} (hC : LC p l s m meth c b Lx xs D g) {a b' : Nat → Nat} {o iv cells slots : Nat} {Q : State → Prop} (hi : iv + 5 ≤ Lx) (hcs : cells + 7 ≤ 601024 ∧ slots + 42 ≤ 7293034) (kk : KQ p l e s m below meth c b o a b' g D iv (cells + 7) (slots + 42) Q) {L : LD} {att T : Nat} {hs tm : Nat → Int} {tk : Nat → Nat → Int} {lt : Nat → Int} {f : Nat → Int64} {th : Int} {hm : Nat → Int} {tn : Nat → Nat} {pl : Nat → Bool} (hJ : JJ L T tm tk hm tn) {H : Heap} {locs : List Loc} {ls : Array Slot} (hP : va_P D vwCl (uw a g o L att T hs tm tk lt f ++ wM b' g th L att T hm tn pl (fun _ => 0)) H) (hD : va_D (fun q : Nat => s.heap.size ≤ q) (uw a g o L att T hs tm tk lt f ++ wM b' g th L att T hm tn pl (fun _ => 0))) (hS : va_S (fun q : Nat => s.heap.size ≤ q) s.heap H locs) (hl : lv_has ls 7 [(0, .ref b), (1, .ref (a 0)), (2, .ref (b' 0)), (3, .ref o), (4, .int (iI ((iv : Nat) : Int)))]) : W p l e room_1 s m #[Value.ref b] below meth c H locs cells slots Q (F0 m 710 ls []) := by
  obtain ⟨⟨hx, hb, hr, hml, hown, hts0, hX, hbl, hlocks, hgv⟩, hLx, hl0, hK, hE, hV, hN⟩ := hC
  have hts : ∀ w ∈ wsL_law, w.before #[Value.ref b] s = true := fun w h => hts0 w (wsL_law_in w h)
  have hA : ∀ q : Nat, s.heap.size ≤ q → (fun q : Nat => s.heap.size ≤ q) q := fun _ h => h
  have hbA : ¬ (fun q : Nat => s.heap.size ≤ q) b := Nat.not_le.mpr hbl
  obtain ⟨z1, e1, r1⟩ := iI_of (xs (iv + 1))
  refine lv_aload_n hx hb dL_law_710 rfl (lv_at hl 1 rfl) ?_
  refine lv_aload_n hx hb dL_law_711 rfl (lv_at hl 0 rfl) ?_
  refine lv_iload hx hb dL_law_712 (lv_at hl 4 rfl) ?_
  refine z_ic hx hb dL_law_714 ?_
  refine z_add hx hb dL_law_715 ?_
  refine l_sld (j := 1) hx hb hX hbl hbA hS (by omega) hLx rfl e1 dL_law_716 ?_
  refine lv_aload_n hx hb dL_law_717 rfl (lv_at hl 3 rfl) ?_
  refine j_callx (vx_runSX (As := [.ref (a 0), .int (iI z1), .ref o]) (rest := []) ⟨hx, hb, hml, hown, hts⟩ (c_L_time l D g o (a 0) f (wX a g L att T hs tm tk lt) _ rfl (iI z1) _ _ (c_X2_time l hl0 D g a L att T hs tm tk lt z1 hJ.1 (JT_ok hJ.2.2.2) r1) (fun E w9 h => (fun q => q.elim (fun q => (Or.inl q.1)) (fun q => (Or.inr q.1))) h.2) H.size) (vx_cwSW 3 hts gL_law_L_time rfl rfl rfl (by decide +kernel) ⟨Nat.le_of_ble_eq_true rfl, Nat.le_of_ble_eq_true rfl⟩) (y_preS hK (wj_l hP) (wj_dl hD) hS hA hE hV hN) rfl rfl hl.1 rfl (lv_room (Nat.le_of_ble_eq_true rfl)) dL_law_718 ⟨(show cells + 2 ≤ 601024 by omega), (show slots + 6 * 2 ≤ 7293034 by omega)⟩) hS hP hD hA (fun r u1 H locs h1 hP hD hS => ?_)
  refine lv_istore (lv' := [(5, .int r), (0, .ref b), (1, .ref (a 0)), (2, .ref (b' 0)), (3, .ref o), (4, .int (iI ((iv : Nat) : Int)))]) hx hb dL_law_721 hl (by decide) rfl (fun ls hl => ?_)
  refine lv_aload_n hx hb dL_law_723 rfl (lv_at hl 3 rfl) ?_
  refine lv_aload_n hx hb dL_law_724 rfl (lv_at hl 1 rfl) ?_
  refine lv_iload hx hb dL_law_725 (lv_at hl 5 rfl) ?_
  refine z_ic hx hb dL_law_727 ?_
  refine z_add hx hb dL_law_728 ?_
  refine l_sld (j := 1) hx hb hX hbl hbA hS (by omega) hLx rfl e1 dL_law_729 ?_
  refine j_calli (va_runV (As := [.int (iI z1)]) (rest := []) ⟨hx, hb, hml, hown, hts⟩ (c_X3_time l D g b' th L att T hm tn pl z1 hJ.1 hJ.2.2.2.1 r1 H.size) (cwV 1 hts gL_law_X3_time rfl rfl rfl (by decide +kernel) ⟨Nat.le_of_ble_eq_true rfl, Nat.le_of_ble_eq_true rfl⟩) (z_preV 0 hK (wj_r hP) (wj_dr hD) rfl rfl) rfl rfl hl.1 rfl (lv_room (Nat.le_of_ble_eq_true rfl)) dL_law_730 ⟨(show cells + 2 + 0 ≤ 601024 by omega), (show slots + 6 * 2 + 0 ≤ 7293034 by omega)⟩) hS hP hD hA (fun r2 v1 H locs h2 hP hD hS => ?_)
  obtain ⟨n, L, att, T, hs, tm, tk, lt, f, hm, tn, pl, rfl, rfl, hJ, hn0, hn3, rfl, hv⟩ := ag_time (hs := hs) (tk := tk) (lt := lt) (att := att) (hm := hm) (pl := pl) hJ h1 h2
  refine lv_istore (lv' := [(6, .int r2), (5, .int (iI n)), (0, .ref b), (1, .ref (a 0)), (2, .ref (b' 0)), (3, .ref o), (4, .int (iI ((iv : Nat) : Int)))]) hx hb dL_law_733 hl (by decide) rfl (fun ls hl => ?_)
  refine lv_aload_n hx hb dL_law_735 rfl (lv_at hl 4 rfl) ?_
  refine j_calli (va_runV (As := []) (rest := []) ⟨hx, hb, hml, hown, hts⟩ (c_X3_thrown l D g b' n L att T hm tn pl H.size) (cwV 0 hts gL_law_X3_thrown rfl rfl rfl (by decide +kernel) ⟨Nat.le_of_ble_eq_true rfl, Nat.le_of_ble_eq_true rfl⟩) (z_preV 0 hK (wj_r hP) (wj_dr hD) rfl rfl) rfl rfl hl.1 rfl (lv_room (Nat.le_of_ble_eq_true rfl)) dL_law_736 ⟨(show cells + 2 + 0 ≤ 601024 by omega), (show slots + 6 * 2 + 0 ≤ 7293034 by omega)⟩) hS hP hD hA (fun r3 v1 H locs h3 hP hD hS => ?_)
  obtain ⟨rfl, rfl⟩ := h3
  refine lv_iload hx hb dL_law_739 (lv_at hl 1 rfl) ?_
  refine lv_icmp_eq (tgt := 746) hx hb dL_law_741 (by decide) (fun _ => ?_) (fun h9 => absurd rfl h9)
  refine lv_iload hx hb dL_law_746 (lv_at hl 1 rfl) ?_
  have kend : W p l e room_1 s m #[Value.ref b] below meth c H locs (cells + 2) (slots + 6 * 2) Q (F0 m 763 ls []) := by
    refine lv_goto (tgt := 1571) hx hb dL_law_763 (by decide) ?_
    refine W.widen (k := cells + 7) (n := slots + 42) (by omega) (by omega) ?_
    exact kk L att T hs tm tk lt f n hm tn pl hJ H locs ls hP hD hS (lv_sub hl [2, 3, 4, 5, 6] rfl)
  refine lv_if_ne (tgt := 763) hx hb dL_law_748 (by decide) (fun _ => kend) (fun h9 => ?_)
  have hn : n = 0 := (iI_0 ⟨hn0, hn3⟩).mp h9
  have hv := hv hn
  refine lv_aload_n hx hb dL_law_751 rfl (lv_at hl 5 rfl) ?_
  refine z_ic hx hb dL_law_752 ?_
  refine l_lald (g := g) hx hb hK hP 17 rfl dL_law_753 ?_
  refine lv_iload hx hb dL_law_754 (lv_at hl 0 rfl) ?_
  refine lv_i2l (v := r2.toInt64) hx hb dL_law_756 rfl ?_
  rw [hv]
  refine W.lcmp hx hb dL_law_757 ?_
  rw [cmp_s]
  exact lv_if_eq (tgt := 763) hx hb dL_law_758 (by decide) (fun _ => kend) (fun h9 => absurd rfl h9)
set_option maxHeartbeats 4000000 in
set_option maxRecDepth 100000 in
theorem law_move {p : Program} {l : Launch} {e : Env} {s : State} {m : MethodId} {below : List Frame} {meth : Method} {c : Code} {b Lx : Nat} {xs : Nat → Int32} {D : va_G} {g : Nat → ClassId} (hC : LC p l s m meth c b Lx xs D g) {a b' : Nat → Nat} {o iv cells slots : Nat} {Q : State → Prop} (hi : iv + 5 ≤ Lx) (hcs : cells + 7 ≤ 601024 ∧ slots + 42 ≤ 7293034) (kk : KQ p l e s m below meth c b o a b' g D iv (cells + 7) (slots + 42) Q) {L : LD} {att T : Nat} {hs tm : Nat → Int} {tk : Nat → Nat → Int} {lt : Nat → Int} {f : Nat → Int64} {th : Int} {hm : Nat → Int} {tn : Nat → Nat} {pl : Nat → Bool} (hJ : JJ L T tm tk hm tn) {H : Heap} {locs : List Loc} {ls : Array Slot} (hP : va_P D vwCl (uw a g o L att T hs tm tk lt f ++ wM b' g th L att T hm tn pl (fun _ => 0)) H) (hD : va_D (fun q : Nat => s.heap.size ≤ q) (uw a g o L att T hs tm tk lt f ++ wM b' g th L att T hm tn pl (fun _ => 0))) (hS : va_S (fun q : Nat => s.heap.size ≤ q) s.heap H locs) (hl : lv_has ls 7 [(0, .ref b), (1, .ref (a 0)), (2, .ref (b' 0)), (3, .ref o), (4, .int (iI ((iv : Nat) : Int)))]) : W p l e room_1 s m #[Value.ref b] below meth c H locs cells slots Q (F0 m 766 ls []) := by
  obtain ⟨⟨hx, hb, hr, hml, hown, hts0, hX, hbl, hlocks, hgv⟩, hLx, hl0, hK, hE, hV, hN⟩ := hC
  have hts : ∀ w ∈ wsL_law, w.before #[Value.ref b] s = true := fun w h => hts0 w (wsL_law_in w h)
  have hA : ∀ q : Nat, s.heap.size ≤ q → (fun q : Nat => s.heap.size ≤ q) q := fun _ h => h
  have hbA : ¬ (fun q : Nat => s.heap.size ≤ q) b := Nat.not_le.mpr hbl
  obtain ⟨z1, e1, r1⟩ := iI_of (xs (iv + 1))
  obtain ⟨z2, e2, r2⟩ := iI_of (xs (iv + 2))
  refine lv_aload_n hx hb dL_law_766 rfl (lv_at hl 1 rfl) ?_
  refine lv_aload_n hx hb dL_law_767 rfl (lv_at hl 0 rfl) ?_
  refine lv_iload hx hb dL_law_768 (lv_at hl 4 rfl) ?_
  refine z_ic hx hb dL_law_770 ?_
  refine z_add hx hb dL_law_771 ?_
  refine l_sld (j := 1) hx hb hX hbl hbA hS (by omega) hLx rfl e1 dL_law_772 ?_
  refine lv_aload_n hx hb dL_law_773 rfl (lv_at hl 0 rfl) ?_
  refine lv_iload hx hb dL_law_774 (lv_at hl 4 rfl) ?_
  refine z_ic hx hb dL_law_776 ?_
  refine z_add hx hb dL_law_777 ?_
  refine l_sld (j := 2) hx hb hX hbl hbA hS (by omega) hLx rfl e2 dL_law_778 ?_
  refine lv_aload_n hx hb dL_law_779 rfl (lv_at hl 3 rfl) ?_
  refine j_callx (vx_runSX (As := [.ref (a 0), .int (iI z1), .int (iI z2), .ref o]) (rest := []) ⟨hx, hb, hml, hown, hts⟩ (c_L_move l D g o (a 0) f (wX a g L att T hs tm tk lt) _ rfl (iI z1) (iI z2) _ _ (c_X2_move l hl0 D g a L att T hs tm tk lt z1 z2 hJ.1 (JT_ok hJ.2.2.2) r1 r2) (fun E w9 h => (fun q => q.elim (fun q => (Or.inl q.1)) (fun q => q.elim (fun q => (Or.inr (Or.inl q.1))) (fun q => (Or.inr (Or.inr q.1))))) h.2) H.size) (vx_cwSW 4 hts gL_law_L_move rfl rfl rfl (by decide +kernel) ⟨Nat.le_of_ble_eq_true rfl, Nat.le_of_ble_eq_true rfl⟩) (y_preS hK (wj_l hP) (wj_dl hD) hS hA hE hV hN) rfl rfl hl.1 rfl (lv_room (Nat.le_of_ble_eq_true rfl)) dL_law_780 ⟨(show cells + 3 ≤ 601024 by omega), (show slots + 6 * 3 ≤ 7293034 by omega)⟩) hS hP hD hA (fun r u1 H locs h1 hP hD hS => ?_)
  refine lv_istore (lv' := [(5, .int r), (0, .ref b), (1, .ref (a 0)), (2, .ref (b' 0)), (3, .ref o), (4, .int (iI ((iv : Nat) : Int)))]) hx hb dL_law_783 hl (by decide) rfl (fun ls hl => ?_)
  refine lv_aload_n hx hb dL_law_785 rfl (lv_at hl 3 rfl) ?_
  refine lv_aload_n hx hb dL_law_786 rfl (lv_at hl 1 rfl) ?_
  refine lv_iload hx hb dL_law_787 (lv_at hl 5 rfl) ?_
  refine z_ic hx hb dL_law_789 ?_
  refine z_add hx hb dL_law_790 ?_
  refine l_sld (j := 1) hx hb hX hbl hbA hS (by omega) hLx rfl e1 dL_law_791 ?_
  refine lv_aload_n hx hb dL_law_792 rfl (lv_at hl 1 rfl) ?_
  refine lv_iload hx hb dL_law_793 (lv_at hl 5 rfl) ?_
  refine z_ic hx hb dL_law_795 ?_
  refine z_add hx hb dL_law_796 ?_
  refine l_sld (j := 2) hx hb hX hbl hbA hS (by omega) hLx rfl e2 dL_law_797 ?_
  refine j_calli (va_runV (As := [.int (iI z1), .int (iI z2)]) (rest := []) ⟨hx, hb, hml, hown, hts⟩ (c_X3_move l D g b' th L att T hm tn pl z1 z2 hJ.1 hJ.2.2.2.1 r1 r2 (fun j _ => hJ.2.2.1 j) H.size) (cwV 2 hts gL_law_X3_move rfl rfl rfl (by decide +kernel) ⟨Nat.le_of_ble_eq_true rfl, Nat.le_of_ble_eq_true rfl⟩) (z_preV 0 hK (wj_r hP) (wj_dr hD) rfl rfl) rfl rfl hl.1 rfl (lv_room (Nat.le_of_ble_eq_true rfl)) dL_law_798 ⟨(show cells + 3 + 0 ≤ 601024 by omega), (show slots + 6 * 3 + 0 ≤ 7293034 by omega)⟩) hS hP hD hA (fun r2 v1 H locs h2 hP hD hS => ?_)
  obtain ⟨n, L, att, T, hs, tm, tk, lt, f, hm, tn, pl, rfl, rfl, hJ, hn0, hn3, rfl, hv⟩ := ag_move (hs := hs) (tk := tk) (lt := lt) (att := att) (hm := hm) (pl := pl) hJ h1 h2
  refine lv_istore (lv' := [(6, .int r2), (5, .int (iI n)), (0, .ref b), (1, .ref (a 0)), (2, .ref (b' 0)), (3, .ref o), (4, .int (iI ((iv : Nat) : Int)))]) hx hb dL_law_801 hl (by decide) rfl (fun ls hl => ?_)
  refine lv_aload_n hx hb dL_law_803 rfl (lv_at hl 4 rfl) ?_
  refine j_calli (va_runV (As := []) (rest := []) ⟨hx, hb, hml, hown, hts⟩ (c_X3_thrown l D g b' n L att T hm tn pl H.size) (cwV 0 hts gL_law_X3_thrown rfl rfl rfl (by decide +kernel) ⟨Nat.le_of_ble_eq_true rfl, Nat.le_of_ble_eq_true rfl⟩) (z_preV 0 hK (wj_r hP) (wj_dr hD) rfl rfl) rfl rfl hl.1 rfl (lv_room (Nat.le_of_ble_eq_true rfl)) dL_law_804 ⟨(show cells + 3 + 0 ≤ 601024 by omega), (show slots + 6 * 3 + 0 ≤ 7293034 by omega)⟩) hS hP hD hA (fun r3 v1 H locs h3 hP hD hS => ?_)
  obtain ⟨rfl, rfl⟩ := h3
  refine lv_iload hx hb dL_law_807 (lv_at hl 1 rfl) ?_
  refine lv_icmp_eq (tgt := 814) hx hb dL_law_809 (by decide) (fun _ => ?_) (fun h9 => absurd rfl h9)
  refine lv_iload hx hb dL_law_814 (lv_at hl 1 rfl) ?_
  have kend : W p l e room_1 s m #[Value.ref b] below meth c H locs (cells + 3) (slots + 6 * 3) Q (F0 m 838 ls []) := by
    refine lv_goto (tgt := 1571) hx hb dL_law_838 (by decide) ?_
    refine W.widen (k := cells + 7) (n := slots + 42) (by omega) (by omega) ?_
    exact kk L att T hs tm tk lt f n hm tn pl hJ H locs ls hP hD hS (lv_sub hl [2, 3, 4, 5, 6] rfl)
  refine lv_if_ne (tgt := 838) hx hb dL_law_816 (by decide) (fun _ => kend) (fun h9 => ?_)
  have hn : n = 0 := (iI_0 ⟨hn0, hn3⟩).mp h9
  have hv := hv hn
  refine lv_aload_n hx hb dL_law_819 rfl (lv_at hl 5 rfl) ?_
  refine z_ic hx hb dL_law_820 ?_
  refine l_lald (g := g) hx hb hK hP 17 rfl dL_law_821 ?_
  refine lv_iload hx hb dL_law_822 (lv_at hl 0 rfl) ?_
  refine lv_if_eq (tgt := 831) hx hb dL_law_824 (by decide) (fun q9 => ?_) (fun q9 => ?_)
  · refine lv_lconst (v := 0) hx hb dL_law_831 (by decide) ?_
    have hv : f 0 = 0 := hv.trans (if_pos q9)
    rw [hv]
    refine W.lcmp hx hb dL_law_832 ?_
    rw [cmp_s]
    exact lv_if_eq (tgt := 838) hx hb dL_law_833 (by decide) (fun _ => kend) (fun h9 => absurd rfl h9)
  · refine lv_lconst (v := 1) hx hb dL_law_827 (by decide) ?_
    refine lv_goto (tgt := 832) hx hb dL_law_828 (by decide) ?_
    have hv : f 0 = 1 := hv.trans (if_neg q9)
    rw [hv]
    refine W.lcmp hx hb dL_law_832 ?_
    rw [cmp_s]
    exact lv_if_eq (tgt := 838) hx hb dL_law_833 (by decide) (fun _ => kend) (fun h9 => absurd rfl h9)
set_option maxHeartbeats 4000000 in
set_option maxRecDepth 100000 in
theorem law_freedom {p : Program} {l : Launch} {e : Env} {s : State} {m : MethodId} {below : List Frame} {meth : Method} {c : Code} {b Lx : Nat} {xs : Nat → Int32} {D : va_G} {g : Nat → ClassId} (hC : LC p l s m meth c b Lx xs D g) {a b' : Nat → Nat} {o iv cells slots : Nat} {Q : State → Prop} (hi : iv + 5 ≤ Lx) (hcs : cells + 7 ≤ 601024 ∧ slots + 42 ≤ 7293034) (kk : KQ p l e s m below meth c b o a b' g D iv (cells + 7) (slots + 42) Q) {L : LD} {att T : Nat} {hs tm : Nat → Int} {tk : Nat → Nat → Int} {lt : Nat → Int} {f : Nat → Int64} {th : Int} {hm : Nat → Int} {tn : Nat → Nat} {pl : Nat → Bool} (hJ : JJ L T tm tk hm tn) {H : Heap} {locs : List Loc} {ls : Array Slot} (hP : va_P D vwCl (uw a g o L att T hs tm tk lt f ++ wM b' g th L att T hm tn pl (fun _ => 0)) H) (hD : va_D (fun q : Nat => s.heap.size ≤ q) (uw a g o L att T hs tm tk lt f ++ wM b' g th L att T hm tn pl (fun _ => 0))) (hS : va_S (fun q : Nat => s.heap.size ≤ q) s.heap H locs) (hl : lv_has ls 7 [(0, .ref b), (1, .ref (a 0)), (2, .ref (b' 0)), (3, .ref o), (4, .int (iI ((iv : Nat) : Int)))]) : W p l e room_1 s m #[Value.ref b] below meth c H locs cells slots Q (F0 m 841 ls []) := by
  obtain ⟨⟨hx, hb, hr, hml, hown, hts0, hX, hbl, hlocks, hgv⟩, hLx, hl0, hK, hE, hV, hN⟩ := hC
  have hts : ∀ w ∈ wsL_law, w.before #[Value.ref b] s = true := fun w h => hts0 w (wsL_law_in w h)
  have hA : ∀ q : Nat, s.heap.size ≤ q → (fun q : Nat => s.heap.size ≤ q) q := fun _ h => h
  have hbA : ¬ (fun q : Nat => s.heap.size ≤ q) b := Nat.not_le.mpr hbl
  obtain ⟨z1, e1, r1⟩ := iI_of (xs (iv + 1))
  refine lv_aload_n hx hb dL_law_841 rfl (lv_at hl 1 rfl) ?_
  refine lv_aload_n hx hb dL_law_842 rfl (lv_at hl 0 rfl) ?_
  refine lv_iload hx hb dL_law_843 (lv_at hl 4 rfl) ?_
  refine z_ic hx hb dL_law_845 ?_
  refine z_add hx hb dL_law_846 ?_
  refine l_sld (j := 1) hx hb hX hbl hbA hS (by omega) hLx rfl e1 dL_law_847 ?_
  refine lv_aload_n hx hb dL_law_848 rfl (lv_at hl 3 rfl) ?_
  refine j_callx (vx_runSX (As := [.ref (a 0), .int (iI z1), .ref o]) (rest := []) ⟨hx, hb, hml, hown, hts⟩ (c_L_freedom l D g o (a 0) f (wX a g L att T hs tm tk lt) _ rfl (iI z1) _ _ (c_X2_freedom l hl0 D g a L att T hs tm tk lt z1 hJ.1 (JT_ok hJ.2.2.2) r1) (fun E w9 h => (fun q => q.elim (fun q => (Or.inl q.1)) (fun q => (Or.inr q.1))) h.2) H.size) (vx_cwSW 3 hts gL_law_L_freedom rfl rfl rfl (by decide +kernel) ⟨Nat.le_of_ble_eq_true rfl, Nat.le_of_ble_eq_true rfl⟩) (y_preS hK (wj_l hP) (wj_dl hD) hS hA hE hV hN) rfl rfl hl.1 rfl (lv_room (Nat.le_of_ble_eq_true rfl)) dL_law_849 ⟨(show cells + 2 ≤ 601024 by omega), (show slots + 6 * 2 ≤ 7293034 by omega)⟩) hS hP hD hA (fun r u1 H locs h1 hP hD hS => ?_)
  refine lv_istore (lv' := [(5, .int r), (0, .ref b), (1, .ref (a 0)), (2, .ref (b' 0)), (3, .ref o), (4, .int (iI ((iv : Nat) : Int)))]) hx hb dL_law_852 hl (by decide) rfl (fun ls hl => ?_)
  refine lv_aload_n hx hb dL_law_854 rfl (lv_at hl 3 rfl) ?_
  refine lv_aload_n hx hb dL_law_855 rfl (lv_at hl 1 rfl) ?_
  refine lv_iload hx hb dL_law_856 (lv_at hl 5 rfl) ?_
  refine z_ic hx hb dL_law_858 ?_
  refine z_add hx hb dL_law_859 ?_
  refine l_sld (j := 1) hx hb hX hbl hbA hS (by omega) hLx rfl e1 dL_law_860 ?_
  refine j_calli (va_runV (As := [.int (iI z1)]) (rest := []) ⟨hx, hb, hml, hown, hts⟩ (c_X3_freedom l D g b' th L att T hm tn pl z1 hJ.1 hJ.2.2.2.1 r1 (fun j _ => hJ.2.2.1 j) H.size) (cwV 1 hts gL_law_X3_freedom rfl rfl rfl (by decide +kernel) ⟨Nat.le_of_ble_eq_true rfl, Nat.le_of_ble_eq_true rfl⟩) (z_preV 0 hK (wj_r hP) (wj_dr hD) rfl rfl) rfl rfl hl.1 rfl (lv_room (Nat.le_of_ble_eq_true rfl)) dL_law_861 ⟨(show cells + 2 + 0 ≤ 601024 by omega), (show slots + 6 * 2 + 0 ≤ 7293034 by omega)⟩) hS hP hD hA (fun r2 v1 H locs h2 hP hD hS => ?_)
  obtain ⟨n, L, att, T, hs, tm, tk, lt, f, hm, tn, pl, rfl, rfl, hJ, hn0, hn3, rfl, hv⟩ := ag_freedom (hs := hs) (tk := tk) (lt := lt) (att := att) (hm := hm) (pl := pl) hJ h1 h2
  refine lv_istore (lv' := [(6, .int r2), (5, .int (iI n)), (0, .ref b), (1, .ref (a 0)), (2, .ref (b' 0)), (3, .ref o), (4, .int (iI ((iv : Nat) : Int)))]) hx hb dL_law_864 hl (by decide) rfl (fun ls hl => ?_)
  refine lv_aload_n hx hb dL_law_866 rfl (lv_at hl 4 rfl) ?_
  refine j_calli (va_runV (As := []) (rest := []) ⟨hx, hb, hml, hown, hts⟩ (c_X3_thrown l D g b' n L att T hm tn pl H.size) (cwV 0 hts gL_law_X3_thrown rfl rfl rfl (by decide +kernel) ⟨Nat.le_of_ble_eq_true rfl, Nat.le_of_ble_eq_true rfl⟩) (z_preV 0 hK (wj_r hP) (wj_dr hD) rfl rfl) rfl rfl hl.1 rfl (lv_room (Nat.le_of_ble_eq_true rfl)) dL_law_867 ⟨(show cells + 2 + 0 ≤ 601024 by omega), (show slots + 6 * 2 + 0 ≤ 7293034 by omega)⟩) hS hP hD hA (fun r3 v1 H locs h3 hP hD hS => ?_)
  obtain ⟨rfl, rfl⟩ := h3
  refine lv_iload hx hb dL_law_870 (lv_at hl 1 rfl) ?_
  refine lv_icmp_eq (tgt := 877) hx hb dL_law_872 (by decide) (fun _ => ?_) (fun h9 => absurd rfl h9)
  refine lv_iload hx hb dL_law_877 (lv_at hl 1 rfl) ?_
  have kend : W p l e room_1 s m #[Value.ref b] below meth c H locs (cells + 2) (slots + 6 * 2) Q (F0 m 894 ls []) := by
    refine lv_goto (tgt := 1571) hx hb dL_law_894 (by decide) ?_
    refine W.widen (k := cells + 7) (n := slots + 42) (by omega) (by omega) ?_
    exact kk L att T hs tm tk lt f n hm tn pl hJ H locs ls hP hD hS (lv_sub hl [2, 3, 4, 5, 6] rfl)
  refine lv_if_ne (tgt := 894) hx hb dL_law_879 (by decide) (fun _ => kend) (fun h9 => ?_)
  have hn : n = 0 := (iI_0 ⟨hn0, hn3⟩).mp h9
  have hv := hv hn
  refine lv_aload_n hx hb dL_law_882 rfl (lv_at hl 5 rfl) ?_
  refine z_ic hx hb dL_law_883 ?_
  refine l_lald (g := g) hx hb hK hP 17 rfl dL_law_884 ?_
  refine lv_iload hx hb dL_law_885 (lv_at hl 0 rfl) ?_
  refine lv_i2l (v := r2.toInt64) hx hb dL_law_887 rfl ?_
  rw [hv]
  refine W.lcmp hx hb dL_law_888 ?_
  rw [cmp_s]
  exact lv_if_eq (tgt := 894) hx hb dL_law_889 (by decide) (fun _ => kend) (fun h9 => absurd rfl h9)
set_option maxHeartbeats 4000000 in
set_option maxRecDepth 100000 in
theorem law_stages {p : Program} {l : Launch} {e : Env} {s : State} {m : MethodId} {below : List Frame} {meth : Method} {c : Code} {b Lx : Nat} {xs : Nat → Int32} {D : va_G} {g : Nat → ClassId} (hC : LC p l s m meth c b Lx xs D g) {a b' : Nat → Nat} {o iv cells slots : Nat} {Q : State → Prop} (hi : iv + 5 ≤ Lx) (hcs : cells + 7 ≤ 601024 ∧ slots + 42 ≤ 7293034) (kk : KQ p l e s m below meth c b o a b' g D iv (cells + 7) (slots + 42) Q) {L : LD} {att T : Nat} {hs tm : Nat → Int} {tk : Nat → Nat → Int} {lt : Nat → Int} {f : Nat → Int64} {th : Int} {hm : Nat → Int} {tn : Nat → Nat} {pl : Nat → Bool} (hJ : JJ L T tm tk hm tn) {H : Heap} {locs : List Loc} {ls : Array Slot} (hP : va_P D vwCl (uw a g o L att T hs tm tk lt f ++ wM b' g th L att T hm tn pl (fun _ => 0)) H) (hD : va_D (fun q : Nat => s.heap.size ≤ q) (uw a g o L att T hs tm tk lt f ++ wM b' g th L att T hm tn pl (fun _ => 0))) (hS : va_S (fun q : Nat => s.heap.size ≤ q) s.heap H locs) (hl : lv_has ls 7 [(0, .ref b), (1, .ref (a 0)), (2, .ref (b' 0)), (3, .ref o), (4, .int (iI ((iv : Nat) : Int)))]) : W p l e room_1 s m #[Value.ref b] below meth c H locs cells slots Q (F0 m 897 ls []) := by
  obtain ⟨⟨hx, hb, hr, hml, hown, hts0, hX, hbl, hlocks, hgv⟩, hLx, hl0, hK, hE, hV, hN⟩ := hC
  have hts : ∀ w ∈ wsL_law, w.before #[Value.ref b] s = true := fun w h => hts0 w (wsL_law_in w h)
  have hA : ∀ q : Nat, s.heap.size ≤ q → (fun q : Nat => s.heap.size ≤ q) q := fun _ h => h
  have hbA : ¬ (fun q : Nat => s.heap.size ≤ q) b := Nat.not_le.mpr hbl
  refine lv_aload_n hx hb dL_law_897 rfl (lv_at hl 1 rfl) ?_
  refine lv_aload_n hx hb dL_law_898 rfl (lv_at hl 3 rfl) ?_
  refine j_callx (vx_runSX (As := [.ref (a 0), .ref o]) (rest := []) ⟨hx, hb, hml, hown, hts⟩ (c_L_stages l D g o (a 0) f (wX a g L att T hs tm tk lt) _ rfl _ _ (c_X2_stages l hl0 D g a L att T hs tm tk lt hJ.1 (JT_ok hJ.2.2.2)) (fun E w9 h => (fun q => q.1) h.2) H.size) (vx_cwSW 2 hts gL_law_L_stages rfl rfl rfl (by decide +kernel) ⟨Nat.le_of_ble_eq_true rfl, Nat.le_of_ble_eq_true rfl⟩) (y_preS hK (wj_l hP) (wj_dl hD) hS hA hE hV hN) rfl rfl hl.1 rfl (lv_room (Nat.le_of_ble_eq_true rfl)) dL_law_899 ⟨(show cells + 1 ≤ 601024 by omega), (show slots + 6 * 1 ≤ 7293034 by omega)⟩) hS hP hD hA (fun r u1 H locs h1 hP hD hS => ?_)
  refine lv_istore (lv' := [(5, .int r), (0, .ref b), (1, .ref (a 0)), (2, .ref (b' 0)), (3, .ref o), (4, .int (iI ((iv : Nat) : Int)))]) hx hb dL_law_902 hl (by decide) rfl (fun ls hl => ?_)
  refine lv_aload_n hx hb dL_law_904 rfl (lv_at hl 3 rfl) ?_
  refine j_calli (va_runV (As := []) (rest := []) ⟨hx, hb, hml, hown, hts⟩ (c_X3_stages l D g b' th L att T hm tn pl hJ.1 hJ.2.2.2.1 (fun j _ => hJ.2.2.1 j) H.size) (cwV 0 hts gL_law_X3_stages rfl rfl rfl (by decide +kernel) ⟨Nat.le_of_ble_eq_true rfl, Nat.le_of_ble_eq_true rfl⟩) (z_preV 0 hK (wj_r hP) (wj_dr hD) rfl rfl) rfl rfl hl.1 rfl (lv_room (Nat.le_of_ble_eq_true rfl)) dL_law_905 ⟨(show cells + 1 + 0 ≤ 601024 by omega), (show slots + 6 * 1 + 0 ≤ 7293034 by omega)⟩) hS hP hD hA (fun r2 v1 H locs h2 hP hD hS => ?_)
  obtain ⟨n, L, att, T, hs, tm, tk, lt, f, hm, tn, pl, rfl, rfl, hJ, hn0, hn3, rfl, hv⟩ := ag_stages (hs := hs) (tk := tk) (lt := lt) (att := att) (hm := hm) (pl := pl) hJ h1 h2
  refine lv_istore (lv' := [(6, .int r2), (5, .int (iI n)), (0, .ref b), (1, .ref (a 0)), (2, .ref (b' 0)), (3, .ref o), (4, .int (iI ((iv : Nat) : Int)))]) hx hb dL_law_908 hl (by decide) rfl (fun ls hl => ?_)
  refine lv_aload_n hx hb dL_law_910 rfl (lv_at hl 4 rfl) ?_
  refine j_calli (va_runV (As := []) (rest := []) ⟨hx, hb, hml, hown, hts⟩ (c_X3_thrown l D g b' n L att T hm tn pl H.size) (cwV 0 hts gL_law_X3_thrown rfl rfl rfl (by decide +kernel) ⟨Nat.le_of_ble_eq_true rfl, Nat.le_of_ble_eq_true rfl⟩) (z_preV 0 hK (wj_r hP) (wj_dr hD) rfl rfl) rfl rfl hl.1 rfl (lv_room (Nat.le_of_ble_eq_true rfl)) dL_law_911 ⟨(show cells + 1 + 0 ≤ 601024 by omega), (show slots + 6 * 1 + 0 ≤ 7293034 by omega)⟩) hS hP hD hA (fun r3 v1 H locs h3 hP hD hS => ?_)
  obtain ⟨rfl, rfl⟩ := h3
  refine lv_iload hx hb dL_law_914 (lv_at hl 1 rfl) ?_
  refine lv_icmp_eq (tgt := 921) hx hb dL_law_916 (by decide) (fun _ => ?_) (fun h9 => absurd rfl h9)
  refine lv_iload hx hb dL_law_921 (lv_at hl 1 rfl) ?_
  have kend : W p l e room_1 s m #[Value.ref b] below meth c H locs (cells + 1) (slots + 6 * 1) Q (F0 m 938 ls []) := by
    refine lv_goto (tgt := 1571) hx hb dL_law_938 (by decide) ?_
    refine W.widen (k := cells + 7) (n := slots + 42) (by omega) (by omega) ?_
    exact kk L att T hs tm tk lt f n hm tn pl hJ H locs ls hP hD hS (lv_sub hl [2, 3, 4, 5, 6] rfl)
  refine lv_if_ne (tgt := 938) hx hb dL_law_923 (by decide) (fun _ => kend) (fun h9 => ?_)
  have hn : n = 0 := (iI_0 ⟨hn0, hn3⟩).mp h9
  have hv := hv hn
  refine lv_aload_n hx hb dL_law_926 rfl (lv_at hl 5 rfl) ?_
  refine z_ic hx hb dL_law_927 ?_
  refine l_lald (g := g) hx hb hK hP 17 rfl dL_law_928 ?_
  refine lv_iload hx hb dL_law_929 (lv_at hl 0 rfl) ?_
  refine lv_i2l (v := r2.toInt64) hx hb dL_law_931 rfl ?_
  rw [hv]
  refine W.lcmp hx hb dL_law_932 ?_
  rw [cmp_s]
  exact lv_if_eq (tgt := 938) hx hb dL_law_933 (by decide) (fun _ => kend) (fun h9 => absurd rfl h9)
set_option maxHeartbeats 4000000 in
set_option maxRecDepth 100000 in
theorem law_taken {p : Program} {l : Launch} {e : Env} {s : State} {m : MethodId} {below : List Frame} {meth : Method} {c : Code} {b Lx : Nat} {xs : Nat → Int32} {D : va_G} {g : Nat → ClassId} (hC : LC p l s m meth c b Lx xs D g) {a b' : Nat → Nat} {o iv cells slots : Nat} {Q : State → Prop} (hi : iv + 5 ≤ Lx) (hcs : cells + 7 ≤ 601024 ∧ slots + 42 ≤ 7293034) (kk : KQ p l e s m below meth c b o a b' g D iv (cells + 7) (slots + 42) Q) {L : LD} {att T : Nat} {hs tm : Nat → Int} {tk : Nat → Nat → Int} {lt : Nat → Int} {f : Nat → Int64} {th : Int} {hm : Nat → Int} {tn : Nat → Nat} {pl : Nat → Bool} (hJ : JJ L T tm tk hm tn) {H : Heap} {locs : List Loc} {ls : Array Slot} (hP : va_P D vwCl (uw a g o L att T hs tm tk lt f ++ wM b' g th L att T hm tn pl (fun _ => 0)) H) (hD : va_D (fun q : Nat => s.heap.size ≤ q) (uw a g o L att T hs tm tk lt f ++ wM b' g th L att T hm tn pl (fun _ => 0))) (hS : va_S (fun q : Nat => s.heap.size ≤ q) s.heap H locs) (hl : lv_has ls 7 [(0, .ref b), (1, .ref (a 0)), (2, .ref (b' 0)), (3, .ref o), (4, .int (iI ((iv : Nat) : Int)))]) : W p l e room_1 s m #[Value.ref b] below meth c H locs cells slots Q (F0 m 941 ls []) := by
  obtain ⟨⟨hx, hb, hr, hml, hown, hts0, hX, hbl, hlocks, hgv⟩, hLx, hl0, hK, hE, hV, hN⟩ := hC
  have hts : ∀ w ∈ wsL_law, w.before #[Value.ref b] s = true := fun w h => hts0 w (wsL_law_in w h)
  have hA : ∀ q : Nat, s.heap.size ≤ q → (fun q : Nat => s.heap.size ≤ q) q := fun _ h => h
  have hbA : ¬ (fun q : Nat => s.heap.size ≤ q) b := Nat.not_le.mpr hbl
  obtain ⟨z1, e1, r1⟩ := iI_of (xs (iv + 1))
  obtain ⟨z2, e2, r2⟩ := iI_of (xs (iv + 2))
  refine lv_aload_n hx hb dL_law_941 rfl (lv_at hl 1 rfl) ?_
  refine lv_aload_n hx hb dL_law_942 rfl (lv_at hl 0 rfl) ?_
  refine lv_iload hx hb dL_law_943 (lv_at hl 4 rfl) ?_
  refine z_ic hx hb dL_law_945 ?_
  refine z_add hx hb dL_law_946 ?_
  refine l_sld (j := 1) hx hb hX hbl hbA hS (by omega) hLx rfl e1 dL_law_947 ?_
  refine lv_aload_n hx hb dL_law_948 rfl (lv_at hl 0 rfl) ?_
  refine lv_iload hx hb dL_law_949 (lv_at hl 4 rfl) ?_
  refine z_ic hx hb dL_law_951 ?_
  refine z_add hx hb dL_law_952 ?_
  refine l_sld (j := 2) hx hb hX hbl hbA hS (by omega) hLx rfl e2 dL_law_953 ?_
  refine lv_aload_n hx hb dL_law_954 rfl (lv_at hl 3 rfl) ?_
  refine j_callx (vx_runSX (As := [.ref (a 0), .int (iI z1), .int (iI z2), .ref o]) (rest := []) ⟨hx, hb, hml, hown, hts⟩ (c_L_taken l D g o (a 0) f (wX a g L att T hs tm tk lt) _ rfl (iI z1) (iI z2) _ _ (c_X2_taken l hl0 D g a L att T hs tm tk lt z1 z2 hJ.1 (JT_ok hJ.2.2.2) r1 r2) (fun E w9 h => (fun q => q.elim (fun q => (Or.inl q.1)) (fun q => q.elim (fun q => (Or.inr (Or.inl q.1))) (fun q => (Or.inr (Or.inr q.1))))) h.2) H.size) (vx_cwSW 4 hts gL_law_L_taken rfl rfl rfl (by decide +kernel) ⟨Nat.le_of_ble_eq_true rfl, Nat.le_of_ble_eq_true rfl⟩) (y_preS hK (wj_l hP) (wj_dl hD) hS hA hE hV hN) rfl rfl hl.1 rfl (lv_room (Nat.le_of_ble_eq_true rfl)) dL_law_955 ⟨(show cells + 3 ≤ 601024 by omega), (show slots + 6 * 3 ≤ 7293034 by omega)⟩) hS hP hD hA (fun r u1 H locs h1 hP hD hS => ?_)
  refine lv_istore (lv' := [(5, .int r), (0, .ref b), (1, .ref (a 0)), (2, .ref (b' 0)), (3, .ref o), (4, .int (iI ((iv : Nat) : Int)))]) hx hb dL_law_958 hl (by decide) rfl (fun ls hl => ?_)
  refine lv_aload_n hx hb dL_law_960 rfl (lv_at hl 3 rfl) ?_
  refine lv_aload_n hx hb dL_law_961 rfl (lv_at hl 1 rfl) ?_
  refine lv_iload hx hb dL_law_962 (lv_at hl 5 rfl) ?_
  refine z_ic hx hb dL_law_964 ?_
  refine z_add hx hb dL_law_965 ?_
  refine l_sld (j := 1) hx hb hX hbl hbA hS (by omega) hLx rfl e1 dL_law_966 ?_
  refine lv_aload_n hx hb dL_law_967 rfl (lv_at hl 1 rfl) ?_
  refine lv_iload hx hb dL_law_968 (lv_at hl 5 rfl) ?_
  refine z_ic hx hb dL_law_970 ?_
  refine z_add hx hb dL_law_971 ?_
  refine l_sld (j := 2) hx hb hX hbl hbA hS (by omega) hLx rfl e2 dL_law_972 ?_
  refine j_calli (va_runV (As := [.int (iI z1), .int (iI z2)]) (rest := []) ⟨hx, hb, hml, hown, hts⟩ (c_X3_taken l D g b' th L att T hm tn pl z1 z2 hJ.1 hJ.2.2.2.1 r1 r2 (fun j _ => hJ.2.2.1 j) H.size) (cwV 2 hts gL_law_X3_taken rfl rfl rfl (by decide +kernel) ⟨Nat.le_of_ble_eq_true rfl, Nat.le_of_ble_eq_true rfl⟩) (z_preV 0 hK (wj_r hP) (wj_dr hD) rfl rfl) rfl rfl hl.1 rfl (lv_room (Nat.le_of_ble_eq_true rfl)) dL_law_973 ⟨(show cells + 3 + 0 ≤ 601024 by omega), (show slots + 6 * 3 + 0 ≤ 7293034 by omega)⟩) hS hP hD hA (fun r2 v1 H locs h2 hP hD hS => ?_)
  obtain ⟨n, L, att, T, hs, tm, tk, lt, f, hm, tn, pl, rfl, rfl, hJ, hn0, hn3, rfl, hv⟩ := ag_taken (hs := hs) (tk := tk) (lt := lt) (att := att) (hm := hm) (pl := pl) hJ h1 h2
  refine lv_istore (lv' := [(6, .int r2), (5, .int (iI n)), (0, .ref b), (1, .ref (a 0)), (2, .ref (b' 0)), (3, .ref o), (4, .int (iI ((iv : Nat) : Int)))]) hx hb dL_law_976 hl (by decide) rfl (fun ls hl => ?_)
  refine lv_aload_n hx hb dL_law_978 rfl (lv_at hl 4 rfl) ?_
  refine j_calli (va_runV (As := []) (rest := []) ⟨hx, hb, hml, hown, hts⟩ (c_X3_thrown l D g b' n L att T hm tn pl H.size) (cwV 0 hts gL_law_X3_thrown rfl rfl rfl (by decide +kernel) ⟨Nat.le_of_ble_eq_true rfl, Nat.le_of_ble_eq_true rfl⟩) (z_preV 0 hK (wj_r hP) (wj_dr hD) rfl rfl) rfl rfl hl.1 rfl (lv_room (Nat.le_of_ble_eq_true rfl)) dL_law_979 ⟨(show cells + 3 + 0 ≤ 601024 by omega), (show slots + 6 * 3 + 0 ≤ 7293034 by omega)⟩) hS hP hD hA (fun r3 v1 H locs h3 hP hD hS => ?_)
  obtain ⟨rfl, rfl⟩ := h3
  refine lv_iload hx hb dL_law_982 (lv_at hl 1 rfl) ?_
  refine lv_icmp_eq (tgt := 989) hx hb dL_law_984 (by decide) (fun _ => ?_) (fun h9 => absurd rfl h9)
  refine lv_iload hx hb dL_law_989 (lv_at hl 1 rfl) ?_
  have kend : W p l e room_1 s m #[Value.ref b] below meth c H locs (cells + 3) (slots + 6 * 3) Q (F0 m 1006 ls []) := by
    refine lv_goto (tgt := 1571) hx hb dL_law_1006 (by decide) ?_
    refine W.widen (k := cells + 7) (n := slots + 42) (by omega) (by omega) ?_
    exact kk L att T hs tm tk lt f n hm tn pl hJ H locs ls hP hD hS (lv_sub hl [2, 3, 4, 5, 6] rfl)
  refine lv_if_ne (tgt := 1006) hx hb dL_law_991 (by decide) (fun _ => kend) (fun h9 => ?_)
  have hn : n = 0 := (iI_0 ⟨hn0, hn3⟩).mp h9
  have hv := hv hn
  refine lv_aload_n hx hb dL_law_994 rfl (lv_at hl 5 rfl) ?_
  refine z_ic hx hb dL_law_995 ?_
  refine l_lald (g := g) hx hb hK hP 17 rfl dL_law_996 ?_
  refine lv_iload hx hb dL_law_997 (lv_at hl 0 rfl) ?_
  refine lv_i2l (v := r2.toInt64) hx hb dL_law_999 rfl ?_
  rw [hv]
  refine W.lcmp hx hb dL_law_1000 ?_
  rw [cmp_s]
  exact lv_if_eq (tgt := 1006) hx hb dL_law_1001 (by decide) (fun _ => kend) (fun h9 => absurd rfl h9)
set_option maxHeartbeats 4000000 in
set_option maxRecDepth 100000 in
theorem law_lifetime {p : Program} {l : Launch} {e : Env} {s : State} {m : MethodId} {below : List Frame} {meth : Method} {c : Code} {b Lx : Nat} {xs : Nat → Int32} {D : va_G} {g : Nat → ClassId} (hC : LC p l s m meth c b Lx xs D g) {a b' : Nat → Nat} {o iv cells slots : Nat} {Q : State → Prop} (hi : iv + 5 ≤ Lx) (hcs : cells + 7 ≤ 601024 ∧ slots + 42 ≤ 7293034) (kk : KQ p l e s m below meth c b o a b' g D iv (cells + 7) (slots + 42) Q) {L : LD} {att T : Nat} {hs tm : Nat → Int} {tk : Nat → Nat → Int} {lt : Nat → Int} {f : Nat → Int64} {th : Int} {hm : Nat → Int} {tn : Nat → Nat} {pl : Nat → Bool} (hJ : JJ L T tm tk hm tn) {H : Heap} {locs : List Loc} {ls : Array Slot} (hP : va_P D vwCl (uw a g o L att T hs tm tk lt f ++ wM b' g th L att T hm tn pl (fun _ => 0)) H) (hD : va_D (fun q : Nat => s.heap.size ≤ q) (uw a g o L att T hs tm tk lt f ++ wM b' g th L att T hm tn pl (fun _ => 0))) (hS : va_S (fun q : Nat => s.heap.size ≤ q) s.heap H locs) (hl : lv_has ls 7 [(0, .ref b), (1, .ref (a 0)), (2, .ref (b' 0)), (3, .ref o), (4, .int (iI ((iv : Nat) : Int)))]) : W p l e room_1 s m #[Value.ref b] below meth c H locs cells slots Q (F0 m 1009 ls []) := by
  obtain ⟨⟨hx, hb, hr, hml, hown, hts0, hX, hbl, hlocks, hgv⟩, hLx, hl0, hK, hE, hV, hN⟩ := hC
  have hts : ∀ w ∈ wsL_law, w.before #[Value.ref b] s = true := fun w h => hts0 w (wsL_law_in w h)
  have hA : ∀ q : Nat, s.heap.size ≤ q → (fun q : Nat => s.heap.size ≤ q) q := fun _ h => h
  have hbA : ¬ (fun q : Nat => s.heap.size ≤ q) b := Nat.not_le.mpr hbl
  obtain ⟨z1, e1, r1⟩ := iI_of (xs (iv + 1))
  refine lv_aload_n hx hb dL_law_1009 rfl (lv_at hl 1 rfl) ?_
  refine lv_aload_n hx hb dL_law_1010 rfl (lv_at hl 0 rfl) ?_
  refine lv_iload hx hb dL_law_1011 (lv_at hl 4 rfl) ?_
  refine z_ic hx hb dL_law_1013 ?_
  refine z_add hx hb dL_law_1014 ?_
  refine l_sld (j := 1) hx hb hX hbl hbA hS (by omega) hLx rfl e1 dL_law_1015 ?_
  refine lv_aload_n hx hb dL_law_1016 rfl (lv_at hl 3 rfl) ?_
  refine j_callx (vx_runSX (As := [.ref (a 0), .int (iI z1), .ref o]) (rest := []) ⟨hx, hb, hml, hown, hts⟩ (c_L_lifetime l D g o (a 0) f (wX a g L att T hs tm tk lt) _ rfl (iI z1) _ _ (c_X2_lifetime l hl0 D g a L att T hs tm tk lt z1 hJ.1 (JT_ok hJ.2.2.2) r1) (fun E w9 h => (fun q => q.elim (fun q => (Or.inl q.1)) (fun q => (Or.inr q.1))) h.2) H.size) (vx_cwSW 3 hts gL_law_L_lifetime rfl rfl rfl (by decide +kernel) ⟨Nat.le_of_ble_eq_true rfl, Nat.le_of_ble_eq_true rfl⟩) (y_preS hK (wj_l hP) (wj_dl hD) hS hA hE hV hN) rfl rfl hl.1 rfl (lv_room (Nat.le_of_ble_eq_true rfl)) dL_law_1017 ⟨(show cells + 2 ≤ 601024 by omega), (show slots + 6 * 2 ≤ 7293034 by omega)⟩) hS hP hD hA (fun r u1 H locs h1 hP hD hS => ?_)
  refine lv_istore (lv' := [(5, .int r), (0, .ref b), (1, .ref (a 0)), (2, .ref (b' 0)), (3, .ref o), (4, .int (iI ((iv : Nat) : Int)))]) hx hb dL_law_1020 hl (by decide) rfl (fun ls hl => ?_)
  refine lv_aload_n hx hb dL_law_1022 rfl (lv_at hl 3 rfl) ?_
  refine lv_aload_n hx hb dL_law_1023 rfl (lv_at hl 1 rfl) ?_
  refine lv_iload hx hb dL_law_1024 (lv_at hl 5 rfl) ?_
  refine z_ic hx hb dL_law_1026 ?_
  refine z_add hx hb dL_law_1027 ?_
  refine l_sld (j := 1) hx hb hX hbl hbA hS (by omega) hLx rfl e1 dL_law_1028 ?_
  refine j_calli (va_runV (As := [.int (iI z1)]) (rest := []) ⟨hx, hb, hml, hown, hts⟩ (c_X3_lifetime l D g b' th L att T hm tn pl z1 hJ.1 hJ.2.2.2.1 r1 (fun j _ => hJ.2.2.1 j) H.size) (cwV 1 hts gL_law_X3_lifetime rfl rfl rfl (by decide +kernel) ⟨Nat.le_of_ble_eq_true rfl, Nat.le_of_ble_eq_true rfl⟩) (z_preV 0 hK (wj_r hP) (wj_dr hD) rfl rfl) rfl rfl hl.1 rfl (lv_room (Nat.le_of_ble_eq_true rfl)) dL_law_1029 ⟨(show cells + 2 + 0 ≤ 601024 by omega), (show slots + 6 * 2 + 0 ≤ 7293034 by omega)⟩) hS hP hD hA (fun r2 v1 H locs h2 hP hD hS => ?_)
  obtain ⟨n, L, att, T, hs, tm, tk, lt, f, hm, tn, pl, rfl, rfl, hJ, hn0, hn3, rfl, hv⟩ := ag_lifetime (hs := hs) (tk := tk) (lt := lt) (att := att) (hm := hm) (pl := pl) hJ h1 h2
  refine lv_istore (lv' := [(6, .int r2), (5, .int (iI n)), (0, .ref b), (1, .ref (a 0)), (2, .ref (b' 0)), (3, .ref o), (4, .int (iI ((iv : Nat) : Int)))]) hx hb dL_law_1032 hl (by decide) rfl (fun ls hl => ?_)
  refine lv_aload_n hx hb dL_law_1034 rfl (lv_at hl 4 rfl) ?_
  refine j_calli (va_runV (As := []) (rest := []) ⟨hx, hb, hml, hown, hts⟩ (c_X3_thrown l D g b' n L att T hm tn pl H.size) (cwV 0 hts gL_law_X3_thrown rfl rfl rfl (by decide +kernel) ⟨Nat.le_of_ble_eq_true rfl, Nat.le_of_ble_eq_true rfl⟩) (z_preV 0 hK (wj_r hP) (wj_dr hD) rfl rfl) rfl rfl hl.1 rfl (lv_room (Nat.le_of_ble_eq_true rfl)) dL_law_1035 ⟨(show cells + 2 + 0 ≤ 601024 by omega), (show slots + 6 * 2 + 0 ≤ 7293034 by omega)⟩) hS hP hD hA (fun r3 v1 H locs h3 hP hD hS => ?_)
  obtain ⟨rfl, rfl⟩ := h3
  refine lv_iload hx hb dL_law_1038 (lv_at hl 1 rfl) ?_
  refine lv_icmp_eq (tgt := 1045) hx hb dL_law_1040 (by decide) (fun _ => ?_) (fun h9 => absurd rfl h9)
  refine lv_iload hx hb dL_law_1045 (lv_at hl 1 rfl) ?_
  have kend : W p l e room_1 s m #[Value.ref b] below meth c H locs (cells + 2) (slots + 6 * 2) Q (F0 m 1062 ls []) := by
    refine lv_goto (tgt := 1571) hx hb dL_law_1062 (by decide) ?_
    refine W.widen (k := cells + 7) (n := slots + 42) (by omega) (by omega) ?_
    exact kk L att T hs tm tk lt f n hm tn pl hJ H locs ls hP hD hS (lv_sub hl [2, 3, 4, 5, 6] rfl)
  refine lv_if_ne (tgt := 1062) hx hb dL_law_1047 (by decide) (fun _ => kend) (fun h9 => ?_)
  have hn : n = 0 := (iI_0 ⟨hn0, hn3⟩).mp h9
  have hv := hv hn
  refine lv_aload_n hx hb dL_law_1050 rfl (lv_at hl 5 rfl) ?_
  refine z_ic hx hb dL_law_1051 ?_
  refine l_lald (g := g) hx hb hK hP 17 rfl dL_law_1052 ?_
  refine lv_iload hx hb dL_law_1053 (lv_at hl 0 rfl) ?_
  refine lv_i2l (v := r2.toInt64) hx hb dL_law_1055 rfl ?_
  rw [hv]
  refine W.lcmp hx hb dL_law_1056 ?_
  rw [cmp_s]
  exact lv_if_eq (tgt := 1062) hx hb dL_law_1057 (by decide) (fun _ => kend) (fun h9 => absurd rfl h9)
set_option maxHeartbeats 4000000 in
set_option maxRecDepth 100000 in
theorem law_live {p : Program} {l : Launch} {e : Env} {s : State} {m : MethodId} {below : List Frame} {meth : Method} {c : Code} {b Lx : Nat} {xs : Nat → Int32} {D : va_G} {g : Nat → ClassId} (hC : LC p l s m meth c b Lx xs D g) {a b' : Nat → Nat} {o iv cells slots : Nat} {Q : State → Prop} (hi : iv + 5 ≤ Lx) (hcs : cells + 7 ≤ 601024 ∧ slots + 42 ≤ 7293034) (kk : KQ p l e s m below meth c b o a b' g D iv (cells + 7) (slots + 42) Q) {L : LD} {att T : Nat} {hs tm : Nat → Int} {tk : Nat → Nat → Int} {lt : Nat → Int} {f : Nat → Int64} {th : Int} {hm : Nat → Int} {tn : Nat → Nat} {pl : Nat → Bool} (hJ : JJ L T tm tk hm tn) {H : Heap} {locs : List Loc} {ls : Array Slot} (hP : va_P D vwCl (uw a g o L att T hs tm tk lt f ++ wM b' g th L att T hm tn pl (fun _ => 0)) H) (hD : va_D (fun q : Nat => s.heap.size ≤ q) (uw a g o L att T hs tm tk lt f ++ wM b' g th L att T hm tn pl (fun _ => 0))) (hS : va_S (fun q : Nat => s.heap.size ≤ q) s.heap H locs) (hl : lv_has ls 7 [(0, .ref b), (1, .ref (a 0)), (2, .ref (b' 0)), (3, .ref o), (4, .int (iI ((iv : Nat) : Int)))]) : W p l e room_1 s m #[Value.ref b] below meth c H locs cells slots Q (F0 m 1065 ls []) := by
  obtain ⟨⟨hx, hb, hr, hml, hown, hts0, hX, hbl, hlocks, hgv⟩, hLx, hl0, hK, hE, hV, hN⟩ := hC
  have hts : ∀ w ∈ wsL_law, w.before #[Value.ref b] s = true := fun w h => hts0 w (wsL_law_in w h)
  have hA : ∀ q : Nat, s.heap.size ≤ q → (fun q : Nat => s.heap.size ≤ q) q := fun _ h => h
  have hbA : ¬ (fun q : Nat => s.heap.size ≤ q) b := Nat.not_le.mpr hbl
  obtain ⟨z1, e1, r1⟩ := iI_of (xs (iv + 1))
  refine lv_aload_n hx hb dL_law_1065 rfl (lv_at hl 1 rfl) ?_
  refine lv_aload_n hx hb dL_law_1066 rfl (lv_at hl 0 rfl) ?_
  refine lv_iload hx hb dL_law_1067 (lv_at hl 4 rfl) ?_
  refine z_ic hx hb dL_law_1069 ?_
  refine z_add hx hb dL_law_1070 ?_
  refine l_sld (j := 1) hx hb hX hbl hbA hS (by omega) hLx rfl e1 dL_law_1071 ?_
  refine lv_aload_n hx hb dL_law_1072 rfl (lv_at hl 3 rfl) ?_
  refine j_callx (vx_runSX (As := [.ref (a 0), .int (iI z1), .ref o]) (rest := []) ⟨hx, hb, hml, hown, hts⟩ (c_L_live l D g o (a 0) f (wX a g L att T hs tm tk lt) _ rfl (iI z1) _ _ (c_X2_live l hl0 D g a L att T hs tm tk lt z1 hJ.1 (JT_ok hJ.2.2.2) r1) (fun E w9 h => (fun q => q.elim (fun q => (Or.inl q.1)) (fun q => (Or.inr q.1))) h.2) H.size) (vx_cwSW 3 hts gL_law_L_live rfl rfl rfl (by decide +kernel) ⟨Nat.le_of_ble_eq_true rfl, Nat.le_of_ble_eq_true rfl⟩) (y_preS hK (wj_l hP) (wj_dl hD) hS hA hE hV hN) rfl rfl hl.1 rfl (lv_room (Nat.le_of_ble_eq_true rfl)) dL_law_1073 ⟨(show cells + 2 ≤ 601024 by omega), (show slots + 6 * 2 ≤ 7293034 by omega)⟩) hS hP hD hA (fun r u1 H locs h1 hP hD hS => ?_)
  refine lv_istore (lv' := [(5, .int r), (0, .ref b), (1, .ref (a 0)), (2, .ref (b' 0)), (3, .ref o), (4, .int (iI ((iv : Nat) : Int)))]) hx hb dL_law_1076 hl (by decide) rfl (fun ls hl => ?_)
  refine lv_aload_n hx hb dL_law_1078 rfl (lv_at hl 3 rfl) ?_
  refine lv_aload_n hx hb dL_law_1079 rfl (lv_at hl 1 rfl) ?_
  refine lv_iload hx hb dL_law_1080 (lv_at hl 5 rfl) ?_
  refine z_ic hx hb dL_law_1082 ?_
  refine z_add hx hb dL_law_1083 ?_
  refine l_sld (j := 1) hx hb hX hbl hbA hS (by omega) hLx rfl e1 dL_law_1084 ?_
  refine j_calli (va_runV (As := [.int (iI z1)]) (rest := []) ⟨hx, hb, hml, hown, hts⟩ (c_X3_live l D g b' th L att T hm tn pl z1 hJ.1 hJ.2.2.2.1 r1 (fun j _ => hJ.2.2.1 j) H.size) (cwV 1 hts gL_law_X3_live rfl rfl rfl (by decide +kernel) ⟨Nat.le_of_ble_eq_true rfl, Nat.le_of_ble_eq_true rfl⟩) (z_preV 0 hK (wj_r hP) (wj_dr hD) rfl rfl) rfl rfl hl.1 rfl (lv_room (Nat.le_of_ble_eq_true rfl)) dL_law_1085 ⟨(show cells + 2 + 0 ≤ 601024 by omega), (show slots + 6 * 2 + 0 ≤ 7293034 by omega)⟩) hS hP hD hA (fun r2 v1 H locs h2 hP hD hS => ?_)
  obtain ⟨n, L, att, T, hs, tm, tk, lt, f, hm, tn, pl, rfl, rfl, hJ, hn0, hn3, rfl, hv⟩ := ag_live (hs := hs) (tk := tk) (lt := lt) (att := att) (hm := hm) (pl := pl) hJ h1 h2
  refine lv_istore (lv' := [(6, .int r2), (5, .int (iI n)), (0, .ref b), (1, .ref (a 0)), (2, .ref (b' 0)), (3, .ref o), (4, .int (iI ((iv : Nat) : Int)))]) hx hb dL_law_1088 hl (by decide) rfl (fun ls hl => ?_)
  refine lv_aload_n hx hb dL_law_1090 rfl (lv_at hl 4 rfl) ?_
  refine j_calli (va_runV (As := []) (rest := []) ⟨hx, hb, hml, hown, hts⟩ (c_X3_thrown l D g b' n L att T hm tn pl H.size) (cwV 0 hts gL_law_X3_thrown rfl rfl rfl (by decide +kernel) ⟨Nat.le_of_ble_eq_true rfl, Nat.le_of_ble_eq_true rfl⟩) (z_preV 0 hK (wj_r hP) (wj_dr hD) rfl rfl) rfl rfl hl.1 rfl (lv_room (Nat.le_of_ble_eq_true rfl)) dL_law_1091 ⟨(show cells + 2 + 0 ≤ 601024 by omega), (show slots + 6 * 2 + 0 ≤ 7293034 by omega)⟩) hS hP hD hA (fun r3 v1 H locs h3 hP hD hS => ?_)
  obtain ⟨rfl, rfl⟩ := h3
  refine lv_iload hx hb dL_law_1094 (lv_at hl 1 rfl) ?_
  refine lv_icmp_eq (tgt := 1101) hx hb dL_law_1096 (by decide) (fun _ => ?_) (fun h9 => absurd rfl h9)
  refine lv_iload hx hb dL_law_1101 (lv_at hl 1 rfl) ?_
  have kend : W p l e room_1 s m #[Value.ref b] below meth c H locs (cells + 2) (slots + 6 * 2) Q (F0 m 1118 ls []) := by
    refine lv_goto (tgt := 1571) hx hb dL_law_1118 (by decide) ?_
    refine W.widen (k := cells + 7) (n := slots + 42) (by omega) (by omega) ?_
    exact kk L att T hs tm tk lt f n hm tn pl hJ H locs ls hP hD hS (lv_sub hl [2, 3, 4, 5, 6] rfl)
  refine lv_if_ne (tgt := 1118) hx hb dL_law_1103 (by decide) (fun _ => kend) (fun h9 => ?_)
  have hn : n = 0 := (iI_0 ⟨hn0, hn3⟩).mp h9
  have hv := hv hn
  refine lv_aload_n hx hb dL_law_1106 rfl (lv_at hl 5 rfl) ?_
  refine z_ic hx hb dL_law_1107 ?_
  refine l_lald (g := g) hx hb hK hP 17 rfl dL_law_1108 ?_
  refine lv_iload hx hb dL_law_1109 (lv_at hl 0 rfl) ?_
  refine lv_i2l (v := r2.toInt64) hx hb dL_law_1111 rfl ?_
  rw [hv]
  refine W.lcmp hx hb dL_law_1112 ?_
  rw [cmp_s]
  exact lv_if_eq (tgt := 1118) hx hb dL_law_1113 (by decide) (fun _ => kend) (fun h9 => absurd rfl h9)
set_option maxHeartbeats 4000000 in
set_option maxRecDepth 100000 in
theorem law_registers {p : Program} {l : Launch} {e : Env} {s : State} {m : MethodId} {below : List Frame} {meth : Method} {c : Code} {b Lx : Nat} {xs : Nat → Int32} {D : va_G} {g : Nat → ClassId} (hC : LC p l s m meth c b Lx xs D g) {a b' : Nat → Nat} {o iv cells slots : Nat} {Q : State → Prop} (hi : iv + 5 ≤ Lx) (hcs : cells + 7 ≤ 601024 ∧ slots + 42 ≤ 7293034) (kk : KQ p l e s m below meth c b o a b' g D iv (cells + 7) (slots + 42) Q) {L : LD} {att T : Nat} {hs tm : Nat → Int} {tk : Nat → Nat → Int} {lt : Nat → Int} {f : Nat → Int64} {th : Int} {hm : Nat → Int} {tn : Nat → Nat} {pl : Nat → Bool} (hJ : JJ L T tm tk hm tn) {H : Heap} {locs : List Loc} {ls : Array Slot} (hP : va_P D vwCl (uw a g o L att T hs tm tk lt f ++ wM b' g th L att T hm tn pl (fun _ => 0)) H) (hD : va_D (fun q : Nat => s.heap.size ≤ q) (uw a g o L att T hs tm tk lt f ++ wM b' g th L att T hm tn pl (fun _ => 0))) (hS : va_S (fun q : Nat => s.heap.size ≤ q) s.heap H locs) (hl : lv_has ls 7 [(0, .ref b), (1, .ref (a 0)), (2, .ref (b' 0)), (3, .ref o), (4, .int (iI ((iv : Nat) : Int)))]) : W p l e room_1 s m #[Value.ref b] below meth c H locs cells slots Q (F0 m 1121 ls []) := by
  obtain ⟨⟨hx, hb, hr, hml, hown, hts0, hX, hbl, hlocks, hgv⟩, hLx, hl0, hK, hE, hV, hN⟩ := hC
  have hts : ∀ w ∈ wsL_law, w.before #[Value.ref b] s = true := fun w h => hts0 w (wsL_law_in w h)
  have hA : ∀ q : Nat, s.heap.size ≤ q → (fun q : Nat => s.heap.size ≤ q) q := fun _ h => h
  have hbA : ¬ (fun q : Nat => s.heap.size ≤ q) b := Nat.not_le.mpr hbl
  refine lv_aload_n hx hb dL_law_1121 rfl (lv_at hl 1 rfl) ?_
  refine lv_aload_n hx hb dL_law_1122 rfl (lv_at hl 3 rfl) ?_
  refine j_callx (vx_runSX (As := [.ref (a 0), .ref o]) (rest := []) ⟨hx, hb, hml, hown, hts⟩ (c_L_registers l D g o (a 0) f (wX a g L att T hs tm tk lt) _ rfl _ _ (c_X2_registers l hl0 D g a L att T hs tm tk lt hJ.1 (JT_ok hJ.2.2.2)) (fun E w9 h => (fun q => q.1) h.2) H.size) (vx_cwSW 2 hts gL_law_L_registers rfl rfl rfl (by decide +kernel) ⟨Nat.le_of_ble_eq_true rfl, Nat.le_of_ble_eq_true rfl⟩) (y_preS hK (wj_l hP) (wj_dl hD) hS hA hE hV hN) rfl rfl hl.1 rfl (lv_room (Nat.le_of_ble_eq_true rfl)) dL_law_1123 ⟨(show cells + 1 ≤ 601024 by omega), (show slots + 6 * 1 ≤ 7293034 by omega)⟩) hS hP hD hA (fun r u1 H locs h1 hP hD hS => ?_)
  refine lv_istore (lv' := [(5, .int r), (0, .ref b), (1, .ref (a 0)), (2, .ref (b' 0)), (3, .ref o), (4, .int (iI ((iv : Nat) : Int)))]) hx hb dL_law_1126 hl (by decide) rfl (fun ls hl => ?_)
  refine lv_aload_n hx hb dL_law_1128 rfl (lv_at hl 3 rfl) ?_
  refine j_calli (va_runV (As := []) (rest := []) ⟨hx, hb, hml, hown, hts⟩ (c_X3_registers l D g b' th L att T hm tn pl hJ.1 hJ.2.2.2.1 (fun j _ => hJ.2.2.1 j) H.size) (cwV 0 hts gL_law_X3_registers rfl rfl rfl (by decide +kernel) ⟨Nat.le_of_ble_eq_true rfl, Nat.le_of_ble_eq_true rfl⟩) (z_preV 0 hK (wj_r hP) (wj_dr hD) rfl rfl) rfl rfl hl.1 rfl (lv_room (Nat.le_of_ble_eq_true rfl)) dL_law_1129 ⟨(show cells + 1 + 0 ≤ 601024 by omega), (show slots + 6 * 1 + 0 ≤ 7293034 by omega)⟩) hS hP hD hA (fun r2 v1 H locs h2 hP hD hS => ?_)
  obtain ⟨n, L, att, T, hs, tm, tk, lt, f, hm, tn, pl, rfl, rfl, hJ, hn0, hn3, rfl, hv⟩ := ag_registers (hs := hs) (tk := tk) (lt := lt) (att := att) (hm := hm) (pl := pl) hJ h1 h2
  refine lv_istore (lv' := [(6, .int r2), (5, .int (iI n)), (0, .ref b), (1, .ref (a 0)), (2, .ref (b' 0)), (3, .ref o), (4, .int (iI ((iv : Nat) : Int)))]) hx hb dL_law_1132 hl (by decide) rfl (fun ls hl => ?_)
  refine lv_aload_n hx hb dL_law_1134 rfl (lv_at hl 4 rfl) ?_
  refine j_calli (va_runV (As := []) (rest := []) ⟨hx, hb, hml, hown, hts⟩ (c_X3_thrown l D g b' n L att T hm tn pl H.size) (cwV 0 hts gL_law_X3_thrown rfl rfl rfl (by decide +kernel) ⟨Nat.le_of_ble_eq_true rfl, Nat.le_of_ble_eq_true rfl⟩) (z_preV 0 hK (wj_r hP) (wj_dr hD) rfl rfl) rfl rfl hl.1 rfl (lv_room (Nat.le_of_ble_eq_true rfl)) dL_law_1135 ⟨(show cells + 1 + 0 ≤ 601024 by omega), (show slots + 6 * 1 + 0 ≤ 7293034 by omega)⟩) hS hP hD hA (fun r3 v1 H locs h3 hP hD hS => ?_)
  obtain ⟨rfl, rfl⟩ := h3
  refine lv_iload hx hb dL_law_1138 (lv_at hl 1 rfl) ?_
  refine lv_icmp_eq (tgt := 1145) hx hb dL_law_1140 (by decide) (fun _ => ?_) (fun h9 => absurd rfl h9)
  refine lv_iload hx hb dL_law_1145 (lv_at hl 1 rfl) ?_
  have kend : W p l e room_1 s m #[Value.ref b] below meth c H locs (cells + 1) (slots + 6 * 1) Q (F0 m 1162 ls []) := by
    refine lv_goto (tgt := 1571) hx hb dL_law_1162 (by decide) ?_
    refine W.widen (k := cells + 7) (n := slots + 42) (by omega) (by omega) ?_
    exact kk L att T hs tm tk lt f n hm tn pl hJ H locs ls hP hD hS (lv_sub hl [2, 3, 4, 5, 6] rfl)
  refine lv_if_ne (tgt := 1162) hx hb dL_law_1147 (by decide) (fun _ => kend) (fun h9 => ?_)
  have hn : n = 0 := (iI_0 ⟨hn0, hn3⟩).mp h9
  have hv := hv hn
  refine lv_aload_n hx hb dL_law_1150 rfl (lv_at hl 5 rfl) ?_
  refine z_ic hx hb dL_law_1151 ?_
  refine l_lald (g := g) hx hb hK hP 17 rfl dL_law_1152 ?_
  refine lv_iload hx hb dL_law_1153 (lv_at hl 0 rfl) ?_
  refine lv_i2l (v := r2.toInt64) hx hb dL_law_1155 rfl ?_
  rw [hv]
  refine W.lcmp hx hb dL_law_1156 ?_
  rw [cmp_s]
  exact lv_if_eq (tgt := 1162) hx hb dL_law_1157 (by decide) (fun _ => kend) (fun h9 => absurd rfl h9)
set_option maxHeartbeats 4000000 in
set_option maxRecDepth 100000 in
theorem law_copies {p : Program} {l : Launch} {e : Env} {s : State} {m : MethodId} {below : List Frame} {meth : Method} {c : Code} {b Lx : Nat} {xs : Nat → Int32} {D : va_G} {g : Nat → ClassId} (hC : LC p l s m meth c b Lx xs D g) {a b' : Nat → Nat} {o iv cells slots : Nat} {Q : State → Prop} (hi : iv + 5 ≤ Lx) (hcs : cells + 7 ≤ 601024 ∧ slots + 42 ≤ 7293034) (kk : KQ p l e s m below meth c b o a b' g D iv (cells + 7) (slots + 42) Q) {L : LD} {att T : Nat} {hs tm : Nat → Int} {tk : Nat → Nat → Int} {lt : Nat → Int} {f : Nat → Int64} {th : Int} {hm : Nat → Int} {tn : Nat → Nat} {pl : Nat → Bool} (hJ : JJ L T tm tk hm tn) {H : Heap} {locs : List Loc} {ls : Array Slot} (hP : va_P D vwCl (uw a g o L att T hs tm tk lt f ++ wM b' g th L att T hm tn pl (fun _ => 0)) H) (hD : va_D (fun q : Nat => s.heap.size ≤ q) (uw a g o L att T hs tm tk lt f ++ wM b' g th L att T hm tn pl (fun _ => 0))) (hS : va_S (fun q : Nat => s.heap.size ≤ q) s.heap H locs) (hl : lv_has ls 7 [(0, .ref b), (1, .ref (a 0)), (2, .ref (b' 0)), (3, .ref o), (4, .int (iI ((iv : Nat) : Int)))]) : W p l e room_1 s m #[Value.ref b] below meth c H locs cells slots Q (F0 m 1165 ls []) := by
  obtain ⟨⟨hx, hb, hr, hml, hown, hts0, hX, hbl, hlocks, hgv⟩, hLx, hl0, hK, hE, hV, hN⟩ := hC
  have hts : ∀ w ∈ wsL_law, w.before #[Value.ref b] s = true := fun w h => hts0 w (wsL_law_in w h)
  have hA : ∀ q : Nat, s.heap.size ≤ q → (fun q : Nat => s.heap.size ≤ q) q := fun _ h => h
  have hbA : ¬ (fun q : Nat => s.heap.size ≤ q) b := Nat.not_le.mpr hbl
  obtain ⟨z1, e1, r1⟩ := iI_of (xs (iv + 1))
  refine lv_aload_n hx hb dL_law_1165 rfl (lv_at hl 1 rfl) ?_
  refine lv_aload_n hx hb dL_law_1166 rfl (lv_at hl 0 rfl) ?_
  refine lv_iload hx hb dL_law_1167 (lv_at hl 4 rfl) ?_
  refine z_ic hx hb dL_law_1169 ?_
  refine z_add hx hb dL_law_1170 ?_
  refine l_sld (j := 1) hx hb hX hbl hbA hS (by omega) hLx rfl e1 dL_law_1171 ?_
  refine lv_aload_n hx hb dL_law_1172 rfl (lv_at hl 3 rfl) ?_
  refine j_callx (vx_runSX (As := [.ref (a 0), .int (iI z1), .ref o]) (rest := []) ⟨hx, hb, hml, hown, hts⟩ (c_L_copies l D g o (a 0) f (wX a g L att T hs tm tk lt) _ rfl (iI z1) _ _ (c_X2_copies l hl0 D g a L att T hs tm tk lt z1 hJ.1 (JT_ok hJ.2.2.2) r1) (fun E w9 h => (fun q => q.elim (fun q => (Or.inl q.1)) (fun q => (Or.inr q.1))) h.2) H.size) (vx_cwSW 3 hts gL_law_L_copies rfl rfl rfl (by decide +kernel) ⟨Nat.le_of_ble_eq_true rfl, Nat.le_of_ble_eq_true rfl⟩) (y_preS hK (wj_l hP) (wj_dl hD) hS hA hE hV hN) rfl rfl hl.1 rfl (lv_room (Nat.le_of_ble_eq_true rfl)) dL_law_1173 ⟨(show cells + 2 ≤ 601024 by omega), (show slots + 6 * 2 ≤ 7293034 by omega)⟩) hS hP hD hA (fun r u1 H locs h1 hP hD hS => ?_)
  refine lv_istore (lv' := [(5, .int r), (0, .ref b), (1, .ref (a 0)), (2, .ref (b' 0)), (3, .ref o), (4, .int (iI ((iv : Nat) : Int)))]) hx hb dL_law_1176 hl (by decide) rfl (fun ls hl => ?_)
  refine lv_aload_n hx hb dL_law_1178 rfl (lv_at hl 3 rfl) ?_
  refine lv_aload_n hx hb dL_law_1179 rfl (lv_at hl 1 rfl) ?_
  refine lv_iload hx hb dL_law_1180 (lv_at hl 5 rfl) ?_
  refine z_ic hx hb dL_law_1182 ?_
  refine z_add hx hb dL_law_1183 ?_
  refine l_sld (j := 1) hx hb hX hbl hbA hS (by omega) hLx rfl e1 dL_law_1184 ?_
  refine j_calli (va_runV (As := [.int (iI z1)]) (rest := []) ⟨hx, hb, hml, hown, hts⟩ (c_X3_copies l D g b' th L att T hm tn pl z1 hJ.1 hJ.2.2.2.1 r1 (fun j _ => hJ.2.2.1 j) H.size) (cwV 1 hts gL_law_X3_copies rfl rfl rfl (by decide +kernel) ⟨Nat.le_of_ble_eq_true rfl, Nat.le_of_ble_eq_true rfl⟩) (z_preV 0 hK (wj_r hP) (wj_dr hD) rfl rfl) rfl rfl hl.1 rfl (lv_room (Nat.le_of_ble_eq_true rfl)) dL_law_1185 ⟨(show cells + 2 + 0 ≤ 601024 by omega), (show slots + 6 * 2 + 0 ≤ 7293034 by omega)⟩) hS hP hD hA (fun r2 v1 H locs h2 hP hD hS => ?_)
  obtain ⟨n, L, att, T, hs, tm, tk, lt, f, hm, tn, pl, rfl, rfl, hJ, hn0, hn3, rfl, hv⟩ := ag_copies (hs := hs) (tk := tk) (lt := lt) (att := att) (hm := hm) (pl := pl) hJ h1 h2
  refine lv_istore (lv' := [(6, .int r2), (5, .int (iI n)), (0, .ref b), (1, .ref (a 0)), (2, .ref (b' 0)), (3, .ref o), (4, .int (iI ((iv : Nat) : Int)))]) hx hb dL_law_1188 hl (by decide) rfl (fun ls hl => ?_)
  refine lv_aload_n hx hb dL_law_1190 rfl (lv_at hl 4 rfl) ?_
  refine j_calli (va_runV (As := []) (rest := []) ⟨hx, hb, hml, hown, hts⟩ (c_X3_thrown l D g b' n L att T hm tn pl H.size) (cwV 0 hts gL_law_X3_thrown rfl rfl rfl (by decide +kernel) ⟨Nat.le_of_ble_eq_true rfl, Nat.le_of_ble_eq_true rfl⟩) (z_preV 0 hK (wj_r hP) (wj_dr hD) rfl rfl) rfl rfl hl.1 rfl (lv_room (Nat.le_of_ble_eq_true rfl)) dL_law_1191 ⟨(show cells + 2 + 0 ≤ 601024 by omega), (show slots + 6 * 2 + 0 ≤ 7293034 by omega)⟩) hS hP hD hA (fun r3 v1 H locs h3 hP hD hS => ?_)
  obtain ⟨rfl, rfl⟩ := h3
  refine lv_iload hx hb dL_law_1194 (lv_at hl 1 rfl) ?_
  refine lv_icmp_eq (tgt := 1201) hx hb dL_law_1196 (by decide) (fun _ => ?_) (fun h9 => absurd rfl h9)
  refine lv_iload hx hb dL_law_1201 (lv_at hl 1 rfl) ?_
  have kend : W p l e room_1 s m #[Value.ref b] below meth c H locs (cells + 2) (slots + 6 * 2) Q (F0 m 1218 ls []) := by
    refine lv_goto (tgt := 1571) hx hb dL_law_1218 (by decide) ?_
    refine W.widen (k := cells + 7) (n := slots + 42) (by omega) (by omega) ?_
    exact kk L att T hs tm tk lt f n hm tn pl hJ H locs ls hP hD hS (lv_sub hl [2, 3, 4, 5, 6] rfl)
  refine lv_if_ne (tgt := 1218) hx hb dL_law_1203 (by decide) (fun _ => kend) (fun h9 => ?_)
  have hn : n = 0 := (iI_0 ⟨hn0, hn3⟩).mp h9
  have hv := hv hn
  refine lv_aload_n hx hb dL_law_1206 rfl (lv_at hl 5 rfl) ?_
  refine z_ic hx hb dL_law_1207 ?_
  refine l_lald (g := g) hx hb hK hP 17 rfl dL_law_1208 ?_
  refine lv_iload hx hb dL_law_1209 (lv_at hl 0 rfl) ?_
  refine lv_i2l (v := r2.toInt64) hx hb dL_law_1211 rfl ?_
  rw [hv]
  refine W.lcmp hx hb dL_law_1212 ?_
  rw [cmp_s]
  exact lv_if_eq (tgt := 1218) hx hb dL_law_1213 (by decide) (fun _ => kend) (fun h9 => absurd rfl h9)
set_option maxHeartbeats 4000000 in
set_option maxRecDepth 100000 in
theorem law_unrolling {p : Program} {l : Launch} {e : Env} {s : State} {m : MethodId} {below : List Frame} {meth : Method} {c : Code} {b Lx : Nat} {xs : Nat → Int32} {D : va_G} {g : Nat → ClassId} (hC : LC p l s m meth c b Lx xs D g) {a b' : Nat → Nat} {o iv cells slots : Nat} {Q : State → Prop} (hi : iv + 5 ≤ Lx) (hcs : cells + 7 ≤ 601024 ∧ slots + 42 ≤ 7293034) (kk : KQ p l e s m below meth c b o a b' g D iv (cells + 7) (slots + 42) Q) {L : LD} {att T : Nat} {hs tm : Nat → Int} {tk : Nat → Nat → Int} {lt : Nat → Int} {f : Nat → Int64} {th : Int} {hm : Nat → Int} {tn : Nat → Nat} {pl : Nat → Bool} (hJ : JJ L T tm tk hm tn) {H : Heap} {locs : List Loc} {ls : Array Slot} (hP : va_P D vwCl (uw a g o L att T hs tm tk lt f ++ wM b' g th L att T hm tn pl (fun _ => 0)) H) (hD : va_D (fun q : Nat => s.heap.size ≤ q) (uw a g o L att T hs tm tk lt f ++ wM b' g th L att T hm tn pl (fun _ => 0))) (hS : va_S (fun q : Nat => s.heap.size ≤ q) s.heap H locs) (hl : lv_has ls 7 [(0, .ref b), (1, .ref (a 0)), (2, .ref (b' 0)), (3, .ref o), (4, .int (iI ((iv : Nat) : Int)))]) : W p l e room_1 s m #[Value.ref b] below meth c H locs cells slots Q (F0 m 1221 ls []) := by
  obtain ⟨⟨hx, hb, hr, hml, hown, hts0, hX, hbl, hlocks, hgv⟩, hLx, hl0, hK, hE, hV, hN⟩ := hC
  have hts : ∀ w ∈ wsL_law, w.before #[Value.ref b] s = true := fun w h => hts0 w (wsL_law_in w h)
  have hA : ∀ q : Nat, s.heap.size ≤ q → (fun q : Nat => s.heap.size ≤ q) q := fun _ h => h
  have hbA : ¬ (fun q : Nat => s.heap.size ≤ q) b := Nat.not_le.mpr hbl
  refine lv_aload_n hx hb dL_law_1221 rfl (lv_at hl 1 rfl) ?_
  refine lv_aload_n hx hb dL_law_1222 rfl (lv_at hl 3 rfl) ?_
  refine j_callx (vx_runSX (As := [.ref (a 0), .ref o]) (rest := []) ⟨hx, hb, hml, hown, hts⟩ (c_L_unrolling l D g o (a 0) f (wX a g L att T hs tm tk lt) _ rfl _ _ (c_X2_unrolling l hl0 D g a L att T hs tm tk lt hJ.1 (JT_ok hJ.2.2.2)) (fun E w9 h => (fun q => q.1) h.2) H.size) (vx_cwSW 2 hts gL_law_L_unrolling rfl rfl rfl (by decide +kernel) ⟨Nat.le_of_ble_eq_true rfl, Nat.le_of_ble_eq_true rfl⟩) (y_preS hK (wj_l hP) (wj_dl hD) hS hA hE hV hN) rfl rfl hl.1 rfl (lv_room (Nat.le_of_ble_eq_true rfl)) dL_law_1223 ⟨(show cells + 1 ≤ 601024 by omega), (show slots + 6 * 1 ≤ 7293034 by omega)⟩) hS hP hD hA (fun r u1 H locs h1 hP hD hS => ?_)
  refine lv_istore (lv' := [(5, .int r), (0, .ref b), (1, .ref (a 0)), (2, .ref (b' 0)), (3, .ref o), (4, .int (iI ((iv : Nat) : Int)))]) hx hb dL_law_1226 hl (by decide) rfl (fun ls hl => ?_)
  refine lv_aload_n hx hb dL_law_1228 rfl (lv_at hl 3 rfl) ?_
  refine j_calli (va_runV (As := []) (rest := []) ⟨hx, hb, hml, hown, hts⟩ (c_X3_unrolling l D g b' th L att T hm tn pl hJ.1 hJ.2.2.2.1 (fun j _ => hJ.2.2.1 j) H.size) (cwV 0 hts gL_law_X3_unrolling rfl rfl rfl (by decide +kernel) ⟨Nat.le_of_ble_eq_true rfl, Nat.le_of_ble_eq_true rfl⟩) (z_preV 0 hK (wj_r hP) (wj_dr hD) rfl rfl) rfl rfl hl.1 rfl (lv_room (Nat.le_of_ble_eq_true rfl)) dL_law_1229 ⟨(show cells + 1 + 0 ≤ 601024 by omega), (show slots + 6 * 1 + 0 ≤ 7293034 by omega)⟩) hS hP hD hA (fun r2 v1 H locs h2 hP hD hS => ?_)
  obtain ⟨n, L, att, T, hs, tm, tk, lt, f, hm, tn, pl, rfl, rfl, hJ, hn0, hn3, rfl, hv⟩ := ag_unrolling (hs := hs) (tk := tk) (lt := lt) (att := att) (hm := hm) (pl := pl) hJ h1 h2
  refine lv_istore (lv' := [(6, .int r2), (5, .int (iI n)), (0, .ref b), (1, .ref (a 0)), (2, .ref (b' 0)), (3, .ref o), (4, .int (iI ((iv : Nat) : Int)))]) hx hb dL_law_1232 hl (by decide) rfl (fun ls hl => ?_)
  refine lv_aload_n hx hb dL_law_1234 rfl (lv_at hl 4 rfl) ?_
  refine j_calli (va_runV (As := []) (rest := []) ⟨hx, hb, hml, hown, hts⟩ (c_X3_thrown l D g b' n L att T hm tn pl H.size) (cwV 0 hts gL_law_X3_thrown rfl rfl rfl (by decide +kernel) ⟨Nat.le_of_ble_eq_true rfl, Nat.le_of_ble_eq_true rfl⟩) (z_preV 0 hK (wj_r hP) (wj_dr hD) rfl rfl) rfl rfl hl.1 rfl (lv_room (Nat.le_of_ble_eq_true rfl)) dL_law_1235 ⟨(show cells + 1 + 0 ≤ 601024 by omega), (show slots + 6 * 1 + 0 ≤ 7293034 by omega)⟩) hS hP hD hA (fun r3 v1 H locs h3 hP hD hS => ?_)
  obtain ⟨rfl, rfl⟩ := h3
  refine lv_iload hx hb dL_law_1238 (lv_at hl 1 rfl) ?_
  refine lv_icmp_eq (tgt := 1245) hx hb dL_law_1240 (by decide) (fun _ => ?_) (fun h9 => absurd rfl h9)
  refine lv_iload hx hb dL_law_1245 (lv_at hl 1 rfl) ?_
  have kend : W p l e room_1 s m #[Value.ref b] below meth c H locs (cells + 1) (slots + 6 * 1) Q (F0 m 1262 ls []) := by
    refine lv_goto (tgt := 1571) hx hb dL_law_1262 (by decide) ?_
    refine W.widen (k := cells + 7) (n := slots + 42) (by omega) (by omega) ?_
    exact kk L att T hs tm tk lt f n hm tn pl hJ H locs ls hP hD hS (lv_sub hl [2, 3, 4, 5, 6] rfl)
  refine lv_if_ne (tgt := 1262) hx hb dL_law_1247 (by decide) (fun _ => kend) (fun h9 => ?_)
  have hn : n = 0 := (iI_0 ⟨hn0, hn3⟩).mp h9
  have hv := hv hn
  refine lv_aload_n hx hb dL_law_1250 rfl (lv_at hl 5 rfl) ?_
  refine z_ic hx hb dL_law_1251 ?_
  refine l_lald (g := g) hx hb hK hP 17 rfl dL_law_1252 ?_
  refine lv_iload hx hb dL_law_1253 (lv_at hl 0 rfl) ?_
  refine lv_i2l (v := r2.toInt64) hx hb dL_law_1255 rfl ?_
  rw [hv]
  refine W.lcmp hx hb dL_law_1256 ?_
  rw [cmp_s]
  exact lv_if_eq (tgt := 1262) hx hb dL_law_1257 (by decide) (fun _ => kend) (fun h9 => absurd rfl h9)
set_option maxHeartbeats 4000000 in
set_option maxRecDepth 100000 in
theorem law_cycles {p : Program} {l : Launch} {e : Env} {s : State} {m : MethodId} {below : List Frame} {meth : Method} {c : Code} {b Lx : Nat} {xs : Nat → Int32} {D : va_G} {g : Nat → ClassId} (hC : LC p l s m meth c b Lx xs D g) {a b' : Nat → Nat} {o iv cells slots : Nat} {Q : State → Prop} (hi : iv + 5 ≤ Lx) (hcs : cells + 7 ≤ 601024 ∧ slots + 42 ≤ 7293034) (kk : KQ p l e s m below meth c b o a b' g D iv (cells + 7) (slots + 42) Q) {L : LD} {att T : Nat} {hs tm : Nat → Int} {tk : Nat → Nat → Int} {lt : Nat → Int} {f : Nat → Int64} {th : Int} {hm : Nat → Int} {tn : Nat → Nat} {pl : Nat → Bool} (hJ : JJ L T tm tk hm tn) {H : Heap} {locs : List Loc} {ls : Array Slot} (hP : va_P D vwCl (uw a g o L att T hs tm tk lt f ++ wM b' g th L att T hm tn pl (fun _ => 0)) H) (hD : va_D (fun q : Nat => s.heap.size ≤ q) (uw a g o L att T hs tm tk lt f ++ wM b' g th L att T hm tn pl (fun _ => 0))) (hS : va_S (fun q : Nat => s.heap.size ≤ q) s.heap H locs) (hl : lv_has ls 7 [(0, .ref b), (1, .ref (a 0)), (2, .ref (b' 0)), (3, .ref o), (4, .int (iI ((iv : Nat) : Int)))]) : W p l e room_1 s m #[Value.ref b] below meth c H locs cells slots Q (F0 m 1265 ls []) := by
  obtain ⟨⟨hx, hb, hr, hml, hown, hts0, hX, hbl, hlocks, hgv⟩, hLx, hl0, hK, hE, hV, hN⟩ := hC
  have hts : ∀ w ∈ wsL_law, w.before #[Value.ref b] s = true := fun w h => hts0 w (wsL_law_in w h)
  have hA : ∀ q : Nat, s.heap.size ≤ q → (fun q : Nat => s.heap.size ≤ q) q := fun _ h => h
  have hbA : ¬ (fun q : Nat => s.heap.size ≤ q) b := Nat.not_le.mpr hbl
  obtain ⟨z1, e1, r1⟩ := iI_of (xs (iv + 1))
  refine lv_aload_n hx hb dL_law_1265 rfl (lv_at hl 1 rfl) ?_
  refine lv_aload_n hx hb dL_law_1266 rfl (lv_at hl 0 rfl) ?_
  refine lv_iload hx hb dL_law_1267 (lv_at hl 4 rfl) ?_
  refine z_ic hx hb dL_law_1269 ?_
  refine z_add hx hb dL_law_1270 ?_
  refine l_sld (j := 1) hx hb hX hbl hbA hS (by omega) hLx rfl e1 dL_law_1271 ?_
  refine lv_aload_n hx hb dL_law_1272 rfl (lv_at hl 3 rfl) ?_
  refine j_callx (vx_runSX (As := [.ref (a 0), .int (iI z1), .ref o]) (rest := []) ⟨hx, hb, hml, hown, hts⟩ (c_L_cycles l D g o (a 0) f (wX a g L att T hs tm tk lt) _ rfl (iI z1) _ _ (c_X2_cycles l hl0 D g a L att T hs tm tk lt z1 hJ.1 (JT_ok hJ.2.2.2) r1) (fun E w9 h => (fun q => q.elim (fun q => (Or.inl q.1)) (fun q => (Or.inr q.1))) h.2) H.size) (vx_cwSW 3 hts gL_law_L_cycles rfl rfl rfl (by decide +kernel) ⟨Nat.le_of_ble_eq_true rfl, Nat.le_of_ble_eq_true rfl⟩) (y_preS hK (wj_l hP) (wj_dl hD) hS hA hE hV hN) rfl rfl hl.1 rfl (lv_room (Nat.le_of_ble_eq_true rfl)) dL_law_1273 ⟨(show cells + 2 ≤ 601024 by omega), (show slots + 6 * 2 ≤ 7293034 by omega)⟩) hS hP hD hA (fun r u1 H locs h1 hP hD hS => ?_)
  refine lv_istore (lv' := [(5, .int r), (0, .ref b), (1, .ref (a 0)), (2, .ref (b' 0)), (3, .ref o), (4, .int (iI ((iv : Nat) : Int)))]) hx hb dL_law_1276 hl (by decide) rfl (fun ls hl => ?_)
  refine lv_aload_n hx hb dL_law_1278 rfl (lv_at hl 3 rfl) ?_
  refine lv_aload_n hx hb dL_law_1279 rfl (lv_at hl 1 rfl) ?_
  refine lv_iload hx hb dL_law_1280 (lv_at hl 5 rfl) ?_
  refine z_ic hx hb dL_law_1282 ?_
  refine z_add hx hb dL_law_1283 ?_
  refine l_sld (j := 1) hx hb hX hbl hbA hS (by omega) hLx rfl e1 dL_law_1284 ?_
  refine j_calli (va_runV (As := [.int (iI z1)]) (rest := []) ⟨hx, hb, hml, hown, hts⟩ (c_X3_cycles l D g b' th L att T hm tn pl z1 hJ.1 hJ.2.2.2.1 r1 (fun j _ => hJ.2.2.1 j) H.size) (cwV 1 hts gL_law_X3_cycles rfl rfl rfl (by decide +kernel) ⟨Nat.le_of_ble_eq_true rfl, Nat.le_of_ble_eq_true rfl⟩) (z_preV 0 hK (wj_r hP) (wj_dr hD) rfl rfl) rfl rfl hl.1 rfl (lv_room (Nat.le_of_ble_eq_true rfl)) dL_law_1285 ⟨(show cells + 2 + 0 ≤ 601024 by omega), (show slots + 6 * 2 + 0 ≤ 7293034 by omega)⟩) hS hP hD hA (fun r2 v1 H locs h2 hP hD hS => ?_)
  obtain ⟨n, L, att, T, hs, tm, tk, lt, f, hm, tn, pl, rfl, rfl, hJ, hn0, hn3, rfl, hv⟩ := ag_cycles (hs := hs) (tk := tk) (lt := lt) (att := att) (hm := hm) (pl := pl) hJ h1 h2
  refine lv_istore (lv' := [(6, .int r2), (5, .int (iI n)), (0, .ref b), (1, .ref (a 0)), (2, .ref (b' 0)), (3, .ref o), (4, .int (iI ((iv : Nat) : Int)))]) hx hb dL_law_1288 hl (by decide) rfl (fun ls hl => ?_)
  refine lv_aload_n hx hb dL_law_1290 rfl (lv_at hl 4 rfl) ?_
  refine j_calli (va_runV (As := []) (rest := []) ⟨hx, hb, hml, hown, hts⟩ (c_X3_thrown l D g b' n L att T hm tn pl H.size) (cwV 0 hts gL_law_X3_thrown rfl rfl rfl (by decide +kernel) ⟨Nat.le_of_ble_eq_true rfl, Nat.le_of_ble_eq_true rfl⟩) (z_preV 0 hK (wj_r hP) (wj_dr hD) rfl rfl) rfl rfl hl.1 rfl (lv_room (Nat.le_of_ble_eq_true rfl)) dL_law_1291 ⟨(show cells + 2 + 0 ≤ 601024 by omega), (show slots + 6 * 2 + 0 ≤ 7293034 by omega)⟩) hS hP hD hA (fun r3 v1 H locs h3 hP hD hS => ?_)
  obtain ⟨rfl, rfl⟩ := h3
  refine lv_iload hx hb dL_law_1294 (lv_at hl 1 rfl) ?_
  refine lv_icmp_eq (tgt := 1301) hx hb dL_law_1296 (by decide) (fun _ => ?_) (fun h9 => absurd rfl h9)
  refine lv_iload hx hb dL_law_1301 (lv_at hl 1 rfl) ?_
  have kend : W p l e room_1 s m #[Value.ref b] below meth c H locs (cells + 2) (slots + 6 * 2) Q (F0 m 1318 ls []) := by
    refine lv_goto (tgt := 1571) hx hb dL_law_1318 (by decide) ?_
    refine W.widen (k := cells + 7) (n := slots + 42) (by omega) (by omega) ?_
    exact kk L att T hs tm tk lt f n hm tn pl hJ H locs ls hP hD hS (lv_sub hl [2, 3, 4, 5, 6] rfl)
  refine lv_if_ne (tgt := 1318) hx hb dL_law_1303 (by decide) (fun _ => kend) (fun h9 => ?_)
  have hn : n = 0 := (iI_0 ⟨hn0, hn3⟩).mp h9
  have hv := hv hn
  refine lv_aload_n hx hb dL_law_1306 rfl (lv_at hl 5 rfl) ?_
  refine z_ic hx hb dL_law_1307 ?_
  refine l_lald (g := g) hx hb hK hP 17 rfl dL_law_1308 ?_
  refine lv_iload hx hb dL_law_1309 (lv_at hl 0 rfl) ?_
  refine lv_i2l (v := r2.toInt64) hx hb dL_law_1311 rfl ?_
  rw [hv]
  refine W.lcmp hx hb dL_law_1312 ?_
  rw [cmp_s]
  exact lv_if_eq (tgt := 1318) hx hb dL_law_1313 (by decide) (fun _ => kend) (fun h9 => absurd rfl h9)
set_option maxHeartbeats 4000000 in
set_option maxRecDepth 100000 in
theorem law_issued {p : Program} {l : Launch} {e : Env} {s : State} {m : MethodId} {below : List Frame} {meth : Method} {c : Code} {b Lx : Nat} {xs : Nat → Int32} {D : va_G} {g : Nat → ClassId} (hC : LC p l s m meth c b Lx xs D g) {a b' : Nat → Nat} {o iv cells slots : Nat} {Q : State → Prop} (hi : iv + 5 ≤ Lx) (hcs : cells + 7 ≤ 601024 ∧ slots + 42 ≤ 7293034) (kk : KQ p l e s m below meth c b o a b' g D iv (cells + 7) (slots + 42) Q) {L : LD} {att T : Nat} {hs tm : Nat → Int} {tk : Nat → Nat → Int} {lt : Nat → Int} {f : Nat → Int64} {th : Int} {hm : Nat → Int} {tn : Nat → Nat} {pl : Nat → Bool} (hJ : JJ L T tm tk hm tn) {H : Heap} {locs : List Loc} {ls : Array Slot} (hP : va_P D vwCl (uw a g o L att T hs tm tk lt f ++ wM b' g th L att T hm tn pl (fun _ => 0)) H) (hD : va_D (fun q : Nat => s.heap.size ≤ q) (uw a g o L att T hs tm tk lt f ++ wM b' g th L att T hm tn pl (fun _ => 0))) (hS : va_S (fun q : Nat => s.heap.size ≤ q) s.heap H locs) (hl : lv_has ls 7 [(0, .ref b), (1, .ref (a 0)), (2, .ref (b' 0)), (3, .ref o), (4, .int (iI ((iv : Nat) : Int)))]) : W p l e room_1 s m #[Value.ref b] below meth c H locs cells slots Q (F0 m 1321 ls []) := by
  obtain ⟨⟨hx, hb, hr, hml, hown, hts0, hX, hbl, hlocks, hgv⟩, hLx, hl0, hK, hE, hV, hN⟩ := hC
  have hts : ∀ w ∈ wsL_law, w.before #[Value.ref b] s = true := fun w h => hts0 w (wsL_law_in w h)
  have hA : ∀ q : Nat, s.heap.size ≤ q → (fun q : Nat => s.heap.size ≤ q) q := fun _ h => h
  have hbA : ¬ (fun q : Nat => s.heap.size ≤ q) b := Nat.not_le.mpr hbl
  obtain ⟨z1, e1, r1⟩ := iI_of (xs (iv + 1))
  obtain ⟨z2, e2, r2⟩ := iI_of (xs (iv + 2))
  refine lv_aload_n hx hb dL_law_1321 rfl (lv_at hl 1 rfl) ?_
  refine lv_aload_n hx hb dL_law_1322 rfl (lv_at hl 0 rfl) ?_
  refine lv_iload hx hb dL_law_1323 (lv_at hl 4 rfl) ?_
  refine z_ic hx hb dL_law_1325 ?_
  refine z_add hx hb dL_law_1326 ?_
  refine l_sld (j := 1) hx hb hX hbl hbA hS (by omega) hLx rfl e1 dL_law_1327 ?_
  refine lv_aload_n hx hb dL_law_1328 rfl (lv_at hl 0 rfl) ?_
  refine lv_iload hx hb dL_law_1329 (lv_at hl 4 rfl) ?_
  refine z_ic hx hb dL_law_1331 ?_
  refine z_add hx hb dL_law_1332 ?_
  refine l_sld (j := 2) hx hb hX hbl hbA hS (by omega) hLx rfl e2 dL_law_1333 ?_
  refine lv_aload_n hx hb dL_law_1334 rfl (lv_at hl 3 rfl) ?_
  refine j_callx (vx_runSX (As := [.ref (a 0), .int (iI z1), .int (iI z2), .ref o]) (rest := []) ⟨hx, hb, hml, hown, hts⟩ (c_L_issued l D g o (a 0) f (wX a g L att T hs tm tk lt) _ rfl (iI z1) (iI z2) _ _ (c_X2_issued l hl0 D g a L att T hs tm tk lt z1 z2 hJ.1 (JT_ok hJ.2.2.2) r1 r2) (fun E w9 h => (fun q => q.elim (fun q => (Or.inl q.1)) (fun q => (Or.inr q.1))) h.2) H.size) (vx_cwSW 4 hts gL_law_L_issued rfl rfl rfl (by decide +kernel) ⟨Nat.le_of_ble_eq_true rfl, Nat.le_of_ble_eq_true rfl⟩) (y_preS hK (wj_l hP) (wj_dl hD) hS hA hE hV hN) rfl rfl hl.1 rfl (lv_room (Nat.le_of_ble_eq_true rfl)) dL_law_1335 ⟨(show cells + 3 ≤ 601024 by omega), (show slots + 6 * 3 ≤ 7293034 by omega)⟩) hS hP hD hA (fun r u1 H locs h1 hP hD hS => ?_)
  refine lv_istore (lv' := [(5, .int r), (0, .ref b), (1, .ref (a 0)), (2, .ref (b' 0)), (3, .ref o), (4, .int (iI ((iv : Nat) : Int)))]) hx hb dL_law_1338 hl (by decide) rfl (fun ls hl => ?_)
  refine lv_aload_n hx hb dL_law_1340 rfl (lv_at hl 3 rfl) ?_
  refine lv_aload_n hx hb dL_law_1341 rfl (lv_at hl 1 rfl) ?_
  refine lv_iload hx hb dL_law_1342 (lv_at hl 5 rfl) ?_
  refine z_ic hx hb dL_law_1344 ?_
  refine z_add hx hb dL_law_1345 ?_
  refine l_sld (j := 1) hx hb hX hbl hbA hS (by omega) hLx rfl e1 dL_law_1346 ?_
  refine lv_aload_n hx hb dL_law_1347 rfl (lv_at hl 1 rfl) ?_
  refine lv_iload hx hb dL_law_1348 (lv_at hl 5 rfl) ?_
  refine z_ic hx hb dL_law_1350 ?_
  refine z_add hx hb dL_law_1351 ?_
  refine l_sld (j := 2) hx hb hX hbl hbA hS (by omega) hLx rfl e2 dL_law_1352 ?_
  refine j_calli (va_runV (As := [.int (iI z1), .int (iI z2)]) (rest := []) ⟨hx, hb, hml, hown, hts⟩ (c_X3_issued l D g b' th L att T hm tn pl z1 z2 hJ.1 hJ.2.2.2.1 r1 r2 (fun j _ => hJ.2.2.1 j) H.size) (cwV 2 hts gL_law_X3_issued rfl rfl rfl (by decide +kernel) ⟨Nat.le_of_ble_eq_true rfl, Nat.le_of_ble_eq_true rfl⟩) (z_preV 0 hK (wj_r hP) (wj_dr hD) rfl rfl) rfl rfl hl.1 rfl (lv_room (Nat.le_of_ble_eq_true rfl)) dL_law_1353 ⟨(show cells + 3 + 0 ≤ 601024 by omega), (show slots + 6 * 3 + 0 ≤ 7293034 by omega)⟩) hS hP hD hA (fun r2 v1 H locs h2 hP hD hS => ?_)
  obtain ⟨n, L, att, T, hs, tm, tk, lt, f, hm, tn, pl, rfl, rfl, hJ, hn0, hn3, rfl, hv⟩ := ag_issued (hs := hs) (tk := tk) (lt := lt) (att := att) (hm := hm) (pl := pl) hJ h1 h2
  refine lv_istore (lv' := [(6, .int r2), (5, .int (iI n)), (0, .ref b), (1, .ref (a 0)), (2, .ref (b' 0)), (3, .ref o), (4, .int (iI ((iv : Nat) : Int)))]) hx hb dL_law_1356 hl (by decide) rfl (fun ls hl => ?_)
  refine lv_aload_n hx hb dL_law_1358 rfl (lv_at hl 4 rfl) ?_
  refine j_calli (va_runV (As := []) (rest := []) ⟨hx, hb, hml, hown, hts⟩ (c_X3_thrown l D g b' n L att T hm tn pl H.size) (cwV 0 hts gL_law_X3_thrown rfl rfl rfl (by decide +kernel) ⟨Nat.le_of_ble_eq_true rfl, Nat.le_of_ble_eq_true rfl⟩) (z_preV 0 hK (wj_r hP) (wj_dr hD) rfl rfl) rfl rfl hl.1 rfl (lv_room (Nat.le_of_ble_eq_true rfl)) dL_law_1359 ⟨(show cells + 3 + 0 ≤ 601024 by omega), (show slots + 6 * 3 + 0 ≤ 7293034 by omega)⟩) hS hP hD hA (fun r3 v1 H locs h3 hP hD hS => ?_)
  obtain ⟨rfl, rfl⟩ := h3
  refine lv_iload hx hb dL_law_1362 (lv_at hl 1 rfl) ?_
  refine lv_icmp_eq (tgt := 1369) hx hb dL_law_1364 (by decide) (fun _ => ?_) (fun h9 => absurd rfl h9)
  refine lv_iload hx hb dL_law_1369 (lv_at hl 1 rfl) ?_
  have kend : W p l e room_1 s m #[Value.ref b] below meth c H locs (cells + 3) (slots + 6 * 3) Q (F0 m 1386 ls []) := by
    refine lv_goto (tgt := 1571) hx hb dL_law_1386 (by decide) ?_
    refine W.widen (k := cells + 7) (n := slots + 42) (by omega) (by omega) ?_
    exact kk L att T hs tm tk lt f n hm tn pl hJ H locs ls hP hD hS (lv_sub hl [2, 3, 4, 5, 6] rfl)
  refine lv_if_ne (tgt := 1386) hx hb dL_law_1371 (by decide) (fun _ => kend) (fun h9 => ?_)
  have hn : n = 0 := (iI_0 ⟨hn0, hn3⟩).mp h9
  have hv := hv hn
  refine lv_aload_n hx hb dL_law_1374 rfl (lv_at hl 5 rfl) ?_
  refine z_ic hx hb dL_law_1375 ?_
  refine l_lald (g := g) hx hb hK hP 17 rfl dL_law_1376 ?_
  refine lv_iload hx hb dL_law_1377 (lv_at hl 0 rfl) ?_
  refine lv_i2l (v := r2.toInt64) hx hb dL_law_1379 rfl ?_
  rw [hv]
  refine W.lcmp hx hb dL_law_1380 ?_
  rw [cmp_s]
  exact lv_if_eq (tgt := 1386) hx hb dL_law_1381 (by decide) (fun _ => kend) (fun h9 => absurd rfl h9)
set_option maxHeartbeats 4000000 in
set_option maxRecDepth 100000 in
theorem law_issue {p : Program} {l : Launch} {e : Env} {s : State} {m : MethodId} {below : List Frame} {meth : Method} {c : Code} {b Lx : Nat} {xs : Nat → Int32} {D : va_G} {g : Nat → ClassId} (hC : LC p l s m meth c b Lx xs D g) {a b' : Nat → Nat} {o iv cells slots : Nat} {Q : State → Prop} (hi : iv + 5 ≤ Lx) (hcs : cells + 7 ≤ 601024 ∧ slots + 42 ≤ 7293034) (kk : KQ p l e s m below meth c b o a b' g D iv (cells + 7) (slots + 42) Q) {L : LD} {att T : Nat} {hs tm : Nat → Int} {tk : Nat → Nat → Int} {lt : Nat → Int} {f : Nat → Int64} {th : Int} {hm : Nat → Int} {tn : Nat → Nat} {pl : Nat → Bool} (hJ : JJ L T tm tk hm tn) {H : Heap} {locs : List Loc} {ls : Array Slot} (hP : va_P D vwCl (uw a g o L att T hs tm tk lt f ++ wM b' g th L att T hm tn pl (fun _ => 0)) H) (hD : va_D (fun q : Nat => s.heap.size ≤ q) (uw a g o L att T hs tm tk lt f ++ wM b' g th L att T hm tn pl (fun _ => 0))) (hS : va_S (fun q : Nat => s.heap.size ≤ q) s.heap H locs) (hl : lv_has ls 7 [(0, .ref b), (1, .ref (a 0)), (2, .ref (b' 0)), (3, .ref o), (4, .int (iI ((iv : Nat) : Int)))]) : W p l e room_1 s m #[Value.ref b] below meth c H locs cells slots Q (F0 m 1389 ls []) := by
  obtain ⟨⟨hx, hb, hr, hml, hown, hts0, hX, hbl, hlocks, hgv⟩, hLx, hl0, hK, hE, hV, hN⟩ := hC
  have hts : ∀ w ∈ wsL_law, w.before #[Value.ref b] s = true := fun w h => hts0 w (wsL_law_in w h)
  have hA : ∀ q : Nat, s.heap.size ≤ q → (fun q : Nat => s.heap.size ≤ q) q := fun _ h => h
  have hbA : ¬ (fun q : Nat => s.heap.size ≤ q) b := Nat.not_le.mpr hbl
  obtain ⟨z1, e1, r1⟩ := iI_of (xs (iv + 1))
  obtain ⟨z2, e2, r2⟩ := iI_of (xs (iv + 2))
  obtain ⟨z3, e3, r3⟩ := iI_of (xs (iv + 3))
  refine lv_aload_n hx hb dL_law_1389 rfl (lv_at hl 1 rfl) ?_
  refine lv_aload_n hx hb dL_law_1390 rfl (lv_at hl 0 rfl) ?_
  refine lv_iload hx hb dL_law_1391 (lv_at hl 4 rfl) ?_
  refine z_ic hx hb dL_law_1393 ?_
  refine z_add hx hb dL_law_1394 ?_
  refine l_sld (j := 1) hx hb hX hbl hbA hS (by omega) hLx rfl e1 dL_law_1395 ?_
  refine lv_aload_n hx hb dL_law_1396 rfl (lv_at hl 0 rfl) ?_
  refine lv_iload hx hb dL_law_1397 (lv_at hl 4 rfl) ?_
  refine z_ic hx hb dL_law_1399 ?_
  refine z_add hx hb dL_law_1400 ?_
  refine l_sld (j := 2) hx hb hX hbl hbA hS (by omega) hLx rfl e2 dL_law_1401 ?_
  refine lv_aload_n hx hb dL_law_1402 rfl (lv_at hl 0 rfl) ?_
  refine lv_iload hx hb dL_law_1403 (lv_at hl 4 rfl) ?_
  refine z_ic hx hb dL_law_1405 ?_
  refine z_add hx hb dL_law_1406 ?_
  refine l_sld (j := 3) hx hb hX hbl hbA hS (by omega) hLx rfl e3 dL_law_1407 ?_
  refine lv_aload_n hx hb dL_law_1408 rfl (lv_at hl 3 rfl) ?_
  refine j_callx (vx_runSX (As := [.ref (a 0), .int (iI z1), .int (iI z2), .int (iI z3), .ref o]) (rest := []) ⟨hx, hb, hml, hown, hts⟩ (c_L_issue l D g o (a 0) f (wX a g L att T hs tm tk lt) _ rfl (iI z1) (iI z2) (iI z3) _ _ (c_X2_issue l hl0 D g a L att T hs tm tk lt z1 z2 z3 hJ.1 (JT_ok hJ.2.2.2) r1 r2 r3) (fun E w9 h => (fun q => q.elim (fun q => (Or.inl q.1)) (fun q => q.elim (fun q => (Or.inr (Or.inl q.1))) (fun q => (Or.inr (Or.inr q.1))))) h.2) H.size) (vx_cwSW 5 hts gL_law_L_issue rfl rfl rfl (by decide +kernel) ⟨Nat.le_of_ble_eq_true rfl, Nat.le_of_ble_eq_true rfl⟩) (y_preS hK (wj_l hP) (wj_dl hD) hS hA hE hV hN) rfl rfl hl.1 rfl (lv_room (Nat.le_of_ble_eq_true rfl)) dL_law_1409 ⟨(show cells + 4 ≤ 601024 by omega), (show slots + 6 * 4 ≤ 7293034 by omega)⟩) hS hP hD hA (fun r u1 H locs h1 hP hD hS => ?_)
  refine lv_istore (lv' := [(5, .int r), (0, .ref b), (1, .ref (a 0)), (2, .ref (b' 0)), (3, .ref o), (4, .int (iI ((iv : Nat) : Int)))]) hx hb dL_law_1412 hl (by decide) rfl (fun ls hl => ?_)
  refine lv_aload_n hx hb dL_law_1414 rfl (lv_at hl 3 rfl) ?_
  refine lv_aload_n hx hb dL_law_1415 rfl (lv_at hl 1 rfl) ?_
  refine lv_iload hx hb dL_law_1416 (lv_at hl 5 rfl) ?_
  refine z_ic hx hb dL_law_1418 ?_
  refine z_add hx hb dL_law_1419 ?_
  refine l_sld (j := 1) hx hb hX hbl hbA hS (by omega) hLx rfl e1 dL_law_1420 ?_
  refine lv_aload_n hx hb dL_law_1421 rfl (lv_at hl 1 rfl) ?_
  refine lv_iload hx hb dL_law_1422 (lv_at hl 5 rfl) ?_
  refine z_ic hx hb dL_law_1424 ?_
  refine z_add hx hb dL_law_1425 ?_
  refine l_sld (j := 2) hx hb hX hbl hbA hS (by omega) hLx rfl e2 dL_law_1426 ?_
  refine lv_aload_n hx hb dL_law_1427 rfl (lv_at hl 1 rfl) ?_
  refine lv_iload hx hb dL_law_1428 (lv_at hl 5 rfl) ?_
  refine z_ic hx hb dL_law_1430 ?_
  refine z_add hx hb dL_law_1431 ?_
  refine l_sld (j := 3) hx hb hX hbl hbA hS (by omega) hLx rfl e3 dL_law_1432 ?_
  refine j_calli (va_runV (As := [.int (iI z1), .int (iI z2), .int (iI z3)]) (rest := []) ⟨hx, hb, hml, hown, hts⟩ (c_X3_issue l D g b' th L att T hm tn pl z1 z2 z3 hJ.1 hJ.2.2.2.1 r1 r2 r3 (fun j _ => hJ.2.2.1 j) H.size) (cwV 3 hts gL_law_X3_issue rfl rfl rfl (by decide +kernel) ⟨Nat.le_of_ble_eq_true rfl, Nat.le_of_ble_eq_true rfl⟩) (z_preV 0 hK (wj_r hP) (wj_dr hD) rfl rfl) rfl rfl hl.1 rfl (lv_room (Nat.le_of_ble_eq_true rfl)) dL_law_1433 ⟨(show cells + 4 + 0 ≤ 601024 by omega), (show slots + 6 * 4 + 0 ≤ 7293034 by omega)⟩) hS hP hD hA (fun r2 v1 H locs h2 hP hD hS => ?_)
  obtain ⟨n, L, att, T, hs, tm, tk, lt, f, hm, tn, pl, rfl, rfl, hJ, hn0, hn3, rfl, hv⟩ := ag_issue (hs := hs) (tk := tk) (lt := lt) (att := att) (hm := hm) (pl := pl) hJ h1 h2
  refine lv_istore (lv' := [(6, .int r2), (5, .int (iI n)), (0, .ref b), (1, .ref (a 0)), (2, .ref (b' 0)), (3, .ref o), (4, .int (iI ((iv : Nat) : Int)))]) hx hb dL_law_1436 hl (by decide) rfl (fun ls hl => ?_)
  refine lv_aload_n hx hb dL_law_1438 rfl (lv_at hl 4 rfl) ?_
  refine j_calli (va_runV (As := []) (rest := []) ⟨hx, hb, hml, hown, hts⟩ (c_X3_thrown l D g b' n L att T hm tn pl H.size) (cwV 0 hts gL_law_X3_thrown rfl rfl rfl (by decide +kernel) ⟨Nat.le_of_ble_eq_true rfl, Nat.le_of_ble_eq_true rfl⟩) (z_preV 0 hK (wj_r hP) (wj_dr hD) rfl rfl) rfl rfl hl.1 rfl (lv_room (Nat.le_of_ble_eq_true rfl)) dL_law_1439 ⟨(show cells + 4 + 0 ≤ 601024 by omega), (show slots + 6 * 4 + 0 ≤ 7293034 by omega)⟩) hS hP hD hA (fun r3 v1 H locs h3 hP hD hS => ?_)
  obtain ⟨rfl, rfl⟩ := h3
  refine lv_iload hx hb dL_law_1442 (lv_at hl 1 rfl) ?_
  refine lv_icmp_eq (tgt := 1449) hx hb dL_law_1444 (by decide) (fun _ => ?_) (fun h9 => absurd rfl h9)
  refine lv_iload hx hb dL_law_1449 (lv_at hl 1 rfl) ?_
  have kend : W p l e room_1 s m #[Value.ref b] below meth c H locs (cells + 4) (slots + 6 * 4) Q (F0 m 1466 ls []) := by
    refine lv_goto (tgt := 1571) hx hb dL_law_1466 (by decide) ?_
    refine W.widen (k := cells + 7) (n := slots + 42) (by omega) (by omega) ?_
    exact kk L att T hs tm tk lt f n hm tn pl hJ H locs ls hP hD hS (lv_sub hl [2, 3, 4, 5, 6] rfl)
  refine lv_if_ne (tgt := 1466) hx hb dL_law_1451 (by decide) (fun _ => kend) (fun h9 => ?_)
  have hn : n = 0 := (iI_0 ⟨hn0, hn3⟩).mp h9
  have hv := hv hn
  refine lv_aload_n hx hb dL_law_1454 rfl (lv_at hl 5 rfl) ?_
  refine z_ic hx hb dL_law_1455 ?_
  refine l_lald (g := g) hx hb hK hP 17 rfl dL_law_1456 ?_
  refine lv_iload hx hb dL_law_1457 (lv_at hl 0 rfl) ?_
  refine lv_i2l (v := r2.toInt64) hx hb dL_law_1459 rfl ?_
  rw [hv]
  refine W.lcmp hx hb dL_law_1460 ?_
  rw [cmp_s]
  exact lv_if_eq (tgt := 1466) hx hb dL_law_1461 (by decide) (fun _ => kend) (fun h9 => absurd rfl h9)
set_option maxHeartbeats 4000000 in
set_option maxRecDepth 100000 in
theorem law_prologue {p : Program} {l : Launch} {e : Env} {s : State} {m : MethodId} {below : List Frame} {meth : Method} {c : Code} {b Lx : Nat} {xs : Nat → Int32} {D : va_G} {g : Nat → ClassId} (hC : LC p l s m meth c b Lx xs D g) {a b' : Nat → Nat} {o iv cells slots : Nat} {Q : State → Prop} (hi : iv + 5 ≤ Lx) (hcs : cells + 7 ≤ 601024 ∧ slots + 42 ≤ 7293034) (kk : KQ p l e s m below meth c b o a b' g D iv (cells + 7) (slots + 42) Q) {L : LD} {att T : Nat} {hs tm : Nat → Int} {tk : Nat → Nat → Int} {lt : Nat → Int} {f : Nat → Int64} {th : Int} {hm : Nat → Int} {tn : Nat → Nat} {pl : Nat → Bool} (hJ : JJ L T tm tk hm tn) {H : Heap} {locs : List Loc} {ls : Array Slot} (hP : va_P D vwCl (uw a g o L att T hs tm tk lt f ++ wM b' g th L att T hm tn pl (fun _ => 0)) H) (hD : va_D (fun q : Nat => s.heap.size ≤ q) (uw a g o L att T hs tm tk lt f ++ wM b' g th L att T hm tn pl (fun _ => 0))) (hS : va_S (fun q : Nat => s.heap.size ≤ q) s.heap H locs) (hl : lv_has ls 7 [(0, .ref b), (1, .ref (a 0)), (2, .ref (b' 0)), (3, .ref o), (4, .int (iI ((iv : Nat) : Int)))]) : W p l e room_1 s m #[Value.ref b] below meth c H locs cells slots Q (F0 m 1469 ls []) := by
  obtain ⟨⟨hx, hb, hr, hml, hown, hts0, hX, hbl, hlocks, hgv⟩, hLx, hl0, hK, hE, hV, hN⟩ := hC
  have hts : ∀ w ∈ wsL_law, w.before #[Value.ref b] s = true := fun w h => hts0 w (wsL_law_in w h)
  have hA : ∀ q : Nat, s.heap.size ≤ q → (fun q : Nat => s.heap.size ≤ q) q := fun _ h => h
  have hbA : ¬ (fun q : Nat => s.heap.size ≤ q) b := Nat.not_le.mpr hbl
  refine lv_aload_n hx hb dL_law_1469 rfl (lv_at hl 1 rfl) ?_
  refine lv_aload_n hx hb dL_law_1470 rfl (lv_at hl 3 rfl) ?_
  refine j_callx (vx_runSX (As := [.ref (a 0), .ref o]) (rest := []) ⟨hx, hb, hml, hown, hts⟩ (c_L_prologue l D g o (a 0) f (wX a g L att T hs tm tk lt) _ rfl _ _ (c_X2_prologue l hl0 D g a L att T hs tm tk lt hJ.1 (JT_ok hJ.2.2.2)) (fun E w9 h => (fun q => q.1) h.2) H.size) (vx_cwSW 2 hts gL_law_L_prologue rfl rfl rfl (by decide +kernel) ⟨Nat.le_of_ble_eq_true rfl, Nat.le_of_ble_eq_true rfl⟩) (y_preS hK (wj_l hP) (wj_dl hD) hS hA hE hV hN) rfl rfl hl.1 rfl (lv_room (Nat.le_of_ble_eq_true rfl)) dL_law_1471 ⟨(show cells + 1 ≤ 601024 by omega), (show slots + 6 * 1 ≤ 7293034 by omega)⟩) hS hP hD hA (fun r u1 H locs h1 hP hD hS => ?_)
  refine lv_istore (lv' := [(5, .int r), (0, .ref b), (1, .ref (a 0)), (2, .ref (b' 0)), (3, .ref o), (4, .int (iI ((iv : Nat) : Int)))]) hx hb dL_law_1474 hl (by decide) rfl (fun ls hl => ?_)
  refine lv_aload_n hx hb dL_law_1476 rfl (lv_at hl 3 rfl) ?_
  refine j_calli (va_runV (As := []) (rest := []) ⟨hx, hb, hml, hown, hts⟩ (c_X3_prologue l D g b' th L att T hm tn pl hJ.1 hJ.2.2.2.1 (fun j _ => hJ.2.2.1 j) H.size) (cwV 0 hts gL_law_X3_prologue rfl rfl rfl (by decide +kernel) ⟨Nat.le_of_ble_eq_true rfl, Nat.le_of_ble_eq_true rfl⟩) (z_preV 0 hK (wj_r hP) (wj_dr hD) rfl rfl) rfl rfl hl.1 rfl (lv_room (Nat.le_of_ble_eq_true rfl)) dL_law_1477 ⟨(show cells + 1 + 0 ≤ 601024 by omega), (show slots + 6 * 1 + 0 ≤ 7293034 by omega)⟩) hS hP hD hA (fun r2 v1 H locs h2 hP hD hS => ?_)
  obtain ⟨n, L, att, T, hs, tm, tk, lt, f, hm, tn, pl, rfl, rfl, hJ, hn0, hn3, rfl, hv⟩ := ag_prologue (hs := hs) (tk := tk) (lt := lt) (att := att) (hm := hm) (pl := pl) hJ h1 h2
  refine lv_istore (lv' := [(6, .int r2), (5, .int (iI n)), (0, .ref b), (1, .ref (a 0)), (2, .ref (b' 0)), (3, .ref o), (4, .int (iI ((iv : Nat) : Int)))]) hx hb dL_law_1480 hl (by decide) rfl (fun ls hl => ?_)
  refine lv_aload_n hx hb dL_law_1482 rfl (lv_at hl 4 rfl) ?_
  refine j_calli (va_runV (As := []) (rest := []) ⟨hx, hb, hml, hown, hts⟩ (c_X3_thrown l D g b' n L att T hm tn pl H.size) (cwV 0 hts gL_law_X3_thrown rfl rfl rfl (by decide +kernel) ⟨Nat.le_of_ble_eq_true rfl, Nat.le_of_ble_eq_true rfl⟩) (z_preV 0 hK (wj_r hP) (wj_dr hD) rfl rfl) rfl rfl hl.1 rfl (lv_room (Nat.le_of_ble_eq_true rfl)) dL_law_1483 ⟨(show cells + 1 + 0 ≤ 601024 by omega), (show slots + 6 * 1 + 0 ≤ 7293034 by omega)⟩) hS hP hD hA (fun r3 v1 H locs h3 hP hD hS => ?_)
  obtain ⟨rfl, rfl⟩ := h3
  refine lv_iload hx hb dL_law_1486 (lv_at hl 1 rfl) ?_
  refine lv_icmp_eq (tgt := 1493) hx hb dL_law_1488 (by decide) (fun _ => ?_) (fun h9 => absurd rfl h9)
  refine lv_iload hx hb dL_law_1493 (lv_at hl 1 rfl) ?_
  have kend : W p l e room_1 s m #[Value.ref b] below meth c H locs (cells + 1) (slots + 6 * 1) Q (F0 m 1510 ls []) := by
    refine lv_goto (tgt := 1571) hx hb dL_law_1510 (by decide) ?_
    refine W.widen (k := cells + 7) (n := slots + 42) (by omega) (by omega) ?_
    exact kk L att T hs tm tk lt f n hm tn pl hJ H locs ls hP hD hS (lv_sub hl [2, 3, 4, 5, 6] rfl)
  refine lv_if_ne (tgt := 1510) hx hb dL_law_1495 (by decide) (fun _ => kend) (fun h9 => ?_)
  have hn : n = 0 := (iI_0 ⟨hn0, hn3⟩).mp h9
  have hv := hv hn
  refine lv_aload_n hx hb dL_law_1498 rfl (lv_at hl 5 rfl) ?_
  refine z_ic hx hb dL_law_1499 ?_
  refine l_lald (g := g) hx hb hK hP 17 rfl dL_law_1500 ?_
  refine lv_iload hx hb dL_law_1501 (lv_at hl 0 rfl) ?_
  refine lv_i2l (v := r2.toInt64) hx hb dL_law_1503 rfl ?_
  rw [hv]
  refine W.lcmp hx hb dL_law_1504 ?_
  rw [cmp_s]
  exact lv_if_eq (tgt := 1510) hx hb dL_law_1505 (by decide) (fun _ => kend) (fun h9 => absurd rfl h9)
set_option maxHeartbeats 4000000 in
set_option maxRecDepth 100000 in
theorem law_epilogue {p : Program} {l : Launch} {e : Env} {s : State} {m : MethodId} {below : List Frame} {meth : Method} {c : Code} {b Lx : Nat} {xs : Nat → Int32} {D : va_G} {g : Nat → ClassId} (hC : LC p l s m meth c b Lx xs D g) {a b' : Nat → Nat} {o iv cells slots : Nat} {Q : State → Prop} (hi : iv + 5 ≤ Lx) (hcs : cells + 7 ≤ 601024 ∧ slots + 42 ≤ 7293034) (kk : KQ p l e s m below meth c b o a b' g D iv (cells + 7) (slots + 42) Q) {L : LD} {att T : Nat} {hs tm : Nat → Int} {tk : Nat → Nat → Int} {lt : Nat → Int} {f : Nat → Int64} {th : Int} {hm : Nat → Int} {tn : Nat → Nat} {pl : Nat → Bool} (hJ : JJ L T tm tk hm tn) {H : Heap} {locs : List Loc} {ls : Array Slot} (hP : va_P D vwCl (uw a g o L att T hs tm tk lt f ++ wM b' g th L att T hm tn pl (fun _ => 0)) H) (hD : va_D (fun q : Nat => s.heap.size ≤ q) (uw a g o L att T hs tm tk lt f ++ wM b' g th L att T hm tn pl (fun _ => 0))) (hS : va_S (fun q : Nat => s.heap.size ≤ q) s.heap H locs) (hl : lv_has ls 7 [(0, .ref b), (1, .ref (a 0)), (2, .ref (b' 0)), (3, .ref o), (4, .int (iI ((iv : Nat) : Int)))]) : W p l e room_1 s m #[Value.ref b] below meth c H locs cells slots Q (F0 m 1513 ls []) := by
  obtain ⟨⟨hx, hb, hr, hml, hown, hts0, hX, hbl, hlocks, hgv⟩, hLx, hl0, hK, hE, hV, hN⟩ := hC
  have hts : ∀ w ∈ wsL_law, w.before #[Value.ref b] s = true := fun w h => hts0 w (wsL_law_in w h)
  have hA : ∀ q : Nat, s.heap.size ≤ q → (fun q : Nat => s.heap.size ≤ q) q := fun _ h => h
  have hbA : ¬ (fun q : Nat => s.heap.size ≤ q) b := Nat.not_le.mpr hbl
  refine lv_aload_n hx hb dL_law_1513 rfl (lv_at hl 1 rfl) ?_
  refine lv_aload_n hx hb dL_law_1514 rfl (lv_at hl 3 rfl) ?_
  refine j_callx (vx_runSX (As := [.ref (a 0), .ref o]) (rest := []) ⟨hx, hb, hml, hown, hts⟩ (c_L_epilogue l D g o (a 0) f (wX a g L att T hs tm tk lt) _ rfl _ _ (c_X2_epilogue l hl0 D g a L att T hs tm tk lt hJ.1 (JT_ok hJ.2.2.2)) (fun E w9 h => (fun q => q.1) h.2) H.size) (vx_cwSW 2 hts gL_law_L_epilogue rfl rfl rfl (by decide +kernel) ⟨Nat.le_of_ble_eq_true rfl, Nat.le_of_ble_eq_true rfl⟩) (y_preS hK (wj_l hP) (wj_dl hD) hS hA hE hV hN) rfl rfl hl.1 rfl (lv_room (Nat.le_of_ble_eq_true rfl)) dL_law_1515 ⟨(show cells + 1 ≤ 601024 by omega), (show slots + 6 * 1 ≤ 7293034 by omega)⟩) hS hP hD hA (fun r u1 H locs h1 hP hD hS => ?_)
  refine lv_istore (lv' := [(5, .int r), (0, .ref b), (1, .ref (a 0)), (2, .ref (b' 0)), (3, .ref o), (4, .int (iI ((iv : Nat) : Int)))]) hx hb dL_law_1518 hl (by decide) rfl (fun ls hl => ?_)
  refine lv_aload_n hx hb dL_law_1520 rfl (lv_at hl 3 rfl) ?_
  refine j_calli (va_runV (As := []) (rest := []) ⟨hx, hb, hml, hown, hts⟩ (c_X3_epilogue l D g b' th L att T hm tn pl hJ.1 hJ.2.2.2.1 (fun j _ => hJ.2.2.1 j) H.size) (cwV 0 hts gL_law_X3_epilogue rfl rfl rfl (by decide +kernel) ⟨Nat.le_of_ble_eq_true rfl, Nat.le_of_ble_eq_true rfl⟩) (z_preV 0 hK (wj_r hP) (wj_dr hD) rfl rfl) rfl rfl hl.1 rfl (lv_room (Nat.le_of_ble_eq_true rfl)) dL_law_1521 ⟨(show cells + 1 + 0 ≤ 601024 by omega), (show slots + 6 * 1 + 0 ≤ 7293034 by omega)⟩) hS hP hD hA (fun r2 v1 H locs h2 hP hD hS => ?_)
  obtain ⟨n, L, att, T, hs, tm, tk, lt, f, hm, tn, pl, rfl, rfl, hJ, hn0, hn3, rfl, hv⟩ := ag_epilogue (hs := hs) (tk := tk) (lt := lt) (att := att) (hm := hm) (pl := pl) hJ h1 h2
  refine lv_istore (lv' := [(6, .int r2), (5, .int (iI n)), (0, .ref b), (1, .ref (a 0)), (2, .ref (b' 0)), (3, .ref o), (4, .int (iI ((iv : Nat) : Int)))]) hx hb dL_law_1524 hl (by decide) rfl (fun ls hl => ?_)
  refine lv_aload_n hx hb dL_law_1526 rfl (lv_at hl 4 rfl) ?_
  refine j_calli (va_runV (As := []) (rest := []) ⟨hx, hb, hml, hown, hts⟩ (c_X3_thrown l D g b' n L att T hm tn pl H.size) (cwV 0 hts gL_law_X3_thrown rfl rfl rfl (by decide +kernel) ⟨Nat.le_of_ble_eq_true rfl, Nat.le_of_ble_eq_true rfl⟩) (z_preV 0 hK (wj_r hP) (wj_dr hD) rfl rfl) rfl rfl hl.1 rfl (lv_room (Nat.le_of_ble_eq_true rfl)) dL_law_1527 ⟨(show cells + 1 + 0 ≤ 601024 by omega), (show slots + 6 * 1 + 0 ≤ 7293034 by omega)⟩) hS hP hD hA (fun r3 v1 H locs h3 hP hD hS => ?_)
  obtain ⟨rfl, rfl⟩ := h3
  refine lv_iload hx hb dL_law_1530 (lv_at hl 1 rfl) ?_
  refine lv_icmp_eq (tgt := 1537) hx hb dL_law_1532 (by decide) (fun _ => ?_) (fun h9 => absurd rfl h9)
  refine lv_iload hx hb dL_law_1537 (lv_at hl 1 rfl) ?_
  have kend : W p l e room_1 s m #[Value.ref b] below meth c H locs (cells + 1) (slots + 6 * 1) Q (F0 m 1554 ls []) := by
    refine lv_goto (tgt := 1571) hx hb dL_law_1554 (by decide) ?_
    refine W.widen (k := cells + 7) (n := slots + 42) (by omega) (by omega) ?_
    exact kk L att T hs tm tk lt f n hm tn pl hJ H locs ls hP hD hS (lv_sub hl [2, 3, 4, 5, 6] rfl)
  refine lv_if_ne (tgt := 1554) hx hb dL_law_1539 (by decide) (fun _ => kend) (fun h9 => ?_)
  have hn : n = 0 := (iI_0 ⟨hn0, hn3⟩).mp h9
  have hv := hv hn
  refine lv_aload_n hx hb dL_law_1542 rfl (lv_at hl 5 rfl) ?_
  refine z_ic hx hb dL_law_1543 ?_
  refine l_lald (g := g) hx hb hK hP 17 rfl dL_law_1544 ?_
  refine lv_iload hx hb dL_law_1545 (lv_at hl 0 rfl) ?_
  refine lv_i2l (v := r2.toInt64) hx hb dL_law_1547 rfl ?_
  rw [hv]
  refine W.lcmp hx hb dL_law_1548 ?_
  rw [cmp_s]
  exact lv_if_eq (tgt := 1554) hx hb dL_law_1549 (by decide) (fun _ => kend) (fun h9 => absurd rfl h9)

theorem and31 (x : Int32) : ∃ k : Nat, k ≤ 31 ∧ x &&& iI 31 = iI ((k : Nat) : Int) := by
  refine ⟨(x.toBitVec &&& 31#32).toNat, ?_, ?_⟩
  · rw [BitVec.toNat_and]
    exact Nat.and_le_right
  · apply Int32.toBitVec_inj.mp
    rw [Int32.toBitVec_and]
    show x.toBitVec &&& 31#32 = BitVec.ofInt 32 (((x.toBitVec &&& 31#32).toNat : Nat) : Int)
    rw [BitVec.ofInt_natCast, BitVec.ofNat_toNat, BitVec.setWidth_eq]
theorem nI_iI (n : Nat) : Int32.ofNat n = iI ((n : Nat) : Int) := rfl
set_option maxHeartbeats 4000000 in
set_option maxRecDepth 100000 in
theorem law_loop {p : Program} {l : Launch} {e : Env} {s : State} {m : MethodId} {below : List Frame} {meth : Method} {c : Code} {b Lx : Nat} {xs : Nat → Int32} {D : va_G} {g : Nat → ClassId} (hC : LC p l s m meth c b Lx xs D g) {a b' : Nat → Nat} {o : Nat} : ∀ (n iv cells slots : Nat) (L : LD) (att T : Nat) (hs tm : Nat → Int) (tk : Nat → Nat → Int) (lt : Nat → Int) (f : Nat → Int64) (th : Int) (hm : Nat → Int) (tn : Nat → Nat) (pl : Nat → Bool) (H : Heap) (locs : List Loc) (ls : Array Slot), Lx < iv + n → iv ≤ Lx → 5 * cells ≤ 7 * iv + 500 → 5 * slots ≤ 42 * iv + 10000 → JJ L T tm tk hm tn → va_P D vwCl (uw a g o L att T hs tm tk lt f ++ wM b' g th L att T hm tn pl (fun _ => 0)) H → va_D (fun q : Nat => s.heap.size ≤ q) (uw a g o L att T hs tm tk lt f ++ wM b' g th L att T hm tn pl (fun _ => 0)) → va_S (fun q : Nat => s.heap.size ≤ q) s.heap H locs → lv_has ls 7 [(0, .ref b), (1, .ref (a 0)), (2, .ref (b' 0)), (3, .ref o), (4, .int (iI ((iv : Nat) : Int)))] → W p l e room_1 s m #[Value.ref b] below meth c H locs cells slots (lw_Z below #[Value.ref b] s) (F0 m 23 ls []) := by
  intro n
  induction n with
  | zero => intro iv cells slots L att T hs tm tk lt f th hm tn pl H locs ls h1 h2; omega
  | succ n ih =>
    intro iv cells slots L att T hs tm tk lt f th hm tn pl H locs ls h1 h2 hc1 hc2 hJ hP hD hS hl
    obtain ⟨⟨hx, hb, hr, hml, hown, hts0, hX, hbl, hlocks, hgv⟩, hLx, hl0, hK, hE, hV, hN⟩ := id hC
    have hbA : ¬ (fun q : Nat => s.heap.size ≤ q) b := Nat.not_le.mpr hbl
    refine lv_iload hx hb dL_law_23 (lv_at hl 4 rfl) ?_
    refine lv_aload_n hx hb dL_law_25 rfl (lv_at hl 0 rfl) ?_
    refine va_slen hx hb hX hbl hbA hS dL_law_26 ?_
    rw [nI_iI]
    refine z_ic hx hb dL_law_27 ?_
    refine z_sub hx hb dL_law_28 ?_
    refine z_icgt (a := ((iv : Nat) : Int)) (b := ((Lx : Nat) : Int) - 5) (tgt := 1577) hx hb dL_law_29 (by decide) ⟨by omega, by omega⟩ (fun q => ?_) (fun q => ?_)
    · refine lv_iconst (v := 1) hx hb dL_law_1577 (by decide) ?_
      refine va_forget (fun q h => hS.2.2 q h) ?_
      refine W.widen (k := 601024) (n := 7293034) (by omega) (by omega) ?_
      exact lw_ret hx hb hr hlocks dL_law_1578
    · have hi : iv + 5 ≤ Lx := by omega
      refine lv_aload_n hx hb dL_law_32 rfl (lv_at hl 0 rfl) ?_
      refine lv_iload hx hb dL_law_33 (lv_at hl 4 rfl) ?_
      refine va_sld hx hb hX hbl hbA hS (iI_in (z := ((iv : Nat) : Int)) ⟨by omega, by omega⟩ (by omega)) dL_law_35 ?_
      refine z_bip hx hb dL_law_36 (by decide) ?_
      refine lv_iand hx hb dL_law_38 ?_
      obtain ⟨k, hk, ek⟩ := and31 (xs (iI ((iv : Nat) : Int)).toNatClampNeg)
      rw [ek]
      have hcs : cells + 7 ≤ 601024 ∧ slots + 42 ≤ 7293034 := by omega
      have kk : KQ p l e s m below meth c b o a b' g D iv (cells + 7) (slots + 42) (lw_Z below #[Value.ref b] s) := by
        intro L att T hs tm tk lt f th hm tn pl hJ H locs ls hP hD hS hl
        refine z_iinc (a := ((iv : Nat) : Int)) (b := ((iv + 5 : Nat) : Int)) (lv' := [(4, .int (iI ((iv + 5 : Nat) : Int))), (0, .ref b), (1, .ref (a 0)), (2, .ref (b' 0)), (3, .ref o)]) hx hb 4 dL_law_1571 hl rfl (by omega) (by decide) rfl (fun ls hl => ?_)
        refine lv_goto (tgt := 23) hx hb dL_law_1574 (by decide) ?_
        exact ih (iv + 5) (cells + 7) (slots + 42) L att T hs tm tk lt f th hm tn pl H locs ls (by omega) (by omega) (by omega) (by omega) hJ hP hD hS (lv_sub hl [1, 2, 3, 4, 0] rfl)
      have kout : W p l e room_1 s m #[Value.ref b] below meth c H locs cells slots (lw_Z below #[Value.ref b] s) (F0 m 1571 ls []) := by
        refine W.widen (k := cells + 7) (n := slots + 42) (by omega) (by omega) ?_
        exact kk L att T hs tm tk lt f th hm tn pl hJ H locs ls hP hD hS hl
      match k, hk with
      | 0, _ => exact lv_tableIn (x := iI ((0 : Nat) : Int)) (off := 129) (tgt := 168) hx hb dL_law_39 (by decide) (by decide) rfl (by decide) (law_setUnits hC hi hcs kk hJ hP hD hS hl)
      | 1, _ => exact lv_tableIn (x := iI ((1 : Nat) : Int)) (off := 197) (tgt := 236) hx hb dL_law_39 (by decide) (by decide) rfl (by decide) (law_addOperation hC hi hcs kk hJ hP hD hS hl)
      | 2, _ => exact lv_tableIn (x := iI ((2 : Nat) : Int)) (off := 265) (tgt := 304) hx hb dL_law_39 (by decide) (by decide) rfl (by decide) (law_addDependence hC hi hcs kk hJ hP hD hS hl)
      | 3, _ => exact lv_tableIn (x := iI ((3 : Nat) : Int)) (off := 357) (tgt := 396) hx hb dL_law_39 (by decide) (by decide) rfl (by decide) (law_setDelay hC hi hcs kk hJ hP hD hS hl)
      | 4, _ => exact lv_tableIn (x := iI ((4 : Nat) : Int)) (off := 425) (tgt := 464) hx hb dL_law_39 (by decide) (by decide) rfl (by decide) (law_operationCount hC hi hcs kk hJ hP hD hS hl)
      | 5, _ => exact lv_tableIn (x := iI ((5 : Nat) : Int)) (off := 438) (tgt := 477) hx hb dL_law_39 (by decide) (by decide) rfl (by decide) (law_dependenceCount hC hi hcs kk hJ hP hD hS hl)
      | 6, _ => exact lv_tableIn (x := iI ((6 : Nat) : Int)) (off := 451) (tgt := 490) hx hb dL_law_39 (by decide) (by decide) rfl (by decide) (law_resourceBound hC hi hcs kk hJ hP hD hS hl)
      | 7, _ => exact lv_tableIn (x := iI ((7 : Nat) : Int)) (off := 464) (tgt := 503) hx hb dL_law_39 (by decide) (by decide) rfl (by decide) (law_recurrenceBound hC hi hcs kk hJ hP hD hS hl)
      | 8, _ => exact lv_tableIn (x := iI ((8 : Nat) : Int)) (off := 477) (tgt := 516) hx hb dL_law_39 (by decide) (by decide) rfl (by decide) (law_height hC hi hcs kk hJ hP hD hS hl)
      | 9, _ => exact lv_tableIn (x := iI ((9 : Nat) : Int)) (off := 545) (tgt := 584) hx hb dL_law_39 (by decide) (by decide) rfl (by decide) (law_schedule hC hi hcs kk hJ hP hD hS hl)
      | 10, _ => exact lv_tableIn (x := iI ((10 : Nat) : Int)) (off := 601) (tgt := 640) hx hb dL_law_39 (by decide) (by decide) rfl (by decide) (law_attempts hC hi hcs kk hJ hP hD hS hl)
      | 11, _ => exact lv_tableIn (x := iI ((11 : Nat) : Int)) (off := 614) (tgt := 653) hx hb dL_law_39 (by decide) (by decide) rfl (by decide) (law_hasSchedule hC hi hcs kk hJ hP hD hS hl)
      | 12, _ => exact lv_tableIn (x := iI ((12 : Nat) : Int)) (off := 627) (tgt := 666) hx hb dL_law_39 (by decide) (by decide) rfl (by decide) (law_interval hC hi hcs kk hJ hP hD hS hl)
      | 13, _ => exact lv_tableIn (x := iI ((13 : Nat) : Int)) (off := 671) (tgt := 710) hx hb dL_law_39 (by decide) (by decide) rfl (by decide) (law_time hC hi hcs kk hJ hP hD hS hl)
      | 14, _ => exact lv_tableIn (x := iI ((14 : Nat) : Int)) (off := 727) (tgt := 766) hx hb dL_law_39 (by decide) (by decide) rfl (by decide) (law_move hC hi hcs kk hJ hP hD hS hl)
      | 15, _ => exact lv_tableIn (x := iI ((15 : Nat) : Int)) (off := 802) (tgt := 841) hx hb dL_law_39 (by decide) (by decide) rfl (by decide) (law_freedom hC hi hcs kk hJ hP hD hS hl)
      | 16, _ => exact lv_tableIn (x := iI ((16 : Nat) : Int)) (off := 858) (tgt := 897) hx hb dL_law_39 (by decide) (by decide) rfl (by decide) (law_stages hC hi hcs kk hJ hP hD hS hl)
      | 17, _ => exact lv_tableIn (x := iI ((17 : Nat) : Int)) (off := 902) (tgt := 941) hx hb dL_law_39 (by decide) (by decide) rfl (by decide) (law_taken hC hi hcs kk hJ hP hD hS hl)
      | 18, _ => exact lv_tableIn (x := iI ((18 : Nat) : Int)) (off := 970) (tgt := 1009) hx hb dL_law_39 (by decide) (by decide) rfl (by decide) (law_lifetime hC hi hcs kk hJ hP hD hS hl)
      | 19, _ => exact lv_tableIn (x := iI ((19 : Nat) : Int)) (off := 1026) (tgt := 1065) hx hb dL_law_39 (by decide) (by decide) rfl (by decide) (law_live hC hi hcs kk hJ hP hD hS hl)
      | 20, _ => exact lv_tableIn (x := iI ((20 : Nat) : Int)) (off := 1082) (tgt := 1121) hx hb dL_law_39 (by decide) (by decide) rfl (by decide) (law_registers hC hi hcs kk hJ hP hD hS hl)
      | 21, _ => exact lv_tableIn (x := iI ((21 : Nat) : Int)) (off := 1126) (tgt := 1165) hx hb dL_law_39 (by decide) (by decide) rfl (by decide) (law_copies hC hi hcs kk hJ hP hD hS hl)
      | 22, _ => exact lv_tableIn (x := iI ((22 : Nat) : Int)) (off := 1182) (tgt := 1221) hx hb dL_law_39 (by decide) (by decide) rfl (by decide) (law_unrolling hC hi hcs kk hJ hP hD hS hl)
      | 23, _ => exact lv_tableIn (x := iI ((23 : Nat) : Int)) (off := 1226) (tgt := 1265) hx hb dL_law_39 (by decide) (by decide) rfl (by decide) (law_cycles hC hi hcs kk hJ hP hD hS hl)
      | 24, _ => exact lv_tableIn (x := iI ((24 : Nat) : Int)) (off := 1282) (tgt := 1321) hx hb dL_law_39 (by decide) (by decide) rfl (by decide) (law_issued hC hi hcs kk hJ hP hD hS hl)
      | 25, _ => exact lv_tableIn (x := iI ((25 : Nat) : Int)) (off := 1350) (tgt := 1389) hx hb dL_law_39 (by decide) (by decide) rfl (by decide) (law_issue hC hi hcs kk hJ hP hD hS hl)
      | 26, _ => exact lv_tableIn (x := iI ((26 : Nat) : Int)) (off := 1430) (tgt := 1469) hx hb dL_law_39 (by decide) (by decide) rfl (by decide) (law_prologue hC hi hcs kk hJ hP hD hS hl)
      | 27, _ => exact lv_tableIn (x := iI ((27 : Nat) : Int)) (off := 1474) (tgt := 1513) hx hb dL_law_39 (by decide) (by decide) rfl (by decide) (law_epilogue hC hi hcs kk hJ hP hD hS hl)
      | 28, _ => exact lv_tableIn (x := iI ((28 : Nat) : Int)) (off := 1518) (tgt := 1557) hx hb dL_law_39 (by decide) (by decide) rfl (by decide) (law_digest hC hi hcs kk hJ hP hD hS hl)
      | 29, _ => exact lv_tableOut (x := iI ((29 : Nat) : Int)) (tgt := 1571) hx hb dL_law_39 (Or.inr (by decide)) (by decide) kout
      | 30, _ => exact lv_tableOut (x := iI ((30 : Nat) : Int)) (tgt := 1571) hx hb dL_law_39 (Or.inr (by decide)) (by decide) kout
      | 31, _ => exact lv_tableOut (x := iI ((31 : Nat) : Int)) (tgt := 1571) hx hb dL_law_39 (Or.inr (by decide)) (by decide) kout
      | k + 32, h9 => exact absurd h9 (by omega)

def uw (a : Nat → Nat) (g : Nat → ClassId) (o : Nat) (L : LD) (att T : Nat) (hs tm : Nat → Int) (tk : Nat → Nat → Int) (lt : Nat → Int) (f : Nat → Int64) : va_W := wX a g L att T hs tm tk lt ++ [(o, oc g f)]
def JJ (L : LD) (T : Nat) (tm : Nat → Int) (tk : Nat → Nat → Int) (hm : Nat → Int) (tn : Nat → Nat) : Prop := wf L ∧ (∀ j, Ln L ≤ j → hm j = 0) ∧ (∀ j, tn j ≤ 1000000) ∧ JT L T tm tk tn
def AG (kf : Int32 → Int64) (a b : Nat → Nat) (g : Nat → ClassId) (o : Nat) (r r2 : Int32) (w1 w2 : va_W) : Prop := ∃ (n : Int) (L : LD) (att T : Nat) (hs tm : Nat → Int) (tk : Nat → Nat → Int) (lt : Nat → Int) (f : Nat → Int64) (hm : Nat → Int) (tn : Nat → Nat) (pl : Nat → Bool), w1 = uw a g o L att T hs tm tk lt f ∧ w2 = wM b g n L att T hm tn pl (fun _ => 0) ∧ JJ L T tm tk hm tn ∧ 0 ≤ n ∧ n ≤ 3 ∧ r = iI n ∧ (n = 0 → f 0 = kf r2)
section AGS
variable {kf : Int32 → Int64} {a b : Nat → Nat} {g : Nat → ClassId} {o : Nat} {L : LD} {att T : Nat} {hs tm : Nat → Int} {tk : Nat → Nat → Int} {lt : Nat → Int} {f : Nat → Int64} {hm : Nat → Int} {tn : Nat → Nat} {pl : Nat → Bool}
theorem ag_ok (hJ : JJ L T tm tk hm tn) {v1 v2 : Int} (hf : f 0 = kf (iI v1)) (hv : v1 = v2) : AG kf a b g o (iI 0) (iI v2) (wX a g L att T hs tm tk lt ++ [(o, oc g f)]) (wM b g 0 L att T hm tn pl (fun _ => 0)) := ⟨0, L, att, T, hs, tm, tk, lt, f, hm, tn, pl, rfl, rfl, hJ, by decide, by decide, rfl, fun _ => by rw [hf, hv]⟩
theorem ag_no (hJ : JJ L T tm tk hm tn) {n : Int} (hn : 0 < n ∧ n ≤ 3) (r2 : Int32) : AG kf a b g o (iI n) r2 (wX a g L att T hs tm tk lt ++ [(o, oc g f)]) (wM b g n L att T hm tn pl (fun _ => 0)) := ⟨n, L, att, T, hs, tm, tk, lt, f, hm, tn, pl, rfl, rfl, hJ, by omega, by omega, rfl, fun h => by omega⟩
theorem JJ_r (hJ : JJ L T tm tk hm tn) (h0 : 0 < T) : ∀ j, j < Ln L → tm j = nZ tn j := fun j hj => ((hJ.2.2.2.2 h0).1.1 j hj).1
theorem JJ_b (hJ : JJ L T tm tk hm tn) (h0 : 0 < T) : ∀ j, j < Ln L → tn j ≤ 3000 ∧ tn j ≤ 1000 * T := fun j hj => ((hJ.2.2.2.2 h0).1.1 j hj).2
theorem mem1 {E A : String} {n x : Int} (h : (E, n) ∈ [(A, x)]) : E = A ∧ n = x := by
  have h := List.mem_singleton.mp h
  exact ⟨congrArg Prod.fst h, congrArg Prod.snd h⟩
theorem mem2 {E A B : String} {n x y : Int} (h : (E, n) ∈ [(A, x), (B, y)]) : (E = A ∧ n = x) ∨ (E = B ∧ n = y) := (List.mem_cons.mp h).imp (fun h => ⟨congrArg Prod.fst h, congrArg Prod.snd h⟩) mem1
theorem mem3 {E A B C : String} {n x y z : Int} (h : (E, n) ∈ [(A, x), (B, y), (C, z)]) : (E = A ∧ n = x) ∨ (E = B ∧ n = y) ∨ (E = C ∧ n = z) := (List.mem_cons.mp h).imp (fun h => ⟨congrArg Prod.fst h, congrArg Prod.snd h⟩) mem2
theorem gT_bn {L : LD} {T : Nat} {tn : Nat → Nat} (h : ∀ j, j < Ln L → tn j ≤ 1000 * T) (i : Nat) (hi : i ≤ Ln L) : 0 ≤ gT (nZ tn) i ∧ gT (nZ tn) i ≤ ((1000 * T : Nat) : Int) ∧ ∀ j, j < i → nZ tn j ≤ gT (nZ tn) i := by
  induction i with
  | zero => exact ⟨Int.le_refl _, Int.natCast_nonneg _, fun j hj => absurd hj (Nat.not_lt_zero j)⟩
  | succ i ih =>
    obtain ⟨h1, h2, h3⟩ := ih (by omega)
    have h4 := h i (by omega)
    have h5 : nZ tn i = ((tn i : Nat) : Int) := rfl
    show 0 ≤ max (gT (nZ tn) i) (nZ tn i) ∧ max (gT (nZ tn) i) (nZ tn i) ≤ _ ∧ _
    refine ⟨by omega, by omega, fun j hj => ?_⟩
    show nZ tn j ≤ max (gT (nZ tn) i) (nZ tn i)
    by_cases e : j = i
    · rw [e]; omega
    · have := h3 j (by omega); omega
theorem pro_ag {L : LD} {T : Nat} (hT : 0 < T) {tm : Nat → Int} {tn : Nat → Nat} (hr : ∀ j, j < Ln L → tm j = nZ tn j) (hb : ∀ j, j < Ln L → tn j ≤ 1000 * T) : pro T tm (sG L T tm - 1) (Ln L) = ((sumI (fun c => isn T (nZ tn) 1000 c (Ln L)) ((sG L T (nZ tn) - 1) * (T : Int)).toNat : Nat) : Int) := by
  have e1 : ∀ (y : Int) (m : Nat), m ≤ Ln L → pro T tm y m = pro T (nZ tn) y m := by
    intro y m
    induction m with
    | zero => intro _; rfl
    | succ m ih =>
      intro hm
      show pro T tm y m + (y - tm m / (T : Int)) = pro T (nZ tn) y m + (y - nZ tn m / (T : Int))
      rw [ih (by omega), hr m (by omega)]
  rw [sG_cg hr, e1 _ _ (Nat.le_refl _)]
  by_cases hn : Ln L = 0
  · rw [hn]
    show (0 : Int) = _
    rw [show (fun c => isn T (nZ tn) 1000 c 0) = fun _ => 0 from rfl, sumI_z]
    rfl
  · obtain ⟨h1, h2, h3⟩ := gT_bn hb (Ln L) (Nat.le_refl _)
    obtain ⟨G, hG⟩ : ∃ G : Nat, gT (nZ tn) (Ln L) = (G : Int) := ⟨(gT (nZ tn) (Ln L)).toNat, by omega⟩
    have hs : sG L T (nZ tn) - 1 = ((G / T : Nat) : Int) := by
      unfold sG
      rw [if_neg hn, hG, Int.natCast_ediv]
      omega
    rw [hs, show (((G / T : Nat) : Int) * (T : Int)).toNat = G / T * T by rw [← Int.natCast_mul, Int.toNat_natCast]]
    refine (pro_eq hT ?_ (Ln L) (fun j hj => ?_)).symm
    · have h4 : G ≤ 1000 * T := by rw [hG] at h2; omega
      exact Nat.div_le_of_le_mul (by rw [Nat.mul_comm]; exact h4)
    · have h5 := h3 j hj
      rw [hG] at h5
      exact Nat.div_le_div_right (by have h6 : nZ tn j = ((tn j : Nat) : Int) := rfl; omega)
theorem epi_ag {L : LD} {T : Nat} (hT : 0 < T) {tm : Nat → Int} {tn : Nat → Nat} (hr : ∀ j, j < Ln L → tm j = nZ tn j) (hb : ∀ j, j < Ln L → tn j ≤ 1000 * T) : epi T tm (Ln L) = ((sumI (fun c => isn T (nZ tn) (max (sG L T (nZ tn)) 1).toNat ((sG L T (nZ tn) * (T : Int)).toNat + c) (Ln L)) ((gT (nZ tn) (Ln L)).toNat + 1) : Nat) : Int) := by
  have e1 : ∀ (m : Nat), m ≤ Ln L → epi T tm m = epi T (nZ tn) m := by
    intro m
    induction m with
    | zero => intro _; rfl
    | succ m ih =>
      intro hm
      show epi T tm m + tm m / (T : Int) = epi T (nZ tn) m + nZ tn m / (T : Int)
      rw [ih (by omega), hr m (by omega)]
  rw [e1 _ (Nat.le_refl _)]
  by_cases hn : Ln L = 0
  · rw [hn]
    show (0 : Int) = _
    rw [show (fun c => isn T (nZ tn) (max (sG L T (nZ tn)) 1).toNat ((sG L T (nZ tn) * (T : Int)).toNat + c) 0) = fun _ => 0 from rfl, sumI_z]
    rfl
  · obtain ⟨h1, h2, h3⟩ := gT_bn hb (Ln L) (Nat.le_refl _)
    obtain ⟨G, hG⟩ : ∃ G : Nat, gT (nZ tn) (Ln L) = (G : Int) := ⟨(gT (nZ tn) (Ln L)).toNat, by omega⟩
    have hs : sG L T (nZ tn) = ((G / T + 1 : Nat) : Int) := by
      unfold sG
      rw [if_neg hn, hG, Int.natCast_add, Int.natCast_ediv]
      rfl
    have hmx : (max (((G / T + 1 : Nat) : Int)) 1).toNat = G / T + 1 := by
      generalize G / T = q
      omega
    rw [hs, hG, hmx, Int.toNat_natCast, show (((G / T + 1 : Nat) : Int) * (T : Int)).toNat = (G / T + 1) * T by rw [← Int.natCast_mul, Int.toNat_natCast]]
    refine (epi_eq hT (Ln L) (fun j hj => ?_)).symm
    have h5 := h3 j hj
    rw [hG] at h5
    have h6 : nZ tn j = ((tn j : Nat) : Int) := rfl
    have h7 : tn j ≤ G := by omega
    exact ⟨Nat.succ_le_succ (Nat.div_le_div_right h7), h7⟩
end AGS

set_option maxHeartbeats 2000000 in
theorem ag_setUnits {a b : Nat → Nat} {g : Nat → ClassId} {o : Nat} {L : LD} {att T : Nat} {hs tm : Nat → Int} {tk : Nat → Nat → Int} {lt : Nat → Int} {f0 : Nat → Int64} {hm : Nat → Int} {tn : Nat → Nat} {pl : Nat → Bool} (hJ : JJ L T tm tk hm tn) {i u : Int} {r r2 : Int32} {w1 w2 : va_W} (h1 : wpost (fun r w1 => ((0 ≤ i ∧ i ≤ 2) ∧ (1 ≤ u ∧ u ≤ 3)) ∧ r = iI ((Lu L i.toNat : Nat) : Int) ∧ w1 = wX a g (Ln L, Lm L, upN (Lu L) i.toNat u.toNat, Lkd L, Lby L, Lsr L, Lds L, Ldl L, Ldi L) att 0 hs tm tk lt) (fun E w9 => w9 = wX a g L att T hs tm tk lt ∧ ((E = nIX ∧ ¬ (0 ≤ i ∧ i ≤ 2)) ∨ (E = nIA ∧ (0 ≤ i ∧ i ≤ 2) ∧ ¬ (1 ≤ u ∧ u ≤ 3)))) g o f0 (fun r0 => r0.toInt64) [(nIX, 1), (nIA, 2)] r w1) (h2 : (fun r w1 => ((¬ (0 ≤ i ∧ i ≤ 2)) ∧ w1 = wM b g 1 L att T hm tn pl (fun _ => 0)) ∨ (((0 ≤ i ∧ i ≤ 2) ∧ ¬ (1 ≤ u ∧ u ≤ 3)) ∧ w1 = wM b g 2 L att T hm tn pl (fun _ => 0)) ∨ (((0 ≤ i ∧ i ≤ 2) ∧ (1 ≤ u ∧ u ≤ 3)) ∧ r = iI (((Lu L i.toNat : Nat) : Int)) ∧ w1 = wM b g 0 (Ln L, Lm L, upN (Lu L) i.toNat u.toNat, Lkd L, Lby L, Lsr L, Lds L, Ldl L, Ldi L) att 0 hm tn pl (fun _ => 0))) r2 w2) : AG (fun r0 => r0.toInt64) a b g o r r2 w1 w2 := by
  rcases h1 with ⟨r0, u1, f1, ⟨hc, rfl, rfl⟩, rfl, hf, rfl⟩ | ⟨E, u1, n, hm9, ⟨rfl, hx⟩, rfl, rfl⟩
  · rcases h2 with ⟨c9, rfl⟩ | ⟨c9, rfl⟩ | ⟨c9, rfl, rfl⟩
    · exact (show False by omega).elim
    · exact (show False by omega).elim
    · exact ag_ok ⟨wf_su hJ.1 (by omega), hJ.2.1, hJ.2.2.1, JT_0⟩ hf rfl
  · rcases mem2 hm9 with ⟨rfl, rfl⟩ | ⟨rfl, rfl⟩
    · rcases hx with ⟨e9, x9⟩ | ⟨e9, x9⟩
      · rcases h2 with ⟨c9, rfl⟩ | ⟨c9, rfl⟩ | ⟨c9, rfl, rfl⟩
        · exact ag_no hJ (by decide) _
        · exact (show False by omega).elim
        · exact (show False by omega).elim
      · exact absurd e9 (by decide)
    · rcases hx with ⟨e9, x9⟩ | ⟨e9, x9⟩
      · exact absurd e9 (by decide)
      · rcases h2 with ⟨c9, rfl⟩ | ⟨c9, rfl⟩ | ⟨c9, rfl, rfl⟩
        · exact (show False by omega).elim
        · exact ag_no hJ (by decide) _
        · exact (show False by omega).elim
set_option maxHeartbeats 2000000 in
theorem ag_addOperation {a b : Nat → Nat} {g : Nat → ClassId} {o : Nat} {L : LD} {att T : Nat} {hs tm : Nat → Int} {tk : Nat → Nat → Int} {lt : Nat → Int} {f0 : Nat → Int64} {hm : Nat → Int} {tn : Nat → Nat} {pl : Nat → Bool} (hJ : JJ L T tm tk hm tn) {i u : Int} {r r2 : Int32} {w1 w2 : va_W} (h1 : wpost (fun r w1 => (((0 ≤ i ∧ i ≤ 2) ∧ (1 ≤ u ∧ u ≤ 4)) ∧ Ln L < 14) ∧ r = iI ((Ln L : Nat) : Int) ∧ w1 = wX a g (Ln L + 1, Lm L, Lu L, upN (Lkd L) (Ln L) i.toNat, upN (Lby L) (Ln L) u.toNat, Lsr L, Lds L, Ldl L, Ldi L) att 0 hs tm tk lt) (fun E w9 => w9 = wX a g L att T hs tm tk lt ∧ ((E = nIA ∧ ¬ ((0 ≤ i ∧ i ≤ 2) ∧ (1 ≤ u ∧ u ≤ 4))) ∨ (E = nIS ∧ ((0 ≤ i ∧ i ≤ 2) ∧ (1 ≤ u ∧ u ≤ 4)) ∧ 14 ≤ Ln L))) g o f0 (fun r0 => r0.toInt64) [(nIA, 1), (nIS, 2)] r w1) (h2 : (fun r w1 => ((¬ ((0 ≤ i ∧ i ≤ 2) ∧ (1 ≤ u ∧ u ≤ 4))) ∧ w1 = wM b g 1 L att T hm tn pl (fun _ => 0)) ∨ ((((0 ≤ i ∧ i ≤ 2) ∧ (1 ≤ u ∧ u ≤ 4)) ∧ 14 ≤ Ln L) ∧ w1 = wM b g 2 L att T hm tn pl (fun _ => 0)) ∨ ((((0 ≤ i ∧ i ≤ 2) ∧ (1 ≤ u ∧ u ≤ 4)) ∧ Ln L < 14) ∧ r = iI (((Ln L : Nat) : Int)) ∧ w1 = wM b g 0 (Ln L + 1, Lm L, Lu L, upN (Lkd L) (Ln L) i.toNat, upN (Lby L) (Ln L) u.toNat, Lsr L, Lds L, Ldl L, Ldi L) att 0 hm tn pl (fun _ => 0))) r2 w2) : AG (fun r0 => r0.toInt64) a b g o r r2 w1 w2 := by
  rcases h1 with ⟨r0, u1, f1, ⟨hc, rfl, rfl⟩, rfl, hf, rfl⟩ | ⟨E, u1, n, hm9, ⟨rfl, hx⟩, rfl, rfl⟩
  · rcases h2 with ⟨c9, rfl⟩ | ⟨c9, rfl⟩ | ⟨c9, rfl, rfl⟩
    · exact (show False by omega).elim
    · exact (show False by omega).elim
    · exact ag_ok ⟨wf_ao hJ.1 (by omega) (by omega) (by omega), fun j hj => hJ.2.1 j (Nat.le_of_succ_le hj), hJ.2.2.1, JT_0⟩ hf rfl
  · rcases mem2 hm9 with ⟨rfl, rfl⟩ | ⟨rfl, rfl⟩
    · rcases hx with ⟨e9, x9⟩ | ⟨e9, x9⟩
      · rcases h2 with ⟨c9, rfl⟩ | ⟨c9, rfl⟩ | ⟨c9, rfl, rfl⟩
        · exact ag_no hJ (by decide) _
        · exact (show False by omega).elim
        · exact (show False by omega).elim
      · exact absurd e9 (by decide)
    · rcases hx with ⟨e9, x9⟩ | ⟨e9, x9⟩
      · exact absurd e9 (by decide)
      · rcases h2 with ⟨c9, rfl⟩ | ⟨c9, rfl⟩ | ⟨c9, rfl, rfl⟩
        · exact (show False by omega).elim
        · exact ag_no hJ (by decide) _
        · exact (show False by omega).elim
set_option maxHeartbeats 2000000 in
theorem ag_addDependence {a b : Nat → Nat} {g : Nat → ClassId} {o : Nat} {L : LD} {att T : Nat} {hs tm : Nat → Int} {tk : Nat → Nat → Int} {lt : Nat → Int} {f0 : Nat → Int64} {hm : Nat → Int} {tn : Nat → Nat} {pl : Nat → Bool} (hJ : JJ L T tm tk hm tn) {i u dl di : Int} {r r2 : Int32} {w1 w2 : va_W} (h1 : wpost (fun r w1 => (((0 ≤ i ∧ i < (Ln L : Int)) ∧ (0 ≤ u ∧ u < (Ln L : Int))) ∧ ((0 ≤ dl ∧ dl ≤ 12) ∧ (0 ≤ di ∧ di ≤ 3)) ∧ Lm L < 40) ∧ r = iI ((Lm L : Nat) : Int) ∧ w1 = wX a g (Ln L, Lm L + 1, Lu L, Lkd L, Lby L, upN (Lsr L) (Lm L) i.toNat, upN (Lds L) (Lm L) u.toNat, upN (Ldl L) (Lm L) dl.toNat, upN (Ldi L) (Lm L) di.toNat) att 0 hs tm tk lt) (fun E w9 => w9 = wX a g L att T hs tm tk lt ∧ ((E = nIX ∧ ¬ ((0 ≤ i ∧ i < (Ln L : Int)) ∧ (0 ≤ u ∧ u < (Ln L : Int)))) ∨ (E = nIA ∧ ((0 ≤ i ∧ i < (Ln L : Int)) ∧ (0 ≤ u ∧ u < (Ln L : Int))) ∧ ¬ ((0 ≤ dl ∧ dl ≤ 12) ∧ (0 ≤ di ∧ di ≤ 3))) ∨ (E = nIS ∧ ((0 ≤ i ∧ i < (Ln L : Int)) ∧ (0 ≤ u ∧ u < (Ln L : Int))) ∧ ((0 ≤ dl ∧ dl ≤ 12) ∧ (0 ≤ di ∧ di ≤ 3)) ∧ 40 ≤ Lm L))) g o f0 (fun r0 => r0.toInt64) [(nIX, 1), (nIA, 2), (nIS, 3)] r w1) (h2 : (fun r w1 => ((¬ ((0 ≤ i ∧ i < (Ln L : Int)) ∧ (0 ≤ u ∧ u < (Ln L : Int)))) ∧ w1 = wM b g 1 L att T hm tn pl (fun _ => 0)) ∨ ((((0 ≤ i ∧ i < (Ln L : Int)) ∧ (0 ≤ u ∧ u < (Ln L : Int))) ∧ ¬ ((0 ≤ dl ∧ dl ≤ 12) ∧ (0 ≤ di ∧ di ≤ 3))) ∧ w1 = wM b g 2 L att T hm tn pl (fun _ => 0)) ∨ ((((0 ≤ i ∧ i < (Ln L : Int)) ∧ (0 ≤ u ∧ u < (Ln L : Int))) ∧ ((0 ≤ dl ∧ dl ≤ 12) ∧ (0 ≤ di ∧ di ≤ 3)) ∧ 40 ≤ Lm L) ∧ w1 = wM b g 3 L att T hm tn pl (fun _ => 0)) ∨ ((((0 ≤ i ∧ i < (Ln L : Int)) ∧ (0 ≤ u ∧ u < (Ln L : Int))) ∧ ((0 ≤ dl ∧ dl ≤ 12) ∧ (0 ≤ di ∧ di ≤ 3)) ∧ Lm L < 40) ∧ r = iI (((Lm L : Nat) : Int)) ∧ w1 = wM b g 0 (Ln L, Lm L + 1, Lu L, Lkd L, Lby L, upN (Lsr L) (Lm L) i.toNat, upN (Lds L) (Lm L) u.toNat, upN (Ldl L) (Lm L) dl.toNat, upN (Ldi L) (Lm L) di.toNat) att 0 hm tn pl (fun _ => 0))) r2 w2) : AG (fun r0 => r0.toInt64) a b g o r r2 w1 w2 := by
  rcases h1 with ⟨r0, u1, f1, ⟨hc, rfl, rfl⟩, rfl, hf, rfl⟩ | ⟨E, u1, n, hm9, ⟨rfl, hx⟩, rfl, rfl⟩
  · rcases h2 with ⟨c9, rfl⟩ | ⟨c9, rfl⟩ | ⟨c9, rfl⟩ | ⟨c9, rfl, rfl⟩
    · exact (show False by omega).elim
    · exact (show False by omega).elim
    · exact (show False by omega).elim
    · exact ag_ok ⟨wf_ad hJ.1 (by omega) (by omega) (by omega) (by omega) (by omega), hJ.2.1, hJ.2.2.1, JT_0⟩ hf rfl
  · rcases mem3 hm9 with ⟨rfl, rfl⟩ | ⟨rfl, rfl⟩ | ⟨rfl, rfl⟩
    · rcases hx with ⟨e9, x9⟩ | ⟨e9, x9⟩ | ⟨e9, x9⟩
      · rcases h2 with ⟨c9, rfl⟩ | ⟨c9, rfl⟩ | ⟨c9, rfl⟩ | ⟨c9, rfl, rfl⟩
        · exact ag_no hJ (by decide) _
        · exact (show False by omega).elim
        · exact (show False by omega).elim
        · exact (show False by omega).elim
      · exact absurd e9 (by decide)
      · exact absurd e9 (by decide)
    · rcases hx with ⟨e9, x9⟩ | ⟨e9, x9⟩ | ⟨e9, x9⟩
      · exact absurd e9 (by decide)
      · rcases h2 with ⟨c9, rfl⟩ | ⟨c9, rfl⟩ | ⟨c9, rfl⟩ | ⟨c9, rfl, rfl⟩
        · exact (show False by omega).elim
        · exact ag_no hJ (by decide) _
        · exact (show False by omega).elim
        · exact (show False by omega).elim
      · exact absurd e9 (by decide)
    · rcases hx with ⟨e9, x9⟩ | ⟨e9, x9⟩ | ⟨e9, x9⟩
      · exact absurd e9 (by decide)
      · exact absurd e9 (by decide)
      · rcases h2 with ⟨c9, rfl⟩ | ⟨c9, rfl⟩ | ⟨c9, rfl⟩ | ⟨c9, rfl, rfl⟩
        · exact (show False by omega).elim
        · exact (show False by omega).elim
        · exact ag_no hJ (by decide) _
        · exact (show False by omega).elim
set_option maxHeartbeats 2000000 in
theorem ag_setDelay {a b : Nat → Nat} {g : Nat → ClassId} {o : Nat} {L : LD} {att T : Nat} {hs tm : Nat → Int} {tk : Nat → Nat → Int} {lt : Nat → Int} {f0 : Nat → Int64} {hm : Nat → Int} {tn : Nat → Nat} {pl : Nat → Bool} (hJ : JJ L T tm tk hm tn) {i u : Int} {r r2 : Int32} {w1 w2 : va_W} (h1 : wpost (fun r w1 => ((0 ≤ i ∧ i < (Lm L : Int)) ∧ (0 ≤ u ∧ u ≤ 12)) ∧ r = iI ((Ldl L i.toNat : Nat) : Int) ∧ w1 = wX a g (Ln L, Lm L, Lu L, Lkd L, Lby L, Lsr L, Lds L, upN (Ldl L) i.toNat u.toNat, Ldi L) att 0 hs tm tk lt) (fun E w9 => w9 = wX a g L att T hs tm tk lt ∧ ((E = nIX ∧ ¬ (0 ≤ i ∧ i < (Lm L : Int))) ∨ (E = nIA ∧ (0 ≤ i ∧ i < (Lm L : Int)) ∧ ¬ (0 ≤ u ∧ u ≤ 12)))) g o f0 (fun r0 => r0.toInt64) [(nIX, 1), (nIA, 2)] r w1) (h2 : (fun r w1 => ((¬ (0 ≤ i ∧ i < (Lm L : Int))) ∧ w1 = wM b g 1 L att T hm tn pl (fun _ => 0)) ∨ (((0 ≤ i ∧ i < (Lm L : Int)) ∧ ¬ (0 ≤ u ∧ u ≤ 12)) ∧ w1 = wM b g 2 L att T hm tn pl (fun _ => 0)) ∨ (((0 ≤ i ∧ i < (Lm L : Int)) ∧ (0 ≤ u ∧ u ≤ 12)) ∧ r = iI (((Ldl L i.toNat : Nat) : Int)) ∧ w1 = wM b g 0 (Ln L, Lm L, Lu L, Lkd L, Lby L, Lsr L, Lds L, upN (Ldl L) i.toNat u.toNat, Ldi L) att 0 hm tn pl (fun _ => 0))) r2 w2) : AG (fun r0 => r0.toInt64) a b g o r r2 w1 w2 := by
  rcases h1 with ⟨r0, u1, f1, ⟨hc, rfl, rfl⟩, rfl, hf, rfl⟩ | ⟨E, u1, n, hm9, ⟨rfl, hx⟩, rfl, rfl⟩
  · rcases h2 with ⟨c9, rfl⟩ | ⟨c9, rfl⟩ | ⟨c9, rfl, rfl⟩
    · exact (show False by omega).elim
    · exact (show False by omega).elim
    · exact ag_ok ⟨wf_sd2 hJ.1 (by omega), hJ.2.1, hJ.2.2.1, JT_0⟩ hf rfl
  · rcases mem2 hm9 with ⟨rfl, rfl⟩ | ⟨rfl, rfl⟩
    · rcases hx with ⟨e9, x9⟩ | ⟨e9, x9⟩
      · rcases h2 with ⟨c9, rfl⟩ | ⟨c9, rfl⟩ | ⟨c9, rfl, rfl⟩
        · exact ag_no hJ (by decide) _
        · exact (show False by omega).elim
        · exact (show False by omega).elim
      · exact absurd e9 (by decide)
    · rcases hx with ⟨e9, x9⟩ | ⟨e9, x9⟩
      · exact absurd e9 (by decide)
      · rcases h2 with ⟨c9, rfl⟩ | ⟨c9, rfl⟩ | ⟨c9, rfl, rfl⟩
        · exact (show False by omega).elim
        · exact ag_no hJ (by decide) _
        · exact (show False by omega).elim
set_option maxHeartbeats 2000000 in
theorem ag_interval {a b : Nat → Nat} {g : Nat → ClassId} {o : Nat} {L : LD} {att T : Nat} {hs tm : Nat → Int} {tk : Nat → Nat → Int} {lt : Nat → Int} {f0 : Nat → Int64} {hm : Nat → Int} {tn : Nat → Nat} {pl : Nat → Bool} (hJ : JJ L T tm tk hm tn) {r r2 : Int32} {w1 w2 : va_W} (h1 : wpost (fun r w1 => (0 < T) ∧ r = iI ((T : Nat) : Int) ∧ w1 = wX a g L att T hs tm tk lt) (fun E w9 => w9 = wX a g L att T hs tm tk lt ∧ ((E = nIS ∧ ¬ (0 < T)))) g o f0 (fun r0 => r0.toInt64) [(nIS, 1)] r w1) (h2 : (fun r w1 => ((T = 0) ∧ w1 = wM b g 1 L att T hm tn pl (fun _ => 0)) ∨ ((0 < T) ∧ r = iI (((T : Nat) : Int)) ∧ w1 = wM b g 0 L att T hm tn pl (fun _ => 0))) r2 w2) : AG (fun r0 => r0.toInt64) a b g o r r2 w1 w2 := by
  rcases h1 with ⟨r0, u1, f1, ⟨hc, rfl, rfl⟩, rfl, hf, rfl⟩ | ⟨E, u1, n, hm9, ⟨rfl, hx⟩, rfl, rfl⟩
  · rcases h2 with ⟨c9, rfl⟩ | ⟨c9, rfl, rfl⟩
    · exact (show False by omega).elim
    · exact ag_ok hJ hf rfl
  · obtain ⟨rfl, rfl⟩ := mem1 hm9
    obtain ⟨e9, x9⟩ := hx
    rcases h2 with ⟨c9, rfl⟩ | ⟨c9, rfl, rfl⟩
    · exact ag_no hJ (by decide) _
    · exact (show False by omega).elim
set_option maxHeartbeats 2000000 in
theorem ag_time {a b : Nat → Nat} {g : Nat → ClassId} {o : Nat} {L : LD} {att T : Nat} {hs tm : Nat → Int} {tk : Nat → Nat → Int} {lt : Nat → Int} {f0 : Nat → Int64} {hm : Nat → Int} {tn : Nat → Nat} {pl : Nat → Bool} (hJ : JJ L T tm tk hm tn) {i : Int} {r r2 : Int32} {w1 w2 : va_W} (h1 : wpost (fun r w1 => ((0 ≤ i ∧ i < (Ln L : Int)) ∧ 0 < T) ∧ r = iI (tm i.toNat) ∧ w1 = wX a g L att T hs tm tk lt) (fun E w9 => w9 = wX a g L att T hs tm tk lt ∧ ((E = nIX ∧ ¬ (0 ≤ i ∧ i < (Ln L : Int))) ∨ (E = nIS ∧ (0 ≤ i ∧ i < (Ln L : Int)) ∧ T = 0))) g o f0 (fun r0 => r0.toInt64) [(nIX, 1), (nIS, 2)] r w1) (h2 : (fun r w1 => ((¬ (0 ≤ i ∧ i < (Ln L : Int))) ∧ w1 = wM b g 1 L att T hm tn pl (fun _ => 0)) ∨ (((0 ≤ i ∧ i < (Ln L : Int)) ∧ T = 0) ∧ w1 = wM b g 2 L att T hm tn pl (fun _ => 0)) ∨ (((0 ≤ i ∧ i < (Ln L : Int)) ∧ 0 < T) ∧ r = iI (((tn i.toNat : Nat) : Int)) ∧ w1 = wM b g 0 L att T hm tn pl (fun _ => 0))) r2 w2) : AG (fun r0 => r0.toInt64) a b g o r r2 w1 w2 := by
  rcases h1 with ⟨r0, u1, f1, ⟨hc, rfl, rfl⟩, rfl, hf, rfl⟩ | ⟨E, u1, n, hm9, ⟨rfl, hx⟩, rfl, rfl⟩
  · rcases h2 with ⟨c9, rfl⟩ | ⟨c9, rfl⟩ | ⟨c9, rfl, rfl⟩
    · exact (show False by omega).elim
    · exact (show False by omega).elim
    · exact ag_ok hJ hf (JJ_r hJ (by omega) _ (by omega))
  · rcases mem2 hm9 with ⟨rfl, rfl⟩ | ⟨rfl, rfl⟩
    · rcases hx with ⟨e9, x9⟩ | ⟨e9, x9⟩
      · rcases h2 with ⟨c9, rfl⟩ | ⟨c9, rfl⟩ | ⟨c9, rfl, rfl⟩
        · exact ag_no hJ (by decide) _
        · exact (show False by omega).elim
        · exact (show False by omega).elim
      · exact absurd e9 (by decide)
    · rcases hx with ⟨e9, x9⟩ | ⟨e9, x9⟩
      · exact absurd e9 (by decide)
      · rcases h2 with ⟨c9, rfl⟩ | ⟨c9, rfl⟩ | ⟨c9, rfl, rfl⟩
        · exact (show False by omega).elim
        · exact ag_no hJ (by decide) _
        · exact (show False by omega).elim
set_option maxHeartbeats 2000000 in
theorem ag_stages {a b : Nat → Nat} {g : Nat → ClassId} {o : Nat} {L : LD} {att T : Nat} {hs tm : Nat → Int} {tk : Nat → Nat → Int} {lt : Nat → Int} {f0 : Nat → Int64} {hm : Nat → Int} {tn : Nat → Nat} {pl : Nat → Bool} (hJ : JJ L T tm tk hm tn) {r r2 : Int32} {w1 w2 : va_W} (h1 : wpost (fun r w1 => (0 < T) ∧ r = iI (sG L T tm) ∧ w1 = wX a g L att T hs tm tk lt) (fun E w9 => w9 = wX a g L att T hs tm tk lt ∧ ((E = nIS ∧ ¬ (0 < T)))) g o f0 (fun r0 => r0.toInt64) [(nIS, 1)] r w1) (h2 : (fun r w1 => ((T = 0) ∧ w1 = wM b g 1 L att T hm tn pl (fun _ => 0)) ∨ ((0 < T) ∧ r = iI (sG L T (nZ tn)) ∧ w1 = wM b g 0 L att T hm tn pl (fun _ => 0))) r2 w2) : AG (fun r0 => r0.toInt64) a b g o r r2 w1 w2 := by
  rcases h1 with ⟨r0, u1, f1, ⟨hc, rfl, rfl⟩, rfl, hf, rfl⟩ | ⟨E, u1, n, hm9, ⟨rfl, hx⟩, rfl, rfl⟩
  · rcases h2 with ⟨c9, rfl⟩ | ⟨c9, rfl, rfl⟩
    · exact (show False by omega).elim
    · exact ag_ok hJ hf (sG_cg (JJ_r hJ (by omega)))
  · obtain ⟨rfl, rfl⟩ := mem1 hm9
    obtain ⟨e9, x9⟩ := hx
    rcases h2 with ⟨c9, rfl⟩ | ⟨c9, rfl, rfl⟩
    · exact ag_no hJ (by decide) _
    · exact (show False by omega).elim
set_option maxHeartbeats 2000000 in
theorem ag_taken {a b : Nat → Nat} {g : Nat → ClassId} {o : Nat} {L : LD} {att T : Nat} {hs tm : Nat → Int} {tk : Nat → Nat → Int} {lt : Nat → Int} {f0 : Nat → Int64} {hm : Nat → Int} {tn : Nat → Nat} {pl : Nat → Bool} (hJ : JJ L T tm tk hm tn) {i k : Int} {r r2 : Int32} {w1 w2 : va_W} (h1 : wpost (fun r w1 => ((0 ≤ k ∧ k ≤ 2) ∧ 0 < T ∧ (0 ≤ i ∧ i < (T : Int))) ∧ r = iI (tk k.toNat i.toNat) ∧ w1 = wX a g L att T hs tm tk lt) (fun E w9 => w9 = wX a g L att T hs tm tk lt ∧ ((E = nIX ∧ ¬ (0 ≤ k ∧ k ≤ 2)) ∨ (E = nIS ∧ (0 ≤ k ∧ k ≤ 2) ∧ T = 0) ∨ (E = nIA ∧ (0 ≤ k ∧ k ≤ 2) ∧ 0 < T ∧ ¬ (0 ≤ i ∧ i < (T : Int))))) g o f0 (fun r0 => r0.toInt64) [(nIX, 1), (nIS, 2), (nIA, 3)] r w1) (h2 : (fun r w1 => (¬ (0 ≤ k ∧ k ≤ 2) ∧ w1 = wM b g 1 L att T hm tn pl (fun _ => 0)) ∨ ((0 ≤ k ∧ k ≤ 2) ∧ T = 0 ∧ w1 = wM b g 2 L att T hm tn pl (fun _ => 0)) ∨ ((0 ≤ k ∧ k ≤ 2) ∧ 0 < T ∧ ¬ (0 ≤ i ∧ i < (T : Int)) ∧ w1 = wM b g 3 L att T hm tn pl (fun _ => 0)) ∨ (((0 ≤ k ∧ k ≤ 2) ∧ 0 < T ∧ (0 ≤ i ∧ i < (T : Int))) ∧ r = iI ((hqA L T tn (fun _ => true) (200 * k.toNat + i.toNat) (Ln L) : Nat) : Int) ∧ ∃ pl', w1 = wM b g 0 L att T hm tn pl' (fun _ => 0))) r2 w2) : AG (fun r0 => r0.toInt64) a b g o r r2 w1 w2 := by
  rcases h1 with ⟨r0, u1, f1, ⟨hc, rfl, rfl⟩, rfl, hf, rfl⟩ | ⟨E, u1, n, hm9, ⟨rfl, hx⟩, rfl, rfl⟩
  · rcases h2 with ⟨c9, rfl⟩ | ⟨c9, d9, rfl⟩ | ⟨c9, d9, d8, rfl⟩ | ⟨c9, rfl, pl9, rfl⟩
    · exact (show False by omega).elim
    · exact (show False by omega).elim
    · exact (show False by omega).elim
    · exact ag_ok hJ hf ((hJ.2.2.2.2 (by omega)).1.2.2.1.1 _ _ (by omega) (by omega))
  · rcases mem3 hm9 with ⟨rfl, rfl⟩ | ⟨rfl, rfl⟩ | ⟨rfl, rfl⟩
    · rcases hx with ⟨e9, x9⟩ | ⟨e9, x9⟩ | ⟨e9, x9⟩
      · rcases h2 with ⟨c9, rfl⟩ | ⟨c9, d9, rfl⟩ | ⟨c9, d9, d8, rfl⟩ | ⟨c9, rfl, pl9, rfl⟩
        · exact ag_no hJ (by decide) _
        · exact (show False by omega).elim
        · exact (show False by omega).elim
        · exact (show False by omega).elim
      · exact absurd e9 (by decide)
      · exact absurd e9 (by decide)
    · rcases hx with ⟨e9, x9⟩ | ⟨e9, x9⟩ | ⟨e9, x9⟩
      · exact absurd e9 (by decide)
      · rcases h2 with ⟨c9, rfl⟩ | ⟨c9, d9, rfl⟩ | ⟨c9, d9, d8, rfl⟩ | ⟨c9, rfl, pl9, rfl⟩
        · exact (show False by omega).elim
        · exact ag_no hJ (by decide) _
        · exact (show False by omega).elim
        · exact (show False by omega).elim
      · exact absurd e9 (by decide)
    · rcases hx with ⟨e9, x9⟩ | ⟨e9, x9⟩ | ⟨e9, x9⟩
      · exact absurd e9 (by decide)
      · exact absurd e9 (by decide)
      · rcases h2 with ⟨c9, rfl⟩ | ⟨c9, d9, rfl⟩ | ⟨c9, d9, d8, rfl⟩ | ⟨c9, rfl, pl9, rfl⟩
        · exact (show False by omega).elim
        · exact (show False by omega).elim
        · exact ag_no hJ (by decide) _
        · exact (show False by omega).elim
set_option maxHeartbeats 2000000 in
theorem ag_lifetime {a b : Nat → Nat} {g : Nat → ClassId} {o : Nat} {L : LD} {att T : Nat} {hs tm : Nat → Int} {tk : Nat → Nat → Int} {lt : Nat → Int} {f0 : Nat → Int64} {hm : Nat → Int} {tn : Nat → Nat} {pl : Nat → Bool} (hJ : JJ L T tm tk hm tn) {i : Int} {r r2 : Int32} {w1 w2 : va_W} (h1 : wpost (fun r w1 => ((0 ≤ i ∧ i < (Ln L : Int)) ∧ 0 < T) ∧ r = iI (fLt L T tm (Lm L) i.toNat) ∧ w1 = wX a g L att T hs tm tk (fLt L T tm (Lm L))) (fun E w9 => w9 = wX a g L att T hs tm tk lt ∧ ((E = nIX ∧ ¬ (0 ≤ i ∧ i < (Ln L : Int))) ∨ (E = nIS ∧ (0 ≤ i ∧ i < (Ln L : Int)) ∧ T = 0))) g o f0 (fun r0 => r0.toInt64) [(nIX, 1), (nIS, 2)] r w1) (h2 : (fun r w1 => ((¬ (0 ≤ i ∧ i < (Ln L : Int))) ∧ w1 = wM b g 1 L att T hm tn pl (fun _ => 0)) ∨ (((0 ≤ i ∧ i < (Ln L : Int)) ∧ T = 0) ∧ w1 = wM b g 2 L att T hm tn pl (fun _ => 0)) ∨ (((0 ≤ i ∧ i < (Ln L : Int)) ∧ 0 < T) ∧ r = iI (lf L T (nZ tn) i.toNat) ∧ w1 = wM b g 0 L att T hm tn pl (fun _ => 0))) r2 w2) : AG (fun r0 => r0.toInt64) a b g o r r2 w1 w2 := by
  rcases h1 with ⟨r0, u1, f1, ⟨hc, rfl, rfl⟩, rfl, hf, rfl⟩ | ⟨E, u1, n, hm9, ⟨rfl, hx⟩, rfl, rfl⟩
  · rcases h2 with ⟨c9, rfl⟩ | ⟨c9, rfl⟩ | ⟨c9, rfl, rfl⟩
    · exact (show False by omega).elim
    · exact (show False by omega).elim
    · exact ag_ok hJ hf (fLt_eq hJ.1 (JJ_r hJ (by omega)) (by omega))
  · rcases mem2 hm9 with ⟨rfl, rfl⟩ | ⟨rfl, rfl⟩
    · rcases hx with ⟨e9, x9⟩ | ⟨e9, x9⟩
      · rcases h2 with ⟨c9, rfl⟩ | ⟨c9, rfl⟩ | ⟨c9, rfl, rfl⟩
        · exact ag_no hJ (by decide) _
        · exact (show False by omega).elim
        · exact (show False by omega).elim
      · exact absurd e9 (by decide)
    · rcases hx with ⟨e9, x9⟩ | ⟨e9, x9⟩
      · exact absurd e9 (by decide)
      · rcases h2 with ⟨c9, rfl⟩ | ⟨c9, rfl⟩ | ⟨c9, rfl, rfl⟩
        · exact (show False by omega).elim
        · exact ag_no hJ (by decide) _
        · exact (show False by omega).elim
set_option maxHeartbeats 2000000 in
theorem ag_live {a b : Nat → Nat} {g : Nat → ClassId} {o : Nat} {L : LD} {att T : Nat} {hs tm : Nat → Int} {tk : Nat → Nat → Int} {lt : Nat → Int} {f0 : Nat → Int64} {hm : Nat → Int} {tn : Nat → Nat} {pl : Nat → Bool} (hJ : JJ L T tm tk hm tn) {i : Int} {r r2 : Int32} {w1 w2 : va_W} (h1 : wpost (fun r w1 => (0 < T ∧ (0 ≤ i ∧ i < (T : Int))) ∧ r = iI (cL T tm (fLt L T tm (Lm L)) ((i.toNat : Nat) : Int) (Ln L)) ∧ w1 = wX a g L att T hs tm tk (fLt L T tm (Lm L))) (fun E w9 => w9 = wX a g L att T hs tm tk lt ∧ ((E = nIS ∧ ¬ (0 < T)) ∨ (E = nIA ∧ 0 < T ∧ ¬ (0 ≤ i ∧ i < (T : Int))))) g o f0 (fun r0 => r0.toInt64) [(nIS, 1), (nIA, 2)] r w1) (h2 : (fun r w1 => ((T = 0) ∧ w1 = wM b g 1 L att T hm tn pl (fun _ => 0)) ∨ ((0 < T ∧ ¬ (0 ≤ i ∧ i < (T : Int))) ∧ w1 = wM b g 2 L att T hm tn pl (fun _ => 0)) ∨ ((0 < T ∧ (0 ≤ i ∧ i < (T : Int))) ∧ r = iI (((lrM L T tn i.toNat (Ln L) : Nat) : Int)) ∧ w1 = wM b g 0 L att T hm tn pl (fun _ => 0))) r2 w2) : AG (fun r0 => r0.toInt64) a b g o r r2 w1 w2 := by
  rcases h1 with ⟨r0, u1, f1, ⟨hc, rfl, rfl⟩, rfl, hf, rfl⟩ | ⟨E, u1, n, hm9, ⟨rfl, hx⟩, rfl, rfl⟩
  · rcases h2 with ⟨c9, rfl⟩ | ⟨c9, rfl⟩ | ⟨c9, rfl, rfl⟩
    · exact (show False by omega).elim
    · exact (show False by omega).elim
    · exact ag_ok hJ hf (cL_eq (by omega) (by omega) (Ln L) (JJ_r hJ (by omega)) (fun j hj => fLt_eq hJ.1 (JJ_r hJ (by omega)) hj))
  · rcases mem2 hm9 with ⟨rfl, rfl⟩ | ⟨rfl, rfl⟩
    · rcases hx with ⟨e9, x9⟩ | ⟨e9, x9⟩
      · rcases h2 with ⟨c9, rfl⟩ | ⟨c9, rfl⟩ | ⟨c9, rfl, rfl⟩
        · exact ag_no hJ (by decide) _
        · exact (show False by omega).elim
        · exact (show False by omega).elim
      · exact absurd e9 (by decide)
    · rcases hx with ⟨e9, x9⟩ | ⟨e9, x9⟩
      · exact absurd e9 (by decide)
      · rcases h2 with ⟨c9, rfl⟩ | ⟨c9, rfl⟩ | ⟨c9, rfl, rfl⟩
        · exact (show False by omega).elim
        · exact ag_no hJ (by decide) _
        · exact (show False by omega).elim
set_option maxHeartbeats 2000000 in
theorem ag_registers {a b : Nat → Nat} {g : Nat → ClassId} {o : Nat} {L : LD} {att T : Nat} {hs tm : Nat → Int} {tk : Nat → Nat → Int} {lt : Nat → Int} {f0 : Nat → Int64} {hm : Nat → Int} {tn : Nat → Nat} {pl : Nat → Bool} (hJ : JJ L T tm tk hm tn) {r r2 : Int32} {w1 w2 : va_W} (h1 : wpost (fun r w1 => (0 < T) ∧ r = iI (rg (fun r => cL T tm (fLt L T tm (Lm L)) ((r : Nat) : Int) (Ln L)) T) ∧ w1 = wX a g L att T hs tm tk (fLt L T tm (Lm L))) (fun E w9 => w9 = wX a g L att T hs tm tk lt ∧ ((E = nIS ∧ ¬ (0 < T)))) g o f0 (fun r0 => r0.toInt64) [(nIS, 1)] r w1) (h2 : (fun r w1 => ((T = 0) ∧ w1 = wM b g 1 L att T hm tn pl (fun _ => 0)) ∨ ((0 < T) ∧ r = iI (rg (fun r => ((lrM L T tn r (Ln L) : Nat) : Int)) T) ∧ w1 = wM b g 0 L att T hm tn pl (fun _ => 0))) r2 w2) : AG (fun r0 => r0.toInt64) a b g o r r2 w1 w2 := by
  rcases h1 with ⟨r0, u1, f1, ⟨hc, rfl, rfl⟩, rfl, hf, rfl⟩ | ⟨E, u1, n, hm9, ⟨rfl, hx⟩, rfl, rfl⟩
  · rcases h2 with ⟨c9, rfl⟩ | ⟨c9, rfl, rfl⟩
    · exact (show False by omega).elim
    · exact ag_ok hJ hf (rg_cg T (fun x hx9 => cL_eq (by omega) hx9 (Ln L) (JJ_r hJ (by omega)) (fun j hj => fLt_eq hJ.1 (JJ_r hJ (by omega)) hj)))
  · obtain ⟨rfl, rfl⟩ := mem1 hm9
    obtain ⟨e9, x9⟩ := hx
    rcases h2 with ⟨c9, rfl⟩ | ⟨c9, rfl, rfl⟩
    · exact ag_no hJ (by decide) _
    · exact (show False by omega).elim
set_option maxHeartbeats 2000000 in
theorem ag_copies {a b : Nat → Nat} {g : Nat → ClassId} {o : Nat} {L : LD} {att T : Nat} {hs tm : Nat → Int} {tk : Nat → Nat → Int} {lt : Nat → Int} {f0 : Nat → Int64} {hm : Nat → Int} {tn : Nat → Nat} {pl : Nat → Bool} (hJ : JJ L T tm tk hm tn) {i : Int} {r r2 : Int32} {w1 w2 : va_W} (h1 : wpost (fun r w1 => ((0 ≤ i ∧ i < (Ln L : Int)) ∧ 0 < T) ∧ r = iI (cC T (fLt L T tm (Lm L)) i.toNat) ∧ w1 = wX a g L att T hs tm tk (fLt L T tm (Lm L))) (fun E w9 => w9 = wX a g L att T hs tm tk lt ∧ ((E = nIX ∧ ¬ (0 ≤ i ∧ i < (Ln L : Int))) ∨ (E = nIS ∧ (0 ≤ i ∧ i < (Ln L : Int)) ∧ T = 0))) g o f0 (fun r0 => r0.toInt64) [(nIX, 1), (nIS, 2)] r w1) (h2 : (fun r w1 => ((¬ (0 ≤ i ∧ i < (Ln L : Int))) ∧ w1 = wM b g 1 L att T hm tn pl (fun _ => 0)) ∨ (((0 ≤ i ∧ i < (Ln L : Int)) ∧ T = 0) ∧ w1 = wM b g 2 L att T hm tn pl (fun _ => 0)) ∨ (((0 ≤ i ∧ i < (Ln L : Int)) ∧ 0 < T) ∧ r = iI (cC T (lf L T (nZ tn)) i.toNat) ∧ w1 = wM b g 0 L att T hm tn pl (fun _ => 0))) r2 w2) : AG (fun r0 => r0.toInt64) a b g o r r2 w1 w2 := by
  rcases h1 with ⟨r0, u1, f1, ⟨hc, rfl, rfl⟩, rfl, hf, rfl⟩ | ⟨E, u1, n, hm9, ⟨rfl, hx⟩, rfl, rfl⟩
  · rcases h2 with ⟨c9, rfl⟩ | ⟨c9, rfl⟩ | ⟨c9, rfl, rfl⟩
    · exact (show False by omega).elim
    · exact (show False by omega).elim
    · exact ag_ok hJ hf (cC_cg (fLt_eq hJ.1 (JJ_r hJ (by omega)) (by omega)))
  · rcases mem2 hm9 with ⟨rfl, rfl⟩ | ⟨rfl, rfl⟩
    · rcases hx with ⟨e9, x9⟩ | ⟨e9, x9⟩
      · rcases h2 with ⟨c9, rfl⟩ | ⟨c9, rfl⟩ | ⟨c9, rfl, rfl⟩
        · exact ag_no hJ (by decide) _
        · exact (show False by omega).elim
        · exact (show False by omega).elim
      · exact absurd e9 (by decide)
    · rcases hx with ⟨e9, x9⟩ | ⟨e9, x9⟩
      · exact absurd e9 (by decide)
      · rcases h2 with ⟨c9, rfl⟩ | ⟨c9, rfl⟩ | ⟨c9, rfl, rfl⟩
        · exact (show False by omega).elim
        · exact ag_no hJ (by decide) _
        · exact (show False by omega).elim
set_option maxHeartbeats 2000000 in
theorem ag_cycles {a b : Nat → Nat} {g : Nat → ClassId} {o : Nat} {L : LD} {att T : Nat} {hs tm : Nat → Int} {tk : Nat → Nat → Int} {lt : Nat → Int} {f0 : Nat → Int64} {hm : Nat → Int} {tn : Nat → Nat} {pl : Nat → Bool} (hJ : JJ L T tm tk hm tn) {i : Int} {r r2 : Int32} {w1 w2 : va_W} (h1 : wpost (fun r w1 => (0 < T ∧ (1 ≤ i ∧ i ≤ 1000)) ∧ r = iI (if Ln L = 0 then 0 else gT tm (Ln L) + (i - 1) * (T : Int) + 1) ∧ w1 = wX a g L att T hs tm tk lt) (fun E w9 => w9 = wX a g L att T hs tm tk lt ∧ ((E = nIS ∧ ¬ (0 < T)) ∨ (E = nIA ∧ 0 < T ∧ ¬ (1 ≤ i ∧ i ≤ 1000)))) g o f0 (fun r0 => r0.toInt64) [(nIS, 1), (nIA, 2)] r w1) (h2 : (fun r w1 => ((T = 0) ∧ w1 = wM b g 1 L att T hm tn pl (fun _ => 0)) ∨ ((0 < T ∧ ¬ (1 ≤ i ∧ i ≤ 1000)) ∧ w1 = wM b g 2 L att T hm tn pl (fun _ => 0)) ∨ ((0 < T ∧ (1 ≤ i ∧ i ≤ 1000)) ∧ r = iI (if Ln L = 0 then 0 else gT (nZ tn) (Ln L) + (i - 1) * (T : Int) + 1) ∧ w1 = wM b g 0 L att T hm tn pl (fun _ => 0))) r2 w2) : AG (fun r0 => r0.toInt64) a b g o r r2 w1 w2 := by
  rcases h1 with ⟨r0, u1, f1, ⟨hc, rfl, rfl⟩, rfl, hf, rfl⟩ | ⟨E, u1, n, hm9, ⟨rfl, hx⟩, rfl, rfl⟩
  · rcases h2 with ⟨c9, rfl⟩ | ⟨c9, rfl⟩ | ⟨c9, rfl, rfl⟩
    · exact (show False by omega).elim
    · exact (show False by omega).elim
    · exact ag_ok hJ hf (by rw [gT_cg (Ln L) (JJ_r hJ (by omega))])
  · rcases mem2 hm9 with ⟨rfl, rfl⟩ | ⟨rfl, rfl⟩
    · rcases hx with ⟨e9, x9⟩ | ⟨e9, x9⟩
      · rcases h2 with ⟨c9, rfl⟩ | ⟨c9, rfl⟩ | ⟨c9, rfl, rfl⟩
        · exact ag_no hJ (by decide) _
        · exact (show False by omega).elim
        · exact (show False by omega).elim
      · exact absurd e9 (by decide)
    · rcases hx with ⟨e9, x9⟩ | ⟨e9, x9⟩
      · exact absurd e9 (by decide)
      · rcases h2 with ⟨c9, rfl⟩ | ⟨c9, rfl⟩ | ⟨c9, rfl, rfl⟩
        · exact (show False by omega).elim
        · exact ag_no hJ (by decide) _
        · exact (show False by omega).elim
set_option maxHeartbeats 2000000 in
theorem ag_issued {a b : Nat → Nat} {g : Nat → ClassId} {o : Nat} {L : LD} {att T : Nat} {hs tm : Nat → Int} {tk : Nat → Nat → Int} {lt : Nat → Int} {f0 : Nat → Int64} {hm : Nat → Int} {tn : Nat → Nat} {pl : Nat → Bool} (hJ : JJ L T tm tk hm tn) {i u : Int} {r r2 : Int32} {w1 w2 : va_W} (h1 : wpost (fun r w1 => (0 < T ∧ (1 ≤ i ∧ i ≤ 1000) ∧ 0 ≤ u) ∧ r = iI ((isn T tm i.toNat u.toNat (Ln L) : Nat) : Int) ∧ w1 = wX a g L att T hs tm tk lt) (fun E w9 => w9 = wX a g L att T hs tm tk lt ∧ ((E = nIS ∧ ¬ (0 < T)) ∨ (E = nIA ∧ 0 < T ∧ ¬ ((1 ≤ i ∧ i ≤ 1000) ∧ 0 ≤ u)))) g o f0 (fun r0 => r0.toInt64) [(nIS, 1), (nIA, 2)] r w1) (h2 : (fun r w1 => ((T = 0) ∧ w1 = wM b g 1 L att T hm tn pl (fun _ => 0)) ∨ ((0 < T ∧ ¬ ((1 ≤ i ∧ i ≤ 1000) ∧ 0 ≤ u)) ∧ w1 = wM b g 2 L att T hm tn pl (fun _ => 0)) ∨ ((0 < T ∧ ((1 ≤ i ∧ i ≤ 1000) ∧ 0 ≤ u)) ∧ r = iI (((isn T (nZ tn) i.toNat u.toNat (Ln L) : Nat) : Int)) ∧ w1 = wM b g 0 L att T hm tn pl (fun _ => 0))) r2 w2) : AG (fun r0 => r0.toInt64) a b g o r r2 w1 w2 := by
  rcases h1 with ⟨r0, u1, f1, ⟨hc, rfl, rfl⟩, rfl, hf, rfl⟩ | ⟨E, u1, n, hm9, ⟨rfl, hx⟩, rfl, rfl⟩
  · rcases h2 with ⟨c9, rfl⟩ | ⟨c9, rfl⟩ | ⟨c9, rfl, rfl⟩
    · exact (show False by omega).elim
    · exact (show False by omega).elim
    · exact ag_ok hJ hf (by rw [isn_cg (Ln L) (JJ_r hJ (by omega))])
  · rcases mem2 hm9 with ⟨rfl, rfl⟩ | ⟨rfl, rfl⟩
    · rcases hx with ⟨e9, x9⟩ | ⟨e9, x9⟩
      · rcases h2 with ⟨c9, rfl⟩ | ⟨c9, rfl⟩ | ⟨c9, rfl, rfl⟩
        · exact ag_no hJ (by decide) _
        · exact (show False by omega).elim
        · exact (show False by omega).elim
      · exact absurd e9 (by decide)
    · rcases hx with ⟨e9, x9⟩ | ⟨e9, x9⟩
      · exact absurd e9 (by decide)
      · rcases h2 with ⟨c9, rfl⟩ | ⟨c9, rfl⟩ | ⟨c9, rfl, rfl⟩
        · exact (show False by omega).elim
        · exact ag_no hJ (by decide) _
        · exact (show False by omega).elim
set_option maxHeartbeats 2000000 in
theorem ag_prologue {a b : Nat → Nat} {g : Nat → ClassId} {o : Nat} {L : LD} {att T : Nat} {hs tm : Nat → Int} {tk : Nat → Nat → Int} {lt : Nat → Int} {f0 : Nat → Int64} {hm : Nat → Int} {tn : Nat → Nat} {pl : Nat → Bool} (hJ : JJ L T tm tk hm tn) {r r2 : Int32} {w1 w2 : va_W} (h1 : wpost (fun r w1 => (0 < T) ∧ r = iI (pro T tm (sG L T tm - 1) (Ln L)) ∧ w1 = wX a g L att T hs tm tk lt) (fun E w9 => w9 = wX a g L att T hs tm tk lt ∧ ((E = nIS ∧ ¬ (0 < T)))) g o f0 (fun r0 => r0.toInt64) [(nIS, 1)] r w1) (h2 : (fun r w1 => (T = 0 ∧ w1 = wM b g 1 L att T hm tn pl (fun _ => 0)) ∨ (0 < T ∧ r = iI ((sumI (fun c => isn T (nZ tn) 1000 c (Ln L)) ((sG L T (nZ tn) - 1) * (T : Int)).toNat : Nat) : Int) ∧ w1 = wM b g 0 L att T hm tn pl (fun _ => 0))) r2 w2) : AG (fun r0 => r0.toInt64) a b g o r r2 w1 w2 := by
  rcases h1 with ⟨r0, u1, f1, ⟨hc, rfl, rfl⟩, rfl, hf, rfl⟩ | ⟨E, u1, n, hm9, ⟨rfl, hx⟩, rfl, rfl⟩
  · rcases h2 with ⟨c9, rfl⟩ | ⟨c9, rfl, rfl⟩
    · exact (show False by omega).elim
    · exact ag_ok hJ hf (pro_ag (by omega) (JJ_r hJ (by omega)) (fun j hj => (JJ_b hJ (by omega) j hj).2))
  · obtain ⟨rfl, rfl⟩ := mem1 hm9
    obtain ⟨e9, x9⟩ := hx
    rcases h2 with ⟨c9, rfl⟩ | ⟨c9, rfl, rfl⟩
    · exact ag_no hJ (by decide) _
    · exact (show False by omega).elim
set_option maxHeartbeats 2000000 in
theorem ag_epilogue {a b : Nat → Nat} {g : Nat → ClassId} {o : Nat} {L : LD} {att T : Nat} {hs tm : Nat → Int} {tk : Nat → Nat → Int} {lt : Nat → Int} {f0 : Nat → Int64} {hm : Nat → Int} {tn : Nat → Nat} {pl : Nat → Bool} (hJ : JJ L T tm tk hm tn) {r r2 : Int32} {w1 w2 : va_W} (h1 : wpost (fun r w1 => (0 < T) ∧ r = iI (epi T tm (Ln L)) ∧ w1 = wX a g L att T hs tm tk lt) (fun E w9 => w9 = wX a g L att T hs tm tk lt ∧ ((E = nIS ∧ ¬ (0 < T)))) g o f0 (fun r0 => r0.toInt64) [(nIS, 1)] r w1) (h2 : (fun r w1 => (T = 0 ∧ w1 = wM b g 1 L att T hm tn pl (fun _ => 0)) ∨ (0 < T ∧ r = iI ((sumI (fun c => isn T (nZ tn) (max (sG L T (nZ tn)) 1).toNat ((sG L T (nZ tn) * (T : Int)).toNat + c) (Ln L)) ((gT (nZ tn) (Ln L)).toNat + 1) : Nat) : Int) ∧ w1 = wM b g 0 L att T hm tn pl (fun _ => 0))) r2 w2) : AG (fun r0 => r0.toInt64) a b g o r r2 w1 w2 := by
  rcases h1 with ⟨r0, u1, f1, ⟨hc, rfl, rfl⟩, rfl, hf, rfl⟩ | ⟨E, u1, n, hm9, ⟨rfl, hx⟩, rfl, rfl⟩
  · rcases h2 with ⟨c9, rfl⟩ | ⟨c9, rfl, rfl⟩
    · exact (show False by omega).elim
    · exact ag_ok hJ hf (epi_ag (by omega) (JJ_r hJ (by omega)) (fun j hj => (JJ_b hJ (by omega) j hj).2))
  · obtain ⟨rfl, rfl⟩ := mem1 hm9
    obtain ⟨e9, x9⟩ := hx
    rcases h2 with ⟨c9, rfl⟩ | ⟨c9, rfl, rfl⟩
    · exact ag_no hJ (by decide) _
    · exact (show False by omega).elim

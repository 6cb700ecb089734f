set_option maxHeartbeats 2000000 in
theorem ag_unrolling {a b : Nat → Nat} {g : Nat → ClassId} {o : Nat} {L : LD} {att T : Nat} {hs tm : Nat → Int} {tk : Nat → Nat → Int} {lt : Nat → Int} {f0 : Nat → Int64} {hm : Nat → Int} {tn : Nat → Nat} {pl : Nat → Bool} (hJ : JJ L T tm tk hm tn) {r r2 : Int32} {w1 w2 : va_W} (h1 : wpost (fun r w1 => (0 < T) ∧ (((∀ j, j ≤ Ln L → unM (cN T (fLt L T tm (Lm L))) j ≤ 1000000) ∧ r = iI ((unM (cN T (fLt L T tm (Lm L))) (Ln L) : Nat) : Int)) ∨ (∃ x, x < Ln L ∧ (∀ j, j ≤ x → unM (cN T (fLt L T tm (Lm L))) j ≤ 1000000) ∧ 1000000 < unM (cN T (fLt L T tm (Lm L))) (x + 1) ∧ r = iI 1000000)) ∧ w1 = wX a g L att T hs tm tk (fLt L T tm (Lm L))) (fun E w9 => w9 = wX a g L att T hs tm tk lt ∧ ((E = nIS ∧ ¬ (0 < T)))) g o f0 (fun r0 => r0.toInt64) [(nIS, 1)] r w1) (h2 : (fun r w1 => (T = 0 ∧ w1 = wM b g 1 L att T hm tn pl (fun _ => 0)) ∨ ((0 < T) ∧ (((∀ j, j ≤ Ln L → unM (cN T (lf L T (nZ tn))) j ≤ 1000000) ∧ r = iI ((unM (cN T (lf L T (nZ tn))) (Ln L) : Nat) : Int)) ∨ (∃ x, x < Ln L ∧ (∀ j, j ≤ x → unM (cN T (lf L T (nZ tn))) j ≤ 1000000) ∧ 1000000 < unM (cN T (lf L T (nZ tn))) (x + 1) ∧ r = iI 1000000)) ∧ w1 = wM b g 0 L att T hm tn pl (fun _ => 0))) r2 w2) : AG (fun r0 => r0.toInt64) a b g o r r2 w1 w2 := by
  rcases h1 with ⟨r0, u1, f1, ⟨hc, hv, rfl⟩, rfl, hf, rfl⟩ | ⟨E, u1, n, hm9, ⟨rfl, hx⟩, rfl, rfl⟩
  · rcases h2 with ⟨c9, rfl⟩ | ⟨c9, hv2, rfl⟩
    · exact (show False by omega).elim
    · have e9 : r0 = r2 := unV_eq (f := cN T (fLt L T tm (Lm L))) (g := cN T (lf L T (nZ tn))) (n := Ln L) (fun j hj => cN_cg (fLt_eq hJ.1 (JJ_r hJ c9) hj)) hv hv2
      subst e9
      exact ⟨0, L, att, T, hs, tm, tk, _, f1, hm, tn, pl, rfl, rfl, hJ, by decide, by decide, rfl, fun _ => hf⟩
  · obtain ⟨rfl, rfl⟩ := mem1 hm9
    obtain ⟨e9, x9⟩ := hx
    rcases h2 with ⟨c9, rfl⟩ | ⟨c9, d9, rfl⟩
    · exact ag_no hJ (by decide) _
    · exact (show False by omega).elim
set_option maxHeartbeats 2000000 in
theorem ag_issue {a b : Nat → Nat} {g : Nat → ClassId} {o : Nat} {L : LD} {att T : Nat} {hs tm : Nat → Int} {tk : Nat → Nat → Int} {lt : Nat → Int} {f0 : Nat → Int64} {hm : Nat → Int} {tn : Nat → Nat} {pl : Nat → Bool} (hJ : JJ L T tm tk hm tn) {i u k : Int} {r r2 : Int32} {w1 w2 : va_W} (h1 : wpost (fun r w1 => (0 < T ∧ (1 ≤ i ∧ i ≤ 1000) ∧ 0 ≤ u) ∧ (∃ x, x < Ln L ∧ (iss T tm i.toNat u.toNat x = true ∧ ((cib T tm i.toNat u.toNat (num T tm u.toNat x) (Ln L) : Nat) : Int) = k) ∧ r = iI (num T tm u.toNat x)) ∧ w1 = wX a g L att T hs tm tk lt) (fun E w9 => w9 = wX a g L att T hs tm tk lt ∧ ((E = nIS ∧ ¬ (0 < T)) ∨ (E = nIA ∧ 0 < T ∧ ¬ ((1 ≤ i ∧ i ≤ 1000) ∧ 0 ≤ u)) ∨ (E = nIX ∧ (0 < T ∧ (1 ≤ i ∧ i ≤ 1000) ∧ 0 ≤ u) ∧ ∀ x, x < Ln L → ¬ (iss T tm i.toNat u.toNat x = true ∧ ((cib T tm i.toNat u.toNat (num T tm u.toNat x) (Ln L) : Nat) : Int) = k)))) g o f0 (fun r0 => r0.toInt64) [(nIS, 1), (nIA, 2), (nIX, 3)] r w1) (h2 : (fun r w1 => (T = 0 ∧ w1 = wM b g 1 L att T hm tn pl (fun _ => 0)) ∨ ((0 < T ∧ ¬ ((1 ≤ i ∧ i ≤ 1000) ∧ 0 ≤ u)) ∧ w1 = wM b g 2 L att T hm tn pl (fun _ => 0)) ∨ ((0 < T ∧ ((1 ≤ i ∧ i ≤ 1000) ∧ 0 ≤ u)) ∧ ¬ (0 ≤ k ∧ k < ((isn T (nZ tn) i.toNat u.toNat (Ln L) : Nat) : Int)) ∧ w1 = wM b g 3 L att T hm tn pl (fun _ => 0)) ∨ ((0 < T ∧ ((1 ≤ i ∧ i ≤ 1000) ∧ 0 ≤ u)) ∧ (0 ≤ k ∧ k < ((isn T (nZ tn) i.toNat u.toNat (Ln L) : Nat) : Int)) ∧ (∃ x, x < Ln L ∧ (iss T (nZ tn) i.toNat u.toNat x = true ∧ ((cib T (nZ tn) i.toNat u.toNat (num T (nZ tn) u.toNat x) (Ln L) : Nat) : Int) = k) ∧ r = iI (num T (nZ tn) u.toNat x)) ∧ w1 = wM b g 0 L att T hm tn pl (fun _ => 0))) r2 w2) : AG (fun r0 => r0.toInt64) a b g o r r2 w1 w2 := by
  rcases h1 with ⟨r0, u1, f1, ⟨hc, ⟨x, hx1, ⟨hx2, hx3⟩, rfl⟩, rfl⟩, rfl, hf, rfl⟩ | ⟨E, u1, n, hm9, ⟨rfl, hx⟩, rfl, rfl⟩
  · have hr := JJ_r hJ hc.1
    rw [iss_cg (hr x hx1)] at hx2
    rw [num_cg (hr x hx1), cib_cg (Ln L) hr] at hx3
    rw [num_cg (hr x hx1)] at hf
    rcases h2 with ⟨c9, rfl⟩ | ⟨c9, rfl⟩ | ⟨c9, d9, rfl⟩ | ⟨c9, d9, ⟨y, hy1, ⟨hy2, hy3⟩, rfl⟩, rfl⟩
    · exact (show False by omega).elim
    · exact (show False by omega).elim
    · have h8 := cib_lt (Ln L) hx1 hx2 rfl
      exact (show False by omega).elim
    · exact ag_ok hJ hf (cib_uq hx1 hy1 hx2 hy2 hx3 hy3)
  · rcases mem3 hm9 with ⟨rfl, rfl⟩ | ⟨rfl, rfl⟩ | ⟨rfl, rfl⟩
    · rcases hx with ⟨e9, x9⟩ | ⟨e9, x9⟩ | ⟨e9, x9, hno⟩
      · rcases h2 with ⟨c9, rfl⟩ | ⟨c9, rfl⟩ | ⟨c9, d9, rfl⟩ | ⟨c9, d9, ⟨y, hy1, ⟨hy2, hy3⟩, rfl⟩, rfl⟩
        · exact ag_no hJ (by decide) _
        · exact (show False by omega).elim
        · exact (show False by omega).elim
        · exact (show False by omega).elim
      · exact absurd e9 (by decide)
      · exact absurd e9 (by decide)
    · rcases hx with ⟨e9, x9⟩ | ⟨e9, x9⟩ | ⟨e9, x9, hno⟩
      · exact absurd e9 (by decide)
      · rcases h2 with ⟨c9, rfl⟩ | ⟨c9, rfl⟩ | ⟨c9, d9, rfl⟩ | ⟨c9, d9, ⟨y, hy1, ⟨hy2, hy3⟩, rfl⟩, rfl⟩
        · exact (show False by omega).elim
        · exact ag_no hJ (by decide) _
        · exact (show False by omega).elim
        · exact (show False by omega).elim
      · exact absurd e9 (by decide)
    · rcases hx with ⟨e9, x9⟩ | ⟨e9, x9⟩ | ⟨e9, x9, hno⟩
      · exact absurd e9 (by decide)
      · exact absurd e9 (by decide)
      · rcases h2 with ⟨c9, rfl⟩ | ⟨c9, rfl⟩ | ⟨c9, d9, rfl⟩ | ⟨c9, d9, ⟨y, hy1, ⟨hy2, hy3⟩, rfl⟩, rfl⟩
        · exact (show False by omega).elim
        · exact (show False by omega).elim
        · exact ag_no hJ (by decide) _
        · have hr := JJ_r hJ x9.1
          refine absurd ?_ (hno y hy1)
          rw [iss_cg (hr y hy1), num_cg (hr y hy1), cib_cg (Ln L) hr]
          exact ⟨hy2, hy3⟩
set_option maxHeartbeats 2000000 in
theorem ag_height {a b : Nat → Nat} {g : Nat → ClassId} {o : Nat} {L : LD} {att T : Nat} {hs tm : Nat → Int} {tk : Nat → Nat → Int} {lt : Nat → Int} {f0 : Nat → Int64} {hm : Nat → Int} {tn : Nat → Nat} {pl : Nat → Bool} (hJ : JJ L T tm tk hm tn) {i u : Int} {r r2 : Int32} {w1 w2 : va_W} (h1 : wpost (fun r w1 => ((0 ≤ i ∧ i < (Ln L : Int)) ∧ ¬ (rBz L = -1 ∨ u < rBz L ∨ 200 < u)) ∧ r = iI (hF L u.toNat i.toNat) ∧ w1 = wX a g L att T (hF L u.toNat) tm tk lt) (fun E u' => ∃ h', u' = wX a g L att T h' tm tk lt ∧ ((E = nIX ∧ ¬ (0 ≤ i ∧ i < (Ln L : Int))) ∨ (E = nIA ∧ (0 ≤ i ∧ i < (Ln L : Int)) ∧ (rBz L = -1 ∨ u < rBz L ∨ 200 < u)))) g o f0 (fun r0 => r0.toInt64) [(nIX, 1), (nIA, 2)] r w1) (h2 : (fun r w1 => (¬ (0 ≤ i ∧ i < (Ln L : Int)) ∧ w1 = wM b g 1 L att T hm tn pl (fun _ => 0)) ∨ ((0 ≤ i ∧ i < (Ln L : Int)) ∧ (rLz L = -1 ∨ u < rLz L ∨ 200 < u) ∧ ∃ h', (∀ j, Ln L ≤ j → h' j = 0) ∧ w1 = wM b g 2 L att T h' tn pl (fun _ => 0)) ∨ ((0 ≤ i ∧ i < (Ln L : Int)) ∧ ¬ (rLz L = -1 ∨ u < rLz L ∨ 200 < u) ∧ r = iI (hF L u.toNat i.toNat) ∧ w1 = wM b g 0 L att T (hF L u.toNat) tn pl (fun _ => 0))) r2 w2) : AG (fun r0 => r0.toInt64) a b g o r r2 w1 w2 := by
  have hLB := rLB hJ.1
  rcases h1 with ⟨r0, u1, f1, ⟨hc, rfl, rfl⟩, rfl, hf, rfl⟩ | ⟨E, u1, n, hm9, ⟨h9, rfl, hx⟩, rfl, rfl⟩
  · rcases h2 with ⟨c9, rfl⟩ | ⟨c9, d9, k9, hz9, rfl⟩ | ⟨c9, d9, rfl, rfl⟩
    · exact (show False by omega).elim
    · exact (show False by omega).elim
    · exact ag_ok ⟨hJ.1, hF_z hJ.1 u.toNat, hJ.2.2⟩ hf rfl
  · rcases mem2 hm9 with ⟨rfl, rfl⟩ | ⟨rfl, rfl⟩
    · rcases hx with ⟨e9, x9⟩ | ⟨e9, x9⟩
      · rcases h2 with ⟨c9, rfl⟩ | ⟨c9, d9, k9, hz9, rfl⟩ | ⟨c9, d9, rfl, rfl⟩
        · exact ag_no hJ (by decide) _
        · exact (show False by omega).elim
        · exact (show False by omega).elim
      · exact absurd e9 (by decide)
    · rcases hx with ⟨e9, x9⟩ | ⟨e9, x9⟩
      · exact absurd e9 (by decide)
      · rcases h2 with ⟨c9, rfl⟩ | ⟨c9, d9, k9, hz9, rfl⟩ | ⟨c9, d9, rfl, rfl⟩
        · exact (show False by omega).elim
        · exact ag_no ⟨hJ.1, hz9, hJ.2.2⟩ (by decide) _
        · exact (show False by omega).elim
set_option maxHeartbeats 2000000 in
theorem ag_schedule {a b : Nat → Nat} {g : Nat → ClassId} {o : Nat} {L : LD} {att T : Nat} {hs tm : Nat → Int} {tk : Nat → Nat → Int} {lt : Nat → Int} {f0 : Nat → Int64} {hm : Nat → Int} {tn : Nat → Nat} {pl : Nat → Bool} (hJ : JJ L T tm tk hm tn) {gr : Int} {r r2 : Int32} {w1 w2 : va_W} (h1 : wpost (fun r w1 => (1 ≤ gr ∧ gr ≤ 200) ∧ ∃ hs' tm' tk' att' T', w1 = wX a g L att' T' hs' tm' tk' lt ∧ ((rBz L = -1 ∧ r = iI (-1) ∧ att' = 0 ∧ T' = 0) ∨ (rBz L ≠ -1 ∧ att' = (sch L (lst L) (gr.toNat + 1 - lst L)).2 ∧ (((sch L (lst L) (gr.toNat + 1 - lst L)).1 = none ∧ r = iI (-1) ∧ T' = 0) ∨ ((sch L (lst L) (gr.toNat + 1 - lst L)).1 = some (T', tm', tk') ∧ r = iI (T' : Int)))))) (fun E w9 => w9 = wX a g L att T hs tm tk lt ∧ ((E = nIA ∧ ¬ (1 ≤ gr ∧ gr ≤ 200)))) g o f0 (fun r0 => r0.toInt64) [(nIA, 1)] r w1) (h2 : (fun r w1 => (¬ (1 ≤ gr ∧ gr ≤ 200) ∧ w1 = wM b g 1 L att T hm tn pl (fun _ => 0)) ∨ ((1 ≤ gr ∧ gr ≤ 200) ∧ ∃ hm' tn' pl' att' T', (∀ j, Ln L ≤ j → hm' j = 0) ∧ (∀ j, tn' j ≤ 1000000) ∧ w1 = wM b g 0 L att' T' hm' tn' pl' (fun _ => 0) ∧ ((rBz L = -1 ∧ r = iI (-1) ∧ att' = 0 ∧ T' = 0) ∨ (rBz L ≠ -1 ∧ att' = (sch L (lst L) (gr.toNat + 1 - lst L)).2 ∧ (((sch L (lst L) (gr.toNat + 1 - lst L)).1 = none ∧ r = iI (-1) ∧ T' = 0) ∨ (∃ q, (sch L (lst L) (gr.toNat + 1 - lst L)).1 = some (T', q) ∧ r = iI (T' : Int) ∧ JX L T' q.1 q.2 tn')))))) r2 w2) : AG (fun r0 => r0.toInt64) a b g o r r2 w1 w2 := by
  rcases h1 with ⟨r0, u1, f1, ⟨hc, hs1, tm1, tk1, at1, T1, rfl, hA⟩, rfl, hf, rfl⟩ | ⟨E, u1, n, hm9, ⟨rfl, hx⟩, rfl, rfl⟩
  · rcases h2 with ⟨c9, rfl⟩ | ⟨c9, hs2, tm2, pl2, at2, T2, hz2, ht2, rfl, hB⟩
    · exact (show False by omega).elim
    · rcases hA with ⟨a1, rfl, rfl, rfl⟩ | ⟨a1, rfl, hA⟩
      · rcases hB with ⟨b1, rfl, rfl, rfl⟩ | ⟨b1, rfl, hB⟩
        · exact ag_ok ⟨hJ.1, hz2, ht2, JT_0⟩ hf rfl
        · exact absurd a1 b1
      · rcases hB with ⟨b1, rfl, rfl, rfl⟩ | ⟨b1, rfl, hB⟩
        · exact absurd b1 a1
        · rcases hA with ⟨s1, rfl, rfl⟩ | ⟨s1, rfl⟩
          · rcases hB with ⟨s2, rfl, rfl⟩ | ⟨q, s2, rfl, hX⟩
            · exact ag_ok ⟨hJ.1, hz2, ht2, JT_0⟩ hf rfl
            · rw [s1] at s2; cases s2
          · rcases hB with ⟨s2, rfl, rfl⟩ | ⟨q, s2, rfl, hX⟩
            · rw [s1] at s2; cases s2
            · have s3 := s1
              rw [s2] at s3
              cases s3
              exact ag_ok ⟨hJ.1, hz2, ht2, (JT_sch hJ.1 (v := gr.toNat) (by omega) s1 hX).1⟩ hf rfl
  · obtain ⟨rfl, rfl⟩ := mem1 hm9
    obtain ⟨e9, x9⟩ := hx
    rcases h2 with ⟨c9, rfl⟩ | ⟨c9, d9⟩
    · exact ag_no hJ (by decide) _
    · exact (show False by omega).elim
set_option maxHeartbeats 2000000 in
theorem ag_freedom {a b : Nat → Nat} {g : Nat → ClassId} {o : Nat} {L : LD} {att T : Nat} {hs tm : Nat → Int} {tk : Nat → Nat → Int} {lt : Nat → Int} {f0 : Nat → Int64} {hm : Nat → Int} {tn : Nat → Nat} {pl : Nat → Bool} (hJ : JJ L T tm tk hm tn) {i : Int} {r r2 : Int32} {w1 w2 : va_W} (h1 : wpost (fun r w1 => ((0 ≤ i ∧ i < (Ln L : Int)) ∧ 0 < T) ∧ r = iI (((cP L T (lTm tm i.toNat) (lTk L T tk i.toNat (tm i.toNat).toNat) i.toNat : Nat) : Int)) ∧ w1 = wX a g L att T hs (upZ (lTm tm i.toNat) i.toNat (((tm i.toNat).toNat : Nat) : Int)) (pTk L T (lTk L T tk i.toNat (tm i.toNat).toNat) i.toNat (tm i.toNat).toNat) lt) (fun E w9 => w9 = wX a g L att T hs tm tk lt ∧ ((E = nIX ∧ ¬ (0 ≤ i ∧ i < (Ln L : Int))) ∨ (E = nIS ∧ (0 ≤ i ∧ i < (Ln L : Int)) ∧ T = 0))) g o f0 (fun r0 => r0.toInt64) [(nIX, 1), (nIS, 2)] r w1) (h2 : (fun r w1 => (¬ (0 ≤ i ∧ i < (Ln L : Int)) ∧ w1 = wM b g 1 L att T hm tn pl (fun _ => 0)) ∨ ((0 ≤ i ∧ i < (Ln L : Int)) ∧ T = 0 ∧ w1 = wM b g 2 L att T hm tn pl (fun _ => 0)) ∨ (((0 ≤ i ∧ i < (Ln L : Int)) ∧ 0 < T) ∧ r = iI ((cnt (fun s => vM L T (upN tn i.toNat s)) 0 1001 : Nat) : Int) ∧ ∃ pl', w1 = wM b g 0 L att T hm tn pl' (fun _ => 0))) r2 w2) : AG (fun r0 => r0.toInt64) a b g o r r2 w1 w2 := by
  rcases h1 with ⟨r0, u1, f1, ⟨hc, hr0, hw1⟩, rfl, hf, rfl⟩ | ⟨E, u1, n, hm9, ⟨rfl, hx⟩, rfl, rfl⟩
  · rcases h2 with ⟨c9, rfl⟩ | ⟨c9, d9, rfl⟩ | ⟨c9, rfl, pl9, rfl⟩
    · exact (show False by omega).elim
    · exact (show False by omega).elim
    · have h0 : 0 < T := hc.2
      have hi : i.toNat < Ln L := by omega
      have ht : 0 < T ∧ T ≤ 200 := ⟨h0, hJ.2.2.2.1⟩
      have hX := (hJ.2.2.2.2 h0).1
      have e0 : (tm i.toNat).toNat = tn i.toNat := by rw [(hX.1 _ hi).1]; rfl
      rw [e0, cP_eq hJ.1 ht hX hi] at hr0
      rw [e0] at hw1
      subst hr0
      subst hw1
      have hv := vM_self ht hX
      have hm8 := JT_mv hJ.1 h0 hJ.2.2.2 hi (hX.1 _ hi).2 (by rw [upN_self]; exact hv)
      rw [upN_self] at hm8
      exact ag_ok ⟨hJ.1, hJ.2.1, hJ.2.2.1, hm8⟩ hf rfl
  · rcases mem2 hm9 with ⟨rfl, rfl⟩ | ⟨rfl, rfl⟩
    · rcases hx with ⟨e9, x9⟩ | ⟨e9, x9⟩
      · rcases h2 with ⟨c9, rfl⟩ | ⟨c9, d9, rfl⟩ | ⟨c9, rfl, pl9, rfl⟩
        · exact ag_no hJ (by decide) _
        · exact (show False by omega).elim
        · exact (show False by omega).elim
      · exact absurd e9 (by decide)
    · rcases hx with ⟨e9, x9⟩ | ⟨e9, x9⟩
      · exact absurd e9 (by decide)
      · rcases h2 with ⟨c9, rfl⟩ | ⟨c9, d9, rfl⟩ | ⟨c9, rfl, pl9, rfl⟩
        · exact (show False by omega).elim
        · exact ag_no hJ (by decide) _
        · exact (show False by omega).elim
set_option maxHeartbeats 2000000 in
theorem ag_move {a b : Nat → Nat} {g : Nat → ClassId} {o : Nat} {L : LD} {att T : Nat} {hs tm : Nat → Int} {tk : Nat → Nat → Int} {lt : Nat → Int} {f0 : Nat → Int64} {hm : Nat → Int} {tn : Nat → Nat} {pl : Nat → Bool} (hJ : JJ L T tm tk hm tn) {i u : Int} {r r2 : Int32} {w1 w2 : va_W} (h1 : wpost (fun r w1 => ((0 ≤ i ∧ i < (Ln L : Int)) ∧ (0 ≤ u ∧ u ≤ 1000) ∧ 0 < T) ∧ r = iI (bI (vR L T (lTm tm i.toNat) (lTk L T tk i.toNat (tm i.toNat).toNat) i.toNat u.toNat)) ∧ w1 = wX a g L att T hs (upZ (lTm tm i.toNat) i.toNat ((rT L T tm tk i.toNat u.toNat (tm i.toNat).toNat : Nat) : Int)) (pTk L T (lTk L T tk i.toNat (tm i.toNat).toNat) i.toNat (rT L T tm tk i.toNat u.toNat (tm i.toNat).toNat)) lt) (fun E w9 => w9 = wX a g L att T hs tm tk lt ∧ ((E = nIX ∧ ¬ (0 ≤ i ∧ i < (Ln L : Int))) ∨ (E = nIA ∧ (0 ≤ i ∧ i < (Ln L : Int)) ∧ ¬ (0 ≤ u ∧ u ≤ 1000)) ∨ (E = nIS ∧ (0 ≤ i ∧ i < (Ln L : Int)) ∧ (0 ≤ u ∧ u ≤ 1000) ∧ T = 0))) g o f0 (fun r0 => if r0 = 0 then 0 else 1) [(nIX, 1), (nIA, 2), (nIS, 3)] r w1) (h2 : (fun r w1 => (¬ (0 ≤ i ∧ i < (Ln L : Int)) ∧ w1 = wM b g 1 L att T hm tn pl (fun _ => 0)) ∨ ((0 ≤ i ∧ i < (Ln L : Int)) ∧ ¬ (0 ≤ u ∧ u ≤ 1000) ∧ w1 = wM b g 2 L att T hm tn pl (fun _ => 0)) ∨ ((0 ≤ i ∧ i < (Ln L : Int)) ∧ (0 ≤ u ∧ u ≤ 1000) ∧ T = 0 ∧ w1 = wM b g 3 L att T hm tn pl (fun _ => 0)) ∨ (((0 ≤ i ∧ i < (Ln L : Int)) ∧ (0 ≤ u ∧ u ≤ 1000) ∧ 0 < T) ∧ r = iI (bI (vM L T (upN tn i.toNat u.toNat))) ∧ ∃ pl', w1 = wM b g 0 L att T hm (if vM L T (upN tn i.toNat u.toNat) = true then upN tn i.toNat u.toNat else tn) pl' (fun _ => 0))) r2 w2) : AG (fun r0 => if r0 = 0 then 0 else 1) a b g o r r2 w1 w2 := by
  rcases h1 with ⟨r0, u1, f1, ⟨hc, hr0, hw1⟩, rfl, hf, rfl⟩ | ⟨E, u1, n, hm9, ⟨rfl, hx⟩, rfl, rfl⟩
  · rcases h2 with ⟨c9, rfl⟩ | ⟨c9, d9, rfl⟩ | ⟨c9, d9, d8, rfl⟩ | ⟨c9, rfl, pl9, rfl⟩
    · exact (show False by omega).elim
    · exact (show False by omega).elim
    · exact (show False by omega).elim
    · have h0 : 0 < T := hc.2.2
      have hi : i.toNat < Ln L := by omega
      have ht : 0 < T ∧ T ≤ 200 := ⟨h0, hJ.2.2.2.1⟩
      have hX := (hJ.2.2.2.2 h0).1
      have e0 : (tm i.toNat).toNat = tn i.toNat := by rw [(hX.1 _ hi).1]; rfl
      have hvr := vR_vM hJ.1 ht hX hi (x := u.toNat) (by omega)
      rw [e0] at hr0 hw1
      have hrt : rT L T tm tk i.toNat u.toNat (tn i.toNat) = if vM L T (upN tn i.toNat u.toNat) = true then u.toNat else tn i.toNat := by unfold rT; rw [hvr]
      rw [hvr] at hr0
      rw [hrt] at hw1
      subst hr0
      cases hv : vM L T (upN tn i.toNat u.toNat) with
      | true =>
        rw [hv, if_pos rfl] at hw1
        subst hw1
        rw [if_pos rfl]
        have hm8 := JT_mv hJ.1 h0 hJ.2.2.2 hi (x := u.toNat) ⟨by omega, by have : 1000 * 1 ≤ 1000 * T := Nat.mul_le_mul_left _ h0; omega⟩ hv
        refine ag_ok ⟨hJ.1, hJ.2.1, fun j => ?_, hm8⟩ (by rw [hf, hv]) rfl
        by_cases e : j = i.toNat
        · rw [e, upN_s]; omega
        · rw [upN_n _ _ e]; exact hJ.2.2.1 j
      | false =>
        rw [hv, if_neg (by decide)] at hw1
        subst hw1
        rw [if_neg (by decide)]
        have hv2 := vM_self ht hX
        have hm8 := JT_mv hJ.1 h0 hJ.2.2.2 hi (hX.1 _ hi).2 (by rw [upN_self]; exact hv2)
        rw [upN_self] at hm8
        exact ag_ok ⟨hJ.1, hJ.2.1, hJ.2.2.1, hm8⟩ (by rw [hf, hv]) rfl
  · rcases mem3 hm9 with ⟨rfl, rfl⟩ | ⟨rfl, rfl⟩ | ⟨rfl, rfl⟩
    · rcases hx with ⟨e9, x9⟩ | ⟨e9, x9⟩ | ⟨e9, x9⟩
      · rcases h2 with ⟨c9, rfl⟩ | ⟨c9, d9, rfl⟩ | ⟨c9, d9, d8, rfl⟩ | ⟨c9, rfl, pl9, rfl⟩
        · exact ag_no hJ (by decide) _
        · exact (show False by omega).elim
        · exact (show False by omega).elim
        · exact (show False by omega).elim
      · exact absurd e9 (by decide)
      · exact absurd e9 (by decide)
    · rcases hx with ⟨e9, x9⟩ | ⟨e9, x9⟩ | ⟨e9, x9⟩
      · exact absurd e9 (by decide)
      · rcases h2 with ⟨c9, rfl⟩ | ⟨c9, d9, rfl⟩ | ⟨c9, d9, d8, rfl⟩ | ⟨c9, rfl, pl9, rfl⟩
        · exact (show False by omega).elim
        · exact ag_no hJ (by decide) _
        · exact (show False by omega).elim
        · exact (show False by omega).elim
      · exact absurd e9 (by decide)
    · rcases hx with ⟨e9, x9⟩ | ⟨e9, x9⟩ | ⟨e9, x9⟩
      · exact absurd e9 (by decide)
      · exact absurd e9 (by decide)
      · rcases h2 with ⟨c9, rfl⟩ | ⟨c9, d9, rfl⟩ | ⟨c9, d9, d8, rfl⟩ | ⟨c9, rfl, pl9, rfl⟩
        · exact (show False by omega).elim
        · exact (show False by omega).elim
        · exact ag_no hJ (by decide) _
        · exact (show False by omega).elim

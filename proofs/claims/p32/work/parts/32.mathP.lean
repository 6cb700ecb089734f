/-! a loop whose dependences of distance 0 go forward has a schedule with the interval 200 -/
def fwd (L : LD) : Prop := ∀ d, d < Lm L → Ldi L d = 0 → Lsr L d < Lds L d
theorem fw_cv {L : LD} (hw : wf L) (hf : fwd L) : cv L 200 = true := by
  refine cv_of_feas hw (h := fun j => ((12 * (14 - j) : Nat) : Int)) ⟨fun j => Int.natCast_nonneg _, fun k hk => ?_⟩
  have h1 := wf_dl hw k
  have h2 := wf_sd hw k
  show ((12 * (14 - Lds L k) : Nat) : Int) + (Ldl L k : Int) - ((200 : Nat) : Int) * (Ldi L k : Int) ≤ ((12 * (14 - Lsr L k) : Nat) : Int)
  by_cases e : Ldi L k = 0
  · have h3 := hf k hk e
    rw [e]
    omega
  · omega
theorem fw_hF {L : LD} (hw : wf L) (hf : fwd L) {d : Nat} (hd : d < Lm L) (e : Ldi L d = 0) : hF L 200 (Lds L d) ≤ hF L 200 (Lsr L d) := by
  have hc := fw_cv hw hf
  have h0 : fl L 200 (Ln L) = false := by
    unfold cv at hc
    cases h : fl L 200 (Ln L) with
    | false => rfl
    | true => rw [h] at hc; exact absurd hc (by decide)
  have h1 : hF L 200 = hit L 200 (Ln L) := fl_hit h0
  have h2 := (cv_feas hc).2 d hd
  rw [e] at h2
  rw [h1]
  omega
theorem hiU_top {x f : Nat → Int} (n : Nat) : ∀ {i : Nat}, hiU x f n = ((i : Nat) : Int) → ∀ j, j < n → f j = -1 → x j < x i ∨ (x j = x i ∧ i ≤ j) := by
  induction n with
  | zero => intro i _ j hj; exact absurd hj (Nat.not_lt_zero j)
  | succ n ih =>
    intro i h j hj hfj
    by_cases c : f n = -1 ∧ (hiU x f n = -1 ∨ x (hiU x f n).toNat < x n)
    · rw [hiU_t c.1 c.2] at h
      have e : i = n := by omega
      rw [e]
      by_cases ej : j = n
      · exact Or.inr ⟨by rw [ej], by omega⟩
      · rcases c.2 with c2 | c2
        · exact absurd hfj (hiU_no n c2 j (by omega))
        · have hb := hiU_bd x f n
          obtain ⟨q, hq⟩ : ∃ q : Nat, hiU x f n = ((q : Nat) : Int) := ⟨(hiU x f n).toNat, by
            by_cases e9 : hiU x f n = -1
            · exact absurd hfj (hiU_no n e9 j (by omega))
            · omega⟩
          rw [hq, Int.toNat_natCast] at c2
          rcases ih hq j (by omega) hfj with h5 | h5
          · left; omega
          · left; omega
    · rw [hiU_f c] at h
      by_cases ej : j = n
      · have c3 : ¬ (hiU x f n = -1 ∨ x (hiU x f n).toNat < x n) := fun q => c ⟨ej ▸ hfj, q⟩
        rw [h, Int.toNat_natCast] at c3
        have h7 := hiU_un n h
        rw [ej]
        by_cases e5 : x n < x i
        · exact Or.inl e5
        · exact Or.inr ⟨by omega, by omega⟩
      · exact ih h j (by omega) hfj
theorem ffst_ex {p : Nat → Bool} {c y : Nat} : ∀ {s : Nat}, s ≤ y → y < s + c → p y = true → ∃ z, ffst p s c = some z ∧ z ≤ y := by
  induction c with
  | zero => intro s h1 h2 _; omega
  | succ c ih =>
    intro s h1 h2 h3
    cases e : p s with
    | true => exact ⟨s, ffst_t e, h1⟩
    | false =>
      rw [ffst_f e]
      have h4 : s ≠ y := fun q => by rw [q, h3] at e; exact absurd e (by decide)
      exact ih (by omega) (by omega) h3
theorem hqA_zero {L : LD} {t : Nat} {tm : Nat → Nat} {pl : Nat → Bool} {y : Nat} (n : Nat) (h : ∀ j, j < n → pl j = true → ∀ q, q < Lby L j → cx L t tm j q ≠ y) : hqA L t tm pl y n = 0 := by
  induction n with
  | zero => rfl
  | succ n ih =>
    rw [hqA_s, ih (fun j hj => h j (by omega))]
    have h1 : hqK L t tm n y (bq L pl n) = 0 := by
      cases e : pl n with
      | false => rw [bq_f e]; rfl
      | true =>
        rw [bq_t e]
        by_cases e2 : hqK L t tm n y (Lby L n) = 0
        · exact e2
        · obtain ⟨q, hq1, hq2⟩ := hqK_ex _ e2
          exact absurd hq2 (h n (by omega) e q hq1)
    rw [h1]
def UX (L : LD) (pl : Nat → Bool) : Prop := ∀ b a, b < Ln L → a < Ln L → pl b = true → pl a = false → hF L 200 a < hF L 200 b ∨ (hF L 200 a = hF L 200 b ∧ b < a)
theorem fw_hub {L : LD} (hw : wf L) {k : Nat} {tk : Nat → Nat → Int} {tm : Nat → Nat} {pl : Nat → Bool} (hI : IX L 200 tk tm pl) (hm : ∀ j, j < Ln L → pl j = true → tm j ≤ 12 * k) (hk : k < 14) (i : Nat) : hUb L 200 tk i (12 * (k + 1)) = true := by
  refine hUb_i.mpr (fun c hcb => ?_)
  have hby := wf_by hw i
  have hkd := wf_kd hw i
  have hlu := (wf_u hw _ hkd).1
  rw [Nat.mod_eq_of_lt (show 12 * (k + 1) + c < 200 by omega), Nat.div_eq_of_lt (show c < 200 by omega), hI.1 _ _ hkd (by omega)]
  rw [hqA_zero (Ln L) (fun j hj hp q hq e => ?_)]
  · omega
  · have h1 := hm j hj hp
    have h2 := wf_by hw j
    unfold cx at e
    rw [Nat.mod_eq_of_lt (show tm j + q < 200 by omega)] at e
    omega
theorem fw_step {L : LD} (hw : wf L) (hf : fwd L) {k : Nat} {tm : Nat → Nat} {pl : Nat → Bool} (h : AX L 200 k tm pl) (hu : UX L pl) (hm : ∀ j, j < Ln L → pl j = true → tm j ≤ 12 * k) (hk : k < Ln L) : ∃ tm' pl', AX L 200 (k + 1) tm' pl' ∧ UX L pl' ∧ ∀ j, j < Ln L → pl' j = true → tm' j ≤ 12 * (k + 1) := by
  have hwn := wf_n hw
  obtain ⟨i, h1, hi, hp⟩ := AX_nx h hk
  have hA := h
  obtain ⟨⟨q, hq1, hq2, hq3⟩, hc, hE, hB⟩ := hA
  obtain ⟨tmX, tk⟩ := q
  have hq2 : ∀ j, j < Ln L → tmX j = ptm pl tm j := hq2
  have hq3 : IX L 200 tk tm pl := hq3
  have hb2 : ∀ j, j < Ln L → -1 ≤ ptm pl tm j ∧ ptm pl tm j ≤ ((12 * k : Nat) : Int) := fun j hj => by
    cases e : pl j with
    | true => rw [ptm_t e]; have := hm j hj e; omega
    | false => rw [ptm_f e]; omega
  have ho := oM_eq hw (by decide) hq3 hq2 (fun j hj => by have := hb2 j hj; omega) hi hp
  have hwit : ∃ y, oM L 200 tm pl i = some y ∧ y ≤ 12 * (k + 1) := by
    rw [ho]
    have c1 := eA_cg hw (T := 200) hq2 i (Lm L) (Nat.le_refl _)
    have he := eAn_bd hw (T := 200) hb2 (by omega) i (Lm L) (Nat.le_refl _)
    rw [← c1] at he
    have hl : ((12 * (k + 1) : Nat) : Int) ≤ lA L 200 tmX i (Lm L) := by
      refine (lA_i (Lm L)).mpr ⟨by omega, fun d hd hs hn => ?_⟩
      have hed := wf_ed hw d hd
      have hdl := wf_dl hw d
      have hv := hq2 _ hed.2
      cases e : pl (Lds L d) with
      | false => rw [ptm_f e] at hv; exact absurd hv hn
      | true =>
        rw [ptm_t e] at hv
        by_cases e0 : Ldi L d = 0
        · have g1 := fw_hF hw hf hd e0
          have g2 := hf d hd e0
          have g3 := hu _ i hed.2 hi e hp
          rw [hs] at g1 g2
          omega
        · rw [hv]
          omega
    refine ffst_ex (y := 12 * (k + 1)) ?_ ?_ (fw_hub hw hq3 hm (by omega) i)
    · unfold pE; omega
    · unfold pE pN; omega
  obtain ⟨x, hx1, hx2⟩ := hwit
  refine ⟨upN tm i x, upB pl i true, AX_put hw (by decide) (fw_cv hw hf) h (by omega) h1 hp hx1 (fun j hj => upN_n _ _ hj) (upN_s _ _ _), fun b a hbn han hb ha => ?_, fun j hj hpj => ?_⟩
  · have e2 : a ≠ i := fun e => by rw [e, upB_s] at ha; exact absurd ha (by decide)
    rw [upB_n _ _ e2] at ha
    by_cases e : b = i
    · rw [e]
      rcases hiU_top (Ln L) h1 a han (ptm_f ha) with g | g
      · exact Or.inl g
      · exact Or.inr ⟨g.1, by omega⟩
    · rw [upB_n _ _ e] at hb
      exact hu b a hbn han hb ha
  · by_cases e : j = i
    · rw [e, upN_s]; exact hx2
    · rw [upB_n _ _ e] at hpj
      rw [upN_n _ _ e]
      have := hm j hj hpj
      omega
theorem fw_all {L : LD} (hw : wf L) (hf : fwd L) : ∀ k, k ≤ Ln L → ∃ tm pl, AX L 200 k tm pl ∧ UX L pl ∧ ∀ j, j < Ln L → pl j = true → tm j ≤ 12 * k := by
  intro k
  induction k with
  | zero => exact fun _ => ⟨fun _ => 0, fun _ => false, AX_0 hw (fun _ _ => rfl), fun _ _ _ _ h => absurd (show false = true from h) (by decide), fun _ _ h => absurd (show false = true from h) (by decide)⟩
  | succ k ih =>
    intro hk
    obtain ⟨tm, pl, h1, h2, h3⟩ := ih (by omega)
    exact fw_step hw hf h1 h2 h3 (by omega)
theorem fw_200 {L : LD} (hw : wf L) (hf : fwd L) : ∃ q, atp L 200 (Ln L) = some q := by
  obtain ⟨tm, pl, h, _⟩ := fw_all hw hf (Ln L) (Nat.le_refl _)
  obtain ⟨⟨q, hq, _⟩, _⟩ := h
  exact ⟨q, hq⟩
theorem sch_no {L : LD} (c : Nat) : ∀ t, (sch L t c).1 = none → ∀ y, t ≤ y → y < t + c → atp L y (Ln L) = none := by
  induction c with
  | zero => intro t _ y h1 h2; omega
  | succ c ih =>
    intro t h y h1 h2
    cases e : atp L t (Ln L) with
    | some q => rw [sch_s e] at h; cases h
    | none =>
      rw [sch_n e] at h
      by_cases e2 : y = t
      · rw [e2]; exact e
      · exact ih (t + 1) h y (by omega) (by omega)
theorem fw_rB {L : LD} (hw : wf L) (hf : fwd L) : rBz L ≠ -1 ∧ lst L ≤ 200 ∧ ∀ t : Nat, lst L ≤ t → cv L t = true := by
  obtain ⟨z, hz, hz2⟩ := ffst_ex (p := cv L) (s := 1) (c := 200) (y := 200) (by omega) (by omega) (fw_cv hw hf)
  have h1 := rLB hw
  have h2 : rLz L = ((z : Nat) : Int) := by
    unfold rLz
    rw [hz]
  have h3 := rsk_bd hw 3
  have h4 : rBz L ≠ -1 := by omega
  refine ⟨h4, ?_, fun t ht => rBz_cv hw h4 ?_⟩
  · unfold lst rs
    omega
  · unfold lst at ht
    omega
theorem atp_J {L : LD} (hw : wf L) {t : Nat} (ht : 0 < t ∧ t ≤ 200) (hcv : cv L t = true) {q : (Nat → Int) × (Nat → Nat → Int)} (h : atp L t (Ln L) = some q) : ∃ tm, JX L t q.1 q.2 tm ∧ ∀ j, j < Ln L → tm j ≤ (11 + t) * Ln L := by
  have hwn := wf_n hw
  have go : ∀ k, k ≤ Ln L → ∃ tm pl, AX L t k tm pl := by
    intro k
    induction k with
    | zero => exact fun _ => ⟨fun _ => 0, fun _ => false, AX_0 hw (fun _ _ => rfl)⟩
    | succ k ih =>
      intro hk
      obtain ⟨tm, pl, hA⟩ := ih (by omega)
      obtain ⟨i, h1, hi, hp⟩ := AX_nx hA (by omega)
      cases e : oM L t tm pl i with
      | none =>
        have h2 := AX_no hw ht hA (by omega) h1 hp e
        rw [h] at h2
        cases h2
      | some x => exact ⟨upN tm i x, upB pl i true, AX_put hw ht hcv hA (by omega) h1 hp e (fun j hj => upN_n _ _ hj) (upN_s _ _ _)⟩
  obtain ⟨tm, pl, hA⟩ := go (Ln L) (Nat.le_refl _)
  obtain ⟨q', h1, h2⟩ := AX_end hw ht hcv hA
  rw [h] at h1
  cases h1
  exact ⟨tm, h2, fun j hj => hA.2.2.2 j hj (cq_all (Ln L) hA.2.1 j hj)⟩
/-- what the law's loops are -/
def w6 (L : LD) : Prop := wf L ∧ fwd L ∧ 1 ≤ Ln L ∧ Ln L ≤ 6 ∧ Lm L ≤ 8 ∧ (∀ i, Lby L i ≤ 3)
/-- the state behind the search -/
def JP (L : LD) (T : Nat) (tmX : Nat → Int) (tk : Nat → Nat → Int) (tm : Nat → Nat) : Prop := JT L T tmX tk tm ∧ 0 < T ∧ ∀ j, j < Ln L → tm j ≤ 72 * T
theorem JP_sch {L : LD} (h6 : w6 L) {att' T' : Nat} {tm' : Nat → Int} {tk' : Nat → Nat → Int} {r : Int32} (h : (rBz L = -1 ∧ r = iI (-1) ∧ att' = 0 ∧ T' = 0) ∨ (rBz L ≠ -1 ∧ att' = (sch L (lst L) ((200 : Int).toNat + 1 - lst L)).2 ∧ (((sch L (lst L) ((200 : Int).toNat + 1 - lst L)).1 = none ∧ r = iI (-1) ∧ T' = 0) ∨ ((sch L (lst L) ((200 : Int).toNat + 1 - lst L)).1 = some (T', tm', tk') ∧ r = iI (T' : Int))))) : r = iI (T' : Int) ∧ ∃ tm, JP L T' tm' tk' tm := by
  obtain ⟨hw, hf, hn1, hn6, _⟩ := h6
  obtain ⟨b1, b2, b3⟩ := fw_rB hw hf
  have e200 : (200 : Int).toNat = 200 := rfl
  rw [e200] at h
  rcases h with h | ⟨_, _, h | h⟩
  · exact absurd h.1 b1
  · obtain ⟨q, hq⟩ := fw_200 hw hf
    have h2 := sch_no (200 + 1 - lst L) (lst L) h.1 200 b2 (by omega)
    rw [hq] at h2
    cases h2
  · have h2 := sch_at (200 + 1 - lst L) (lst L) h.1
    have h0 : 0 < T' := by
      have h7 := rsk_pos L 3
      have : 1 ≤ lst L := by unfold lst rs; omega
      omega
    obtain ⟨tm, h3, h4⟩ := atp_J hw ⟨h0, by omega⟩ (b3 T' h2.1) h2.2.2
    have h5 := JT_sch hw (by decide) h.1 h3
    refine ⟨h.2, tm, h5.1, h5.2, fun j hj => ?_⟩
    have h6 := h4 j hj
    have h8 : (11 + T') * Ln L ≤ (11 + T') * 6 := Nat.mul_le_mul_left _ hn6
    omega
theorem JP_ok {L : LD} {T : Nat} {tmX : Nat → Int} {tk : Nat → Nat → Int} {tm : Nat → Nat} (h : JP L T tmX tk tm) : okX L T tmX tk := JT_ok h.1
theorem JP_J {L : LD} {T : Nat} {tmX : Nat → Int} {tk : Nat → Nat → Int} {tm : Nat → Nat} (h : JP L T tmX tk tm) : (0 < T ∧ T ≤ 200) ∧ JX L T tmX tk tm ∧ tB 3000 tmX := ⟨⟨h.2.1, h.1.1⟩, (h.1.2 h.2.1).1, (h.1.2 h.2.1).2.1⟩
theorem JP_mv {L : LD} (h6 : w6 L) {T : Nat} {tmX : Nat → Int} {tk : Nat → Nat → Int} {tm : Nat → Nat} (h : JP L T tmX tk tm) {i u : Nat} (hi : i < Ln L) (hu : u < 60) : (vR L T (lTm tmX i) (lTk L T tk i (tmX i).toNat) i u = true → upZ (lTm tmX i) i ((rT L T tmX tk i u (tmX i).toNat : Nat) : Int) i = (u : Int)) ∧ ∃ tm', JP L T (upZ (lTm tmX i) i ((rT L T tmX tk i u (tmX i).toNat : Nat) : Int)) (pTk L T (lTk L T tk i (tmX i).toNat) i (rT L T tmX tk i u (tmX i).toNat)) tm' := by
  have hw := h6.1
  obtain ⟨hT, hJ, _⟩ := JP_J h
  have e0 : (tmX i).toNat = tm i := by have := (hJ.1 i hi).1; omega
  rw [e0]
  have hv := vR_vM hw hT hJ hi (show u ≤ 3000 by omega)
  have hb := hJ.1 i hi
  have hb2 := h.2.2 i hi
  cases e : vR L T (lTm tmX i) (lTk L T tk i (tm i)) i u with
  | true =>
    have hr : rT L T tmX tk i u (tm i) = u := if_pos e
    rw [hr]
    refine ⟨fun _ => upZ_s _ _ _, upN tm i u, JT_mv hw hT.1 h.1 hi ⟨by omega, by omega⟩ (hv.symm.trans e), hT.1, fun j hj => ?_⟩
    by_cases ej : j = i
    · rw [ej, upN_s]; omega
    · rw [upN_n _ _ ej]; exact h.2.2 j hj
  | false =>
    have hr : rT L T tmX tk i u (tm i) = tm i := if_neg (by rw [e]; decide)
    rw [hr]
    refine ⟨fun q => absurd q (by decide), upN tm i (tm i), JT_mv hw hT.1 h.1 hi ⟨by omega, by omega⟩ (by rw [upN_self]; exact vM_self hT hJ), hT.1, fun j hj => ?_⟩
    rw [upN_self]
    exact h.2.2 j hj

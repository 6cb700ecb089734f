def pO (i : Nat) : Nat → Bool := upB (fun _ => true) i false
theorem pO_s (i : Nat) : pO i i = false := upB_s _ _ _
theorem pO_n {i j : Nat} (h : j ≠ i) : pO i j = true := upB_n _ _ h
theorem pO_id (i : Nat) : upB (pO i) i true = fun _ => true := upB_id rfl false
theorem lift_r {L : LD} {tmX : Nat → Int} {tm : Nat → Nat} (h : ∀ j, j < Ln L → tmX j = ((tm j : Nat) : Int)) (i : Nat) : ∀ j, j < Ln L → lTm tmX i j = ptm (pO i) tm j := by
  intro j hj
  unfold lTm
  by_cases e : j = i
  · rw [e, upZ_s, ptm_f (pO_s i)]
  · rw [upZ_n _ _ e, ptm_t (pO_n e), h j hj]
theorem vR_vM {L : LD} (hw : wf L) {T : Nat} (ht : 0 < T ∧ T ≤ 200) {tmX : Nat → Int} {tk : Nat → Nat → Int} {tm : Nat → Nat} (hJ : JX L T tmX tk tm) {i x : Nat} (hi : i < Ln L) (hx : x ≤ 3000) : vR L T (lTm tmX i) (lTk L T tk i (tm i)) i x = vM L T (upN tm i x) := by
  obtain ⟨hr, hE, hI, hcv⟩ := hJ
  have hl := lift_r (fun j hj => (hr j hj).1) i
  have hI2 := IX_off hw ht hI hi (i := i) rfl
  have hpm : (fA L T (upN tm i x) (fun _ => true) (Ln L)).2 = hUb L T (lTk L T tk i (tm i)) i x := by
    have h1 := congrFun (pM_eq hw ht hI2 hi (upB_s _ _ _)) x
    rw [← h1]
    unfold pM
    rw [upB_id rfl]
  have hEd := eOK_i.mp hE
  unfold vM vR
  rw [hpm, eA_cg hw hl i (Lm L) (Nat.le_refl _), lA_cg hw hl i (Lm L) (Nat.le_refl _)]
  refine b_ext ?_
  rw [Bool.and_eq_true, Bool.and_eq_true, Bool.and_eq_true, decide_eq_true_iff, decide_eq_true_iff]
  constructor
  · intro h
    refine ⟨?_, h.2.2⟩
    have h3 := eP_put hw (tm := tm) (pl := pO i) (t := T) (s := x) (i := i) (fun d hd _ _ => hEd d hd) hcv (pO_s i) h.1 h.2.1
    rw [pO_id] at h3
    exact eOK_i.mpr (fun d hd => h3 d hd rfl rfl)
  · intro h
    have h3 := eOK_i.mp h.1
    refine ⟨(eA_i (Lm L)).mpr ⟨by omega, fun d hd hds hne => ?_⟩, (lA_i (Lm L)).mpr ⟨by omega, fun d hd hds hne => ?_⟩, h.2⟩
    · have h4 := h3 d hd
      by_cases e : Lsr L d = i
      · rw [e, ptm_f (pO_s i)] at hne; exact absurd rfl hne
      · rw [hds, upN_s, upN_n _ _ e] at h4
        rw [ptm_t (pO_n e)]
        omega
    · have h4 := h3 d hd
      by_cases e : Lds L d = i
      · rw [e, ptm_f (pO_s i)] at hne; exact absurd rfl hne
      · rw [hds, upN_s, upN_n _ _ e] at h4
        rw [ptm_t (pO_n e)]
        omega
theorem JX_mv {L : LD} (hw : wf L) {T : Nat} (ht : 0 < T ∧ T ≤ 200) {tmX : Nat → Int} {tk : Nat → Nat → Int} {tm : Nat → Nat} (hJ : JX L T tmX tk tm) {i x : Nat} (hi : i < Ln L) (hx : x ≤ 3000 ∧ x ≤ 1000 * T) (hv : vM L T (upN tm i x) = true) : JX L T (upZ (lTm tmX i) i ((x : Nat) : Int)) (pTk L T (lTk L T tk i (tm i)) i x) (upN tm i x) := by
  have hvr := vR_vM hw ht hJ hi hx.1
  obtain ⟨hr, hE, hI, hcv⟩ := hJ
  have hI2 := IX_off hw ht hI hi (i := i) rfl
  rw [hv] at hvr
  unfold vR at hvr
  rw [Bool.and_eq_true, Bool.and_eq_true] at hvr
  have hI3 := IX_put hw ht hI2 hi (upB_s _ _ _) hvr.2.2
  rw [upB_id rfl] at hI3
  unfold vM at hv
  rw [Bool.and_eq_true] at hv
  refine ⟨fun j hj => ?_, hv.1, hI3, hcv⟩
  by_cases e : j = i
  · rw [e, upZ_s, upN_s]; exact ⟨rfl, hx⟩
  · rw [upZ_n _ _ e, upN_n _ _ e]
    unfold lTm
    rw [upZ_n _ _ e]
    exact hr j hj
theorem vM_self {L : LD} {T : Nat} (ht : 0 < T ∧ T ≤ 200) {tmX : Nat → Int} {tk : Nat → Nat → Int} {tm : Nat → Nat} (hJ : JX L T tmX tk tm) : vM L T tm = true := by
  unfold vM
  rw [hJ.2.1, (fA_iff ht (Ln L)).mpr hJ.2.2.1.2]
  rfl
theorem cnt_s (p : Nat → Bool) (s c : Nat) : cnt p s (c + 1) = cnt p (s + 1) c + (if p s = true then 1 else 0) := rfl
theorem cnt_add (p : Nat → Bool) (c d : Nat) : ∀ s, cnt p s (c + d) = cnt p s c + cnt p (s + c) d := by
  induction c with
  | zero => intro s; rw [Nat.zero_add]; show _ = 0 + cnt p (s + 0) d; rw [Nat.zero_add, Nat.add_zero]
  | succ c ih =>
    intro s
    rw [show c + 1 + d = (c + d) + 1 by omega, cnt_s, cnt_s, ih (s + 1), show s + 1 + c = s + (c + 1) by omega]
    omega
theorem cnt_0 {p : Nat → Bool} (c : Nat) : ∀ s, (∀ y, s ≤ y → y < s + c → p y = false) → cnt p s c = 0 := by
  induction c with
  | zero => intro s _; rfl
  | succ c ih =>
    intro s h
    rw [cnt_f (h s (Nat.le_refl _) (by omega))]
    exact ih (s + 1) (fun y h1 h2 => h y (by omega) (by omega))
theorem cnt_cg {p q : Nat → Bool} (c : Nat) : ∀ s, (∀ y, s ≤ y → y < s + c → p y = q y) → cnt p s c = cnt q s c := by
  induction c with
  | zero => intro s _; rfl
  | succ c ih =>
    intro s h
    rw [cnt_s, cnt_s, ih (s + 1) (fun y h1 h2 => h y (by omega) (by omega)), h s (Nat.le_refl _) (by omega)]
theorem cP_eq {L : LD} (hw : wf L) {T : Nat} (ht : 0 < T ∧ T ≤ 200) {tmX : Nat → Int} {tk : Nat → Nat → Int} {tm : Nat → Nat} (hJ : JX L T tmX tk tm) {i : Nat} (hi : i < Ln L) : cP L T (lTm tmX i) (lTk L T tk i (tm i)) i = cnt (fun s => vM L T (upN tm i s)) 0 1001 := by
  have hv : ∀ x, x ≤ 1000 → vM L T (upN tm i x) = vR L T (lTm tmX i) (lTk L T tk i (tm i)) i x := fun x hx => (vR_vM hw ht hJ hi (by omega)).symm
  have hl := lift_r (fun j hj => (hJ.1 j hj).1) i
  have hb : ∀ j, j < Ln L → -1 ≤ lTm tmX i j ∧ lTm tmX i j ≤ 3000 := fun j hj => by
    have h1 := (hJ.1 j hj)
    rw [hl j hj]
    by_cases e : j = i
    · rw [e, ptm_f (pO_s i)]; omega
    · rw [ptm_t (pO_n e)]; omega
  have hpe := pEn_e hw (T := T) hb (by decide) i
  unfold cP
  have hq : qN L T (lTm tmX i) i = (min (lA L T (lTm tmX i) i (Lm L)) 1000 - ((pE L T (lTm tmX i) i : Nat) : Int) + 1).toNat := by
    unfold qN
    rw [hpe]
  have hvr : ∀ x : Nat, vR L T (lTm tmX i) (lTk L T tk i (tm i)) i x = true ↔ (pE L T (lTm tmX i) i ≤ x ∧ (x : Int) ≤ lA L T (lTm tmX i) i (Lm L) ∧ hUb L T (lTk L T tk i (tm i)) i x = true) := fun x => by
    unfold vR
    rw [Bool.and_eq_true, Bool.and_eq_true, decide_eq_true_iff, decide_eq_true_iff, hpe]
    exact ⟨fun h => ⟨by omega, h.2⟩, fun h => ⟨by omega, h.2⟩⟩
  have hno : ∀ x : Nat, ¬ (pE L T (lTm tmX i) i ≤ x ∧ (x : Int) ≤ lA L T (lTm tmX i) i (Lm L)) → vR L T (lTm tmX i) (lTk L T tk i (tm i)) i x = false := fun x h => by
    cases e : vR L T (lTm tmX i) (lTk L T tk i (tm i)) i x with
    | false => rfl
    | true => exact absurd ⟨((hvr x).mp e).1, ((hvr x).mp e).2.1⟩ h
  by_cases hN : qN L T (lTm tmX i) i = 0
  · rw [hN]
    show 0 = _
    rw [cnt_0 1001 0 (fun y h1 h2 => by
      show vM L T (upN tm i y) = false
      rw [hv y (by omega)]
      exact hno y (by omega))]
  · rw [show 1001 = pE L T (lTm tmX i) i + (qN L T (lTm tmX i) i + (1001 - pE L T (lTm tmX i) i - qN L T (lTm tmX i) i)) by omega, cnt_add, cnt_add,
      cnt_0 (p := fun s => vM L T (upN tm i s)) (pE L T (lTm tmX i) i) 0 (fun y h1 h2 => by
        show vM L T (upN tm i y) = false
        rw [hv y (by omega)]
        exact hno y (by omega)),
      cnt_0 (p := fun s => vM L T (upN tm i s)) (1001 - pE L T (lTm tmX i) i - qN L T (lTm tmX i) i) _ (fun y h1 h2 => by
        show vM L T (upN tm i y) = false
        rw [hv y (by omega)]
        exact hno y (by omega)), Nat.zero_add, Nat.zero_add, Nat.add_zero]
    refine cnt_cg _ _ (fun y h1 h2 => b_ext ?_)
    show _ ↔ vM L T (upN tm i y) = true
    rw [hv y (by omega), hvr]
    exact ⟨fun h => ⟨h1, by omega, h⟩, fun h => h.2.2⟩
def JT (L : LD) (T : Nat) (tmX : Nat → Int) (tk : Nat → Nat → Int) (tm : Nat → Nat) : Prop := T ≤ 200 ∧ (0 < T → JX L T tmX tk tm ∧ tB 3000 tmX ∧ kB 56 tk)
theorem JT_0 {L : LD} {tmX : Nat → Int} {tk : Nat → Nat → Int} {tm : Nat → Nat} : JT L 0 tmX tk tm := ⟨by decide, fun h => absurd h (Nat.lt_irrefl 0)⟩
theorem JT_ok {L : LD} {T : Nat} {tmX : Nat → Int} {tk : Nat → Nat → Int} {tm : Nat → Nat} (h : JT L T tmX tk tm) : okX L T tmX tk := by
  refine ⟨h.1, fun h0 => ?_⟩
  obtain ⟨h1, h2, h3⟩ := h.2 h0
  refine ⟨fun j => ?_, fun k r => ?_, fun j hj => ?_⟩
  · have := h2 j; omega
  · have := h3 k r; omega
  · have := (h1.1 j hj).1; omega
theorem hrq_out {s t r : Nat} (ht : 0 < t) (hr : t ≤ r) (k : Nat) : hrq s t r k = 0 := by
  induction k with
  | zero => rfl
  | succ k ih =>
    have := Nat.mod_lt (s + k) ht
    rw [hrq_f (by omega), ih]
theorem JT_mv {L : LD} (hw : wf L) {T : Nat} (h0 : 0 < T) {tmX : Nat → Int} {tk : Nat → Nat → Int} {tm : Nat → Nat} (hJ : JT L T tmX tk tm) {i x : Nat} (hi : i < Ln L) (hx : x ≤ 3000 ∧ x ≤ 1000 * T) (hv : vM L T (upN tm i x) = true) : JT L T (upZ (lTm tmX i) i ((x : Nat) : Int)) (pTk L T (lTk L T tk i (tm i)) i x) (upN tm i x) := by
  have ht : 0 < T ∧ T ≤ 200 := ⟨h0, hJ.1⟩
  obtain ⟨h1, h2, h3⟩ := hJ.2 h0
  have hJ2 := JX_mv hw ht h1 hi hx hv
  refine ⟨hJ.1, fun _ => ⟨hJ2, fun j => ?_, fun k r => ?_⟩⟩
  · by_cases e : j = i
    · rw [e, upZ_s]; omega
    · rw [upZ_n _ _ e]
      unfold lTm
      rw [upZ_n _ _ e]
      exact h2 j
  · by_cases e : k < 3 ∧ r < T
    · rw [hJ2.2.2.1.1 k r e.1 e.2]
      have h4 := hqA_le hw T (upN tm i x) (fun _ => true) (200 * k + r) (Ln L)
      have h5 := wf_n hw
      omega
    · unfold pTk lTk
      rw [cT_val, cT_val]
      by_cases e2 : k = Lkd L i
      · have h4 := wf_kd hw i
        rw [if_pos e2, if_pos e2, hrq_out h0 (show T ≤ r by omega), hrq_out h0 (show T ≤ r by omega)]
        have := h3 k r
        omega
      · rw [if_neg e2, if_neg e2]
        have := h3 k r
        omega
theorem sch_at {L : LD} {t' : Nat} {q : (Nat → Int) × (Nat → Nat → Int)} (c : Nat) : ∀ t, (sch L t c).1 = some (t', q) → t ≤ t' ∧ t' < t + c ∧ atp L t' (Ln L) = some q := by
  induction c with
  | zero => intro t h; cases h
  | succ c ih =>
    intro t h
    cases e : atp L t (Ln L) with
    | some q2 =>
      rw [sch_s e] at h
      have h : some (t, q2) = some (t', q) := h
      cases h
      exact ⟨Nat.le_refl _, by omega, e⟩
    | none =>
      rw [sch_n e] at h
      have h2 := ih (t + 1) h
      exact ⟨by omega, by omega, h2.2.2⟩
theorem JT_sch {L : LD} (hw : wf L) {v t' : Nat} (hv : v ≤ 200) {q : (Nat → Int) × (Nat → Nat → Int)} {tm : Nat → Nat} (h : (sch L (lst L) (v + 1 - lst L)).1 = some (t', q)) (hJ : JX L t' q.1 q.2 tm) : JT L t' q.1 q.2 tm ∧ 0 < t' := by
  obtain ⟨h1, h2, h3⟩ := sch_at _ _ h
  have h4 : 1 ≤ lst L := Nat.le_trans (rsk_pos L 3) (Nat.le_max_right _ _)
  have hT : t' ≤ 200 := by omega
  have h5 := atp_bd hw hT (Ln L) q h3
  have h6 := wf_n hw
  refine ⟨⟨hT, fun _ => ⟨hJ, fun j => ?_, fun k r => ?_⟩⟩, by omega⟩
  · have := h5.1 j; omega
  · have := h5.2 k r; omega
theorem wf_su {L : LD} (hw : wf L) {i u : Nat} (hu : 1 ≤ u ∧ u ≤ 3) : wf (Ln L, Lm L, upN (Lu L) i u, Lkd L, Lby L, Lsr L, Lds L, Ldl L, Ldi L) := by
  obtain ⟨a1, a2, a3, a4⟩ := hw
  refine ⟨a1, a2, fun k hk => ?_, a4⟩
  show 1 ≤ upN (Lu L) i u k ∧ upN (Lu L) i u k ≤ 3
  by_cases e : k = i
  · rw [e, upN_s]; exact hu
  · rw [upN_n _ _ e]; exact a3 k hk
theorem wf_ao {L : LD} (hw : wf L) {i u : Nat} (hn : Ln L < 14) (hi : i ≤ 2) (hu : 1 ≤ u ∧ u ≤ 4) : wf (Ln L + 1, Lm L, Lu L, upN (Lkd L) (Ln L) i, upN (Lby L) (Ln L) u, Lsr L, Lds L, Ldl L, Ldi L) := by
  obtain ⟨a1, a2, a3, a4, a5, a6, a7, a8⟩ := hw
  refine ⟨hn, a2, a3, fun k => ?_, fun k => ?_, fun k hk => ?_, fun k hk => ?_, a8⟩
  · show upN (Lkd L) (Ln L) i k < 3
    by_cases e : k = Ln L
    · rw [e, upN_s]; omega
    · rw [upN_n _ _ e]; exact a4 k
  · show upN (Lby L) (Ln L) u k ≤ 4
    by_cases e : k = Ln L
    · rw [e, upN_s]; omega
    · rw [upN_n _ _ e]; exact a5 k
  · show 1 ≤ upN (Lby L) (Ln L) u k
    have hk : k < Ln L + 1 := hk
    by_cases e : k = Ln L
    · rw [e, upN_s]; omega
    · rw [upN_n _ _ e]; exact a6 k (by omega)
  · have := a7 k hk
    show Lsr L k < Ln L + 1 ∧ Lds L k < Ln L + 1
    omega
theorem wf_ad {L : LD} (hw : wf L) {i u dl di : Nat} (hm : Lm L < 40) (hi : i < Ln L) (hu : u < Ln L) (hdl : dl ≤ 12) (hdi : di ≤ 3) : wf (Ln L, Lm L + 1, Lu L, Lkd L, Lby L, upN (Lsr L) (Lm L) i, upN (Lds L) (Lm L) u, upN (Ldl L) (Lm L) dl, upN (Ldi L) (Lm L) di) := by
  obtain ⟨a1, a2, a3, a4, a5, a6, a7, a8, a9, a10⟩ := hw
  refine ⟨a1, hm, a3, a4, a5, a6, fun k hk => ?_, fun k => ?_, fun k => ?_, fun k => ?_⟩
  · show upN (Lsr L) (Lm L) i k < Ln L ∧ upN (Lds L) (Lm L) u k < Ln L
    have hk : k < Lm L + 1 := hk
    by_cases e : k = Lm L
    · rw [e, upN_s, upN_s]; exact ⟨hi, hu⟩
    · rw [upN_n _ _ e, upN_n _ _ e]; exact a7 k (by omega)
  · show upN (Lsr L) (Lm L) i k < 14 ∧ upN (Lds L) (Lm L) u k < 14
    by_cases e : k = Lm L
    · rw [e, upN_s, upN_s]; omega
    · rw [upN_n _ _ e, upN_n _ _ e]; exact a8 k
  · show upN (Ldl L) (Lm L) dl k ≤ 12
    by_cases e : k = Lm L
    · rw [e, upN_s]; exact hdl
    · rw [upN_n _ _ e]; exact a9 k
  · show upN (Ldi L) (Lm L) di k ≤ 3
    by_cases e : k = Lm L
    · rw [e, upN_s]; exact hdi
    · rw [upN_n _ _ e]; exact a10 k
theorem wf_sd2 {L : LD} (hw : wf L) {i u : Nat} (hu : u ≤ 12) : wf (Ln L, Lm L, Lu L, Lkd L, Lby L, Lsr L, Lds L, upN (Ldl L) i u, Ldi L) := by
  obtain ⟨a1, a2, a3, a4, a5, a6, a7, a8, a9, a10⟩ := hw
  refine ⟨a1, a2, a3, a4, a5, a6, a7, a8, fun k => ?_, a10⟩
  show upN (Ldl L) i u k ≤ 12
  by_cases e : k = i
  · rw [e, upN_s]; exact hu
  · rw [upN_n _ _ e]; exact a9 k

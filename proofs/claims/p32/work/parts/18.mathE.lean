theorem b_ext {a b : Bool} (h : a = true ↔ b = true) : a = b := by
  cases a with
  | true => exact (h.mp rfl).symm
  | false =>
    cases b with
    | false => rfl
    | true => exact absurd (h.mpr rfl) (by decide)
theorem cx_cg {L : LD} {t : Nat} {tm tm' : Nat → Nat} {i : Nat} (h : tm i = tm' i) (k : Nat) : cx L t tm i k = cx L t tm' i k := by
  unfold cx
  rw [h]
theorem hqK_s (L : LD) (t : Nat) (tm : Nat → Nat) (i y k : Nat) : hqK L t tm i y (k + 1) = if cx L t tm i k = y then hqK L t tm i y k + 1 else hqK L t tm i y k := rfl
theorem hqKn {L : LD} {t : Nat} {tm tm' : Nat → Nat} {i : Nat} (h : tm i = tm' i) (y k : Nat) : hqK L t tm i y k = hqK L t tm' i y k := by
  induction k with
  | zero => rfl
  | succ k ih => rw [hqK_s, hqK_s, cx_cg h, ih]
theorem hqA_cg {L : LD} {t : Nat} {tm tm' : Nat → Nat} {pl pl' : Nat → Bool} {y : Nat} (n : Nat) (h : ∀ i, i < n → pl i = pl' i) (h2 : ∀ i, i < n → pl i = true → tm i = tm' i) : hqA L t tm pl y n = hqA L t tm' pl' y n := by
  induction n with
  | zero => rfl
  | succ n ih =>
    rw [hqA_s, hqA_s, ih (fun i hi => h i (by omega)) (fun i hi => h2 i (by omega)), ← bq_congr (L := L) (h n (by omega))]
    cases e : pl n with
    | true => rw [hqKn (h2 n (by omega) e)]
    | false => rw [bq_f e]; rfl
theorem hqA_put {L : LD} {t : Nat} {tm : Nat → Nat} {pl : Nat → Bool} {i s y : Nat} (hp : pl i = false) (n : Nat) : hqA L t (upN tm i s) (upB pl i true) y n = hqA L t tm pl y n + (if i < n then hqK L t (upN tm i s) i y (Lby L i) else 0) := by
  induction n with
  | zero => rfl
  | succ n ih =>
    rw [hqA_s, hqA_s, ih]
    by_cases e : n = i
    · subst e
      rw [if_neg (Nat.lt_irrefl n), if_pos (Nat.lt_succ_self n), bq_t (upB_s pl n true), bq_f hp]
      show _ = _ + 0 + _
      omega
    · rw [bq_congr (L := L) (upB_n pl true e), hqKn (upN_n tm s e)]
      by_cases e2 : i < n
      · rw [if_pos e2, if_pos (by omega)]; omega
      · rw [if_neg e2, if_neg (by omega)]; omega
theorem upB_id {pl : Nat → Bool} {i : Nat} {b : Bool} (h : pl i = b) (c : Bool) : upB (upB pl i c) i b = pl := by
  funext j
  by_cases e : j = i
  · rw [e, upB_s, h]
  · rw [upB_n _ _ e, upB_n _ _ e]
theorem hqA_off {L : LD} {t : Nat} {tm : Nat → Nat} {pl : Nat → Bool} {i y : Nat} (hp : pl i = true) (n : Nat) : hqA L t tm pl y n = hqA L t tm (upB pl i false) y n + (if i < n then hqK L t tm i y (Lby L i) else 0) := by
  have h := hqA_put (L := L) (t := t) (tm := tm) (pl := upB pl i false) (i := i) (s := tm i) (y := y) (upB_s _ _ _) n
  rw [upN_self, upB_id hp] at h
  exact h
theorem hqK_ex {L : LD} {t : Nat} {tm : Nat → Nat} {i y : Nat} (k : Nat) (h : hqK L t tm i y k ≠ 0) : ∃ q, q < k ∧ cx L t tm i q = y := by
  induction k with
  | zero => exact absurd rfl h
  | succ k ih =>
    by_cases e : cx L t tm i k = y
    · exact ⟨k, by omega, e⟩
    · rw [hqK_s, if_neg e] at h
      obtain ⟨q, h1, h2⟩ := ih h
      exact ⟨q, by omega, h2⟩
theorem hqK_mono (L : LD) (t : Nat) (tm : Nat → Nat) (i y : Nat) {k b : Nat} (h : k ≤ b) : hqK L t tm i y k ≤ hqK L t tm i y b := by
  induction b with
  | zero => rw [show k = 0 by omega]; exact Nat.le_refl _
  | succ b ih =>
    by_cases e : k = b + 1
    · rw [e]; exact Nat.le_refl _
    · have := ih (by omega)
      rw [hqK_s]
      by_cases e2 : cx L t tm i b = y
      · rw [if_pos e2]; omega
      · rw [if_neg e2]; exact this
theorem iK_i {L : LD} {t : Nat} {tm : Nat → Nat} {i : Nat} {cn : Nat → Int} (k : Nat) : iK L t tm i 1 cn k = true ↔ ∀ q, q < k → cK L t tm i 1 cn (q + 1) (cx L t tm i q) ≤ (Lu L (Lkd L i) : Int) := by
  induction k with
  | zero => exact ⟨fun _ q hq => absurd hq (Nat.not_lt_zero q), fun _ => rfl⟩
  | succ k ih =>
    rw [iK_s, Bool.and_eq_true, ih, decide_eq_true_iff]
    constructor
    · intro h q hq
      by_cases e : q = k
      · rw [e]; exact h.2.elim (fun z => absurd z (by decide)) id
      · exact h.1 q (by omega)
    · intro h
      exact ⟨fun q hq => h q (by omega), Or.inr (h k (by omega))⟩
theorem cx_div {L : LD} {t : Nat} {tm : Nat → Nat} {i k : Nat} (ht : 0 < t ∧ t ≤ 200) : cx L t tm i k / 200 = Lkd L i := by
  have := Nat.mod_lt (tm i + k) ht.1
  unfold cx
  omega
theorem fA_iff {L : LD} {t : Nat} (ht : 0 < t ∧ t ≤ 200) {tm : Nat → Nat} {pl : Nat → Bool} (n : Nat) : (fA L t tm pl n).2 = true ↔ ∀ y, hqA L t tm pl y n ≤ Lu L (y / 200) := by
  constructor
  · induction n with
    | zero => intro _ y; exact Nat.zero_le _
    | succ n ih =>
      intro h y
      rw [fA_s] at h
      have h : (iK L t tm n 1 (fA L t tm pl n).1 (bq L pl n) && (fA L t tm pl n).2) = true := h
      rw [Bool.and_eq_true] at h
      have h0 := ih h.2
      have key : ∀ k, k ≤ bq L pl n → ∀ y, cK L t tm n 1 (fA L t tm pl n).1 k y ≤ ((Lu L (y / 200) : Nat) : Int) := by
        intro k
        induction k with
        | zero =>
          intro _ y
          show (fA L t tm pl n).1 y ≤ _
          rw [fA_val]
          have := h0 y
          omega
        | succ k ihk =>
          intro hk y
          by_cases e : y = cx L t tm n k
          · rw [e, cx_div ht]; exact (iK_i _).mp h.1 k (by omega)
          · rw [cK_s, upZ_n _ _ e]; exact ihk (by omega) y
      have h1 := key (bq L pl n) (Nat.le_refl _) y
      rw [cK_val, fA_val] at h1
      rw [hqA_s]
      omega
  · induction n with
    | zero => intro _; rfl
    | succ n ih =>
      intro h
      have h0 := ih (fun y => by have := h y; rw [hqA_s] at this; omega)
      rw [fA_s]
      show (iK L t tm n 1 (fA L t tm pl n).1 (bq L pl n) && (fA L t tm pl n).2) = true
      rw [h0, Bool.and_true]
      refine (iK_i _).mpr (fun q hq => ?_)
      rw [cK_val, fA_val]
      have h1 := h (cx L t tm n q)
      rw [hqA_s, cx_div ht] at h1
      have h2 := hqK_mono L t tm n (cx L t tm n q) (show q + 1 ≤ bq L pl n by omega)
      omega
def IX (L : LD) (t : Nat) (tk : Nat → Nat → Int) (tm : Nat → Nat) (pl : Nat → Bool) : Prop := (∀ k r, k < 3 → r < t → tk k r = ((hqA L t tm pl (200 * k + r) (Ln L) : Nat) : Int)) ∧ ∀ y, hqA L t tm pl y (Ln L) ≤ Lu L (y / 200)
theorem hqA_pm {L : LD} (hw : wf L) {t : Nat} (ht : 0 < t ∧ t ≤ 200) {tk : Nat → Nat → Int} {tm : Nat → Nat} {pl : Nat → Bool} (hI : IX L t tk tm pl) {i s : Nat} (hi : i < Ln L) (hp : pl i = false) : (∀ y, hqA L t (upN tm i s) (upB pl i true) y (Ln L) ≤ Lu L (y / 200)) ↔ hUb L t tk i s = true := by
  rw [hUb_i]
  have hk := wf_kd hw i
  have hms := upN_s tm i s
  constructor
  · intro h c hc
    have hm := Nat.mod_lt (s + c) ht.1
    have h1 := h (200 * Lkd L i + (s + c) % t)
    rw [hqA_put hp, if_pos hi, hqK_r (by omega) ht, hms, show (200 * Lkd L i + (s + c) % t) / 200 = Lkd L i by omega] at h1
    have h2 := hrq_A (s := s) ht.1 hc
    rw [hI.1 _ _ hk hm]
    omega
  · intro h y
    rw [hqA_put hp, if_pos hi]
    have h0 := hI.2 y
    by_cases e : hqK L t (upN tm i s) i y (Lby L i) = 0
    · rw [e]; omega
    · obtain ⟨q, hq1, hq2⟩ := hqK_ex _ e
      have hm := Nat.mod_lt (upN tm i s i + q) ht.1
      have hy : y = 200 * Lkd L i + (upN tm i s i + q) % t := hq2.symm
      rw [hms] at hy hm
      rw [hy, hqK_r (by omega) ht, hms] at e ⊢
      rw [show (200 * Lkd L i + (s + q) % t) / 200 = Lkd L i by omega]
      rcases hrq_B (s := s) (r := (s + q) % t) ht.1 (Lby L i) with h3 | ⟨c, hc1, hc2, hc3⟩
      · exact absurd h3 e
      · have h4 := h c hc1
        rw [hc2, hI.1 _ _ hk hm] at h4
        rw [hc3]
        omega
theorem pM_eq {L : LD} (hw : wf L) {t : Nat} (ht : 0 < t ∧ t ≤ 200) {tk : Nat → Nat → Int} {tm : Nat → Nat} {pl : Nat → Bool} (hI : IX L t tk tm pl) {i : Nat} (hi : i < Ln L) (hp : pl i = false) : pM L t tm pl i = hUb L t tk i := by
  funext s
  refine b_ext ?_
  unfold pM
  rw [fA_iff ht]
  exact hqA_pm hw ht hI hi hp
theorem IX_put {L : LD} (hw : wf L) {t : Nat} (ht : 0 < t ∧ t ≤ 200) {tk : Nat → Nat → Int} {tm : Nat → Nat} {pl : Nat → Bool} (hI : IX L t tk tm pl) {i s : Nat} (hi : i < Ln L) (hp : pl i = false) (hu : hUb L t tk i s = true) : IX L t (cT L t i s 1 tk (Lby L i)) (upN tm i s) (upB pl i true) := by
  refine ⟨fun k r hk hr => ?_, (hqA_pm hw ht hI hi hp).mpr hu⟩
  rw [cT_val, hI.1 k r hk hr, hqA_put hp, if_pos hi]
  by_cases e : k = Lkd L i
  · rw [if_pos e, e, hqK_r (by omega) ht, upN_s]
    omega
  · rw [if_neg e, hqK_0 (fun q => e q.symm) (by omega) ht]
    omega
theorem IX_off {L : LD} (_ : wf L) {t : Nat} (ht : 0 < t ∧ t ≤ 200) {tk : Nat → Nat → Int} {tm : Nat → Nat} {pl : Nat → Bool} (hI : IX L t tk tm pl) {i : Nat} (hi : i < Ln L) (hp : pl i = true) : IX L t (lTk L t tk i (tm i)) tm (upB pl i false) := by
  refine ⟨fun k r hk hr => ?_, fun y => ?_⟩
  · unfold lTk
    rw [cT_val, hI.1 k r hk hr, hqA_off hp, if_pos hi]
    by_cases e : k = Lkd L i
    · rw [if_pos e, e, hqK_r (by omega) ht]
      omega
    · rw [if_neg e, hqK_0 (fun q => e q.symm) (by omega) ht]
      omega
  · have := hI.2 y
    rw [hqA_off hp] at this
    omega
theorem IX_cg {L : LD} {t : Nat} {tk : Nat → Nat → Int} {tm tm' : Nat → Nat} {pl pl' : Nat → Bool} (hI : IX L t tk tm pl) (h : ∀ i, i < Ln L → pl i = pl' i) (h2 : ∀ i, i < Ln L → pl i = true → tm i = tm' i) : IX L t tk tm' pl' := by
  refine ⟨fun k r hk hr => ?_, fun y => ?_⟩
  · rw [hI.1 k r hk hr, hqA_cg (Ln L) h h2]
  · rw [← hqA_cg (Ln L) h h2]; exact hI.2 y
theorem eA_cg {L : LD} (hw : wf L) {T : Nat} {f g : Nat → Int} (h : ∀ j, j < Ln L → f j = g j) (op k : Nat) (hk : k ≤ Lm L) : eA L T f op k = eA L T g op k := by
  induction k with
  | zero => rfl
  | succ k ih =>
    have h0 := ih (by omega)
    have h1 := h _ (wf_ed hw k (by omega)).1
    by_cases c : Lds L k = op ∧ f (Lsr L k) ≠ -1
    · rw [eA_t c.1 c.2, eA_t c.1 (by rw [← h1]; exact c.2), h0, h1]
    · rw [eA_f c, eA_f (by rw [← h1]; exact c), h0]
theorem lA_cg {L : LD} (hw : wf L) {T : Nat} {f g : Nat → Int} (h : ∀ j, j < Ln L → f j = g j) (op k : Nat) (hk : k ≤ Lm L) : lA L T f op k = lA L T g op k := by
  induction k with
  | zero => rfl
  | succ k ih =>
    have h0 := ih (by omega)
    have h1 := h _ (wf_ed hw k (by omega)).2
    by_cases c : Lsr L k = op ∧ f (Lds L k) ≠ -1
    · rw [lA_t c.1 c.2, lA_t c.1 (by rw [← h1]; exact c.2), h0, h1]
    · rw [lA_f c, lA_f (by rw [← h1]; exact c), h0]
theorem hiU_cg {x f g : Nat → Int} (n : Nat) (h : ∀ j, j < n → f j = g j) : hiU x f n = hiU x g n := by
  induction n with
  | zero => rfl
  | succ n ih =>
    have h0 := ih (fun j hj => h j (by omega))
    have h1 := h n (by omega)
    by_cases c : f n = -1 ∧ (hiU x f n = -1 ∨ x (hiU x f n).toNat < x n)
    · rw [hiU_t c.1 c.2, hiU_t (by rw [← h1]; exact c.1) (by rw [← h0]; exact c.2)]
    · rw [hiU_f c, hiU_f (by rw [← h1, ← h0]; exact c), h0]
theorem hiU_no {x f : Nat → Int} (n : Nat) (h : hiU x f n = -1) : ∀ j, j < n → f j ≠ -1 := by
  induction n with
  | zero => intro j hj; omega
  | succ n ih =>
    by_cases c : f n = -1 ∧ (hiU x f n = -1 ∨ x (hiU x f n).toNat < x n)
    · rw [hiU_t c.1 c.2] at h; omega
    · rw [hiU_f c] at h
      intro j hj
      by_cases e : j = n
      · intro q; rw [e] at q; exact c ⟨q, Or.inl h⟩
      · exact ih h j (by omega)
theorem hiU_un {x f : Nat → Int} (n : Nat) {i : Nat} (h : hiU x f n = ((i : Nat) : Int)) : i < n ∧ f i = -1 := by
  induction n with
  | zero => have h : (-1 : Int) = (i : Int) := h; omega
  | succ n ih =>
    by_cases c : f n = -1 ∧ (hiU x f n = -1 ∨ x (hiU x f n).toNat < x n)
    · rw [hiU_t c.1 c.2] at h
      have e : n = i := by omega
      rw [← e]
      exact ⟨by omega, c.1⟩
    · rw [hiU_f c] at h
      have := ih h
      exact ⟨by omega, this.2⟩
theorem eA_i {L : LD} {T : Nat} {f : Nat → Int} {op : Nat} {x : Int} (k : Nat) : eA L T f op k ≤ x ↔ 0 ≤ x ∧ ∀ d, d < k → Lds L d = op → f (Lsr L d) ≠ -1 → f (Lsr L d) + (Ldl L d : Int) - (T : Int) * (Ldi L d : Int) ≤ x := by
  induction k with
  | zero => exact ⟨fun h => ⟨h, fun d hd => absurd hd (Nat.not_lt_zero d)⟩, fun h => h.1⟩
  | succ k ih =>
    by_cases c : Lds L k = op ∧ f (Lsr L k) ≠ -1
    · rw [eA_t c.1 c.2]
      constructor
      · intro h
        have h1 := ih.mp (by omega)
        refine ⟨h1.1, fun d hd q1 q2 => ?_⟩
        by_cases e : d = k
        · rw [e]; omega
        · exact h1.2 d (by omega) q1 q2
      · intro h
        have h1 := ih.mpr ⟨h.1, fun d hd => h.2 d (by omega)⟩
        have h2 := h.2 k (by omega) c.1 c.2
        omega
    · rw [eA_f c, ih]
      constructor
      · intro h
        refine ⟨h.1, fun d hd q1 q2 => ?_⟩
        by_cases e : d = k
        · rw [e] at q1 q2; exact absurd ⟨q1, q2⟩ c
        · exact h.2 d (by omega) q1 q2
      · intro h
        exact ⟨h.1, fun d hd => h.2 d (by omega)⟩
theorem lA_i {L : LD} {T : Nat} {f : Nat → Int} {op : Nat} {x : Int} (k : Nat) : x ≤ lA L T f op k ↔ x ≤ 2147483647 ∧ ∀ d, d < k → Lsr L d = op → f (Lds L d) ≠ -1 → x ≤ f (Lds L d) - (Ldl L d : Int) + (T : Int) * (Ldi L d : Int) := by
  induction k with
  | zero => exact ⟨fun h => ⟨h, fun d hd => absurd hd (Nat.not_lt_zero d)⟩, fun h => h.1⟩
  | succ k ih =>
    by_cases c : Lsr L k = op ∧ f (Lds L k) ≠ -1
    · rw [lA_t c.1 c.2]
      constructor
      · intro h
        have h1 := ih.mp (by omega)
        refine ⟨h1.1, fun d hd q1 q2 => ?_⟩
        by_cases e : d = k
        · rw [e]; omega
        · exact h1.2 d (by omega) q1 q2
      · intro h
        have h1 := ih.mpr ⟨h.1, fun d hd => h.2 d (by omega)⟩
        have h2 := h.2 k (by omega) c.1 c.2
        omega
    · rw [lA_f c, ih]
      constructor
      · intro h
        refine ⟨h.1, fun d hd q1 q2 => ?_⟩
        by_cases e : d = k
        · rw [e] at q1 q2; exact absurd ⟨q1, q2⟩ c
        · exact h.2 d (by omega) q1 q2
      · intro h
        exact ⟨h.1, fun d hd => h.2 d (by omega)⟩
theorem ffst_cg {p q : Nat → Bool} {s c : Nat} (h : ∀ y, s ≤ y → y < s + c → p y = q y) : ffst p s c = ffst q s c := by
  induction c generalizing s with
  | zero => rfl
  | succ c ih =>
    have h0 := h s (Nat.le_refl _) (by omega)
    cases e : p s with
    | true => rw [ffst_t e, ffst_t (h0.symm.trans e)]
    | false => rw [ffst_f e, ffst_f (h0.symm.trans e)]; exact ih (fun y h1 h2 => h y (by omega) (by omega))
theorem oM_eq {L : LD} (hw : wf L) {t : Nat} (ht : 0 < t ∧ t ≤ 200) {tk : Nat → Nat → Int} {tmX : Nat → Int} {tm : Nat → Nat} {pl : Nat → Bool} (hI : IX L t tk tm pl) (hr : ∀ j, j < Ln L → tmX j = ptm pl tm j) (hb : ∀ j, j < Ln L → -1 ≤ ptm pl tm j ∧ ptm pl tm j ≤ 900000) {i : Nat} (hi : i < Ln L) (hp : pl i = false) : oM L t tm pl i = pF L t tmX tk i := by
  unfold oM pF
  have h1 := eA_cg hw (T := t) hr i (Lm L) (Nat.le_refl _)
  have h2 := lA_cg hw (T := t) hr i (Lm L) (Nat.le_refl _)
  have h3 := eAn_bd hw (T := t) hb (by decide) i (Lm L) (Nat.le_refl _)
  have e1 : pE L t tmX i = pE L t (ptm pl tm) i := by unfold pE; rw [h1]
  have e2 : pN L t tmX i = cMn L t (ptm pl tm) i := by
    unfold pN cMn
    rw [h1, h2]
    have h4 := pEn_e hw (T := t) hb (by decide) i
    omega
  rw [e1, e2, pM_eq hw ht hI hi hp]
def eP (L : LD) (t : Nat) (tm : Nat → Nat) (pl : Nat → Bool) : Prop := ∀ d, d < Lm L → pl (Lsr L d) = true → pl (Lds L d) = true → (tm (Lsr L d) : Int) + ((Ldl L d : Int) - (t : Int) * (Ldi L d : Int)) ≤ (tm (Lds L d) : Int)
theorem eP_put {L : LD} (_ : wf L) {t : Nat} {tm : Nat → Nat} {pl : Nat → Bool} (hE : eP L t tm pl) (hcv : cv L t = true) {i s : Nat} (_ : pl i = false) (h1 : eA L t (ptm pl tm) i (Lm L) ≤ (s : Int)) (h2 : (s : Int) ≤ lA L t (ptm pl tm) i (Lm L)) : eP L t (upN tm i s) (upB pl i true) := by
  intro d hd hs ht
  by_cases e1 : Lsr L d = i
  · by_cases e2 : Lds L d = i
    · have h3 := cv_self hcv hd (by rw [e1, e2])
      rw [e1, e2]
      omega
    · rw [upB_n _ _ e2] at ht
      have h3 := ((lA_i (Lm L)).mp h2).2 d hd e1 (by rw [ptm_t ht]; omega)
      rw [ptm_t ht] at h3
      rw [e1, upN_s, upN_n _ _ e2]
      omega
  · rw [upB_n _ _ e1] at hs
    by_cases e2 : Lds L d = i
    · have h3 := ((eA_i (Lm L)).mp h1).2 d hd e2 (by rw [ptm_t hs]; omega)
      rw [ptm_t hs] at h3
      rw [e2, upN_s, upN_n _ _ e1]
      omega
    · rw [upB_n _ _ e2] at ht
      have h3 := hE d hd hs ht
      rw [upN_n _ _ e1, upN_n _ _ e2]
      exact h3
def AX (L : LD) (t k : Nat) (tm : Nat → Nat) (pl : Nat → Bool) : Prop := (∃ q, atp L t k = some q ∧ (∀ j, j < Ln L → q.1 j = ptm pl tm j) ∧ IX L t q.2 tm pl) ∧ cq pl (Ln L) = k ∧ eP L t tm pl ∧ ∀ j, j < Ln L → pl j = true → tm j ≤ (11 + t) * k
theorem hqA_nil {L : LD} {t : Nat} {tm : Nat → Nat} {pl : Nat → Bool} {y : Nat} (n : Nat) (h : ∀ j, j < n → pl j = false) : hqA L t tm pl y n = 0 := by
  induction n with
  | zero => rfl
  | succ n ih => rw [hqA_s, ih (fun j hj => h j (by omega)), bq_f (h n (by omega))]; rfl
theorem cq_nil {pl : Nat → Bool} (n : Nat) (h : ∀ j, j < n → pl j = false) : cq pl n = 0 := by
  induction n with
  | zero => rfl
  | succ n ih => rw [cq_f (h n (by omega)), ih (fun j hj => h j (by omega))]
theorem AX_0 {L : LD} (hw : wf L) {t : Nat} {tm : Nat → Nat} {pl : Nat → Bool} (h : ∀ j, j < Ln L → pl j = false) : AX L t 0 tm pl := by
  refine ⟨⟨_, rfl, fun j hj => ?_, fun k r _ _ => ?_, fun y => ?_⟩, cq_nil (Ln L) h, fun d hd hs _ => ?_, fun j hj hp => ?_⟩
  · rw [ptm_f (h j hj)]
  · rw [hqA_nil (Ln L) h]; rfl
  · rw [hqA_nil (Ln L) h]; exact Nat.zero_le _
  · rw [h _ (wf_ed hw d hd).1] at hs; exact absurd hs (by decide)
  · rw [h j hj] at hp; exact absurd hp (by decide)
theorem AX_nx {L : LD} {t k : Nat} {tm : Nat → Nat} {pl : Nat → Bool} (h : AX L t k tm pl) (hk : k < Ln L) : ∃ i : Nat, hiU (hF L t) (ptm pl tm) (Ln L) = ((i : Nat) : Int) ∧ i < Ln L ∧ pl i = false := by
  have h1 := hiU_bd (hF L t) (ptm pl tm) (Ln L)
  by_cases e : hiU (hF L t) (ptm pl tm) (Ln L) = -1
  · have h2 := hiU_no _ e
    have h3 : cq pl (Ln L) = Ln L := cq_full (Ln L) (fun j hj => by
      cases e2 : pl j with
      | true => rfl
      | false => exact absurd (ptm_f (tm := tm) e2) (h2 j hj))
    have := h.2.1
    omega
  · obtain ⟨i, hi⟩ : ∃ i : Nat, hiU (hF L t) (ptm pl tm) (Ln L) = ((i : Nat) : Int) := ⟨(hiU (hF L t) (ptm pl tm) (Ln L)).toNat, by omega⟩
    have h2 := hiU_un _ hi
    refine ⟨i, hi, h2.1, ?_⟩
    cases e2 : pl i with
    | false => rfl
    | true => have h3 := h2.2; rw [ptm_t e2] at h3; omega
theorem cq_put {pl : Nat → Bool} {i : Nat} (h : pl i = false) (n : Nat) : cq (upB pl i true) n = cq pl n + (if i < n then 1 else 0) := by
  induction n with
  | zero => rfl
  | succ n ih =>
    by_cases e : n = i
    · subst e
      rw [cq_t (upB_s _ _ _), cq_f h, ih, if_neg (Nat.lt_irrefl n), if_pos (Nat.lt_succ_self n)]
    · have e3 := upB_n pl true e
      have e4 : (if i < n then 1 else 0) = (if i < n + 1 then 1 else 0) := by
        by_cases e5 : i < n
        · rw [if_pos e5, if_pos (by omega)]
        · rw [if_neg e5, if_neg (by omega)]
      rw [← e4]
      cases e2 : pl n with
      | true => rw [cq_t e2, cq_t (e3.trans e2), ih]; omega
      | false => rw [cq_f e2, cq_f (e3.trans e2), ih]
theorem AX_b {L : LD} {t k : Nat} {tm : Nat → Nat} {pl : Nat → Bool} (h : AX L t k tm pl) : ∀ j, j < Ln L → -1 ≤ ptm pl tm j ∧ ptm pl tm j ≤ (((11 + t) * k : Nat) : Int) := by
  intro j hj
  cases e : pl j with
  | true => rw [ptm_t e]; have := h.2.2.2 j hj e; omega
  | false => rw [ptm_f e]; omega
theorem AX_put {L : LD} (hw : wf L) {t : Nat} (ht : 0 < t ∧ t ≤ 200) (hcv : cv L t = true) {k i x : Nat} {tm tm' : Nat → Nat} {pl : Nat → Bool} (h : AX L t k tm pl) (hk : k < 14) (h1 : hiU (hF L t) (ptm pl tm) (Ln L) = ((i : Nat) : Int)) (hp : pl i = false) (h2 : oM L t tm pl i = some x) (h3 : ∀ j, j ≠ i → tm' j = tm j) (h4 : tm' i = x) : AX L t (k + 1) tm' (upB pl i true) := by
  have hb := AX_b h
  have hM : (11 + t) * k ≤ 211 * 14 := Nat.mul_le_mul (by omega) (by omega)
  obtain ⟨⟨q, hq1, hq2, hq3⟩, hc, hE, hB⟩ := h
  obtain ⟨tmX, tk⟩ := q
  have hq2 : ∀ j, j < Ln L → tmX j = ptm pl tm j := hq2
  have hq3 : IX L t tk tm pl := hq3
  have hi := (hiU_un _ h1).1
  have ho := oM_eq hw ht hq3 hq2 (fun j hj => by have := hb j hj; omega) hi hp
  rw [h2] at ho
  have e' : tm' = upN tm i x := by
    funext j
    by_cases e : j = i
    · rw [e, upN_s, h4]
    · rw [upN_n _ _ e, h3 j e]
  have hf := ffst_bd ho.symm
  have c1 := eA_cg hw (T := t) hq2 i (Lm L) (Nat.le_refl _)
  have c2 := lA_cg hw (T := t) hq2 i (Lm L) (Nat.le_refl _)
  have hbe := eAn_bd hw (T := t) hb (by omega) i (Lm L) (Nat.le_refl _)
  have hpe := pEn_e hw (T := t) hb (by omega) i
  have hx : eA L t (ptm pl tm) i (Lm L) ≤ (x : Int) ∧ (x : Int) ≤ lA L t (ptm pl tm) i (Lm L) ∧ x ≤ (11 + t) * (k + 1) := by
    have hM2 : (11 + t) * (k + 1) = (11 + t) * k + (11 + t) := Nat.mul_succ _ _
    have f1 := hf.1
    have f2 := hf.2.1
    have e1 : pE L t tmX i = pE L t (ptm pl tm) i := by unfold pE; rw [c1]
    rw [e1] at f1 f2
    unfold pN at f2
    rw [c1, c2] at f2
    omega
  have ha : atp L t (k + 1) = some (upZ tmX i (x : Int), cT L t i x 1 tk (Lby L i)) := by
    rw [atp_s hq1]
    exact at1_s (by rw [hiU_cg (Ln L) hq2]; exact h1) ho.symm
  rw [e']
  refine ⟨⟨_, ha, fun j hj => ?_, IX_put hw ht hq3 hi hp hf.2.2⟩, ?_, eP_put hw hE hcv hp hx.1 hx.2.1, fun j hj hpj => ?_⟩
  · show upZ tmX i (x : Int) j = _
    by_cases e : j = i
    · rw [e, upZ_s, ptm_t (upB_s _ _ _), upN_s]
    · rw [upZ_n _ _ e, hq2 j hj]
      unfold ptm
      rw [upB_n _ _ e, upN_n _ _ e]
  · rw [cq_put hp, if_pos hi, hc]
  · by_cases e : j = i
    · rw [e, upN_s]; omega
    · rw [upB_n _ _ e] at hpj
      rw [upN_n _ _ e]
      have := hB j hj hpj
      have hM2 : (11 + t) * (k + 1) = (11 + t) * k + (11 + t) := Nat.mul_succ _ _
      omega
theorem AX_no {L : LD} (hw : wf L) {t : Nat} (ht : 0 < t ∧ t ≤ 200) {k i : Nat} {tm : Nat → Nat} {pl : Nat → Bool} (h : AX L t k tm pl) (hk : k < Ln L) (h1 : hiU (hF L t) (ptm pl tm) (Ln L) = ((i : Nat) : Int)) (hp : pl i = false) (h2 : oM L t tm pl i = none) : atp L t (Ln L) = none := by
  have hwn := wf_n hw
  have hb := AX_b h
  have hM : (11 + t) * k ≤ 211 * 14 := Nat.mul_le_mul (by omega) (by omega)
  obtain ⟨⟨q, hq1, hq2, hq3⟩, _⟩ := h
  obtain ⟨tmX, tk⟩ := q
  have hq2 : ∀ j, j < Ln L → tmX j = ptm pl tm j := hq2
  have hq3 : IX L t tk tm pl := hq3
  have hi := (hiU_un _ h1).1
  have ho := oM_eq hw ht hq3 hq2 (fun j hj => by have := hb j hj; omega) hi hp
  rw [h2] at ho
  exact atp_end hq1 hk (at1_n (by rw [hiU_cg (Ln L) hq2]; exact h1) ho.symm)
def JX (L : LD) (T : Nat) (tmX : Nat → Int) (tk : Nat → Nat → Int) (tm : Nat → Nat) : Prop := (∀ j, j < Ln L → tmX j = ((tm j : Nat) : Int) ∧ tm j ≤ 3000 ∧ tm j ≤ 1000 * T) ∧ eOK L T tm = true ∧ IX L T tk tm (fun _ => true) ∧ cv L T = true
theorem AX_end {L : LD} (hw : wf L) {t : Nat} (ht : 0 < t ∧ t ≤ 200) (hcv : cv L t = true) {tm : Nat → Nat} {pl : Nat → Bool} (h : AX L t (Ln L) tm pl) : ∃ q, atp L t (Ln L) = some q ∧ JX L t q.1 q.2 tm := by
  have hwn := wf_n hw
  have hall := cq_all (Ln L) h.2.1
  obtain ⟨⟨q, hq1, hq2, hq3⟩, _, hE, hB⟩ := h
  refine ⟨q, hq1, fun j hj => ?_, eOK_i.mpr (fun d hd => ?_), IX_cg hq3 hall (fun _ _ _ => rfl), hcv⟩
  · have := hB j hj (hall j hj)
    have h1 : (11 + t) * Ln L ≤ (11 + t) * 14 := Nat.mul_le_mul_left _ hwn
    exact ⟨by rw [hq2 j hj, ptm_t (hall j hj)], by omega, by omega⟩
  · have h1 := wf_ed hw d hd
    exact hE d hd (hall _ h1.1) (hall _ h1.2)

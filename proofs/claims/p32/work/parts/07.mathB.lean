def tB (B : Int) (tm : Nat → Int) : Prop := ∀ j, -1 ≤ tm j ∧ tm j ≤ B
def kB (C : Int) (tk : Nat → Nat → Int) : Prop := ∀ k r, -C ≤ tk k r ∧ tk k r ≤ C
def upR (tk : Nat → Nat → Int) (k : Nat) (f : Nat → Int) : Nat → Nat → Int := fun j => if j = k then f else tk j
def eA (L : LD) (T : Nat) (tm : Nat → Int) (op : Nat) : Nat → Int
  | 0 => 0
  | k + 1 => if Lds L k = op ∧ tm (Lsr L k) ≠ -1 then max (eA L T tm op k) (tm (Lsr L k) + (Ldl L k : Int) - (T : Int) * (Ldi L k : Int)) else eA L T tm op k
theorem eA_t {L : LD} {T : Nat} {tm : Nat → Int} {op k : Nat} (h1 : Lds L k = op) (h2 : tm (Lsr L k) ≠ -1) : eA L T tm op (k + 1) = max (eA L T tm op k) (tm (Lsr L k) + (Ldl L k : Int) - (T : Int) * (Ldi L k : Int)) := if_pos ⟨h1, h2⟩
theorem eA_f {L : LD} {T : Nat} {tm : Nat → Int} {op k : Nat} (h : ¬ (Lds L k = op ∧ tm (Lsr L k) ≠ -1)) : eA L T tm op (k + 1) = eA L T tm op k := if_neg h
theorem eA_bd {L : LD} (hw : wf L) {T : Nat} {B : Int} {tm : Nat → Int} (ht : tB B tm) (hB : 0 ≤ B) (op k : Nat) : 0 ≤ eA L T tm op k ∧ eA L T tm op k ≤ B + 12 := by
  induction k with
  | zero => exact ⟨Int.le_refl _, by show (0 : Int) ≤ _; omega⟩
  | succ k ih =>
    have h1 := wf_dl hw k
    have h2 := mul_nn T (Ldi L k)
    have h3 := ht (Lsr L k)
    by_cases c : Lds L k = op ∧ tm (Lsr L k) ≠ -1
    · rw [eA_t c.1 c.2]; omega
    · rw [eA_f c]; exact ih
def lA (L : LD) (T : Nat) (tm : Nat → Int) (op : Nat) : Nat → Int
  | 0 => 2147483647
  | k + 1 => if Lsr L k = op ∧ tm (Lds L k) ≠ -1 then min (lA L T tm op k) (tm (Lds L k) - (Ldl L k : Int) + (T : Int) * (Ldi L k : Int)) else lA L T tm op k
theorem lA_t {L : LD} {T : Nat} {tm : Nat → Int} {op k : Nat} (h1 : Lsr L k = op) (h2 : tm (Lds L k) ≠ -1) : lA L T tm op (k + 1) = min (lA L T tm op k) (tm (Lds L k) - (Ldl L k : Int) + (T : Int) * (Ldi L k : Int)) := if_pos ⟨h1, h2⟩
theorem lA_f {L : LD} {T : Nat} {tm : Nat → Int} {op k : Nat} (h : ¬ (Lsr L k = op ∧ tm (Lds L k) ≠ -1)) : lA L T tm op (k + 1) = lA L T tm op k := if_neg h
theorem lA_bd {L : LD} (hw : wf L) {T : Nat} {B : Int} {tm : Nat → Int} (ht : tB B tm) (op k : Nat) : -13 ≤ lA L T tm op k ∧ lA L T tm op k ≤ 2147483647 := by
  induction k with
  | zero => exact ⟨(show (-13 : Int) ≤ 2147483647 by decide), Int.le_refl _⟩
  | succ k ih =>
    have h1 := wf_dl hw k
    have h2 := mul_nn T (Ldi L k)
    have h3 := ht (Lds L k)
    by_cases c : Lsr L k = op ∧ tm (Lds L k) ≠ -1
    · rw [lA_t c.1 c.2]; omega
    · rw [lA_f c]; exact ih
def hUb (L : LD) (T : Nat) (tk : Nat → Nat → Int) (op t : Nat) : Bool := (List.range (Lby L op)).all (fun c => decide (tk (Lkd L op) ((t + c) % T) + ((c / T : Nat) : Int) < (Lu L (Lkd L op) : Int)))
theorem hUb_i {L : LD} {T : Nat} {tk : Nat → Nat → Int} {op t : Nat} : hUb L T tk op t = true ↔ ∀ c, c < Lby L op → tk (Lkd L op) ((t + c) % T) + ((c / T : Nat) : Int) < (Lu L (Lkd L op) : Int) := by
  unfold hUb
  rw [List.all_eq_true]
  constructor
  · intro h c hc
    exact of_decide_eq_true (h c (List.mem_range.mpr hc))
  · intro h c hc
    exact decide_eq_true (h c (List.mem_range.mp hc))
theorem hUb_f {L : LD} {T : Nat} {tk : Nat → Nat → Int} {op t c : Nat} (hc : c < Lby L op) (h : ¬ tk (Lkd L op) ((t + c) % T) + ((c / T : Nat) : Int) < (Lu L (Lkd L op) : Int)) : hUb L T tk op t = false := by
  cases e : hUb L T tk op t with
  | false => rfl
  | true => exact absurd (hUb_i.mp e c hc) h
def cT (L : LD) (T op t : Nat) (ch : Int) (tk : Nat → Nat → Int) : Nat → (Nat → Nat → Int)
  | 0 => tk
  | c + 1 => up2 (cT L T op t ch tk c) (Lkd L op) ((t + c) % T) (cT L T op t ch tk c (Lkd L op) ((t + c) % T) + ch)
theorem cT_s (L : LD) (T op t : Nat) (ch : Int) (tk : Nat → Nat → Int) (c : Nat) : cT L T op t ch tk (c + 1) = up2 (cT L T op t ch tk c) (Lkd L op) ((t + c) % T) (cT L T op t ch tk c (Lkd L op) ((t + c) % T) + ch) := rfl
theorem up2_b {C : Int} {tk : Nat → Nat → Int} (h : kB C tk) {k r : Nat} {v : Int} (hv : -(C + 1) ≤ v ∧ v ≤ C + 1) : kB (C + 1) (up2 tk k r v) := by
  intro k' r'
  have h1 := h k' r'
  show -(C + 1) ≤ (if k' = k then upZ (tk k) r v else tk k') r' ∧ (if k' = k then upZ (tk k) r v else tk k') r' ≤ C + 1
  by_cases e : k' = k
  · rw [if_pos e]
    by_cases e2 : r' = r
    · rw [e2, upZ_s]; exact hv
    · rw [upZ_n _ _ e2, ← e]; omega
  · rw [if_neg e]; omega
theorem cT_bd {L : LD} {T op t : Nat} {ch C : Int} {tk : Nat → Nat → Int} (h : kB C tk) (hc : -1 ≤ ch ∧ ch ≤ 1) (c : Nat) : kB (C + (c : Int)) (cT L T op t ch tk c) := by
  induction c with
  | zero => intro k r; have := h k r; show -(C + 0) ≤ tk k r ∧ tk k r ≤ C + 0; omega
  | succ c ih =>
    have h2 := ih (Lkd L op) ((t + c) % T)
    have h3 := up2_b ih (k := Lkd L op) (r := (t + c) % T) (v := cT L T op t ch tk c (Lkd L op) ((t + c) % T) + ch) (by omega)
    rw [cT_s]
    intro k r
    have := h3 k r
    omega
def hiU (hs tm : Nat → Int) : Nat → Int
  | 0 => -1
  | i + 1 => if tm i = -1 ∧ (hiU hs tm i = -1 ∨ hs (hiU hs tm i).toNat < hs i) then ((i : Nat) : Int) else hiU hs tm i
theorem hiU_t {hs tm : Nat → Int} {i : Nat} (h1 : tm i = -1) (h2 : hiU hs tm i = -1 ∨ hs (hiU hs tm i).toNat < hs i) : hiU hs tm (i + 1) = ((i : Nat) : Int) := if_pos ⟨h1, h2⟩
theorem hiU_f {hs tm : Nat → Int} {i : Nat} (h : ¬ (tm i = -1 ∧ (hiU hs tm i = -1 ∨ hs (hiU hs tm i).toNat < hs i))) : hiU hs tm (i + 1) = hiU hs tm i := if_neg h
theorem hiU_bd (hs tm : Nat → Int) (i : Nat) : -1 ≤ hiU hs tm i ∧ hiU hs tm i < (i : Int) := by
  induction i with
  | zero => exact ⟨Int.le_refl _, (show (-1 : Int) < 0 by decide)⟩
  | succ i ih =>
    by_cases c : tm i = -1 ∧ (hiU hs tm i = -1 ∨ hs (hiU hs tm i).toNat < hs i)
    · rw [hiU_t c.1 c.2]; omega
    · rw [hiU_f c]; omega
def ffst (p : Nat → Bool) : Nat → Nat → Option Nat
  | _, 0 => none
  | s, c + 1 => if p s = true then some s else ffst p (s + 1) c
theorem ffst_t {p : Nat → Bool} {s c : Nat} (h : p s = true) : ffst p s (c + 1) = some s := if_pos h
theorem ffst_f {p : Nat → Bool} {s c : Nat} (h : p s = false) : ffst p s (c + 1) = ffst p (s + 1) c := if_neg (by rw [h]; decide)
theorem ffst_bd {p : Nat → Bool} {s c t : Nat} (h : ffst p s c = some t) : s ≤ t ∧ t < s + c ∧ p t = true := by
  induction c generalizing s with
  | zero => cases h
  | succ c ih =>
    cases e : p s with
    | true =>
      rw [ffst_t e] at h
      cases h
      exact ⟨Nat.le_refl _, by omega, e⟩
    | false =>
      rw [ffst_f e] at h
      have := ih h
      exact ⟨by omega, by omega, this.2.2⟩
def pE (L : LD) (T : Nat) (tm : Nat → Int) (op : Nat) : Nat := (eA L T tm op (Lm L)).toNat
def pN (L : LD) (T : Nat) (tm : Nat → Int) (op : Nat) : Nat := (min (lA L T tm op (Lm L)) (eA L T tm op (Lm L) + (T : Int) - 1) - eA L T tm op (Lm L) + 1).toNat
def pF (L : LD) (T : Nat) (tm : Nat → Int) (tk : Nat → Nat → Int) (op : Nat) : Option Nat := ffst (hUb L T tk op) (pE L T tm op) (pN L T tm op)
theorem pE_e {L : LD} (hw : wf L) {T : Nat} {B : Int} {tm : Nat → Int} (ht : tB B tm) (hB : 0 ≤ B) (op : Nat) : eA L T tm op (Lm L) = ((pE L T tm op : Nat) : Int) := by
  have := eA_bd hw (T := T) ht hB op (Lm L)
  unfold pE
  omega
theorem pF_bd {L : LD} (hw : wf L) {T : Nat} {B : Int} {tm : Nat → Int} {tk : Nat → Nat → Int} (ht : tB B tm) (hB : 0 ≤ B) {op t : Nat} (h : pF L T tm tk op = some t) : (t : Int) ≤ B + 11 + (T : Int) := by
  have h1 := ffst_bd h
  have h2 := pE_e hw (T := T) ht hB op
  have h3 := eA_bd hw (T := T) ht hB op (Lm L)
  unfold pN at h1
  omega
def paT (o : Option Nat) (tm : Nat → Int) (op : Nat) : Nat → Int := match o with
  | none => tm
  | some t => upZ tm op (t : Int)
def paK (L : LD) (T : Nat) (o : Option Nat) (tk : Nat → Nat → Int) (op : Nat) : Nat → Nat → Int := match o with
  | none => tk
  | some t => cT L T op t 1 tk (Lby L op)
def at1 (L : LD) (T : Nat) (q : (Nat → Int) × (Nat → Nat → Int)) : Option ((Nat → Int) × (Nat → Nat → Int)) :=
  if hiU (hF L T) q.1 (Ln L) = -1 then none else match pF L T q.1 q.2 (hiU (hF L T) q.1 (Ln L)).toNat with
  | none => none
  | some s => some (upZ q.1 (hiU (hF L T) q.1 (Ln L)).toNat (s : Int), cT L T (hiU (hF L T) q.1 (Ln L)).toNat s 1 q.2 (Lby L (hiU (hF L T) q.1 (Ln L)).toNat))
def atp (L : LD) (T : Nat) : Nat → Option ((Nat → Int) × (Nat → Nat → Int))
  | 0 => some (fun _ => -1, fun _ _ => 0)
  | c + 1 => (atp L T c).bind (at1 L T)
theorem atp_s {L : LD} {T c : Nat} {q : (Nat → Int) × (Nat → Nat → Int)} (h : atp L T c = some q) : atp L T (c + 1) = at1 L T q := by
  show (atp L T c).bind (at1 L T) = _
  rw [h]
  rfl
theorem atp_none {L : LD} {T c : Nat} (h : atp L T c = none) (d : Nat) : atp L T (c + d) = none := by
  induction d with
  | zero => exact h
  | succ d ih =>
    show (atp L T (c + d)).bind (at1 L T) = none
    rw [ih]
    rfl
theorem atp_end {L : LD} {T c : Nat} {q : (Nat → Int) × (Nat → Nat → Int)} (h : atp L T c = some q) (hc : c < Ln L) (h1 : at1 L T q = none) : atp L T (Ln L) = none := by
  have h2 := atp_none ((atp_s h).trans h1) (Ln L - (c + 1))
  rw [show c + 1 + (Ln L - (c + 1)) = Ln L by omega] at h2
  exact h2
theorem at1_h {L : LD} {T : Nat} {tm : Nat → Int} {tk : Nat → Nat → Int} (h : hiU (hF L T) tm (Ln L) = -1) : at1 L T (tm, tk) = none := if_pos h
theorem at1_n {L : LD} {T op : Nat} {tm : Nat → Int} {tk : Nat → Nat → Int} (h : hiU (hF L T) tm (Ln L) = ((op : Nat) : Int)) (h2 : pF L T tm tk op = none) : at1 L T (tm, tk) = none := by
  unfold at1
  rw [if_neg (by rw [h]; omega)]
  show (match pF L T tm tk (hiU (hF L T) tm (Ln L)).toNat with | none => none | some s => _) = none
  rw [h, Int.toNat_natCast, h2]
theorem at1_s {L : LD} {T op s : Nat} {tm : Nat → Int} {tk : Nat → Nat → Int} (h : hiU (hF L T) tm (Ln L) = ((op : Nat) : Int)) (h2 : pF L T tm tk op = some s) : at1 L T (tm, tk) = some (upZ tm op (s : Int), cT L T op s 1 tk (Lby L op)) := by
  unfold at1
  rw [if_neg (by rw [h]; omega)]
  show (match pF L T tm tk (hiU (hF L T) tm (Ln L)).toNat with | none => none | some s => some (upZ tm (hiU (hF L T) tm (Ln L)).toNat (s : Int), cT L T (hiU (hF L T) tm (Ln L)).toNat s 1 tk (Lby L (hiU (hF L T) tm (Ln L)).toNat))) = _
  rw [h, Int.toNat_natCast, h2]
theorem atp_bd {L : LD} (hw : wf L) {T : Nat} (hT : T ≤ 200) (c : Nat) : ∀ q, atp L T c = some q → tB (212 * (c : Int)) q.1 ∧ kB (4 * (c : Int)) q.2 := by
  induction c with
  | zero =>
    intro q h
    cases h
    refine ⟨fun j => ?_, fun k r => ?_⟩
    · show (-1 : Int) ≤ -1 ∧ (-1 : Int) ≤ _
      omega
    · show -(4 * ((0 : Nat) : Int)) ≤ 0 ∧ (0 : Int) ≤ _
      omega
  | succ c ih =>
    intro q h
    cases e : atp L T c with
    | none => exact absurd (atp_none e 1) (by rw [h]; intro h9; cases h9)
    | some q0 =>
      obtain ⟨tm, tk⟩ := q0
      obtain ⟨h1, h2⟩ := ih _ e
      have h1 : tB (212 * (c : Int)) tm := h1
      have h2 : kB (4 * (c : Int)) tk := h2
      rw [atp_s e] at h
      have h3 := hiU_bd (hF L T) tm (Ln L)
      by_cases hh : hiU (hF L T) tm (Ln L) = -1
      · rw [at1_h hh] at h; cases h
      · obtain ⟨op, hop⟩ : ∃ op : Nat, hiU (hF L T) tm (Ln L) = ((op : Nat) : Int) := ⟨(hiU (hF L T) tm (Ln L)).toNat, by omega⟩
        cases ep : pF L T tm tk op with
        | none => rw [at1_n hop ep] at h; cases h
        | some s =>
          rw [at1_s hop ep] at h
          cases h
          have h4 := pF_bd hw h1 (by omega) ep
          have h5 := wf_by hw op
          have h6 := cT_bd (L := L) (T := T) (op := op) (t := s) (ch := 1) h2 (by omega) (Lby L op)
          refine ⟨fun j => ?_, fun k r => ?_⟩
          · have := h1 j
            show -1 ≤ upZ tm op (s : Int) j ∧ upZ tm op (s : Int) j ≤ _
            by_cases ej : j = op
            · rw [ej, upZ_s]; omega
            · rw [upZ_n _ _ ej]; omega
          · have h7 := h6 k r
            show _ ≤ cT L T op s 1 tk (Lby L op) k r ∧ cT L T op s 1 tk (Lby L op) k r ≤ _
            omega
def vR (L : LD) (T : Nat) (tm : Nat → Int) (tk : Nat → Nat → Int) (op t : Nat) : Bool := decide (eA L T tm op (Lm L) ≤ (t : Int)) && (decide ((t : Int) ≤ lA L T tm op (Lm L)) && hUb L T tk op t)
def lTm (tm : Nat → Int) (op : Nat) : Nat → Int := upZ tm op (-1)
def lTk (L : LD) (T : Nat) (tk : Nat → Nat → Int) (op t0 : Nat) : Nat → Nat → Int := cT L T op t0 (-1) tk (Lby L op)
def pTk (L : LD) (T : Nat) (tk : Nat → Nat → Int) (op t : Nat) : Nat → Nat → Int := cT L T op t 1 tk (Lby L op)
theorem lTm_b {B : Int} {tm : Nat → Int} (h : tB B tm) (hB : 0 ≤ B) (op : Nat) : tB B (lTm tm op) := by
  intro j
  have := h j
  show -1 ≤ upZ tm op (-1) j ∧ upZ tm op (-1) j ≤ _
  by_cases e : j = op
  · rw [e, upZ_s]; omega
  · rw [upZ_n _ _ e]; omega
theorem lTk_b {L : LD} (hw : wf L) {T : Nat} {C : Int} {tk : Nat → Nat → Int} (h : kB C tk) (op t0 : Nat) : kB (C + 4) (lTk L T tk op t0) := by
  intro k r
  have h1 := cT_bd (L := L) (T := T) (op := op) (t := t0) (ch := -1) h (by omega) (Lby L op) k r
  have h2 := wf_by hw op
  show _ ≤ cT L T op t0 (-1) tk (Lby L op) k r ∧ cT L T op t0 (-1) tk (Lby L op) k r ≤ _
  omega
def rT (L : LD) (T : Nat) (tm : Nat → Int) (tk : Nat → Nat → Int) (op t t0 : Nat) : Nat := if vR L T (lTm tm op) (lTk L T tk op t0) op t = true then t else t0
theorem vR_t {L : LD} {T : Nat} {tm : Nat → Int} {tk : Nat → Nat → Int} {op t : Nat} (h1 : eA L T tm op (Lm L) ≤ (t : Int)) (h2 : (t : Int) ≤ lA L T tm op (Lm L)) (h3 : hUb L T tk op t = true) : vR L T tm tk op t = true := by
  unfold vR
  rw [decide_eq_true h1, decide_eq_true h2, h3]
  rfl
theorem vR_f {L : LD} {T : Nat} {tm : Nat → Int} {tk : Nat → Nat → Int} {op t : Nat} (h : ¬ (eA L T tm op (Lm L) ≤ (t : Int) ∧ (t : Int) ≤ lA L T tm op (Lm L) ∧ hUb L T tk op t = true)) : vR L T tm tk op t = false := by
  cases e : vR L T tm tk op t with
  | false => rfl
  | true =>
    unfold vR at e
    rw [Bool.and_eq_true, Bool.and_eq_true] at e
    exact absurd ⟨of_decide_eq_true e.1, of_decide_eq_true e.2.1, e.2.2⟩ h
def cnt (p : Nat → Bool) : Nat → Nat → Nat
  | _, 0 => 0
  | s, c + 1 => cnt p (s + 1) c + (if p s = true then 1 else 0)
theorem cnt_t {p : Nat → Bool} {s c : Nat} (h : p s = true) : cnt p s (c + 1) = cnt p (s + 1) c + 1 := by
  show cnt p (s + 1) c + (if p s = true then 1 else 0) = _
  rw [if_pos h]
theorem cnt_f {p : Nat → Bool} {s c : Nat} (h : p s = false) : cnt p s (c + 1) = cnt p (s + 1) c := by
  show cnt p (s + 1) c + (if p s = true then 1 else 0) = _
  rw [if_neg (by rw [h]; decide)]
  rfl
theorem cnt_le (p : Nat → Bool) (s c : Nat) : cnt p s c ≤ c := by
  induction c generalizing s with
  | zero => exact Nat.le_refl _
  | succ c ih =>
    have := ih (s + 1)
    cases e : p s with
    | true => rw [cnt_t e]; omega
    | false => rw [cnt_f e]; omega
def qN (L : LD) (T : Nat) (tm : Nat → Int) (op : Nat) : Nat := (min (lA L T tm op (Lm L)) 1000 - eA L T tm op (Lm L) + 1).toNat
def cP (L : LD) (T : Nat) (tm : Nat → Int) (tk : Nat → Nat → Int) (op : Nat) : Nat := cnt (hUb L T tk op) (pE L T tm op) (qN L T tm op)
def gT (tm : Nat → Int) : Nat → Int
  | 0 => 0
  | i + 1 => max (gT tm i) (tm i)
theorem gT_bd {B : Int} {tm : Nat → Int} (h : tB B tm) (hB : 0 ≤ B) (i : Nat) : 0 ≤ gT tm i ∧ gT tm i ≤ B := by
  induction i with
  | zero => exact ⟨Int.le_refl _, hB⟩
  | succ i ih =>
    have := h i
    show 0 ≤ max (gT tm i) (tm i) ∧ max (gT tm i) (tm i) ≤ B
    omega
def sG (L : LD) (T : Nat) (tm : Nat → Int) : Int := if Ln L = 0 then 0 else gT tm (Ln L) / (T : Int) + 1
def fLt (L : LD) (T : Nat) (tm : Nat → Int) : Nat → (Nat → Int)
  | 0 => fun _ => 0
  | k + 1 => upZ (fLt L T tm k) (Lsr L k) (max (fLt L T tm k (Lsr L k)) (tm (Lds L k) + (T : Int) * (Ldi L k : Int) - tm (Lsr L k)))
theorem fLt_bd {L : LD} (hw : wf L) {T : Nat} (hT : T ≤ 200) {B : Int} {tm : Nat → Int} (h : tB B tm) (hB : 0 ≤ B) (k : Nat) : ∀ j, 0 ≤ fLt L T tm k j ∧ fLt L T tm k j ≤ B + 601 := by
  induction k with
  | zero => intro j; show (0 : Int) ≤ 0 ∧ (0 : Int) ≤ _; omega
  | succ k ih =>
    intro j
    show 0 ≤ upZ _ _ _ j ∧ upZ _ _ _ j ≤ _
    by_cases e : j = Lsr L k
    · have h1 := ih (Lsr L k)
      have h2 := h (Lds L k)
      have h3 := h (Lsr L k)
      have h4 := mul_bd hT (wf_di hw k)
      rw [e, upZ_s]
      omega
    · rw [upZ_n _ _ e]; exact ih j
def cL (T : Nat) (tm lt : Nat → Int) (row : Int) : Nat → Int
  | 0 => 0
  | i + 1 => if (row - tm i) % (T : Int) < lt i % (T : Int) then cL T tm lt row i + lt i / (T : Int) + 1 else cL T tm lt row i + lt i / (T : Int)
theorem cL_t {T : Nat} {tm lt : Nat → Int} {row : Int} {i : Nat} (h : (row - tm i) % (T : Int) < lt i % (T : Int)) : cL T tm lt row (i + 1) = cL T tm lt row i + lt i / (T : Int) + 1 := if_pos h
theorem cL_f {T : Nat} {tm lt : Nat → Int} {row : Int} {i : Nat} (h : ¬ (row - tm i) % (T : Int) < lt i % (T : Int)) : cL T tm lt row (i + 1) = cL T tm lt row i + lt i / (T : Int) := if_neg h
theorem ediv_bd {x : Int} {T : Nat} (hx : 0 ≤ x) : 0 ≤ x / (T : Int) ∧ x / (T : Int) ≤ x := by
  refine ⟨Int.ediv_nonneg hx (Int.natCast_nonneg T), ?_⟩
  have := Int.ediv_le_self (T : Int) hx
  exact this
theorem emod_bd (x : Int) {T : Nat} (hT : 0 < T) : 0 ≤ x % (T : Int) ∧ x % (T : Int) < (T : Int) := ⟨Int.emod_nonneg x (by omega), Int.emod_lt_of_pos x (by omega)⟩
theorem cL_bd {T : Nat} {tm lt : Nat → Int} {row M : Int} (hM : ∀ j, 0 ≤ lt j ∧ lt j ≤ M) (i : Nat) : 0 ≤ cL T tm lt row i ∧ cL T tm lt row i ≤ (M + 1) * (i : Int) := by
  induction i with
  | zero => exact ⟨Int.le_refl _, by show (0 : Int) ≤ _; rw [Int.natCast_zero, Int.mul_zero]; exact Int.le_refl _⟩
  | succ i ih =>
    have h1 := hM i
    have h2 := ediv_bd (T := T) h1.1
    have h3 : (M + 1) * ((i + 1 : Nat) : Int) = (M + 1) * (i : Int) + (M + 1) := by
      rw [Int.natCast_succ, Int.mul_add, Int.mul_one]
    by_cases c : (row - tm i) % (T : Int) < lt i % (T : Int)
    · rw [cL_t c]; omega
    · rw [cL_f c]; omega
def cC (T : Nat) (lt : Nat → Int) (op : Nat) : Int := max 1 ((lt op + (T : Int) - 1) / (T : Int))

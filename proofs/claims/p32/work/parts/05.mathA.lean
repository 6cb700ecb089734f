theorem bI_r (b : Bool) : -2147483648 ≤ bI b ∧ bI b < 2147483648 := by cases b <;> decide
theorem bI_t {b : Bool} (h : ¬ bI b = 0) : b = true := by
  cases b
  · exact absurd rfl h
  · rfl
theorem bI_f {b : Bool} (h : bI b = 0) : b = false := by
  cases b
  · rfl
  · exact absurd h (by decide)
def gr1 (L : LD) (t k : Nat) (q : (Nat → Int) × Bool) : (Nat → Int) × Bool :=
  if q.1 (Lsr L k) < q.1 (Lds L k) + (Ldl L k : Int) - (t : Int) * (Ldi L k : Int) then (upZ q.1 (Lsr L k) (q.1 (Lds L k) + (Ldl L k : Int) - (t : Int) * (Ldi L k : Int)), true) else q
def gr (L : LD) (t : Nat) : Nat → (Nat → Int) × Bool → (Nat → Int) × Bool
  | 0, q => q
  | k + 1, q => gr1 L t k (gr L t k q)
theorem gr_s (L : LD) (t k : Nat) (q : (Nat → Int) × Bool) : gr L t (k + 1) q = gr1 L t k (gr L t k q) := rfl
theorem gr1_t {L : LD} {t k : Nat} {h : Nat → Int} {b : Bool} (c : h (Lsr L k) < h (Lds L k) + (Ldl L k : Int) - (t : Int) * (Ldi L k : Int)) : gr1 L t k (h, b) = (upZ h (Lsr L k) (h (Lds L k) + (Ldl L k : Int) - (t : Int) * (Ldi L k : Int)), true) := if_pos c
theorem gr1_f {L : LD} {t k : Nat} {h : Nat → Int} {b : Bool} (c : ¬ h (Lsr L k) < h (Lds L k) + (Ldl L k : Int) - (t : Int) * (Ldi L k : Int)) : gr1 L t k (h, b) = (h, b) := if_neg c
def gB (B : Int) (h : Nat → Int) : Prop := ∀ j, 0 ≤ h j ∧ h j ≤ B
theorem mul_nn (t d : Nat) : (0 : Int) ≤ (t : Int) * (d : Int) := Int.mul_nonneg (Int.natCast_nonneg t) (Int.natCast_nonneg d)
theorem mul_bd {t d T E : Nat} (h1 : t ≤ T) (h2 : d ≤ E) : (t : Int) * (d : Int) ≤ (T * E : Nat) := by
  have h : t * d ≤ T * E := Nat.mul_le_mul h1 h2
  have e : ((t * d : Nat) : Int) = (t : Int) * (d : Int) := Int.natCast_mul t d
  omega
theorem gr_bd {L : LD} (hw : wf L) {t : Nat} {B : Int} {h : Nat → Int} {b : Bool} (hh : gB B h) (k : Nat) : gB (B + 12 * (k : Int)) (gr L t k (h, b)).1 := by
  induction k with
  | zero =>
    intro j
    have := hh j
    show 0 ≤ h j ∧ h j ≤ _
    omega
  | succ k ih =>
    intro j
    rw [gr_s]
    unfold gr1
    have h1 := ih j
    have h2 := ih (Lds L k)
    have h3 := ih (Lsr L k)
    have h4 := wf_dl hw k
    have h5 := mul_nn t (Ldi L k)
    by_cases c : (gr L t k (h, b)).1 (Lsr L k) < (gr L t k (h, b)).1 (Lds L k) + (Ldl L k : Int) - (t : Int) * (Ldi L k : Int)
    · rw [if_pos c]
      show 0 ≤ upZ _ _ _ j ∧ upZ _ _ _ j ≤ _
      by_cases e : j = Lsr L k
      · subst e; rw [upZ_s]; omega
      · rw [upZ_n _ _ e]; omega
    · rw [if_neg c]; omega
theorem gr_same {L : LD} {t : Nat} {h : Nat → Int} (k : Nat) (hf : (gr L t k (h, false)).2 = false) : gr L t k (h, false) = (h, false) := by
  induction k with
  | zero => rfl
  | succ k ih =>
    rw [gr_s] at hf ⊢
    unfold gr1 at hf ⊢
    by_cases c : (gr L t k (h, false)).1 (Lsr L k) < (gr L t k (h, false)).1 (Lds L k) + (Ldl L k : Int) - (t : Int) * (Ldi L k : Int)
    · rw [if_pos c] at hf
      exact absurd (show true = false from hf) (by decide)
    · rw [if_neg c] at hf ⊢
      exact ih hf
def hit (L : LD) (t : Nat) : Nat → (Nat → Int)
  | 0 => fun _ => 0
  | r + 1 => (gr L t (Lm L) (hit L t r, false)).1
def fl (L : LD) (t r : Nat) : Bool := (gr L t (Lm L) (hit L t r, false)).2
def cv (L : LD) (t : Nat) : Bool := !(fl L t (Ln L))
def hF (L : LD) (t : Nat) : Nat → Int := hit L t (Ln L + 1)
theorem hit_s (L : LD) (t r : Nat) : (gr L t (Lm L) (hit L t r, false)).1 = hit L t (r + 1) := rfl
theorem fl_hit {L : LD} {t r : Nat} (h : fl L t r = false) : hit L t (r + 1) = hit L t r := by
  show (gr L t (Lm L) (hit L t r, false)).1 = _
  rw [gr_same (Lm L) h]
theorem fl_stay {L : LD} {t r : Nat} (h : fl L t r = false) (d : Nat) : hit L t (r + d) = hit L t r ∧ fl L t (r + d) = false := by
  induction d with
  | zero => exact ⟨rfl, h⟩
  | succ d ih =>
    have e : hit L t (r + (d + 1)) = hit L t r := (fl_hit ih.2).trans ih.1
    refine ⟨e, ?_⟩
    show (gr L t (Lm L) (hit L t (r + (d + 1)), false)).2 = false
    rw [e]
    exact h
theorem fl_end {L : LD} {t r : Nat} (hr : r ≤ Ln L) (h : fl L t r = false) : cv L t = true ∧ hit L t (r + 1) = hF L t := by
  have h1 := fl_stay h (Ln L - r)
  have h2 := fl_stay h (Ln L + 1 - r)
  rw [show r + (Ln L - r) = Ln L by omega] at h1
  rw [show r + (Ln L + 1 - r) = Ln L + 1 by omega] at h2
  refine ⟨by unfold cv; rw [h1.2]; rfl, ?_⟩
  rw [fl_hit h]
  exact h2.1.symm
theorem hit_bd {L : LD} (hw : wf L) (t r : Nat) : gB (480 * (r : Int)) (hit L t r) := by
  induction r with
  | zero =>
    intro j
    show (0 : Int) ≤ 0 ∧ (0 : Int) ≤ _
    omega
  | succ r ih =>
    intro j
    have h := gr_bd hw (t := t) (b := false) ih (Lm L) j
    have hm := wf_m hw
    show 0 ≤ (gr L t (Lm L) (hit L t r, false)).1 j ∧ (gr L t (Lm L) (hit L t r, false)).1 j ≤ _
    omega
def hv (L : LD) : Nat → Nat
  | 0 => 0
  | i + 1 => if cv L (hv L i + 128 / 2 ^ i) = true then hv L i else hv L i + 128 / 2 ^ i
theorem hv_t {L : LD} {i : Nat} (h : cv L (hv L i + 128 / 2 ^ i) = true) : hv L (i + 1) = hv L i := if_pos h
theorem hv_f {L : LD} {i : Nat} (h : cv L (hv L i + 128 / 2 ^ i) = false) : hv L (i + 1) = hv L i + 128 / 2 ^ i := if_neg (by rw [h]; decide)
theorem hv_le (L : LD) (i : Nat) : hv L (i + 1) ≤ hv L i + 128 / 2 ^ i := by
  by_cases h : cv L (hv L i + 128 / 2 ^ i) = true
  · rw [hv_t h]; exact Nat.le_add_right _ _
  · rw [show hv L (i + 1) = _ from if_neg h]; exact Nat.le_refl _
theorem pw_all : ∀ i, i < 9 → 128 / 2 ^ i ≤ 128 ∧ (i < 8 → 0 < 128 / 2 ^ i) ∧ (i = 8 → 128 / 2 ^ i = 0) ∧ 128 / 2 ^ i / 2 = 128 / 2 ^ (i + 1) := by decide
theorem hv_bd (L : LD) : ∀ i, i < 9 → hv L i + 128 / 2 ^ i ≤ 255 := by
  have h0 : hv L 0 = 0 := rfl
  have h1 := hv_le L 0
  have h2 := hv_le L 1
  have h3 := hv_le L 2
  have h4 := hv_le L 3
  have h5 := hv_le L 4
  have h6 := hv_le L 5
  have h7 := hv_le L 6
  have h8 := hv_le L 7
  intro i hi
  simp only [Nat.reducePow, Nat.reduceDiv, Nat.zero_add, Nat.reduceAdd] at h1 h2 h3 h4 h5 h6 h7 h8
  match i, hi with
  | 0, _ => simp only [Nat.reducePow, Nat.reduceDiv]; omega
  | 1, _ => simp only [Nat.reducePow, Nat.reduceDiv]; omega
  | 2, _ => simp only [Nat.reducePow, Nat.reduceDiv]; omega
  | 3, _ => simp only [Nat.reducePow, Nat.reduceDiv]; omega
  | 4, _ => simp only [Nat.reducePow, Nat.reduceDiv]; omega
  | 5, _ => simp only [Nat.reducePow, Nat.reduceDiv]; omega
  | 6, _ => simp only [Nat.reducePow, Nat.reduceDiv]; omega
  | 7, _ => simp only [Nat.reducePow, Nat.reduceDiv]; omega
  | 8, _ => simp only [Nat.reducePow, Nat.reduceDiv]; omega
def rBz (L : LD) : Int := if hv L 8 < 200 then ((hv L 8 + 1 : Nat) : Int) else -1
def bcs (L : LD) (x : Nat) : Nat → Nat
  | 0 => 0
  | i + 1 => if Lkd L i = x then bcs L x i + Lby L i else bcs L x i
theorem bcs_t {L : LD} {x i : Nat} (h : Lkd L i = x) : bcs L x (i + 1) = bcs L x i + Lby L i := if_pos h
theorem bcs_f {L : LD} {x i : Nat} (h : ¬ Lkd L i = x) : bcs L x (i + 1) = bcs L x i := if_neg h
theorem bcs_bd {L : LD} (hw : wf L) (x i : Nat) : bcs L x i ≤ 4 * i := by
  induction i with
  | zero => exact Nat.le_refl _
  | succ i ih =>
    have := wf_by hw i
    by_cases h : Lkd L i = x
    · rw [bcs_t h]; omega
    · rw [bcs_f h]; omega
def rsk (L : LD) : Nat → Nat
  | 0 => 1
  | k + 1 => max (rsk L k) ((bcs L k (Ln L) + Lu L k - 1) / Lu L k)
def rs (L : LD) : Nat := rsk L 3
theorem rsk_bd {L : LD} (hw : wf L) (k : Nat) : rsk L k ≤ 100 := by
  induction k with
  | zero => exact (show 1 ≤ 100 by decide)
  | succ k ih =>
    have h1 := bcs_bd hw k (Ln L)
    have h2 := wf_n hw
    show max (rsk L k) ((bcs L k (Ln L) + Lu L k - 1) / Lu L k) ≤ 100
    have h3 : (bcs L k (Ln L) + Lu L k - 1) / Lu L k ≤ 100 := by
      rcases Nat.eq_zero_or_pos (Lu L k) with h | h
      · rw [h, Nat.div_zero]; omega
      · refine Nat.div_le_of_le_mul ?_
        have : Lu L k * 100 = Lu L k * 99 + Lu L k := by omega
        have h5 : 1 * 99 ≤ Lu L k * 99 := Nat.mul_le_mul_right _ h
        omega
    omega
theorem rsk_pos (L : LD) (k : Nat) : 1 ≤ rsk L k := by
  induction k with
  | zero => exact Nat.le_refl _
  | succ k ih => exact Nat.le_trans ih (Nat.le_max_left _ _)

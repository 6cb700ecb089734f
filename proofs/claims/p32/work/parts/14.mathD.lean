theorem iI_and (x y : Bool) : iI (bI x) &&& iI (bI y) = iI (bI (x && y)) := by cases x <;> cases y <;> decide
def ptm (pl : Nat → Bool) (tm : Nat → Nat) : Nat → Int := fun j => if pl j = true then ((tm j : Nat) : Int) else -1
theorem ptm_t {pl : Nat → Bool} {tm : Nat → Nat} {j : Nat} (h : pl j = true) : ptm pl tm j = ((tm j : Nat) : Int) := if_pos h
theorem ptm_f {pl : Nat → Bool} {tm : Nat → Nat} {j : Nat} (h : pl j = false) : ptm pl tm j = -1 := if_neg (by rw [h]; decide)
def hrq (s t r : Nat) : Nat → Nat
  | 0 => 0
  | k + 1 => if (s + k) % t = r then hrq s t r k + 1 else hrq s t r k
theorem hrq_t {s t r k : Nat} (h : (s + k) % t = r) : hrq s t r (k + 1) = hrq s t r k + 1 := if_pos h
theorem hrq_f {s t r k : Nat} (h : ¬ (s + k) % t = r) : hrq s t r (k + 1) = hrq s t r k := if_neg h
theorem hrq_le (s t r k : Nat) : hrq s t r k ≤ k := by
  induction k with
  | zero => exact Nat.le_refl _
  | succ k ih =>
    by_cases h : (s + k) % t = r
    · rw [hrq_t h]; omega
    · rw [hrq_f h]; omega
theorem mod_eq {s t r k : Nat} (ht : 0 < t) (hrt : r < t) : (s + k) % t = r ↔ ((k % t : Nat) : Int) = ((r : Int) - (s : Int)) % (t : Int) := by
  have h1 : (((s + k) % t : Nat) : Int) = ((s : Int) + (k : Int)) % (t : Int) := by rw [Int.natCast_emod, Int.natCast_add]
  have h2 : ((k % t : Nat) : Int) = (k : Int) % (t : Int) := Int.natCast_emod _ _
  have h3 : ((r : Int)) % (t : Int) = (r : Int) := Int.emod_eq_of_lt (by omega) (by omega)
  constructor
  · intro h
    rw [h2]
    have h4 : ((s : Int) + (k : Int)) % (t : Int) = (r : Int) := by rw [← h1, h]
    have h5 : (k : Int) = ((s : Int) + (k : Int)) - (s : Int) := by omega
    rw [h5, Int.sub_emod, h4, ← Int.sub_emod_emod]
    conv => rhs; rw [Int.sub_emod, h3]
    rw [Int.emod_emod]
  · intro h
    rw [h2] at h
    have h4 : ((s : Int) + (k : Int)) % (t : Int) = (r : Int) := by
      rw [Int.add_emod, h, ← Int.add_emod]
      have h6 : (s : Int) + ((r : Int) - (s : Int)) = (r : Int) := by omega
      rw [h6, h3]
    omega
theorem hrq_cl {s t r : Nat} (ht : 0 < t) (hrt : r < t) (k : Nat) : ((hrq s t r k : Nat) : Int) = ((k / t : Nat) : Int) + (if ((r : Int) - (s : Int)) % (t : Int) < ((k % t : Nat) : Int) then 1 else 0) := by
  have hq := emod_bd ((r : Int) - (s : Int)) ht
  induction k with
  | zero =>
    show (0 : Int) = _
    rw [Nat.zero_div, Nat.zero_mod, if_neg (by omega)]
    rfl
  | succ k ih =>
    have hm := Nat.mod_lt k ht
    have e := mod_eq (s := s) (k := k) ht hrt
    by_cases c : k % t + 1 = t
    · have d1 : (k + 1) / t = k / t + 1 := by
        have h1 := Nat.div_add_mod k t
        have h2 : k + 1 = t * (k / t + 1) := by rw [Nat.mul_add, Nat.mul_one]; omega
        rw [h2, Nat.mul_div_cancel_left _ ht]
      have d2 : (k + 1) % t = 0 := by
        have h1 := Nat.div_add_mod k t
        have h2 : k + 1 = t * (k / t + 1) := by rw [Nat.mul_add, Nat.mul_one]; omega
        rw [h2, Nat.mul_mod_right]
      rw [d1, d2]
      by_cases hh : (s + k) % t = r
      · rw [hrq_t hh, if_neg (by omega)]
        rw [if_neg (by have := e.mp hh; omega)] at ih
        omega
      · rw [hrq_f hh, if_neg (by omega)]
        rw [if_pos (by have := fun q => hh (e.mpr q); omega)] at ih
        omega
    · have d1 : (k + 1) / t = k / t := by
        have h1 := Nat.div_add_mod k t
        have h2 : k + 1 = t * (k / t) + (k % t + 1) := by omega
        rw [h2, Nat.mul_add_div ht, Nat.div_eq_of_lt (show k % t + 1 < t by omega), Nat.add_zero]
      have d2 : (k + 1) % t = k % t + 1 := by
        have h1 := Nat.div_add_mod k t
        have h2 : k + 1 = t * (k / t) + (k % t + 1) := by omega
        rw [h2, Nat.mul_add_mod, Nat.mod_eq_of_lt (show k % t + 1 < t by omega)]
      rw [d1, d2]
      by_cases hh : (s + k) % t = r
      · have h7 := e.mp hh
        rw [if_neg (by omega)] at ih
        rw [hrq_t hh, if_pos (by omega)]
        omega
      · have h7 := fun q => hh (e.mpr q)
        rw [hrq_f hh]
        by_cases h8 : ((r : Int) - (s : Int)) % (t : Int) < ((k % t : Nat) : Int)
        · rw [if_pos h8] at ih
          rw [if_pos (by omega)]
          exact ih
        · rw [if_neg h8] at ih
          rw [if_neg (by omega)]
          exact ih
theorem hrq_self {s t : Nat} (ht : 0 < t) (c : Nat) : hrq s t ((s + c) % t) c = c / t := by
  have hlt := Nat.mod_lt (s + c) ht
  have h1 := hrq_cl (s := s) ht hlt c
  have h2 := (mod_eq (s := s) (k := c) ht hlt).mp rfl
  rw [if_neg (by omega)] at h1
  omega
theorem hrq_mono (s t r : Nat) {a b : Nat} (h : a ≤ b) : hrq s t r a ≤ hrq s t r b := by
  induction b with
  | zero => rw [show a = 0 by omega]; exact Nat.le_refl _
  | succ b ih =>
    by_cases e : a = b + 1
    · rw [e]; exact Nat.le_refl _
    · have := ih (by omega)
      by_cases hh : (s + b) % t = r
      · rw [hrq_t hh]; omega
      · rw [hrq_f hh]; omega
theorem hrq_A {s t : Nat} (ht : 0 < t) {c b : Nat} (h : c < b) : c / t + 1 ≤ hrq s t ((s + c) % t) b := by
  have h1 := hrq_mono s t ((s + c) % t) (show c + 1 ≤ b by omega)
  rw [hrq_t rfl, hrq_self ht] at h1
  exact h1
theorem hrq_B {s t r : Nat} (ht : 0 < t) (b : Nat) : hrq s t r b = 0 ∨ ∃ c, c < b ∧ (s + c) % t = r ∧ hrq s t r b = c / t + 1 := by
  induction b with
  | zero => exact Or.inl rfl
  | succ b ih =>
    by_cases hh : (s + b) % t = r
    · refine Or.inr ⟨b, by omega, hh, ?_⟩
      rw [hrq_t hh, ← hh, hrq_self ht]
    · rw [hrq_f hh]
      rcases ih with h | ⟨c, h1, h2, h3⟩
      · exact Or.inl h
      · exact Or.inr ⟨c, by omega, h2, h3⟩
theorem up2_v (tk : Nat → Nat → Int) (k r : Nat) (v : Int) (k' r' : Nat) : up2 tk k r v k' r' = if k' = k ∧ r' = r then v else tk k' r' := by
  unfold up2
  by_cases e : k' = k
  · rw [if_pos e]
    by_cases e2 : r' = r
    · rw [e2, upZ_s, if_pos ⟨e, rfl⟩]
    · rw [upZ_n _ _ e2, if_neg (fun q => e2 q.2), e]
  · rw [if_neg e, if_neg (fun q => e q.1)]
theorem cT_val (L : LD) (T op s : Nat) (ch : Int) (tk : Nat → Nat → Int) (k kd r : Nat) : cT L T op s ch tk k kd r = tk kd r + ch * (if kd = Lkd L op then ((hrq s T r k : Nat) : Int) else 0) := by
  induction k with
  | zero =>
    show tk kd r = tk kd r + ch * (if kd = Lkd L op then ((0 : Nat) : Int) else 0)
    by_cases e : kd = Lkd L op
    · rw [if_pos e]; simp
    · rw [if_neg e]; simp
  | succ k ih =>
    rw [cT_s, up2_v]
    by_cases e : kd = Lkd L op
    · rw [if_pos e] at ih ⊢
      by_cases e2 : r = (s + k) % T
      · rw [if_pos ⟨e, e2⟩, hrq_t e2.symm, ← e, ← e2, ih, Int.natCast_succ, Int.mul_add, Int.mul_one]
        omega
      · rw [if_neg (fun q => e2 q.2), hrq_f (fun q => e2 q.symm)]
        exact ih
    · rw [if_neg (fun q => e q.1)]
      rw [if_neg e] at ih ⊢
      exact ih
def cx (L : LD) (t : Nat) (tm : Nat → Nat) (i k : Nat) : Nat := 200 * Lkd L i + (tm i + k) % t
def cK (L : LD) (t : Nat) (tm : Nat → Nat) (i : Nat) (b : Int) (cn : Nat → Int) : Nat → (Nat → Int)
  | 0 => cn
  | k + 1 => upZ (cK L t tm i b cn k) (cx L t tm i k) (cK L t tm i b cn k (cx L t tm i k) + b)
theorem cK_s (L : LD) (t : Nat) (tm : Nat → Nat) (i : Nat) (b : Int) (cn : Nat → Int) (k : Nat) : cK L t tm i b cn (k + 1) = upZ (cK L t tm i b cn k) (cx L t tm i k) (cK L t tm i b cn k (cx L t tm i k) + b) := rfl
def iK (L : LD) (t : Nat) (tm : Nat → Nat) (i : Nat) (b : Int) (cn : Nat → Int) : Nat → Bool
  | 0 => true
  | k + 1 => iK L t tm i b cn k && decide (b < 0 ∨ cK L t tm i b cn (k + 1) (cx L t tm i k) ≤ (Lu L (Lkd L i) : Int))
theorem iK_s (L : LD) (t : Nat) (tm : Nat → Nat) (i : Nat) (b : Int) (cn : Nat → Int) (k : Nat) : iK L t tm i b cn (k + 1) = (iK L t tm i b cn k && decide (b < 0 ∨ cK L t tm i b cn (k + 1) (cx L t tm i k) ≤ (Lu L (Lkd L i) : Int))) := rfl
theorem iK_neg (L : LD) (t : Nat) (tm : Nat → Nat) (i : Nat) (cn : Nat → Int) (k : Nat) : iK L t tm i (-1) cn k = true := by
  induction k with
  | zero => rfl
  | succ k ih => rw [iK_s, ih, decide_eq_true (Or.inl (by decide))]; rfl
theorem cK_bd {L : LD} {t : Nat} {tm : Nat → Nat} {i : Nat} {b C : Int} (hb : -1 ≤ b ∧ b ≤ 1) {cn : Nat → Int} (h : ∀ y, -C ≤ cn y ∧ cn y ≤ C) (k : Nat) : ∀ y, -(C + (k : Int)) ≤ cK L t tm i b cn k y ∧ cK L t tm i b cn k y ≤ C + (k : Int) := by
  induction k with
  | zero => intro y; have := h y; show -(C + 0) ≤ cn y ∧ cn y ≤ C + 0; omega
  | succ k ih =>
    intro y
    rw [cK_s]
    by_cases e : y = cx L t tm i k
    · have := ih (cx L t tm i k)
      rw [e, upZ_s]; omega
    · have := ih y
      rw [upZ_n _ _ e]; omega
def bq (L : LD) (pl : Nat → Bool) (i : Nat) : Nat := if pl i = true then Lby L i else 0
theorem bq_t {L : LD} {pl : Nat → Bool} {i : Nat} (h : pl i = true) : bq L pl i = Lby L i := if_pos h
theorem bq_f {L : LD} {pl : Nat → Bool} {i : Nat} (h : pl i = false) : bq L pl i = 0 := if_neg (by rw [h]; decide)
theorem bq_le (L : LD) (pl : Nat → Bool) (i : Nat) : bq L pl i ≤ Lby L i := by
  cases h : pl i with
  | true => rw [bq_t h]; exact Nat.le_refl _
  | false => rw [bq_f h]; exact Nat.zero_le _
def fA (L : LD) (t : Nat) (tm : Nat → Nat) (pl : Nat → Bool) : Nat → (Nat → Int) × Bool
  | 0 => (fun _ => 0, true)
  | i + 1 => (cK L t tm i 1 (fA L t tm pl i).1 (bq L pl i), iK L t tm i 1 (fA L t tm pl i).1 (bq L pl i) && (fA L t tm pl i).2)
theorem fA_s (L : LD) (t : Nat) (tm : Nat → Nat) (pl : Nat → Bool) (i : Nat) : fA L t tm pl (i + 1) = (cK L t tm i 1 (fA L t tm pl i).1 (bq L pl i), iK L t tm i 1 (fA L t tm pl i).1 (bq L pl i) && (fA L t tm pl i).2) := rfl
def fD (L : LD) (t : Nat) (tm : Nat → Nat) (pl : Nat → Bool) (cn : Nat → Int) : Nat → (Nat → Int)
  | 0 => cn
  | i + 1 => cK L t tm i (-1) (fD L t tm pl cn i) (bq L pl i)
def hqK (L : LD) (t : Nat) (tm : Nat → Nat) (i y : Nat) : Nat → Nat
  | 0 => 0
  | k + 1 => if cx L t tm i k = y then hqK L t tm i y k + 1 else hqK L t tm i y k
theorem cK_val (L : LD) (t : Nat) (tm : Nat → Nat) (i : Nat) (b : Int) (cn : Nat → Int) (k y : Nat) : cK L t tm i b cn k y = cn y + b * ((hqK L t tm i y k : Nat) : Int) := by
  induction k with
  | zero => show cn y = cn y + b * ((0 : Nat) : Int); simp
  | succ k ih =>
    rw [cK_s]
    by_cases e : cx L t tm i k = y
    · rw [show hqK L t tm i y (k + 1) = hqK L t tm i y k + 1 from if_pos e, ← e, upZ_s]
      rw [← e] at ih
      rw [ih, Int.natCast_succ, Int.mul_add, Int.mul_one]
      omega
    · rw [show hqK L t tm i y (k + 1) = hqK L t tm i y k from if_neg e, upZ_n _ _ (fun q => e q.symm)]
      exact ih
def hqA (L : LD) (t : Nat) (tm : Nat → Nat) (pl : Nat → Bool) (y : Nat) : Nat → Nat
  | 0 => 0
  | i + 1 => hqA L t tm pl y i + hqK L t tm i y (bq L pl i)
theorem hqA_s (L : LD) (t : Nat) (tm : Nat → Nat) (pl : Nat → Bool) (y i : Nat) : hqA L t tm pl y (i + 1) = hqA L t tm pl y i + hqK L t tm i y (bq L pl i) := rfl
theorem fA_val (L : LD) (t : Nat) (tm : Nat → Nat) (pl : Nat → Bool) (i y : Nat) : (fA L t tm pl i).1 y = ((hqA L t tm pl y i : Nat) : Int) := by
  induction i with
  | zero => rfl
  | succ i ih =>
    rw [fA_s]
    show cK L t tm i 1 (fA L t tm pl i).1 (bq L pl i) y = ((hqA L t tm pl y i + hqK L t tm i y (bq L pl i) : Nat) : Int)
    rw [cK_val, ih]
    omega
theorem fD_val (L : LD) (t : Nat) (tm : Nat → Nat) (pl : Nat → Bool) (cn : Nat → Int) (i y : Nat) : fD L t tm pl cn i y = cn y - ((hqA L t tm pl y i : Nat) : Int) := by
  induction i with
  | zero => show cn y = cn y - ((0 : Nat) : Int); simp
  | succ i ih =>
    show cK L t tm i (-1) (fD L t tm pl cn i) (bq L pl i) y = cn y - ((hqA L t tm pl y i + hqK L t tm i y (bq L pl i) : Nat) : Int)
    rw [cK_val, ih]
    omega
theorem fD_back (L : LD) (t : Nat) (tm : Nat → Nat) (pl : Nat → Bool) (i : Nat) : fD L t tm pl (fA L t tm pl i).1 i = fun _ => 0 := by
  funext y
  rw [fD_val, fA_val]
  omega
theorem hqK_le (L : LD) (t : Nat) (tm : Nat → Nat) (i y k : Nat) : hqK L t tm i y k ≤ k := by
  induction k with
  | zero => exact Nat.le_refl _
  | succ k ih =>
    by_cases e : cx L t tm i k = y
    · rw [show hqK L t tm i y (k + 1) = hqK L t tm i y k + 1 from if_pos e]; omega
    · rw [show hqK L t tm i y (k + 1) = hqK L t tm i y k from if_neg e]; omega
theorem hqA_le {L : LD} (hw : wf L) (t : Nat) (tm : Nat → Nat) (pl : Nat → Bool) (y i : Nat) : hqA L t tm pl y i ≤ 4 * i := by
  induction i with
  | zero => exact Nat.le_refl _
  | succ i ih =>
    have h1 := hqK_le L t tm i y (bq L pl i)
    have h2 := bq_le L pl i
    have h3 := wf_by hw i
    show hqA L t tm pl y i + hqK L t tm i y (bq L pl i) ≤ _
    omega
def eOK (L : LD) (T : Nat) (tm : Nat → Nat) : Bool := (List.range (Lm L)).all (fun d => decide ((tm (Lsr L d) : Int) + ((Ldl L d : Int) - (T : Int) * (Ldi L d : Int)) ≤ (tm (Lds L d) : Int)))
theorem eOK_i {L : LD} {T : Nat} {tm : Nat → Nat} : eOK L T tm = true ↔ ∀ d, d < Lm L → (tm (Lsr L d) : Int) + ((Ldl L d : Int) - (T : Int) * (Ldi L d : Int)) ≤ (tm (Lds L d) : Int) := by
  unfold eOK
  rw [List.all_eq_true]
  exact ⟨fun h d hd => of_decide_eq_true (h d (List.mem_range.mpr hd)), fun h d hd => decide_eq_true (h d (List.mem_range.mp hd))⟩
theorem eOK_f {L : LD} {T : Nat} {tm : Nat → Nat} {d : Nat} (hd : d < Lm L) (h : ¬ (tm (Lsr L d) : Int) + ((Ldl L d : Int) - (T : Int) * (Ldi L d : Int)) ≤ (tm (Lds L d) : Int)) : eOK L T tm = false := by
  cases e : eOK L T tm with
  | false => rfl
  | true => exact absurd (eOK_i.mp e d hd) h
def vM (L : LD) (T : Nat) (tm : Nat → Nat) : Bool := eOK L T tm && (fA L T tm (fun _ => true) (Ln L)).2
theorem bq_congr {L : LD} {pl pl' : Nat → Bool} {i : Nat} (h : pl i = pl' i) : bq L pl i = bq L pl' i := by unfold bq; rw [h]
theorem fA_congr {L : LD} {t : Nat} {tm : Nat → Nat} {pl pl' : Nat → Bool} (n : Nat) (h : ∀ i, i < n → pl i = pl' i) : fA L t tm pl n = fA L t tm pl' n := by
  induction n with
  | zero => rfl
  | succ n ih => rw [fA_s, fA_s, ih (fun i hi => h i (by omega)), bq_congr (h n (by omega))]
def cMn (L : LD) (t : Nat) (tmz : Nat → Int) (i : Nat) : Nat := (min (t : Int) (min 1000000 (lA L t tmz i (Lm L)) - ((pE L t tmz i : Nat) : Int) + 1)).toNat
def pM (L : LD) (t : Nat) (tm : Nat → Nat) (pl : Nat → Bool) (i : Nat) : Nat → Bool := fun s => (fA L t (upN tm i s) (upB pl i true) (Ln L)).2
def oM (L : LD) (t : Nat) (tm : Nat → Nat) (pl : Nat → Bool) (i : Nat) : Option Nat := ffst (pM L t tm pl i) (pE L t (ptm pl tm) i) (cMn L t (ptm pl tm) i)
theorem upN_up (f : Nat → Nat) (k v w : Nat) : upN (upN f k v) k w = upN f k w := by
  funext j
  by_cases e : j = k
  · rw [e, upN_s, upN_s]
  · rw [upN_n _ _ e, upN_n _ _ e, upN_n _ _ e]
theorem upN_self (f : Nat → Nat) (k : Nat) : upN f k (f k) = f := by
  funext j
  by_cases e : j = k
  · rw [e, upN_s]
  · rw [upN_n _ _ e]
def leA (L : LD) (T : Nat) (tm : Nat → Int) (i : Nat) : Nat → Int
  | 0 => tm i
  | k + 1 => if Lsr L k = i then max (leA L T tm i k) (tm (Lds L k) + (T : Int) * (Ldi L k : Int)) else leA L T tm i k
theorem leA_t {L : LD} {T : Nat} {tm : Nat → Int} {i k : Nat} (h : Lsr L k = i) : leA L T tm i (k + 1) = max (leA L T tm i k) (tm (Lds L k) + (T : Int) * (Ldi L k : Int)) := if_pos h
theorem leA_f {L : LD} {T : Nat} {tm : Nat → Int} {i k : Nat} (h : ¬ Lsr L k = i) : leA L T tm i (k + 1) = leA L T tm i k := if_neg h
theorem leA_bd {L : LD} (hw : wf L) {T : Nat} (hT : T ≤ 200) {B : Int} {tm : Nat → Int} (h : ∀ j, 0 ≤ tm j ∧ tm j ≤ B) (i k : Nat) : tm i ≤ leA L T tm i k ∧ leA L T tm i k ≤ B + 600 := by
  induction k with
  | zero => have := h i; show tm i ≤ tm i ∧ tm i ≤ B + 600; omega
  | succ k ih =>
    have h1 := h (Lds L k)
    have h2 := mul_bd hT (wf_di hw k)
    by_cases e : Lsr L k = i
    · rw [leA_t e]; omega
    · rw [leA_f e]; exact ih
def lf (L : LD) (T : Nat) (tm : Nat → Int) (i : Nat) : Int := leA L T tm i (Lm L) - tm i
def lrM (L : LD) (T : Nat) (tm : Nat → Nat) (row : Nat) : Nat → Nat
  | 0 => 0
  | i + 1 => lrM L T tm row i + hrq (tm i) T row (lf L T (nZ tm) i).toNat
theorem lrM_s (L : LD) (T : Nat) (tm : Nat → Nat) (row i : Nat) : lrM L T tm row (i + 1) = lrM L T tm row i + hrq (tm i) T row (lf L T (nZ tm) i).toNat := rfl
def sumI (f : Nat → Nat) : Nat → Nat
  | 0 => 0
  | c + 1 => sumI f c + f c
theorem sumI_le {f : Nat → Nat} {M : Nat} (h : ∀ c, f c ≤ M) (c : Nat) : sumI f c ≤ M * c := by
  induction c with
  | zero => exact Nat.le_refl _
  | succ c ih => have := h c; show sumI f c + f c ≤ _; rw [Nat.mul_succ]; omega
def rLz (L : LD) : Int := match ffst (cv L) 1 200 with
  | some t => (t : Int)
  | none => -1
theorem eAn_bd {L : LD} (hw : wf L) {T : Nat} {B : Int} {tm : Nat → Int} (ht : ∀ j, j < Ln L → -1 ≤ tm j ∧ tm j ≤ B) (hB : 0 ≤ B) (op k : Nat) (hk : k ≤ Lm L) : 0 ≤ eA L T tm op k ∧ eA L T tm op k ≤ B + 12 := by
  induction k with
  | zero => exact ⟨Int.le_refl _, by show (0 : Int) ≤ _; omega⟩
  | succ k ih =>
    have h0 := ih (by omega)
    have h1 := wf_dl hw k
    have h2 := mul_nn T (Ldi L k)
    have h3 := ht (Lsr L k) (wf_ed hw k (by omega)).1
    by_cases c : Lds L k = op ∧ tm (Lsr L k) ≠ -1
    · rw [eA_t c.1 c.2]; omega
    · rw [eA_f c]; exact h0
theorem lAn_bd {L : LD} (hw : wf L) {T : Nat} {B : Int} {tm : Nat → Int} (ht : ∀ j, j < Ln L → -1 ≤ tm j ∧ tm j ≤ B) (op k : Nat) (hk : k ≤ Lm L) : -13 ≤ lA L T tm op k ∧ lA L T tm op k ≤ 2147483647 := by
  induction k with
  | zero => exact ⟨(show (-13 : Int) ≤ 2147483647 by decide), Int.le_refl _⟩
  | succ k ih =>
    have h0 := ih (by omega)
    have h1 := wf_dl hw k
    have h2 := mul_nn T (Ldi L k)
    have h3 := ht (Lds L k) (wf_ed hw k (by omega)).2
    by_cases c : Lsr L k = op ∧ tm (Lds L k) ≠ -1
    · rw [lA_t c.1 c.2]; omega
    · rw [lA_f c]; exact h0
theorem pEn_e {L : LD} (hw : wf L) {T : Nat} {B : Int} {tm : Nat → Int} (ht : ∀ j, j < Ln L → -1 ≤ tm j ∧ tm j ≤ B) (hB : 0 ≤ B) (op : Nat) : eA L T tm op (Lm L) = ((pE L T tm op : Nat) : Int) := by
  have := eAn_bd hw (T := T) ht hB op (Lm L) (Nat.le_refl _)
  unfold pE
  omega

theorem gr_flag {L : LD} {t k : Nat} {q : (Nat → Int) × Bool} (h : (gr L t (k + 1) q).2 = false) : (gr L t k q).2 = false := by
  rw [gr_s] at h
  unfold gr1 at h
  by_cases c : (gr L t k q).1 (Lsr L k) < (gr L t k q).1 (Lds L k) + (Ldl L k : Int) - (t : Int) * (Ldi L k : Int)
  · rw [if_pos c] at h; exact absurd (show true = false from h) (by decide)
  · rw [if_neg c] at h; exact h
theorem gr_flag0 {L : LD} {t : Nat} {q : (Nat → Int) × Bool} (m : Nat) (h : (gr L t m q).2 = false) : ∀ k, k ≤ m → (gr L t k q).2 = false := by
  induction m with
  | zero => intro k hk; rw [show k = 0 by omega]; exact h
  | succ m ih =>
    intro k hk
    by_cases e : k = m + 1
    · rw [e]; exact h
    · exact ih (gr_flag h) k (by omega)
def feas (L : LD) (t : Nat) (h : Nat → Int) : Prop := (∀ j, 0 ≤ h j) ∧ ∀ k, k < Lm L → h (Lds L k) + (Ldl L k : Int) - (t : Int) * (Ldi L k : Int) ≤ h (Lsr L k)
theorem fl_feas {L : LD} {t : Nat} {h : Nat → Int} (h0 : ∀ j, 0 ≤ h j) (hf : (gr L t (Lm L) (h, false)).2 = false) : feas L t h := by
  refine ⟨h0, fun k hk => ?_⟩
  have h1 := gr_flag0 (Lm L) hf (k + 1) (by omega)
  have h2 := gr_flag0 (Lm L) hf k (by omega)
  rw [gr_s, gr_same k h2] at h1
  apply Int.not_lt.mp
  intro q
  rw [gr1_t q] at h1
  exact absurd (show true = false from h1) (by decide)
theorem gr_up {L : LD} {t : Nat} {x : Nat → Int} {b : Bool} (k : Nat) (j : Nat) : x j ≤ (gr L t k (x, b)).1 j := by
  induction k with
  | zero => exact Int.le_refl _
  | succ k ih =>
    rw [gr_s]
    unfold gr1
    by_cases c : (gr L t k (x, b)).1 (Lsr L k) < (gr L t k (x, b)).1 (Lds L k) + (Ldl L k : Int) - (t : Int) * (Ldi L k : Int)
    · rw [if_pos c]
      show x j ≤ upZ _ _ _ j
      by_cases e : j = Lsr L k
      · subst e; rw [upZ_s]; omega
      · rw [upZ_n _ _ e]; exact ih
    · rw [if_neg c]; exact ih
theorem gr_upk {L : LD} {t : Nat} {q : (Nat → Int) × Bool} (k d : Nat) (j : Nat) : (gr L t k q).1 j ≤ (gr L t (k + d) q).1 j := by
  induction d with
  | zero => exact Int.le_refl _
  | succ d ih =>
    refine Int.le_trans ih ?_
    show (gr L t (k + d) q).1 j ≤ (gr1 L t (k + d) (gr L t (k + d) q)).1 j
    unfold gr1
    by_cases c : (gr L t (k + d) q).1 (Lsr L (k + d)) < (gr L t (k + d) q).1 (Lds L (k + d)) + (Ldl L (k + d) : Int) - (t : Int) * (Ldi L (k + d) : Int)
    · rw [if_pos c]
      show _ ≤ upZ _ _ _ j
      by_cases e : j = Lsr L (k + d)
      · subst e; rw [upZ_s]; omega
      · rw [upZ_n _ _ e]; exact Int.le_refl _
    · rw [if_neg c]; exact Int.le_refl _
theorem gr_le {L : LD} {t : Nat} {h : Nat → Int} (hf : feas L t h) {x : Nat → Int} {b : Bool} (hx : ∀ j, x j ≤ h j) (k : Nat) (hk : k ≤ Lm L) : ∀ j, (gr L t k (x, b)).1 j ≤ h j := by
  induction k with
  | zero => exact hx
  | succ k ih =>
    intro j
    have h0 := ih (by omega)
    rw [gr_s]
    unfold gr1
    by_cases c : (gr L t k (x, b)).1 (Lsr L k) < (gr L t k (x, b)).1 (Lds L k) + (Ldl L k : Int) - (t : Int) * (Ldi L k : Int)
    · rw [if_pos c]
      show upZ _ _ _ j ≤ h j
      by_cases e : j = Lsr L k
      · have h1 := h0 (Lds L k)
        have h2 := hf.2 k (by omega)
        rw [e, upZ_s]; omega
      · rw [upZ_n _ _ e]; exact h0 j
    · rw [if_neg c]; exact h0 j
theorem gr_rel {L : LD} {t : Nat} {x : Nat → Int} {b : Bool} (k : Nat) (hk : k < Lm L) : x (Lds L k) + (Ldl L k : Int) - (t : Int) * (Ldi L k : Int) ≤ (gr L t (Lm L) (x, b)).1 (Lsr L k) := by
  have h1 := gr_up (L := L) (t := t) (x := x) (b := b) k (Lds L k)
  have h2 := gr_upk (L := L) (t := t) (q := (x, b)) (k + 1) (Lm L - (k + 1)) (Lsr L k)
  rw [show k + 1 + (Lm L - (k + 1)) = Lm L by omega] at h2
  refine Int.le_trans ?_ h2
  rw [gr_s]
  unfold gr1
  by_cases c : (gr L t k (x, b)).1 (Lsr L k) < (gr L t k (x, b)).1 (Lds L k) + (Ldl L k : Int) - (t : Int) * (Ldi L k : Int)
  · rw [if_pos c]
    show _ ≤ upZ _ _ _ (Lsr L k)
    rw [upZ_s]; omega
  · rw [if_neg c]; omega
theorem hit_le {L : LD} {t : Nat} {h : Nat → Int} (hf : feas L t h) (r : Nat) : ∀ j, hit L t r j ≤ h j := by
  induction r with
  | zero => intro j; exact hf.1 j
  | succ r ih => exact gr_le hf ih (Lm L) (Nat.le_refl _)
theorem hit_up (L : LD) (t r j : Nat) : hit L t r j ≤ hit L t (r + 1) j := gr_up (Lm L) j
theorem hit_upd (L : LD) (t r d j : Nat) : hit L t r j ≤ hit L t (r + d) j := by
  induction d with
  | zero => exact Int.le_refl _
  | succ d ih => exact Int.le_trans ih (hit_up L t (r + d) j)
theorem hit_nn (L : LD) (t r j : Nat) : 0 ≤ hit L t r j := by
  have := hit_upd L t 0 r j
  rw [Nat.zero_add] at this
  exact this
def sm (f : Nat → Int) : Nat → Int
  | 0 => 0
  | n + 1 => sm f n + f n
theorem sm_le {f g : Nat → Int} (h : ∀ j, f j ≤ g j) (n : Nat) : sm f n ≤ sm g n := by
  induction n with
  | zero => exact Int.le_refl _
  | succ n ih => have := h n; show sm f n + f n ≤ sm g n + g n; omega
theorem sm_lt {f g : Nat → Int} (h : ∀ j, f j ≤ g j) {j : Nat} (hj : f j < g j) (n : Nat) (hn : j < n) : sm f n < sm g n := by
  induction n with
  | zero => omega
  | succ n ih =>
    show sm f n + f n < sm g n + g n
    by_cases e : j = n
    · have := sm_le h n
      rw [e] at hj
      omega
    · have := ih (by omega)
      have := h n
      omega
theorem gr_lt {L : LD} {t : Nat} {x : Nat → Int} (k : Nat) (h : (gr L t k (x, false)).2 = true) : ∃ q, q < k ∧ x (Lsr L q) < (gr L t k (x, false)).1 (Lsr L q) := by
  induction k with
  | zero => exact absurd (show false = true from h) (by decide)
  | succ k ih =>
    by_cases c : (gr L t k (x, false)).1 (Lsr L k) < (gr L t k (x, false)).1 (Lds L k) + (Ldl L k : Int) - (t : Int) * (Ldi L k : Int)
    · refine ⟨k, by omega, ?_⟩
      have h1 := gr_up (L := L) (t := t) (x := x) (b := false) k (Lsr L k)
      rw [gr_s]
      unfold gr1
      rw [if_pos c]
      show _ < upZ _ _ _ (Lsr L k)
      rw [upZ_s]
      omega
    · have e : gr L t (k + 1) (x, false) = gr L t k (x, false) := by rw [gr_s]; exact if_neg c
      rw [e] at h ⊢
      obtain ⟨q, h1, h2⟩ := ih h
      exact ⟨q, by omega, h2⟩
theorem fl_some {L : LD} (hw : wf L) {t : Nat} {h : Nat → Int} (hf : feas L t h) : ∃ r, fl L t r = false := by
  apply Classical.byContradiction
  intro hn
  have hall : ∀ r, fl L t r = true := fun r => by
    cases e : fl L t r with
    | true => rfl
    | false => exact absurd ⟨r, e⟩ hn
  have hgrow : ∀ r : Nat, (r : Int) ≤ sm (hit L t r) 14 := by
    intro r
    induction r with
    | zero =>
      have e : ∀ n, sm (fun _ => (0 : Int)) n = 0 := by
        intro n
        induction n with
        | zero => rfl
        | succ n ih => show sm (fun _ => (0 : Int)) n + 0 = 0; rw [ih]; rfl
      show (0 : Int) ≤ sm (fun _ => 0) 14
      rw [e]
      exact Int.le_refl _
    | succ r ih =>
      obtain ⟨q, h1, h2⟩ := gr_lt (Lm L) (hall r)
      have h3 := sm_lt (f := hit L t r) (g := hit L t (r + 1)) (hit_up L t r) h2 14 (wf_sd hw q).1
      omega
  have h1 := hgrow ((sm h 14).toNat + 1)
  have h2 := sm_le (hit_le hf ((sm h 14).toNat + 1)) 14
  omega
def cq (p : Nat → Bool) : Nat → Nat
  | 0 => 0
  | n + 1 => cq p n + (if p n = true then 1 else 0)
theorem cq_t {p : Nat → Bool} {n : Nat} (h : p n = true) : cq p (n + 1) = cq p n + 1 := by
  show cq p n + (if p n = true then 1 else 0) = _
  rw [if_pos h]
theorem cq_f {p : Nat → Bool} {n : Nat} (h : p n = false) : cq p (n + 1) = cq p n := by
  show cq p n + (if p n = true then 1 else 0) = _
  rw [if_neg (by rw [h]; decide)]
  rfl
theorem cq_le (p : Nat → Bool) (n : Nat) : cq p n ≤ n := by
  induction n with
  | zero => exact Nat.le_refl _
  | succ n ih =>
    cases h : p n with
    | true => rw [cq_t h]; omega
    | false => rw [cq_f h]; omega
theorem cq_mono {p q : Nat → Bool} (n : Nat) (h : ∀ j, j < n → p j = true → q j = true) : cq p n ≤ cq q n := by
  induction n with
  | zero => exact Nat.le_refl _
  | succ n ih =>
    have h0 := ih (fun j hj => h j (by omega))
    cases e : p n with
    | true => rw [cq_t e, cq_t (h n (by omega) e)]; omega
    | false =>
      rw [cq_f e]
      cases e2 : q n with
      | true => rw [cq_t e2]; omega
      | false => rw [cq_f e2]; exact h0
theorem cq_lt {p q : Nat → Bool} (n : Nat) (h : ∀ j, j < n → p j = true → q j = true) {j : Nat} (hj : j < n) (h1 : p j = false) (h2 : q j = true) : cq p n < cq q n := by
  induction n with
  | zero => omega
  | succ n ih =>
    have hm := cq_mono n (fun j hj => h j (by omega))
    by_cases e : j = n
    · rw [← e, cq_f h1, cq_t h2]
      rw [← e] at hm
      omega
    · have h0 := ih (fun j hj => h j (by omega)) (by omega)
      cases e1 : p n with
      | true => rw [cq_t e1, cq_t (h n (by omega) e1)]; omega
      | false =>
        rw [cq_f e1]
        cases e2 : q n with
        | true => rw [cq_t e2]; omega
        | false => rw [cq_f e2]; exact h0
theorem cq_all {p : Nat → Bool} (n : Nat) (h : cq p n = n) : ∀ j, j < n → p j = true := by
  induction n with
  | zero => intro j hj; omega
  | succ n ih =>
    have hl := cq_le p n
    cases e : p n with
    | false => rw [cq_f e] at h; omega
    | true =>
      rw [cq_t e] at h
      intro j hj
      by_cases e2 : j = n
      · rw [e2]; exact e
      · exact ih (by omega) j (by omega)
theorem cq_full {p : Nat → Bool} (n : Nat) (h : ∀ j, j < n → p j = true) : cq p n = n := by
  induction n with
  | zero => rfl
  | succ n ih => rw [cq_t (h n (by omega)), ih (fun j hj => h j (by omega))]
theorem cv_of_feas {L : LD} (hw : wf L) {t : Nat} {h : Nat → Int} (hf : feas L t h) : cv L t = true := by
  obtain ⟨R, hR⟩ := fl_some hw hf
  have hst : ∀ r, hit L t r = hit L t R ∨ r < R := fun r => by
    rcases Nat.lt_or_ge r R with q | q
    · exact Or.inr q
    · have := (fl_stay hR (r - R)).1
      rw [show R + (r - R) = r by omega] at this
      exact Or.inl this
  have hle : ∀ r j, hit L t r j ≤ hit L t R j := fun r j => by
    rcases hst r with q | q
    · rw [q]; exact Int.le_refl _
    · have := hit_upd L t r (R - r) j
      rw [show r + (R - r) = R by omega] at this
      exact this
  have hfs : feas L t (hit L t R) := fl_feas (hit_nn L t R) hR
  have hstep : ∀ r, (∃ j, hit L t r j ≠ hit L t R j) → ∃ u, u < Ln L ∧ hit L t r u ≠ hit L t R u ∧ hit L t (r + 1) u = hit L t R u := by
    intro r hne
    apply Classical.byContradiction
    intro hno
    have hbig : ∀ u, hit L t r u ≠ hit L t R u → hit L t (r + 1) u ≠ hit L t R u := fun u hu q => by
      rcases Nat.lt_or_ge u (Ln L) with hun | hun
      · exact hno ⟨u, hun, hu, q⟩
      · exact hu (by rw [hit_z hw t r u hun, hit_z hw t R u hun])
    have hf2 : feas L t (fun u => if hit L t r u = hit L t R u then hit L t R u else hit L t R u - 1) := by
      refine ⟨fun u => ?_, fun k hk => ?_⟩
      · show 0 ≤ (if hit L t r u = hit L t R u then hit L t R u else hit L t R u - 1)
        have h1 := hit_nn L t r u
        have h2 := hle r u
        have h3 := hit_nn L t R u
        by_cases e : hit L t r u = hit L t R u
        · rw [if_pos e]; exact h3
        · rw [if_neg e]; omega
      · show (if hit L t r (Lds L k) = hit L t R (Lds L k) then hit L t R (Lds L k) else hit L t R (Lds L k) - 1) + _ - _ ≤ (if hit L t r (Lsr L k) = hit L t R (Lsr L k) then hit L t R (Lsr L k) else hit L t R (Lsr L k) - 1)
        have h1 := hfs.2 k hk
        by_cases e : hit L t r (Lsr L k) = hit L t R (Lsr L k)
        · rw [if_pos e]
          by_cases e2 : hit L t r (Lds L k) = hit L t R (Lds L k)
          · rw [if_pos e2]; exact h1
          · rw [if_neg e2]; omega
        · rw [if_neg e]
          by_cases e2 : hit L t r (Lds L k) = hit L t R (Lds L k)
          · rw [if_pos e2]
            have h2 := gr_rel (L := L) (t := t) (x := hit L t r) (b := false) k hk
            have h3 : (gr L t (Lm L) (hit L t r, false)).1 (Lsr L k) = hit L t (r + 1) (Lsr L k) := rfl
            have h4 := hbig _ e
            have h5 := hle (r + 1) (Lsr L k)
            omega
          · rw [if_neg e2]; omega
    obtain ⟨j, hj⟩ := hne
    have h1 := hit_le hf2 R j
    have h2 : hit L t R j ≤ (if hit L t r j = hit L t R j then hit L t R j else hit L t R j - 1) := h1
    rw [if_neg hj] at h2
    omega
  have hcount : ∀ r, r ≤ Ln L → r ≤ cq (fun j => decide (hit L t r j = hit L t R j)) (Ln L) := by
    intro r
    induction r with
    | zero => intro _; exact Nat.zero_le _
    | succ r ih =>
      intro hr
      have h0 := ih (by omega)
      have hkeep : ∀ j, j < Ln L → decide (hit L t r j = hit L t R j) = true → decide (hit L t (r + 1) j = hit L t R j) = true := fun j _ h => by
        have h1 := of_decide_eq_true h
        have h2 := hit_up L t r j
        have h3 := hle (r + 1) j
        exact decide_eq_true (by omega)
      by_cases hne : ∃ j, hit L t r j ≠ hit L t R j
      · obtain ⟨u, h1, h2, h3⟩ := hstep r hne
        have := cq_lt (p := fun j => decide (hit L t r j = hit L t R j)) (q := fun j => decide (hit L t (r + 1) j = hit L t R j)) (Ln L) hkeep h1 (decide_eq_false h2) (decide_eq_true h3)
        omega
      · have hall : ∀ j, hit L t r j = hit L t R j := fun j => Classical.byContradiction fun q => hne ⟨j, q⟩
        have := cq_full (p := fun j => decide (hit L t (r + 1) j = hit L t R j)) (Ln L) (fun j hj => hkeep j hj (decide_eq_true (hall j)))
        omega
  have hfin := hcount (Ln L) (Nat.le_refl _)
  have hle2 := cq_le (fun j => decide (hit L t (Ln L) j = hit L t R j)) (Ln L)
  have hall := cq_all (Ln L) (show cq (fun j => decide (hit L t (Ln L) j = hit L t R j)) (Ln L) = Ln L by omega)
  have heq : hit L t (Ln L) = hit L t R := funext fun j => by
    rcases Nat.lt_or_ge j (Ln L) with q | q
    · exact of_decide_eq_true (hall j q)
    · rw [hit_z hw t _ j q, hit_z hw t _ j q]
  unfold cv
  rw [show fl L t (Ln L) = fl L t R from by unfold fl; rw [heq], hR]
  rfl
theorem cv_feas {L : LD} {t : Nat} (h : cv L t = true) : feas L t (hit L t (Ln L)) := by
  refine fl_feas (hit_nn L t (Ln L)) ?_
  unfold cv at h
  cases e : fl L t (Ln L) with
  | false => exact e
  | true => rw [e] at h; exact absurd h (by decide)
theorem cv_mono {L : LD} (hw : wf L) {t : Nat} (h : cv L t = true) (d : Nat) : cv L (t + d) = true := by
  obtain ⟨h1, h2⟩ := cv_feas h
  refine cv_of_feas hw (h := hit L t (Ln L)) ⟨h1, fun k hk => ?_⟩
  have h3 := h2 k hk
  have h4 := mul_nn d (Ldi L k)
  have e : ((t + d : Nat) : Int) * (Ldi L k : Int) = (t : Int) * (Ldi L k : Int) + (d : Int) * (Ldi L k : Int) := by rw [Int.natCast_add, Int.add_mul]
  omega
theorem cv_self {L : LD} {t k : Nat} (h : cv L t = true) (hk : k < Lm L) (hs : Lsr L k = Lds L k) : (Ldl L k : Int) ≤ (t : Int) * (Ldi L k : Int) := by
  have h1 := (cv_feas h).2 k hk
  rw [hs] at h1
  omega
theorem hv_inv {L : LD} (hw : wf L) : ∀ i, i ≤ 8 → (∀ t, 0 < t → t ≤ hv L i → cv L t = false) ∧ (cv L (hv L i + 256 / 2 ^ i) = true ∨ hv L i + 256 / 2 ^ i = 256) := by
  intro i
  induction i with
  | zero => intro _; exact ⟨fun t h1 h2 => absurd h2 (by have : hv L 0 = 0 := rfl; omega), Or.inr rfl⟩
  | succ i ih =>
    intro hi
    obtain ⟨h1, h2⟩ := ih (by omega)
    have e1 : 256 / 2 ^ (i + 1) = 128 / 2 ^ i := by
      have : ∀ j, j < 8 → 256 / 2 ^ (j + 1) = 128 / 2 ^ j := by decide
      exact this i (by omega)
    have e2 : 256 / 2 ^ i = 128 / 2 ^ i + 128 / 2 ^ i := by
      have : ∀ j, j < 8 → 256 / 2 ^ j = 128 / 2 ^ j + 128 / 2 ^ j := by decide
      exact this i (by omega)
    cases e : cv L (hv L i + 128 / 2 ^ i) with
    | true => rw [hv_t e, e1]; exact ⟨h1, Or.inl e⟩
    | false =>
      rw [hv_f e, e1]
      refine ⟨fun t ht1 ht2 => ?_, ?_⟩
      · cases e3 : cv L t with
        | false => rfl
        | true =>
          have := cv_mono hw e3 (hv L i + 128 / 2 ^ i - t)
          rw [show t + (hv L i + 128 / 2 ^ i - t) = hv L i + 128 / 2 ^ i by omega, e] at this
          exact absurd this (by decide)
      · rw [Nat.add_assoc, ← e2]; exact h2
theorem ffst_first {p : Nat → Bool} {s c x : Nat} (h1 : s ≤ x) (h2 : x < s + c) (h3 : p x = true) (h4 : ∀ y, s ≤ y → y < x → p y = false) : ffst p s c = some x := by
  induction c generalizing s with
  | zero => omega
  | succ c ih =>
    by_cases e : s = x
    · rw [e]; exact ffst_t h3
    · rw [ffst_f (h4 s (Nat.le_refl _) (by omega))]
      exact ih (by omega) (by omega) (fun y hy1 hy2 => h4 y (by omega) hy2)
theorem ffst_no {p : Nat → Bool} {s c : Nat} (h : ∀ y, s ≤ y → y < s + c → p y = false) : ffst p s c = none := by
  induction c generalizing s with
  | zero => rfl
  | succ c ih =>
    rw [ffst_f (h s (Nat.le_refl _) (by omega))]
    exact ih (fun y h1 h2 => h y (by omega) (by omega))
theorem rLB {L : LD} (hw : wf L) : rLz L = rBz L := by
  obtain ⟨h1, h2⟩ := hv_inv hw 8 (Nat.le_refl _)
  have e : 256 / 2 ^ 8 = 1 := by decide
  rw [e] at h2
  unfold rLz rBz
  by_cases c : hv L 8 < 200
  · rw [if_pos c]
    have h3 : cv L (hv L 8 + 1) = true := h2.elim (fun q => q) (fun q => by omega)
    rw [ffst_first (x := hv L 8 + 1) (by omega) (by omega) h3 (fun y hy1 hy2 => h1 y (by omega) (by omega))]
  · rw [if_neg c, ffst_no (fun y hy1 hy2 => h1 y (by omega) (by omega))]
theorem rBz_cv {L : LD} (hw : wf L) {t : Nat} (h : rBz L ≠ -1) (ht : rBz L ≤ (t : Int)) : cv L t = true := by
  rw [← rLB hw] at h ht
  unfold rLz at h ht
  cases e : ffst (cv L) 1 200 with
  | none => rw [e] at h; exact absurd rfl h
  | some x =>
    rw [e] at ht
    have h1 := ffst_bd e
    have h2 : (x : Int) ≤ (t : Int) := ht
    have := cv_mono hw h1.2.2 (t - x)
    rw [show x + (t - x) = t by omega] at this
    exact this

def okX (L : LD) (T : Nat) (tm : Nat → Int) (tk : Nat → Nat → Int) : Prop := T ≤ 200 ∧ (0 < T → tB 1000000 tm ∧ kB 1000 tk ∧ ∀ j, j < Ln L → 0 ≤ tm j)
def iss (T : Nat) (tm : Nat → Int) (n c i : Nat) : Bool := decide (0 ≤ (c : Int) - tm i) && (decide (((c : Int) - tm i) % (T : Int) = 0) && decide (((c : Int) - tm i) / (T : Int) < (n : Int)))
theorem iss_t {T : Nat} {tm : Nat → Int} {n c i : Nat} (h1 : 0 ≤ (c : Int) - tm i) (h2 : ((c : Int) - tm i) % (T : Int) = 0) (h3 : ((c : Int) - tm i) / (T : Int) < (n : Int)) : iss T tm n c i = true := by
  unfold iss
  rw [decide_eq_true h1, decide_eq_true h2, decide_eq_true h3]
  rfl
theorem iss_i {T : Nat} {tm : Nat → Int} {n c i : Nat} (h : iss T tm n c i = true) : 0 ≤ (c : Int) - tm i ∧ ((c : Int) - tm i) % (T : Int) = 0 ∧ ((c : Int) - tm i) / (T : Int) < (n : Int) := by
  unfold iss at h
  rw [Bool.and_eq_true, Bool.and_eq_true] at h
  exact ⟨of_decide_eq_true h.1, of_decide_eq_true h.2.1, of_decide_eq_true h.2.2⟩
theorem iss_f {T : Nat} {tm : Nat → Int} {n c i : Nat} (h : ¬ (0 ≤ (c : Int) - tm i ∧ ((c : Int) - tm i) % (T : Int) = 0 ∧ ((c : Int) - tm i) / (T : Int) < (n : Int))) : iss T tm n c i = false := by
  cases e : iss T tm n c i with
  | false => rfl
  | true => exact absurd (iss_i e) h
def num (T : Nat) (tm : Nat → Int) (c i : Nat) : Int := 14 * (((c : Int) - tm i) / (T : Int)) + (i : Int)
def cib (T : Nat) (tm : Nat → Int) (n c : Nat) (x : Int) : Nat → Nat
  | 0 => 0
  | i + 1 => if iss T tm n c i = true ∧ num T tm c i < x then cib T tm n c x i + 1 else cib T tm n c x i
theorem cib_t {T : Nat} {tm : Nat → Int} {n c i : Nat} {x : Int} (h1 : iss T tm n c i = true) (h2 : num T tm c i < x) : cib T tm n c x (i + 1) = cib T tm n c x i + 1 := if_pos ⟨h1, h2⟩
theorem cib_f {T : Nat} {tm : Nat → Int} {n c i : Nat} {x : Int} (h : ¬ (iss T tm n c i = true ∧ num T tm c i < x)) : cib T tm n c x (i + 1) = cib T tm n c x i := if_neg h
theorem cib_le (T : Nat) (tm : Nat → Int) (n c : Nat) (x : Int) (i : Nat) : cib T tm n c x i ≤ i := by
  induction i with
  | zero => exact Nat.le_refl _
  | succ i ih =>
    by_cases h : iss T tm n c i = true ∧ num T tm c i < x
    · rw [cib_t h.1 h.2]; omega
    · rw [cib_f h]; omega
theorem num_bd {T : Nat} {tm : Nat → Int} {n c i : Nat} (h : iss T tm n c i = true) (hn : n ≤ 1000) (hi : i < 14) (hT : 0 < T) : 0 ≤ num T tm c i ∧ num T tm c i < 14014 := by
  have h1 := iss_i h
  have h2 : 0 ≤ ((c : Int) - tm i) / (T : Int) := Int.ediv_nonneg h1.1 (by omega)
  unfold num
  omega
def isn (T : Nat) (tm : Nat → Int) (n c : Nat) : Nat → Nat
  | 0 => 0
  | i + 1 => if iss T tm n c i = true then isn T tm n c i + 1 else isn T tm n c i
theorem isn_t {T : Nat} {tm : Nat → Int} {n c i : Nat} (h : iss T tm n c i = true) : isn T tm n c (i + 1) = isn T tm n c i + 1 := if_pos h
theorem isn_f {T : Nat} {tm : Nat → Int} {n c i : Nat} (h : iss T tm n c i = false) : isn T tm n c (i + 1) = isn T tm n c i := if_neg (by rw [h]; decide)
theorem isn_le (T : Nat) (tm : Nat → Int) (n c i : Nat) : isn T tm n c i ≤ i := by
  induction i with
  | zero => exact Nat.le_refl _
  | succ i ih =>
    cases h : iss T tm n c i with
    | true => rw [isn_t h]; omega
    | false => rw [isn_f h]; omega
def lcf (x y : Nat) : Nat → Bool := fun f => decide (x * f % y = 0)
def lcN (x y : Nat) : Nat := match ffst (lcf x y) 1 (y - 1) with
  | some f => x * f
  | none => x * y
theorem lcN_s {x y f : Nat} (h : ffst (lcf x y) 1 (y - 1) = some f) : lcN x y = x * f := by unfold lcN; rw [h]
theorem lcN_n {x y : Nat} (h : ffst (lcf x y) 1 (y - 1) = none) : lcN x y = x * y := by unfold lcN; rw [h]
theorem lcN_le {x y : Nat} (hy : 1 ≤ y) : lcN x y ≤ x * y := by
  cases h : ffst (lcf x y) 1 (y - 1) with
  | none => rw [lcN_n h]; exact Nat.le_refl _
  | some f =>
    rw [lcN_s h]
    have := ffst_bd h
    exact Nat.mul_le_mul_left _ (by omega)
theorem lcN_pos {x y : Nat} (hx : 1 ≤ x) (hy : 1 ≤ y) : 1 ≤ lcN x y := by
  cases h : ffst (lcf x y) 1 (y - 1) with
  | none => rw [lcN_n h]; exact Nat.mul_pos hx hy
  | some f =>
    rw [lcN_s h]
    have := ffst_bd h
    exact Nat.mul_pos hx (by omega)
def cN (T : Nat) (lt : Nat → Int) (i : Nat) : Nat := (cC T lt i).toNat
def unM (cp : Nat → Nat) : Nat → Nat
  | 0 => 1
  | i + 1 => lcN (unM cp i) (cp i)
theorem unM_s (cp : Nat → Nat) (i : Nat) : unM cp (i + 1) = lcN (unM cp i) (cp i) := rfl
theorem cC_bd {T : Nat} {lt : Nat → Int} (hT : 0 < T ∧ T ≤ 200) (h : ∀ j, 0 ≤ lt j ∧ lt j ≤ 2000000) (i : Nat) : 1 ≤ cC T lt i ∧ cC T lt i ≤ 2000200 := by
  have h1 := h i
  have h2 := ediv_bd (T := T) (show 0 ≤ lt i + (T : Int) - 1 by omega)
  unfold cC
  omega
theorem cN_e {T : Nat} {lt : Nat → Int} (hT : 0 < T ∧ T ≤ 200) (h : ∀ j, 0 ≤ lt j ∧ lt j ≤ 2000000) (i : Nat) : cC T lt i = ((cN T lt i : Nat) : Int) ∧ 1 ≤ cN T lt i ∧ cN T lt i ≤ 2000200 := by
  have := cC_bd hT h i
  unfold cN
  omega
def rg (f : Nat → Int) : Nat → Int
  | 0 => 0
  | r + 1 => max (rg f r) (f r)
theorem rg_bd {f : Nat → Int} {M : Int} (hM : 0 ≤ M) (h : ∀ r, 0 ≤ f r ∧ f r ≤ M) (r : Nat) : 0 ≤ rg f r ∧ rg f r ≤ M := by
  induction r with
  | zero => exact ⟨Int.le_refl _, hM⟩
  | succ r ih =>
    have := h r
    show 0 ≤ max (rg f r) (f r) ∧ max (rg f r) (f r) ≤ M
    omega
def pro (T : Nat) (tm : Nat → Int) (last : Int) : Nat → Int
  | 0 => 0
  | i + 1 => pro T tm last i + (last - tm i / (T : Int))
def epi (T : Nat) (tm : Nat → Int) : Nat → Int
  | 0 => 0
  | i + 1 => epi T tm i + tm i / (T : Int)
def dw (d : Int64) (x : Int) : Int64 := d * 31 + (iI x).toInt64
def dgU (L : LD) : Nat → Int64
  | 0 => 79
  | k + 1 => dw (dgU L k) (Lu L k : Int)
def dgO (L : LD) : Nat → Int64
  | 0 => dw (dgU L 3) (Ln L : Int)
  | i + 1 => dw (dw (dgO L i) (Lkd L i : Int)) (Lby L i : Int)
def dgD (L : LD) : Nat → Int64
  | 0 => dw (dgO L (Ln L)) (Lm L : Int)
  | k + 1 => dw (dw (dw (dw (dgD L k) (Lsr L k : Int)) (Lds L k : Int)) (Ldl L k : Int)) (Ldi L k : Int)
def dgT (L : LD) (T : Nat) (tm : Nat → Int) : Nat → Int64
  | 0 => dw (dgD L (Lm L)) (T : Int)
  | i + 1 => dw (dgT L T tm i) (tm i)
def dg (L : LD) (T : Nat) (tm : Nat → Int) : Int64 := if 0 < T then dgT L T tm (Ln L) else dgT L T tm 0
def sch (L : LD) : Nat → Nat → (Option (Nat × (Nat → Int) × (Nat → Nat → Int))) × Nat
  | _, 0 => (none, 0)
  | t, c + 1 => match atp L t (Ln L) with
    | some q => (some (t, q), 1)
    | none => ((sch L (t + 1) c).1, (sch L (t + 1) c).2 + 1)
theorem sch_s {L : LD} {t c : Nat} {q : (Nat → Int) × (Nat → Nat → Int)} (h : atp L t (Ln L) = some q) : sch L t (c + 1) = (some (t, q), 1) := by
  show (match atp L t (Ln L) with | some q => _ | none => _) = _
  rw [h]
theorem sch_n {L : LD} {t c : Nat} (h : atp L t (Ln L) = none) : sch L t (c + 1) = ((sch L (t + 1) c).1, (sch L (t + 1) c).2 + 1) := by
  show (match atp L t (Ln L) with | some q => _ | none => _) = _
  rw [h]
def lst (L : LD) : Nat := max (rBz L).toNat (rs L)

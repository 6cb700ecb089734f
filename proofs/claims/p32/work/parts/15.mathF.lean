theorem cd1 {s b u : Nat} (hu : 1 ≤ u) (h : s ≤ b * u) : (s + u - 1) / u ≤ b := by
  refine Nat.le_of_lt_succ (Nat.div_lt_of_lt_mul ?_)
  have e : u * (b + 1) = b * u + u := by rw [Nat.mul_add, Nat.mul_one, Nat.mul_comm]
  show s + u - 1 < u * (b + 1)
  omega
theorem cd2 {s b u : Nat} (hu : 1 ≤ u) (h : b * u < s) : b + 1 ≤ (s + u - 1) / u := by
  rw [Nat.le_div_iff_mul_le hu, Nat.add_mul, Nat.one_mul]
  omega
theorem gr_z {L : LD} (hw : wf L) {t : Nat} {h : Nat → Int} {b : Bool} (hz : ∀ j, Ln L ≤ j → h j = 0) (k : Nat) (hk : k ≤ Lm L) : ∀ j, Ln L ≤ j → (gr L t k (h, b)).1 j = 0 := by
  induction k with
  | zero => exact hz
  | succ k ih =>
    intro j hj
    have h1 := ih (by omega) j hj
    have h2 := wf_ed hw k (by omega)
    rw [gr_s]
    unfold gr1
    by_cases c : (gr L t k (h, b)).1 (Lsr L k) < (gr L t k (h, b)).1 (Lds L k) + (Ldl L k : Int) - (t : Int) * (Ldi L k : Int)
    · rw [if_pos c]
      show upZ _ _ _ j = 0
      rw [upZ_n _ _ (by omega)]
      exact h1
    · rw [if_neg c]; exact h1
theorem hit_z {L : LD} (hw : wf L) (t r : Nat) : ∀ j, Ln L ≤ j → hit L t r j = 0 := by
  induction r with
  | zero => intro j _; rfl
  | succ r ih => exact gr_z hw ih (Lm L) (Nat.le_refl _)
theorem hF_z {L : LD} (hw : wf L) (t : Nat) : ∀ j, Ln L ≤ j → hF L t j = 0 := hit_z hw t (Ln L + 1)
theorem rLz_bd (L : LD) : -1 ≤ rLz L ∧ rLz L ≤ 200 ∧ rLz L ≠ 0 := by
  unfold rLz
  cases h : ffst (cv L) 1 200 with
  | none => exact ⟨by decide, by decide, by decide⟩
  | some t => have := ffst_bd h; exact ⟨by show (-1 : Int) ≤ (t : Int); omega, by show (t : Int) ≤ 200; omega, by show (t : Int) ≠ 0; omega⟩
theorem gTn_bd {n : Nat} {tm : Nat → Nat} (h : ∀ j, j < n → tm j ≤ 1000000) (i : Nat) (hi : i ≤ n) : 0 ≤ gT (nZ tm) i ∧ gT (nZ tm) i ≤ 1000000 := by
  induction i with
  | zero => exact ⟨Int.le_refl _, (show (0 : Int) ≤ 1000000 by decide)⟩
  | succ i ih =>
    have h1 := h i (by omega)
    have h2 := ih (by omega)
    have h3 : nZ tm i = ((tm i : Nat) : Int) := rfl
    show 0 ≤ max (gT (nZ tm) i) (nZ tm i) ∧ max (gT (nZ tm) i) (nZ tm i) ≤ 1000000
    omega
theorem hqK_0 {L : LD} {t : Nat} {tm : Nat → Nat} {i kd row : Nat} (h : ¬ Lkd L i = kd) (hrow : row < 200) (ht : 0 < t ∧ t ≤ 200) (k : Nat) : hqK L t tm i (200 * kd + row) k = 0 := by
  induction k with
  | zero => rfl
  | succ k ih =>
    have h1 := Nat.mod_lt (tm i + k) ht.1
    rw [show hqK L t tm i (200 * kd + row) (k + 1) = hqK L t tm i (200 * kd + row) k from if_neg (by unfold cx; omega)]
    exact ih
theorem hqK_r {L : LD} {t : Nat} {tm : Nat → Nat} {i row : Nat} (hrow : row < 200) (ht : 0 < t ∧ t ≤ 200) (k : Nat) : hqK L t tm i (200 * Lkd L i + row) k = hrq (tm i) t row k := by
  induction k with
  | zero => rfl
  | succ k ih =>
    have h1 := Nat.mod_lt (tm i + k) ht.1
    by_cases e : (tm i + k) % t = row
    · rw [hrq_t e, show hqK L t tm i (200 * Lkd L i + row) (k + 1) = hqK L t tm i (200 * Lkd L i + row) k + 1 from if_pos (by unfold cx; omega), ih]
    · rw [hrq_f e, show hqK L t tm i (200 * Lkd L i + row) (k + 1) = hqK L t tm i (200 * Lkd L i + row) k from if_neg (by unfold cx; omega), ih]
theorem hqA_congr {L : LD} {t : Nat} {tm : Nat → Nat} {pl : Nat → Bool} {y : Nat} (n : Nat) (h : ∀ i, i < n → pl i = true) : hqA L t tm pl y n = hqA L t tm (fun _ => true) y n := by
  induction n with
  | zero => rfl
  | succ n ih =>
    show hqA L t tm pl y n + hqK L t tm n y (bq L pl n) = hqA L t tm (fun _ => true) y n + hqK L t tm n y (bq L (fun _ => true) n)
    rw [ih (fun i hi => h i (by omega)), bq_congr (L := L) (pl := pl) (pl' := fun _ => true) (i := n) (h n (by omega))]
theorem leAn_bd {L : LD} (hw : wf L) {T : Nat} (hT : T ≤ 200) {tm : Nat → Nat} (h : ∀ j, j < Ln L → tm j ≤ 1000000) {i : Nat} (hi : i < Ln L) (k : Nat) (hk : k ≤ Lm L) : ((tm i : Nat) : Int) ≤ leA L T (nZ tm) i k ∧ leA L T (nZ tm) i k ≤ 1000600 := by
  induction k with
  | zero =>
    have h1 := h i hi
    show ((tm i : Nat) : Int) ≤ ((tm i : Nat) : Int) ∧ ((tm i : Nat) : Int) ≤ 1000600
    omega
  | succ k ih =>
    have h0 := ih (by omega)
    have h1 := h _ (wf_ed hw k (by omega)).2
    have h2 := mul_bd hT (wf_di hw k)
    have h4 := mul_nn T (Ldi L k)
    have h3 : nZ tm (Lds L k) = ((tm (Lds L k) : Nat) : Int) := rfl
    by_cases e : Lsr L k = i
    · rw [leA_t e]; omega
    · rw [leA_f e]; exact h0
theorem lfn_bd {L : LD} (hw : wf L) {T : Nat} (hT : T ≤ 200) {tm : Nat → Nat} (h : ∀ j, j < Ln L → tm j ≤ 1000000) {i : Nat} (hi : i < Ln L) : 0 ≤ lf L T (nZ tm) i ∧ lf L T (nZ tm) i ≤ 1000600 := by
  have h1 := leAn_bd hw hT h hi (Lm L) (Nat.le_refl _)
  have h3 : nZ tm i = ((tm i : Nat) : Int) := rfl
  unfold lf
  omega
theorem lrM_le {L : LD} (hw : wf L) {T : Nat} (hT : T ≤ 200) {tm : Nat → Nat} (h : ∀ j, j < Ln L → tm j ≤ 1000000) (row i : Nat) (hi : i ≤ Ln L) : lrM L T tm row i ≤ 1000600 * i := by
  induction i with
  | zero => exact Nat.le_refl _
  | succ i ih =>
    have h1 := lfn_bd hw hT h (show i < Ln L by omega)
    have h2 := hrq_le (tm i) T row (lf L T (nZ tm) i).toNat
    have h3 := ih (by omega)
    show lrM L T tm row i + hrq (tm i) T row (lf L T (nZ tm) i).toNat ≤ _
    omega
def cqn (x T : Nat) : Nat := max 1 ((x + T - 1) / T)
theorem cqn_le {x T : Nat} (hx : x ≤ 1000600) (hT : 0 < T ∧ T ≤ 200) : cqn x T ≤ 1000800 := by
  have h1 := Nat.div_le_self (x + T - 1) T
  unfold cqn
  omega
theorem cC_cqn {T : Nat} {lt : Nat → Int} {i : Nat} (h : 0 ≤ lt i) (hT : 0 < T) : cC T lt i = ((cqn (lt i).toNat T : Nat) : Int) := by
  unfold cC cqn
  have e : (lt i + (T : Int) - 1) / (T : Int) = ((((lt i).toNat + T - 1) / T : Nat) : Int) := by
    rw [Int.natCast_ediv]
    congr 1
    omega
  rw [e]
  omega
theorem cNn_e {L : LD} (hw : wf L) {T : Nat} (hT : 0 < T ∧ T ≤ 200) {tm : Nat → Nat} (h : ∀ j, j < Ln L → tm j ≤ 1000000) {x : Nat} (hx : x < Ln L) : cC T (lf L T (nZ tm)) x = ((cN T (lf L T (nZ tm)) x : Nat) : Int) ∧ 1 ≤ cN T (lf L T (nZ tm)) x ∧ cN T (lf L T (nZ tm)) x ≤ 2000200 := by
  have h1 := lfn_bd hw hT.2 h hx
  have h2 := cC_cqn (T := T) (lt := lf L T (nZ tm)) (i := x) h1.1 hT.1
  have h3 := cqn_le (show (lf L T (nZ tm) x).toNat ≤ 1000600 by omega) hT
  have h4 : 1 ≤ cqn (lf L T (nZ tm) x).toNat T := Nat.le_max_left _ _
  unfold cN
  omega
theorem lcN_fin {x y f : Nat} (hd : x * f % y = 0) (h1 : 1 ≤ f ∧ f ≤ y) (hf : ffst (lcf x y) f (y - f) = ffst (lcf x y) 1 (y - 1)) : x * f = lcN x y := by
  rcases Nat.lt_or_ge f y with q | q
  · rw [lcN_s (f := f)]
    rw [← hf, show y - f = (y - (f + 1)) + 1 by omega]
    exact ffst_t (decide_eq_true hd)
  · have e : f = y := by omega
    rw [lcN_n]
    · rw [e]
    · rw [← hf, show y - f = 0 by omega]
      rfl
theorem num_nn {T : Nat} {tm : Nat → Int} {n c i : Nat} (h : iss T tm n c i = true) (hT : 0 < T) : 0 ≤ ((c : Int) - tm i) / (T : Int) ∧ ((c : Int) - tm i) / (T : Int) < (n : Int) := by
  have h1 := iss_i h
  exact ⟨Int.ediv_nonneg h1.1 (by omega), h1.2.2⟩
theorem cib_0 {T : Nat} {tm : Nat → Int} {n c : Nat} (hT : 0 < T) (k : Nat) : cib T tm n c (14 * ((0 : Nat) : Int) + ((0 : Nat) : Int)) k = 0 := by
  induction k with
  | zero => rfl
  | succ k ih =>
    rw [cib_f]
    · exact ih
    · intro q
      have h1 := num_nn q.1 hT
      have h2 := q.2
      unfold num at h2
      omega
theorem cib_full {T : Nat} {tm : Nat → Int} {n c m : Nat} (hm : m ≤ 14) : cib T tm n c (14 * ((n : Nat) : Int)) m = isn T tm n c m := by
  induction m with
  | zero => rfl
  | succ m ih =>
    have h0 := ih (by omega)
    cases h : iss T tm n c m with
    | true =>
      have h1 := (iss_i h).2.2
      rw [isn_t h, cib_t h (by unfold num; omega), h0]
    | false =>
      rw [isn_f h, cib_f (fun q => by rw [h] at q; exact absurd q.1 (by decide)), h0]
theorem cib_next {T : Nat} {tm : Nat → Int} {n c m : Nat} (_ : 0 < T) (hm : m ≤ 14) (x : Nat) : cib T tm n c (14 * ((x + 1 : Nat) : Int) + ((0 : Nat) : Int)) m = cib T tm n c (14 * ((x : Nat) : Int) + ((m : Nat) : Int)) m := by
  have key : ∀ k, k ≤ m → cib T tm n c (14 * ((x + 1 : Nat) : Int) + ((0 : Nat) : Int)) k = cib T tm n c (14 * ((x : Nat) : Int) + ((m : Nat) : Int)) k := by
    intro k
    induction k with
    | zero => intro _; rfl
    | succ k ih =>
      intro hk
      have h0 := ih (by omega)
      by_cases e : iss T tm n c k = true ∧ num T tm c k < 14 * ((x : Nat) : Int) + ((m : Nat) : Int)
      · rw [cib_t e.1 e.2, cib_t e.1 (by have := e.2; omega), h0]
      · rw [cib_f e, cib_f (fun q => e ⟨q.1, by have h2 := q.2; unfold num at h2 ⊢; omega⟩), h0]
  exact key m (Nat.le_refl _)
theorem cib_step {T : Nat} {tm : Nat → Int} {n c m i : Nat} (_ : 0 < T) (hm : m ≤ 14) (hi : i < m) (x : Nat) :
    ((iss T tm n c i = true ∧ num T tm c i = 14 * ((x : Nat) : Int) + ((i : Nat) : Int)) → cib T tm n c (14 * ((x : Nat) : Int) + ((i + 1 : Nat) : Int)) m = cib T tm n c (14 * ((x : Nat) : Int) + ((i : Nat) : Int)) m + 1) ∧
    (¬ (iss T tm n c i = true ∧ num T tm c i = 14 * ((x : Nat) : Int) + ((i : Nat) : Int)) → cib T tm n c (14 * ((x : Nat) : Int) + ((i + 1 : Nat) : Int)) m = cib T tm n c (14 * ((x : Nat) : Int) + ((i : Nat) : Int)) m) := by
  have key : ∀ k, k ≤ m → ((iss T tm n c i = true ∧ num T tm c i = 14 * ((x : Nat) : Int) + ((i : Nat) : Int)) → cib T tm n c (14 * ((x : Nat) : Int) + ((i + 1 : Nat) : Int)) k = cib T tm n c (14 * ((x : Nat) : Int) + ((i : Nat) : Int)) k + (if i < k then 1 else 0)) ∧
    (¬ (iss T tm n c i = true ∧ num T tm c i = 14 * ((x : Nat) : Int) + ((i : Nat) : Int)) → cib T tm n c (14 * ((x : Nat) : Int) + ((i + 1 : Nat) : Int)) k = cib T tm n c (14 * ((x : Nat) : Int) + ((i : Nat) : Int)) k) := by
    intro k
    induction k with
    | zero => intro _; exact ⟨fun _ => rfl, fun _ => rfl⟩
    | succ k ih =>
      intro hk
      obtain ⟨h0, h1⟩ := ih (by omega)
      by_cases ek : k = i
      · subst ek
        constructor
        · intro q
          rw [cib_t q.1 (by rw [q.2]; omega), cib_f (fun r => by have := r.2; rw [q.2] at this; omega), h0 q, if_neg (by omega), if_pos (by omega)]
        · intro q
          by_cases e : iss T tm n c k = true ∧ num T tm c k < 14 * ((x : Nat) : Int) + ((k : Nat) : Int)
          · rw [cib_t e.1 e.2, cib_t e.1 (by have := e.2; omega), h1 q]
          · rw [cib_f e, cib_f (fun r => by
              by_cases e2 : num T tm c k = 14 * ((x : Nat) : Int) + ((k : Nat) : Int)
              · exact q ⟨r.1, e2⟩
              · exact e ⟨r.1, by have := r.2; omega⟩), h1 q]
      · have hne : num T tm c k ≠ 14 * ((x : Nat) : Int) + ((i : Nat) : Int) := by unfold num; omega
        have hif : (if i < k + 1 then 1 else 0) = (if i < k then 1 else 0) := by
          by_cases h9 : i < k
          · rw [if_pos h9, if_pos (by omega)]
          · rw [if_neg h9, if_neg (by omega)]
        by_cases e : iss T tm n c k = true ∧ num T tm c k < 14 * ((x : Nat) : Int) + ((i : Nat) : Int)
        · rw [cib_t e.1 e.2, cib_t e.1 (by have := e.2; omega), hif]
          exact ⟨fun q => by rw [h0 q]; omega, fun q => by rw [h1 q]⟩
        · rw [cib_f e, cib_f (fun r => e ⟨r.1, by have := r.2; omega⟩), hif]
          exact ⟨h0, h1⟩
  obtain ⟨k1, k2⟩ := key m (Nat.le_refl _)
  exact ⟨fun q => by rw [k1 q, if_pos hi], k2⟩
theorem iss_hit {T n y i x : Nat} (hT : 0 < T) {tm : Nat → Nat} (hx : x < n) : (iss T (nZ tm) n y i = true ∧ num T (nZ tm) y i = 14 * ((x : Nat) : Int) + ((i : Nat) : Int)) ↔ tm i + x * T = y := by
  have hz : nZ tm i = ((tm i : Nat) : Int) := rfl
  have hxT : ((x * T : Nat) : Int) = (x : Int) * (T : Int) := Int.natCast_mul x T
  constructor
  · intro q
    have h1 := iss_i q.1
    have h2 := q.2
    unfold num at h2
    have h3 : ((y : Int) - nZ tm i) / (T : Int) = (x : Int) := by omega
    have h4 := Int.emod_add_mul_ediv ((y : Int) - nZ tm i) (T : Int)
    rw [h1.2.1, h3, Int.mul_comm] at h4
    rw [hz] at h4
    omega
  · intro q
    have h1 : (y : Int) - nZ tm i = (x : Int) * (T : Int) := by rw [hz]; omega
    have h2 : ((y : Int) - nZ tm i) / (T : Int) = (x : Int) := by rw [h1]; exact Int.mul_ediv_cancel _ (by omega)
    have h3 : ((y : Int) - nZ tm i) % (T : Int) = 0 := by rw [h1]; exact Int.mul_emod_left _ _
    refine ⟨iss_t (by rw [hz]; omega) h3 (by rw [h2]; omega), ?_⟩
    unfold num
    rw [h2]
theorem sGn_bd {L : LD} {T : Nat} (hT2 : T ≤ 200) (h0 : 0 < T) {tm : Nat → Nat} (h : ∀ j, j < Ln L → tm j ≤ 1000000) : (0 ≤ sG L T (nZ tm) ∧ sG L T (nZ tm) ≤ 1000001) ∧ (sG L T (nZ tm) - 1) * (T : Int) = sG L T (nZ tm) * (T : Int) - (T : Int) ∧ 0 ≤ sG L T (nZ tm) * (T : Int) ∧ sG L T (nZ tm) * (T : Int) ≤ 200000200 := by
  have h1 := gTn_bd h (Ln L) (Nat.le_refl _)
  have h2 := ediv_bd (T := T) h1.1
  have h3 : 0 ≤ sG L T (nZ tm) ∧ sG L T (nZ tm) ≤ 1000001 := by
    unfold sG
    by_cases e : Ln L = 0
    · rw [if_pos e]; omega
    · rw [if_neg e]; omega
  refine ⟨h3, by rw [Int.sub_mul, Int.one_mul], Int.mul_nonneg h3.1 (by omega), ?_⟩
  have h4 : sG L T (nZ tm) * (T : Int) ≤ 1000001 * (T : Int) := Int.mul_le_mul_of_nonneg_right h3.2 (by omega)
  omega

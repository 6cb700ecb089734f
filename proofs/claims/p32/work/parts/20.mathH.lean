theorem gT_cg {f g : Nat → Int} (n : Nat) (h : ∀ j, j < n → f j = g j) : gT f n = gT g n := by
  induction n with
  | zero => rfl
  | succ n ih =>
    show max (gT f n) (f n) = max (gT g n) (g n)
    rw [ih (fun j hj => h j (by omega)), h n (by omega)]
theorem sG_cg {L : LD} {T : Nat} {f g : Nat → Int} (h : ∀ j, j < Ln L → f j = g j) : sG L T f = sG L T g := by
  unfold sG
  rw [gT_cg (Ln L) h]
theorem iss_cg {T n c i : Nat} {f g : Nat → Int} (h : f i = g i) : iss T f n c i = iss T g n c i := by
  unfold iss
  rw [h]
theorem num_cg {T c i : Nat} {f g : Nat → Int} (h : f i = g i) : num T f c i = num T g c i := by
  unfold num
  rw [h]
theorem isn_cg {T n c : Nat} {f g : Nat → Int} (m : Nat) (h : ∀ j, j < m → f j = g j) : isn T f n c m = isn T g n c m := by
  induction m with
  | zero => rfl
  | succ m ih =>
    have h0 := ih (fun j hj => h j (by omega))
    have h1 := iss_cg (T := T) (n := n) (c := c) (h m (by omega))
    cases e : iss T f n c m with
    | true => rw [isn_t e, isn_t (h1.symm.trans e), h0]
    | false => rw [isn_f e, isn_f (h1.symm.trans e), h0]
theorem cib_cg {T n c : Nat} {f g : Nat → Int} {x : Int} (m : Nat) (h : ∀ j, j < m → f j = g j) : cib T f n c x m = cib T g n c x m := by
  induction m with
  | zero => rfl
  | succ m ih =>
    have h0 := ih (fun j hj => h j (by omega))
    have h1 := iss_cg (T := T) (n := n) (c := c) (h m (by omega))
    have h2 := num_cg (T := T) (c := c) (h m (by omega))
    by_cases e : iss T f n c m = true ∧ num T f c m < x
    · rw [cib_t e.1 e.2, cib_t (h1 ▸ e.1) (h2 ▸ e.2), h0]
    · rw [cib_f e, cib_f (by rw [← h1, ← h2]; exact e), h0]
theorem fLt_lf {L : LD} {T : Nat} {tm : Nat → Int} (i k : Nat) : fLt L T tm k i = leA L T tm i k - tm i := by
  induction k with
  | zero => show (0 : Int) = tm i - tm i; omega
  | succ k ih =>
    show upZ _ _ _ i = _
    by_cases e : Lsr L k = i
    · rw [leA_t e, e, upZ_s, ih]; omega
    · rw [leA_f e, upZ_n _ _ (fun q => e q.symm), ih]
theorem leA_cg {L : LD} (hw : wf L) {T : Nat} {f g : Nat → Int} (h : ∀ j, j < Ln L → f j = g j) {i : Nat} (hi : i < Ln L) (k : Nat) (hk : k ≤ Lm L) : leA L T f i k = leA L T g i k := by
  induction k with
  | zero => exact h i hi
  | succ k ih =>
    have h0 := ih (by omega)
    have h1 := h _ (wf_ed hw k (by omega)).2
    by_cases e : Lsr L k = i
    · rw [leA_t e, leA_t e, h0, h1]
    · rw [leA_f e, leA_f e, h0]
theorem fLt_eq {L : LD} (hw : wf L) {T : Nat} {f g : Nat → Int} (h : ∀ j, j < Ln L → f j = g j) {i : Nat} (hi : i < Ln L) : fLt L T f (Lm L) i = lf L T g i := by
  rw [fLt_lf]
  unfold lf
  rw [leA_cg hw h hi (Lm L) (Nat.le_refl _), h i hi]
theorem leA_ge {L : LD} {T : Nat} {tm : Nat → Int} (i k : Nat) : tm i ≤ leA L T tm i k := by
  induction k with
  | zero => exact Int.le_refl _
  | succ k ih =>
    by_cases e : Lsr L k = i
    · rw [leA_t e]; omega
    · rw [leA_f e]; exact ih
theorem lf_nn {L : LD} {T : Nat} {tm : Nat → Int} (i : Nat) : 0 ≤ lf L T tm i := by
  have := leA_ge (L := L) (T := T) (tm := tm) i (Lm L)
  unfold lf
  omega
theorem cL_eq {L : LD} {T : Nat} (hT : 0 < T) {tmX lt : Nat → Int} {tm : Nat → Nat} {r : Nat} (hr : r < T) (m : Nat) (h1 : ∀ j, j < m → tmX j = nZ tm j) (h2 : ∀ j, j < m → lt j = lf L T (nZ tm) j) : cL T tmX lt ((r : Nat) : Int) m = ((lrM L T tm r m : Nat) : Int) := by
  induction m with
  | zero => rfl
  | succ m ih =>
    have h0 := ih (fun j hj => h1 j (by omega)) (fun j hj => h2 j (by omega))
    have h3 := hrq_cl (s := tm m) hT hr (lf L T (nZ tm) m).toNat
    have h4 := lf_nn (L := L) (T := T) (tm := nZ tm) m
    have h5 : (((lf L T (nZ tm) m).toNat / T : Nat) : Int) = lf L T (nZ tm) m / (T : Int) := by
      rw [Int.natCast_ediv, Int.toNat_of_nonneg h4]
    have h6 : (((lf L T (nZ tm) m).toNat % T : Nat) : Int) = lf L T (nZ tm) m % (T : Int) := by
      rw [Int.natCast_emod, Int.toNat_of_nonneg h4]
    have h7 : nZ tm m = ((tm m : Nat) : Int) := rfl
    rw [h5, h6, ← h7, ← h1 m (by omega), ← h2 m (by omega)] at h3
    rw [lrM_s, Int.natCast_add, ← h2 m (by omega), h3, ← h0]
    by_cases c : (((r : Nat) : Int) - tmX m) % (T : Int) < lt m % (T : Int)
    · rw [cL_t c, if_pos c]; omega
    · rw [cL_f c, if_neg c]; omega
theorem rg_cg {f g : Nat → Int} (n : Nat) (h : ∀ r, r < n → f r = g r) : rg f n = rg g n := by
  induction n with
  | zero => rfl
  | succ n ih =>
    show max (rg f n) (f n) = max (rg g n) (g n)
    rw [ih (fun j hj => h j (by omega)), h n (by omega)]
theorem cC_cg {T i : Nat} {f g : Nat → Int} (h : f i = g i) : cC T f i = cC T g i := by
  unfold cC
  rw [h]
theorem cN_cg {T i : Nat} {f g : Nat → Int} (h : f i = g i) : cN T f i = cN T g i := by
  unfold cN
  rw [cC_cg h]
theorem unM_cg {f g : Nat → Nat} (n : Nat) (h : ∀ r, r < n → f r = g r) : unM f n = unM g n := by
  induction n with
  | zero => rfl
  | succ n ih => rw [unM_s, unM_s, ih (fun j hj => h j (by omega)), h n (by omega)]
def unV (cp : Nat → Nat) (n : Nat) (r : Int32) : Prop := ((∀ j, j ≤ n → unM cp j ≤ 1000000) ∧ r = iI ((unM cp n : Nat) : Int)) ∨ (∃ x, x < n ∧ (∀ j, j ≤ x → unM cp j ≤ 1000000) ∧ 1000000 < unM cp (x + 1) ∧ r = iI 1000000)
theorem unV_eq {f g : Nat → Nat} {n : Nat} {r v : Int32} (h : ∀ j, j < n → f j = g j) (h1 : unV f n r) (h2 : unV g n v) : r = v := by
  have hc : ∀ j, j ≤ n → unM f j = unM g j := fun j hj => unM_cg j (fun i hi => h i (by omega))
  rcases h1 with ⟨a1, a2⟩ | ⟨x, a1, a2, a3, a4⟩
  · rcases h2 with ⟨b1, b2⟩ | ⟨y, b1, b2, b3, b4⟩
    · rw [a2, b2, hc n (Nat.le_refl _)]
    · have h3 := a1 (y + 1) (by omega)
      rw [hc (y + 1) (by omega)] at h3
      omega
  · rcases h2 with ⟨b1, b2⟩ | ⟨y, b1, b2, b3, b4⟩
    · have h3 := b1 (x + 1) (by omega)
      rw [← hc (x + 1) (by omega)] at h3
      omega
    · rw [a4, b4]
theorem dgT_cg {L : LD} {T : Nat} {f g : Nat → Int} (n : Nat) (h : ∀ j, j < n → f j = g j) : dgT L T f n = dgT L T g n := by
  induction n with
  | zero => rfl
  | succ n ih =>
    show dw (dgT L T f n) (f n) = dw (dgT L T g n) (g n)
    rw [ih (fun j hj => h j (by omega)), h n (by omega)]
theorem cib_lt {T n c : Nat} {tm : Nat → Int} {x : Nat} {z : Int} (m : Nat) (hx : x < m) (hi : iss T tm n c x = true) (hz : num T tm c x = z) : cib T tm n c z m < isn T tm n c m := by
  have hle : ∀ m, cib T tm n c z m ≤ isn T tm n c m := by
    intro m
    induction m with
    | zero => exact Nat.le_refl _
    | succ m ih =>
      cases e : iss T tm n c m with
      | true =>
        rw [isn_t e]
        by_cases q : num T tm c m < z
        · rw [cib_t e q]; omega
        · rw [cib_f (fun w => q w.2)]; omega
      | false => rw [isn_f e, cib_f (fun w => by rw [e] at w; exact absurd w.1 (by decide))]; exact ih
  induction m with
  | zero => omega
  | succ m ih =>
    by_cases e2 : x = m
    · rw [← e2]
      rw [isn_t hi, cib_f (fun w => by have := w.2; omega)]
      have := hle x
      omega
    · have h0 := ih (by omega)
      cases e : iss T tm n c m with
      | true =>
        rw [isn_t e]
        by_cases q : num T tm c m < z
        · rw [cib_t e q]; omega
        · rw [cib_f (fun w => q w.2)]; omega
      | false => rw [isn_f e, cib_f (fun w => by rw [e] at w; exact absurd w.1 (by decide))]; exact h0
theorem cib_mono {T n c : Nat} {tm : Nat → Int} {x : Nat} {z v : Int} (m : Nat) (hx : x < m) (hi : iss T tm n c x = true) (hz : num T tm c x = z) (hv : z < v) : cib T tm n c z m < cib T tm n c v m := by
  have hle : ∀ m, cib T tm n c z m ≤ cib T tm n c v m := by
    intro m
    induction m with
    | zero => exact Nat.le_refl _
    | succ m ih =>
      by_cases q : iss T tm n c m = true ∧ num T tm c m < z
      · rw [cib_t q.1 q.2, cib_t q.1 (by have := q.2; omega)]; omega
      · rw [cib_f q]
        by_cases q2 : iss T tm n c m = true ∧ num T tm c m < v
        · rw [cib_t q2.1 q2.2]; omega
        · rw [cib_f q2]; exact ih
  induction m with
  | zero => omega
  | succ m ih =>
    by_cases e2 : x = m
    · rw [← e2]
      rw [cib_t (x := v) hi (by omega), cib_f (x := z) (fun w => by have := w.2; omega)]
      have := hle x
      omega
    · have h0 := ih (by omega)
      by_cases q : iss T tm n c m = true ∧ num T tm c m < z
      · rw [cib_t q.1 q.2, cib_t q.1 (by have := q.2; omega)]; omega
      · rw [cib_f q]
        by_cases q2 : iss T tm n c m = true ∧ num T tm c m < v
        · rw [cib_t q2.1 q2.2]; omega
        · rw [cib_f q2]; exact h0
theorem cib_uq {T n c m x y : Nat} {tm : Nat → Int} {k : Int} (hx : x < m) (hy : y < m) (h1 : iss T tm n c x = true) (h2 : iss T tm n c y = true) (h3 : ((cib T tm n c (num T tm c x) m : Nat) : Int) = k) (h4 : ((cib T tm n c (num T tm c y) m : Nat) : Int) = k) : num T tm c x = num T tm c y := by
  rcases Int.lt_trichotomy (num T tm c x) (num T tm c y) with q | q | q
  · have := cib_mono m hx h1 rfl q; omega
  · exact q
  · have := cib_mono m hy h2 rfl q; omega
def bt (T : Nat) (tm : Nat → Int) (n c i : Nat) : Nat := if iss T tm n c i = true then 1 else 0
theorem sumI_add (f g : Nat → Nat) (c : Nat) : sumI (fun x => f x + g x) c = sumI f c + sumI g c := by
  induction c with
  | zero => rfl
  | succ c ih =>
    show sumI (fun x => f x + g x) c + (f c + g c) = sumI f c + f c + (sumI g c + g c)
    rw [ih]
    omega
theorem sumI_off (f : Nat → Nat) (A M : Nat) : sumI f (A + M) = sumI f A + sumI (fun c => f (A + c)) M := by
  induction M with
  | zero => rfl
  | succ M ih =>
    show sumI f (A + M) + f (A + M) = sumI f A + (sumI (fun c => f (A + c)) M + f (A + M))
    rw [ih]
    omega
theorem isn_bt (T : Nat) (tm : Nat → Int) (n i : Nat) : (fun c => isn T tm n c (i + 1)) = fun c => isn T tm n c i + bt T tm n c i := by
  funext c
  cases e : iss T tm n c i with
  | true => rw [isn_t e]; unfold bt; rw [if_pos e]
  | false => rw [isn_f e]; unfold bt; rw [if_neg (by rw [e]; decide)]; rfl
theorem sumI_z (c : Nat) : sumI (fun _ => 0) c = 0 := by
  induction c with
  | zero => rfl
  | succ c ih => show sumI (fun _ => 0) c + 0 = 0; rw [ih]
theorem iss_nat {T n c i : Nat} {tm : Nat → Int} {s : Nat} (hs : tm i = ((s : Nat) : Int)) : iss T tm n c i = true ↔ s ≤ c ∧ (c - s) % T = 0 ∧ (c - s) / T < n := by
  have key : s ≤ c → ((c : Int) - tm i) = ((c - s : Nat) : Int) := fun h => by rw [hs]; omega
  constructor
  · intro h
    have h1 := iss_i h
    have h2 : s ≤ c := by have := h1.1; rw [hs] at this; omega
    rw [key h2] at h1
    have e1 : (((c - s : Nat) : Int)) % (T : Int) = (((c - s) % T : Nat) : Int) := (Int.natCast_emod _ _).symm
    have e2 : (((c - s : Nat) : Int)) / (T : Int) = (((c - s) / T : Nat) : Int) := (Int.natCast_ediv _ _).symm
    rw [e1, e2] at h1
    exact ⟨h2, by omega, by omega⟩
  · intro h
    have e1 : (((c - s : Nat) : Int)) % (T : Int) = (((c - s) % T : Nat) : Int) := (Int.natCast_emod _ _).symm
    have e2 : (((c - s : Nat) : Int)) / (T : Int) = (((c - s) / T : Nat) : Int) := (Int.natCast_ediv _ _).symm
    refine iss_t ?_ ?_ ?_
    · rw [key h.1]; omega
    · rw [key h.1, e1]; omega
    · rw [key h.1, e2]; omega
theorem cnt_bt {T n i : Nat} (hT : 0 < T) {tm : Nat → Int} {s : Nat} (hs : tm i = ((s : Nat) : Int)) (C : Nat) : sumI (fun c => bt T tm n c i) C = min n ((C - s + (T - 1)) / T) := by
  induction C with
  | zero =>
    show 0 = _
    rw [Nat.zero_sub, Nat.zero_add, Nat.div_eq_of_lt (show T - 1 < T by omega)]
    omega
  | succ C ih =>
    show sumI (fun c => bt T tm n c i) C + bt T tm n C i = _
    rw [ih]
    by_cases h : s ≤ C
    · have e1 : (C + 1 - s + (T - 1)) / T = (C - s) / T + 1 := by
        rw [show C + 1 - s + (T - 1) = (C - s) + T by omega, Nat.add_div_right _ hT]
      have hm := Nat.mod_lt (C - s) hT
      have hd := Nat.div_add_mod (C - s) T
      by_cases h2 : (C - s) % T = 0
      · have e2 : (C - s + (T - 1)) / T = (C - s) / T := by
          have : C - s + (T - 1) = T * ((C - s) / T) + (T - 1) := by omega
          rw [this, Nat.mul_add_div hT, Nat.div_eq_of_lt (show T - 1 < T by omega)]
          rfl
        by_cases h3 : (C - s) / T < n
        · have : bt T tm n C i = 1 := if_pos ((iss_nat hs).mpr ⟨h, h2, h3⟩)
          rw [this, e1, e2]; omega
        · have : bt T tm n C i = 0 := if_neg (fun q => h3 ((iss_nat hs).mp q).2.2)
          rw [this, e1, e2]; omega
      · have e2 : (C - s + (T - 1)) / T = (C - s) / T + 1 := by
          have : C - s + (T - 1) = T * ((C - s) / T) + (((C - s) % T - 1) + T) := by omega
          rw [this, Nat.mul_add_div hT, Nat.add_div_right _ hT, Nat.div_eq_of_lt (show (C - s) % T - 1 < T by omega)]
        have : bt T tm n C i = 0 := if_neg (fun q => h2 ((iss_nat hs).mp q).2.1)
        rw [this, e1, e2]; omega
    · have : bt T tm n C i = 0 := if_neg (fun q => h ((iss_nat hs).mp q).1)
      rw [this, show C + 1 - s = C - s by omega]
      omega
theorem stg {T s c : Nat} (hT : 0 < T) (h : s / T ≤ c) : (c * T - s + (T - 1)) / T = c - s / T := by
  have hm := Nat.mod_lt s hT
  have hd := Nat.div_add_mod s T
  have hd2 : T * (s / T) = s / T * T := Nat.mul_comm _ _
  by_cases e : s / T = c
  · rw [show c * T - s = 0 by rw [← e]; omega, Nat.zero_add, Nat.div_eq_of_lt (show T - 1 < T by omega)]
    omega
  · have h1 : (c - s / T) * T = c * T - s / T * T := Nat.sub_mul _ _ _
    have h2 : 1 ≤ c - s / T := by omega
    have h3 : 1 * T ≤ (c - s / T) * T := Nat.mul_le_mul_right _ h2
    have h4 : c * T - s + (T - 1) = T * (c - s / T) + (T - 1 - s % T) := by
      rw [Nat.mul_comm T (c - s / T)]
      omega
    rw [h4, Nat.mul_add_div hT, Nat.div_eq_of_lt (show T - 1 - s % T < T by omega)]
    rfl
theorem pro_eq {T : Nat} (hT : 0 < T) {tm : Nat → Nat} {c : Nat} (hc : c ≤ 1000) (m : Nat) (h : ∀ j, j < m → tm j / T ≤ c) : ((sumI (fun x => isn T (nZ tm) 1000 x m) (c * T) : Nat) : Int) = pro T (nZ tm) ((c : Nat) : Int) m := by
  induction m with
  | zero => rw [show (fun x => isn T (nZ tm) 1000 x 0) = fun _ => 0 from rfl, sumI_z]; rfl
  | succ m ih =>
    rw [isn_bt, sumI_add, Int.natCast_add, ih (fun j hj => h j (by omega)), cnt_bt hT (tm := nZ tm) (i := m) (s := tm m) rfl, stg hT (h m (by omega))]
    show _ = pro T (nZ tm) ((c : Nat) : Int) m + (((c : Nat) : Int) - nZ tm m / (T : Int))
    have h1 : nZ tm m / (T : Int) = ((tm m / T : Nat) : Int) := (Int.natCast_ediv _ _).symm
    have h2 := h m (by omega)
    rw [h1]
    generalize tm m / T = q at h2
    rw [Nat.min_eq_right (show c - q ≤ 1000 by omega)]
    omega
theorem epi_eq {T : Nat} (hT : 0 < T) {tm : Nat → Nat} {n G : Nat} (m : Nat) (h : ∀ j, j < m → tm j / T + 1 ≤ n ∧ tm j ≤ G) : ((sumI (fun x => isn T (nZ tm) n (n * T + x) m) (G + 1) : Nat) : Int) = epi T (nZ tm) m := by
  have key : ∀ m, (∀ j, j < m → tm j / T + 1 ≤ n ∧ tm j ≤ G) → ((sumI (fun x => isn T (nZ tm) n x m) (n * T + (G + 1)) : Nat) : Int) = ((sumI (fun x => isn T (nZ tm) n x m) (n * T) : Nat) : Int) + epi T (nZ tm) m := by
    intro m
    induction m with
    | zero => intro _; rw [show (fun x => isn T (nZ tm) n x 0) = fun _ => 0 from rfl, sumI_z, sumI_z]; rfl
    | succ m ih =>
      intro h
      have h2 := h m (by omega)
      rw [isn_bt, sumI_add, sumI_add, Int.natCast_add, ih (fun j hj => h j (by omega)), cnt_bt hT (tm := nZ tm) (i := m) (s := tm m) rfl, cnt_bt hT (tm := nZ tm) (i := m) (s := tm m) rfl, stg hT (c := n) (by omega)]
      show _ = _ + (epi T (nZ tm) m + nZ tm m / (T : Int))
      have h1 : nZ tm m / (T : Int) = ((tm m / T : Nat) : Int) := (Int.natCast_ediv _ _).symm
      have h3 : n ≤ (n * T + (G + 1) - tm m + (T - 1)) / T := by
        rw [Nat.le_div_iff_mul_le hT]
        omega
      rw [h1, Nat.min_eq_left h3]
      generalize tm m / T = q at h2
      rw [Nat.min_eq_right (show n - q ≤ n by omega)]
      omega
  have h1 := sumI_off (fun x => isn T (nZ tm) n x m) (n * T) (G + 1)
  have h2 := key m h
  rw [h1] at h2
  have h3 : ∀ (x y : Nat) (z : Int), ((x + y : Nat) : Int) = (x : Int) + z → (y : Int) = z := fun x y z q => by omega
  exact h3 _ _ _ h2

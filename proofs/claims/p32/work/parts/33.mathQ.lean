/-! what the law's loops add up to -/
theorem sumI_s (f : Nat → Nat) (c : Nat) : sumI f (c + 1) = sumI f c + f c := rfl
theorem sumI_cg {f g : Nat → Nat} (c : Nat) (h : ∀ x, x < c → f x = g x) : sumI f c = sumI g c := by
  induction c with
  | zero => rfl
  | succ c ih => rw [sumI_s, sumI_s, ih (fun x hx => h x (by omega)), h c (by omega)]
theorem sumI_mono {f g : Nat → Nat} (c : Nat) (h : ∀ x, x < c → f x ≤ g x) : sumI f c ≤ sumI g c := by
  induction c with
  | zero => exact Nat.le_refl _
  | succ c ih =>
    have h1 := ih (fun x hx => h x (by omega))
    have h2 := h c (by omega)
    rw [sumI_s, sumI_s]
    omega
theorem sumI_swap (f : Nat → Nat → Nat) (m n : Nat) : sumI (fun k => sumI (fun i => f k i) n) m = sumI (fun i => sumI (fun k => f k i) m) n := by
  induction n with
  | zero =>
    rw [show (fun k => sumI (fun i => f k i) 0) = fun _ => 0 from rfl, sumI_z]
    rfl
  | succ n ih =>
    rw [show (fun k => sumI (fun i => f k i) (n + 1)) = fun k => sumI (fun i => f k i) n + f k n from rfl, sumI_add, ih]
    rfl
theorem is_all {T it C : Nat} (hT : 0 < T) {tmX : Nat → Int} {tm : Nat → Nat} (m : Nat) (h : ∀ j, j < m → tmX j = ((tm j : Nat) : Int) ∧ tm j + it * T + 1 ≤ C + T) : sumI (fun c => isn T tmX it c m) C = m * it := by
  induction m with
  | zero => rw [show (fun c => isn T tmX it c 0) = fun _ => 0 from rfl, sumI_z, Nat.zero_mul]
  | succ m ih =>
    have h2 := h m (by omega)
    rw [isn_bt, sumI_add, ih (fun j hj => h j (by omega)), cnt_bt hT (i := m) h2.1, Nat.succ_mul]
    have h3 : it ≤ (C - tm m + (T - 1)) / T := by
      rw [Nat.le_div_iff_mul_le hT]
      omega
    rw [Nat.min_eq_left h3]
theorem is_none {T it C : Nat} (hT : 0 < T) {tmX : Nat → Int} {tm : Nat → Nat} (m : Nat) (h : ∀ j, j < m → tmX j = ((tm j : Nat) : Int) ∧ tm j + it * T + 1 ≤ C + T) : isn T tmX it C m = 0 := by
  have h1 := is_all hT m h
  have h2 := is_all (it := it) (C := C + 1) hT m (tmX := tmX) (tm := tm) (fun j hj => ⟨(h j hj).1, by have := (h j hj).2; omega⟩)
  rw [sumI_s] at h2
  have h2 : sumI (fun c => isn T tmX it c m) C + isn T tmX it C m = m * it := h2
  omega
theorem is_win {T it S : Nat} (hT : 0 < T) {tmX : Nat → Int} {tm : Nat → Nat} (hS : 1 ≤ S ∧ S ≤ it) (m : Nat) (h : ∀ j, j < m → tmX j = ((tm j : Nat) : Int) ∧ tm j / T < S) : sumI (fun c => isn T tmX it ((S - 1) * T + c) m) T = m := by
  have key : ∀ m, (∀ j, j < m → tmX j = ((tm j : Nat) : Int) ∧ tm j / T < S) → sumI (fun c => isn T tmX it c m) (S * T) = sumI (fun c => isn T tmX it c m) ((S - 1) * T) + m := by
    intro m
    induction m with
    | zero => intro _; rw [show (fun c => isn T tmX it c 0) = fun _ => 0 from rfl, sumI_z, sumI_z]
    | succ m ih =>
      intro h
      have h2 := h m (by omega)
      rw [isn_bt, sumI_add, sumI_add, ih (fun j hj => h j (by omega)), cnt_bt hT (i := m) h2.1, cnt_bt hT (i := m) h2.1, stg hT (c := S) (by omega), stg hT (c := S - 1) (by omega)]
      have h3 := h2.2
      generalize tm m / T = q at h3 ⊢
      rw [Nat.min_eq_right (show S - q ≤ it by omega), Nat.min_eq_right (show S - 1 - q ≤ it by omega)]
      omega
  have h1 := sumI_off (fun c => isn T tmX it c m) ((S - 1) * T) T
  have h2 := key m h
  have h3 : (S - 1) * T + T = S * T := by
    have h4 := Nat.succ_mul (S - 1) T
    rw [show (S - 1).succ = S by omega] at h4
    exact h4.symm
  rw [h3] at h1
  omega
def one : Nat → Bool := fun _ => true
theorem hqK_sum (L : LD) (t : Nat) (tm : Nat → Nat) (i y b : Nat) : hqK L t tm i y b = sumI (fun c => if cx L t tm i c = y then 1 else 0) b := by
  induction b with
  | zero => rfl
  | succ b ih =>
    rw [hqK_s, sumI_s, ← ih]
    by_cases e : cx L t tm i b = y
    · rw [if_pos e, if_pos e]
    · rw [if_neg e, if_neg e]; rfl
theorem hqA_sum (L : LD) (t : Nat) (tm : Nat → Nat) (y n : Nat) : hqA L t tm one y n = sumI (fun i => hqK L t tm i y (Lby L i)) n := by
  induction n with
  | zero => rfl
  | succ n ih => rw [hqA_s, sumI_s, ih, bq_t (pl := one) rfl]
/-- units taken of each kind in a row, behind i operations and c cycles of the next -/
def tkn (L : LD) (T : Nat) (tm : Nat → Nat) (row i c : Nat) : Nat → Int := fun k => ((hqA L T tm one (200 * k + row) i + hqK L T tm i (200 * k + row) c : Nat) : Int)
theorem tkn_0 (L : LD) (T : Nat) (tm : Nat → Nat) (row : Nat) : tkn L T tm row 0 0 = fun _ => 0 := rfl
theorem tkn_n (L : LD) (T : Nat) (tm : Nat → Nat) (row i : Nat) : tkn L T tm row i (Lby L i) = tkn L T tm row (i + 1) 0 := by
  funext k
  unfold tkn
  rw [hqA_s, bq_t (pl := one) rfl]
  rfl
theorem tkn_s {L : LD} {T : Nat} (hT : 0 < T ∧ T ≤ 200) (tm : Nat → Nat) {row : Nat} (hr : row < T) (i c : Nat) {b : Int} (hb : b = if (tm i + c) % T = row then 1 else 0) : upZ (tkn L T tm row i c) (Lkd L i) (tkn L T tm row i c (Lkd L i) + b) = tkn L T tm row i (c + 1) := by
  have hm := Nat.mod_lt (tm i + c) hT.1
  funext k
  by_cases e : k = Lkd L i
  · rw [e, upZ_s, hb]
    unfold tkn
    rw [hqK_s]
    by_cases e2 : (tm i + c) % T = row
    · rw [if_pos e2, if_pos (show cx L T tm i c = 200 * Lkd L i + row by unfold cx; omega)]
      omega
    · rw [if_neg e2, if_neg (show ¬ cx L T tm i c = 200 * Lkd L i + row by unfold cx; omega)]
      omega
  · rw [upZ_n _ _ e]
    unfold tkn
    rw [hqK_s, if_neg (show ¬ cx L T tm i c = 200 * k + row by unfold cx; omega)]
theorem tkn_bd (L : LD) (hw : wf L) (T : Nat) (tm : Nat → Nat) (row i c : Nat) (hi : i ≤ 14) (hc : c ≤ 4) (k : Nat) : 0 ≤ tkn L T tm row i c k ∧ tkn L T tm row i c k ≤ 60 := by
  have h1 := hqA_le hw T tm one (200 * k + row) i
  have h2 := hqK_le L T tm i (200 * k + row) c
  unfold tkn
  omega
theorem tkn_le {L : LD} {T : Nat} (hT : 0 < T ∧ T ≤ 200) {tk : Nat → Nat → Int} {tm : Nat → Nat} (hI : IX L T tk tm one) {row k : Nat} (hr : row < T) : tkn L T tm row (Ln L) 0 k ≤ ((Lu L k : Nat) : Int) := by
  have h := hI.2 (200 * k + row)
  rw [show (200 * k + row) / 200 = k by omega] at h
  unfold tkn
  show ((hqA L T tm one (200 * k + row) (Ln L) + 0 : Nat) : Int) ≤ _
  omega
/-- busy units, cycle by cycle, of a long execution -/
def uC (L : LD) (T : Nat) (tm : Nat → Nat) (x k i : Nat) : Nat → Nat := sumI (fun c => if 3 * (tm i + k * T + c) + Lkd L i = x then 1 else 0)
def uI (L : LD) (T : Nat) (tm : Nat → Nat) (x k : Nat) : Nat → Nat := sumI (fun i => uC L T tm x k i (Lby L i))
def uK (L : LD) (T : Nat) (tm : Nat → Nat) (x : Nat) : Nat → Nat := sumI (fun k => uI L T tm x k (Ln L))
def us (L : LD) (T : Nat) (tm : Nat → Nat) (k i c : Nat) : Nat → Int := fun x => ((uK L T tm x k + uI L T tm x k i + uC L T tm x k i c : Nat) : Int)
theorem us_0 (L : LD) (T : Nat) (tm : Nat → Nat) : us L T tm 0 0 0 = fun _ => 0 := rfl
theorem us_i (L : LD) (T : Nat) (tm : Nat → Nat) (k i : Nat) : us L T tm k i (Lby L i) = us L T tm k (i + 1) 0 := by
  funext x
  show ((uK L T tm x k + uI L T tm x k i + uC L T tm x k i (Lby L i) : Nat) : Int) = ((uK L T tm x k + (uI L T tm x k i + uC L T tm x k i (Lby L i)) + 0 : Nat) : Int)
  omega
theorem us_k (L : LD) (T : Nat) (tm : Nat → Nat) (k : Nat) : us L T tm k (Ln L) 0 = us L T tm (k + 1) 0 0 := by
  funext x
  show ((uK L T tm x k + uI L T tm x k (Ln L) + 0 : Nat) : Int) = ((uK L T tm x k + uI L T tm x k (Ln L) + 0 + 0 : Nat) : Int)
  omega
theorem us_s (L : LD) (T : Nat) (tm : Nat → Nat) (k i c : Nat) : upZ (us L T tm k i c) (3 * (tm i + k * T + c) + Lkd L i) (us L T tm k i c (3 * (tm i + k * T + c) + Lkd L i) + 1) = us L T tm k i (c + 1) := by
  funext x
  have h : us L T tm k i (c + 1) x = us L T tm k i c x + (if 3 * (tm i + k * T + c) + Lkd L i = x then 1 else 0) := by
    show ((uK L T tm x k + uI L T tm x k i + (uC L T tm x k i c + (if 3 * (tm i + k * T + c) + Lkd L i = x then 1 else 0)) : Nat) : Int) = ((uK L T tm x k + uI L T tm x k i + uC L T tm x k i c : Nat) : Int) + _
    by_cases e : 3 * (tm i + k * T + c) + Lkd L i = x
    · rw [if_pos e, if_pos e]; omega
    · rw [if_neg e, if_neg e]; omega
  rw [h]
  by_cases e : x = 3 * (tm i + k * T + c) + Lkd L i
  · rw [e, upZ_s, if_pos rfl]
  · rw [upZ_n _ _ e, if_neg (fun q => e q.symm)]
    omega
theorem one_sum {p : Nat → Bool} (h : ∀ a b, p a = true → p b = true → a = b) (m : Nat) : sumI (fun k => if p k = true then 1 else 0) m = 0 ∨ ((∃ k, k < m ∧ p k = true) ∧ sumI (fun k => if p k = true then 1 else 0) m = 1) := by
  induction m with
  | zero => exact Or.inl rfl
  | succ m ih =>
    rw [sumI_s]
    cases e : p m with
    | true =>
      right
      refine ⟨⟨m, by omega, e⟩, ?_⟩
      rcases ih with q | ⟨⟨k, hk, hp⟩, _⟩
      · rw [q]; rfl
      · have := h k m hp e
        omega
    | false =>
      rcases ih with q | ⟨⟨k, hk, hp⟩, q⟩
      · left; rw [q]; rfl
      · right
        exact ⟨⟨k, by omega, hp⟩, by rw [q]; rfl⟩
theorem uk_one {L : LD} {T : Nat} (hT : 0 < T ∧ T ≤ 200) (tm : Nat → Nat) {kd cy : Nat} (hk : kd < 3) (i c m : Nat) (hki : Lkd L i < 3) : sumI (fun k => if 3 * (tm i + k * T + c) + Lkd L i = 3 * cy + kd then 1 else 0) m ≤ if cx L T tm i c = 200 * kd + cy % T then 1 else 0 := by
  have hu := one_sum (p := fun k => decide (3 * (tm i + k * T + c) + Lkd L i = 3 * cy + kd)) (fun a b ha hb => by
    have ha := of_decide_eq_true ha
    have hb := of_decide_eq_true hb
    have h1 : a * T = b * T := by omega
    exact Nat.eq_of_mul_eq_mul_right hT.1 h1) m
  have e1 : (fun k => if decide (3 * (tm i + k * T + c) + Lkd L i = 3 * cy + kd) = true then 1 else 0) = fun k => if 3 * (tm i + k * T + c) + Lkd L i = 3 * cy + kd then 1 else 0 := by
    funext k
    by_cases e : 3 * (tm i + k * T + c) + Lkd L i = 3 * cy + kd
    · rw [if_pos e, if_pos (decide_eq_true e)]
    · rw [if_neg e, if_neg (by rw [decide_eq_false e]; decide)]
  rw [e1] at hu
  rcases hu with h | ⟨⟨k, _, hp⟩, h⟩
  · rw [h]; exact Nat.zero_le _
  · have hp := of_decide_eq_true hp
    have h2 : Lkd L i = kd := by omega
    have h3 : cy = tm i + c + T * k := by rw [Nat.mul_comm T k]; omega
    rw [h, if_pos (show cx L T tm i c = 200 * kd + cy % T by unfold cx; rw [h2, h3, Nat.add_mul_mod_self_left])]
    exact Nat.le_refl _
theorem us_le {L : LD} (hw : wf L) {T : Nat} (hT : 0 < T ∧ T ≤ 200) {tk : Nat → Nat → Int} {tm : Nat → Nat} (hI : IX L T tk tm one) {kd cy it : Nat} (hk : kd < 3) : us L T tm it 0 0 (3 * cy + kd) ≤ ((Lu L kd : Nat) : Int) := by
  have hm := Nat.mod_lt cy hT.1
  have h := hI.2 (200 * kd + cy % T)
  rw [show (200 * kd + cy % T) / 200 = kd by omega, hqA_sum] at h
  have h1 : uK L T tm (3 * cy + kd) it ≤ sumI (fun i => hqK L T tm i (200 * kd + cy % T) (Lby L i)) (Ln L) := by
    unfold uK uI uC
    rw [sumI_swap]
    refine sumI_mono (Ln L) (fun i _ => ?_)
    rw [sumI_swap, hqK_sum]
    exact sumI_mono (Lby L i) (fun c _ => uk_one hT tm hk i c it (wf_kd hw i))
  show ((uK L T tm (3 * cy + kd) it + 0 + 0 : Nat) : Int) ≤ _
  omega
theorem us_bd {L : LD} (hw : wf L) (T : Nat) (tm : Nat → Nat) (k i c x : Nat) (hk : k ≤ 4000) (hi : i ≤ 14) (hc : c ≤ 4) : 0 ≤ us L T tm k i c x ∧ us L T tm k i c x ≤ 400000 := by
  have hn := wf_n hw
  have h1 : ∀ k i c, uC L T tm x k i c ≤ 1 * c := fun k i c => sumI_le (fun c => by
    by_cases e : 3 * (tm i + k * T + c) + Lkd L i = x
    · rw [if_pos e]; exact Nat.le_refl 1
    · rw [if_neg e]; exact Nat.zero_le _) c
  have h2 : ∀ k i, uI L T tm x k i ≤ 4 * i := fun k i => sumI_le (fun i => by
    have q1 := h1 k i (Lby L i)
    have q2 := wf_by hw i
    omega) i
  have h3 : uK L T tm x k ≤ 56 * k := sumI_le (fun k => by have := h2 k (Ln L); omega) k
  have h4 := h2 k i
  have h5 := h1 k i c
  unfold us
  omega
/-- the dependences, as the law asks them -/
theorem eq_one {L : LD} {T : Nat} {tm : Nat → Nat} (h : eOK L T tm = true) {d : Nat} (hd : d < Lm L) : (tm (Lsr L d) : Int) + (Ldl L d : Int) ≤ (tm (Lds L d) : Int) + (T : Int) * (Ldi L d : Int) := by
  have := eOK_i.mp h d hd
  omega
theorem eq_all {L : LD} {T : Nat} {tm : Nat → Nat} (h : eOK L T tm = true) {d j : Nat} (hd : d < Lm L) (hj : Ldi L d ≤ j) : (tm (Lsr L d) : Int) + ((j : Int) - (Ldi L d : Int)) * (T : Int) + (Ldl L d : Int) ≤ (tm (Lds L d) : Int) + (j : Int) * (T : Int) := by
  have h1 := eq_one h hd
  have h2 : ((j : Int) - (Ldi L d : Int)) * (T : Int) = (j : Int) * (T : Int) - (T : Int) * (Ldi L d : Int) := by
    rw [Int.sub_mul, Int.mul_comm (Ldi L d : Int) (T : Int)]
  omega

theorem gTn_bd {n : Nat} {tm : Nat → Nat} (h : ∀ j, j < n → tm j ≤ 1000000) (i : Nat) (hi : i ≤ n) : 0 ≤ gT (nZ tm) i ∧ gT (nZ tm) i ≤ 1000000 := by
  induction i with
  | zero => exact ⟨Int.le_refl _, (show (0 : Int) ≤ 1000000 by decide)⟩
  | succ i ih =>
    have h1 := h i (by omega)
    have h2 := ih (by omega)
    have h3 : nZ tm i = ((tm i : Nat) : Int) := rfl
    show 0 ≤ max (gT (nZ tm) i) (nZ tm i) ∧ max (gT (nZ tm) i) (nZ tm i) ≤ 1000000
    omega
theorem hqK_0 {L : LD} {t : Nat} {tm : Nat → Nat} {i kd row : Nat} (h : ¬ Lkd L i = kd) (hrow : row < 200) (ht : 0 < t ∧ t ≤ 200) (k : Nat) : hqK L t tm i (200 * kd + row) k = 0 := by
  induction k with
  | zero => rfl
  | succ k ih =>
    have h1 := Nat.mod_lt (tm i + k) ht.1
    rw [show hqK L t tm i (200 * kd + row) (k + 1) = hqK L t tm i (200 * kd + row) k from if_neg (by unfold cx; omega)]
    exact ih
theorem hqK_r {L : LD} {t : Nat} {tm : Nat → Nat} {i row : Nat} (hrow : row < 200) (ht : 0 < t ∧ t ≤ 200) (k : Nat) : hqK L t tm i (200 * Lkd L i + row) k = hrq (tm i) t row k := by
  induction k with
  | zero => rfl
  | succ k ih =>
    have h1 := Nat.mod_lt (tm i + k) ht.1
    by_cases e : (tm i + k) % t = row
    · rw [hrq_t e, show hqK L t tm i (200 * Lkd L i + row) (k + 1) = hqK L t tm i (200 * Lkd L i + row) k + 1 from if_pos (by unfold cx; omega), ih]
    · rw [hrq_f e, show hqK L t tm i (200 * Lkd L i + row) (k + 1) = hqK L t tm i (200 * Lkd L i + row) k from if_neg (by unfold cx; omega), ih]
theorem hqA_congr {L : LD} {t : Nat} {tm : Nat → Nat} {pl : Nat → Bool} {y : Nat} (n : Nat) (h : ∀ i, i < n → pl i = true) : hqA L t tm pl y n = hqA L t tm (fun _ => true) y n := by
  induction n with
  | zero => rfl
  | succ n ih =>
    show hqA L t tm pl y n + hqK L t tm n y (bq L pl n) = hqA L t tm (fun _ => true) y n + hqK L t tm n y (bq L (fun _ => true) n)
    rw [ih (fun i hi => h i (by omega)), bq_congr (L := L) (pl := pl) (pl' := fun _ => true) (i := n) (h n (by omega))]
theorem leAn_bd {L : LD} (hw : wf L) {T : Nat} (hT : T ≤ 200) {tm : Nat → Nat} (h : ∀ j, j < Ln L → tm j ≤ 1000000) {i : Nat} (hi : i < Ln L) (k : Nat) (hk : k ≤ Lm L) : ((tm i : Nat) : Int) ≤ leA L T (nZ tm) i k ∧ leA L T (nZ tm) i k ≤ 1000600 := by
  induction k with
  | zero =>
    have h1 := h i hi
    show ((tm i : Nat) : Int) ≤ ((tm i : Nat) : Int) ∧ ((tm i : Nat) : Int) ≤ 1000600
    omega
  | succ k ih =>
    have h0 := ih (by omega)
    have h1 := h _ (wf_ed hw k (by omega)).2
    have h2 := mul_bd hT (wf_di hw k)
    have h4 := mul_nn T (Ldi L k)
    have h3 : nZ tm (Lds L k) = ((tm (Lds L k) : Nat) : Int) := rfl
    by_cases e : Lsr L k = i
    · rw [leA_t e]; omega
    · rw [leA_f e]; exact h0
theorem lfn_bd {L : LD} (hw : wf L) {T : Nat} (hT : T ≤ 200) {tm : Nat → Nat} (h : ∀ j, j < Ln L → tm j ≤ 1000000) {i : Nat} (hi : i < Ln L) : 0 ≤ lf L T (nZ tm) i ∧ lf L T (nZ tm) i ≤ 1000600 := by
  have h1 := leAn_bd hw hT h hi (Lm L) (Nat.le_refl _)
  have h3 : nZ tm i = ((tm i : Nat) : Int) := rfl
  unfold lf
  omega
theorem lrM_le {L : LD} (hw : wf L) {T : Nat} (hT : T ≤ 200) {tm : Nat → Nat} (h : ∀ j, j < Ln L → tm j ≤ 1000000) (row i : Nat) (hi : i ≤ Ln L) : lrM L T tm row i ≤ 1000600 * i := by
  induction i with
  | zero => exact Nat.le_refl _
  | succ i ih =>
    have h1 := lfn_bd hw hT h (show i < Ln L by omega)
    have h2 := hrq_le (tm i) T row (lf L T (nZ tm) i).toNat
    have h3 := ih (by omega)
    show lrM L T tm row i + hrq (tm i) T row (lf L T (nZ tm) i).toNat ≤ _
    omega
def cqn (x T : Nat) : Nat := max 1 ((x + T - 1) / T)
theorem cqn_le {x T : Nat} (hx : x ≤ 1000600) (hT : 0 < T ∧ T ≤ 200) : cqn x T ≤ 1000800 := by
  have h1 := Nat.div_le_self (x + T - 1) T
  unfold cqn
  omega
theorem cC_cqn {T : Nat} {lt : Nat → Int} {i : Nat} (h : 0 ≤ lt i) (hT : 0 < T) : cC T lt i = ((cqn (lt i).toNat T : Nat) : Int) := by
  unfold cC cqn
  have e : (lt i + (T : Int) - 1) / (T : Int) = ((((lt i).toNat + T - 1) / T : Nat) : Int) := by
    rw [Int.natCast_ediv]
    congr 1
    omega
  rw [e]
  omega
theorem cNn_e {L : LD} (hw : wf L) {T : Nat} (hT : 0 < T ∧ T ≤ 200) {tm : Nat → Nat} (h : ∀ j, j < Ln L → tm j ≤ 1000000) {x : Nat} (hx : x < Ln L) : cC T (lf L T (nZ tm)) x = ((cN T (lf L T (nZ tm)) x : Nat) : Int) ∧ 1 ≤ cN T (lf L T (nZ tm)) x ∧ cN T (lf L T (nZ tm)) x ≤ 2000200 := by
  have h1 := lfn_bd hw hT.2 h hx
  have h2 := cC_cqn (T := T) (lt := lf L T (nZ tm)) (i := x) h1.1 hT.1
  have h3 := cqn_le (show (lf L T (nZ tm) x).toNat ≤ 1000600 by omega) hT
  have h4 : 1 ≤ cqn (lf L T (nZ tm) x).toNat T := Nat.le_max_left _ _
  unfold cN
  omega
theorem lcN_fin {x y f : Nat} (hd : x * f % y = 0) (h1 : 1 ≤ f ∧ f ≤ y) (hf : ffst (lcf x y) f (y - f) = ffst (lcf x y) 1 (y - 1)) : x * f = lcN x y := by
  rcases Nat.lt_or_ge f y with q | q
  · rw [lcN_s (f := f)]
    rw [← hf, show y - f = (y - (f + 1)) + 1 by omega]
    exact ffst_t (decide_eq_true hd)
  · have e : f = y := by omega
    rw [lcN_n]
    · rw [e]
    · rw [← hf, show y - f = 0 by omega]
      rfl
theorem num_nn {T : Nat} {tm : Nat → Int} {n c i : Nat} (h : iss T tm n c i = true) (hT : 0 < T) : 0 ≤ ((c : Int) - tm i) / (T : Int) ∧ ((c : Int) - tm i) / (T : Int) < (n : Int) := by
  have h1 := iss_i h
  exact ⟨Int.ediv_nonneg h1.1 (by omega), h1.2.2⟩
theorem cib_0 {T : Nat} {tm : Nat → Int} {n c : Nat} (hT : 0 < T) (k : Nat) : cib T tm n c (14 * ((0 : Nat) : Int) + ((0 : Nat) : Int)) k = 0 := by
  induction k with
  | zero => rfl
  | succ k ih =>
    rw [cib_f]
    · exact ih
    · intro q
      have h1 := num_nn q.1 hT
      have h2 := q.2
      unfold num at h2
      omega
theorem cib_full {T : Nat} {tm : Nat → Int} {n c m : Nat} (hm : m ≤ 14) : cib T tm n c (14 * ((n : Nat) : Int)) m = isn T tm n c m := by
  induction m with
  | zero => rfl
  | succ m ih =>
    have h0 := ih (by omega)
    cases h : iss T tm n c m with
    | true =>
      have h1 := (iss_i h).2.2
      rw [isn_t h, cib_t h (by unfold num; omega), h0]
    | false =>
      rw [isn_f h, cib_f (fun q => by rw [h] at q; exact absurd q.1 (by decide)), h0]
theorem cib_next {T : Nat} {tm : Nat → Int} {n c m : Nat} (_ : 0 < T) (hm : m ≤ 14) (x : Nat) : cib T tm n c (14 * ((x + 1 : Nat) : Int) + ((0 : Nat) : Int)) m = cib T tm n c (14 * ((x : Nat) : Int) + ((m : Nat) : Int)) m := by
  have key : ∀ k, k ≤ m → cib T tm n c (14 * ((x + 1 : Nat) : Int) + ((0 : Nat) : Int)) k = cib T tm n c (14 * ((x : Nat) : Int) + ((m : Nat) : Int)) k := by
    intro k
    induction k with
    | zero => intro _; rfl
    | succ k ih =>
      intro hk
      have h0 := ih (by omega)
      by_cases e : iss T tm n c k = true ∧ num T tm c k < 14 * ((x : Nat) : Int) + ((m : Nat) : Int)
      · rw [cib_t e.1 e.2, cib_t e.1 (by have := e.2; omega), h0]
      · rw [cib_f e, cib_f (fun q => e ⟨q.1, by have h2 := q.2; unfold num at h2 ⊢; omega⟩), h0]
  exact key m (Nat.le_refl _)
theorem cib_step {T : Nat} {tm : Nat → Int} {n c m i : Nat} (_ : 0 < T) (hm : m ≤ 14) (hi : i < m) (x : Nat) :
    ((iss T tm n c i = true ∧ num T tm c i = 14 * ((x : Nat) : Int) + ((i : Nat) : Int)) → cib T tm n c (14 * ((x : Nat) : Int) + ((i + 1 : Nat) : Int)) m = cib T tm n c (14 * ((x : Nat) : Int) + ((i : Nat) : Int)) m + 1) ∧
    (¬ (iss T tm n c i = true ∧ num T tm c i = 14 * ((x : Nat) : Int) + ((i : Nat) : Int)) → cib T tm n c (14 * ((x : Nat) : Int) + ((i + 1 : Nat) : Int)) m = cib T tm n c (14 * ((x : Nat) : Int) + ((i : Nat) : Int)) m) := by
  have key : ∀ k, k ≤ m → ((iss T tm n c i = true ∧ num T tm c i = 14 * ((x : Nat) : Int) + ((i : Nat) : Int)) → cib T tm n c (14 * ((x : Nat) : Int) + ((i + 1 : Nat) : Int)) k = cib T tm n c (14 * ((x : Nat) : Int) + ((i : Nat) : Int)) k + (if i < k then 1 else 0)) ∧
    (¬ (iss T tm n c i = true ∧ num T tm c i = 14 * ((x : Nat) : Int) + ((i : Nat) : Int)) → cib T tm n c (14 * ((x : Nat) : Int) + ((i + 1 : Nat) : Int)) k = cib T tm n c (14 * ((x : Nat) : Int) + ((i : Nat) : Int)) k) := by
    intro k
    induction k with
    | zero => intro _; exact ⟨fun _ => rfl, fun _ => rfl⟩
    | succ k ih =>
      intro hk
      obtain ⟨h0, h1⟩ := ih (by omega)
      by_cases ek : k = i
      · subst ek
        constructor
        · intro q
          rw [cib_t q.1 (by rw [q.2]; omega), cib_f (fun r => by have := r.2; rw [q.2] at this; omega), h0 q, if_neg (by omega), if_pos (by omega)]
        · intro q
          by_cases e : iss T tm n c k = true ∧ num T tm c k < 14 * ((x : Nat) : Int) + ((k : Nat) : Int)
          · rw [cib_t e.1 e.2, cib_t e.1 (by have := e.2; omega), h1 q]
          · rw [cib_f e, cib_f (fun r => by
              by_cases e2 : num T tm c k = 14 * ((x : Nat) : Int) + ((k : Nat) : Int)
              · exact q ⟨r.1, e2⟩
              · exact e ⟨r.1, by have := r.2; omega⟩), h1 q]
      · have hne : num T tm c k ≠ 14 * ((x : Nat) : Int) + ((i : Nat) : Int) := by unfold num; omega
        have hif : (if i < k + 1 then 1 else 0) = (if i < k then 1 else 0) := by
          by_cases h9 : i < k
          · rw [if_pos h9, if_pos (by omega)]
          · rw [if_neg h9, if_neg (by omega)]
        by_cases e : iss T tm n c k = true ∧ num T tm c k < 14 * ((x : Nat) : Int) + ((i : Nat) : Int)
        · rw [cib_t e.1 e.2, cib_t e.1 (by have := e.2; omega), hif]
          exact ⟨fun q => by rw [h0 q]; omega, fun q => by rw [h1 q]⟩
        · rw [cib_f e, cib_f (fun r => e ⟨r.1, by have := r.2; omega⟩), hif]
          exact ⟨h0, h1⟩
  obtain ⟨k1, k2⟩ := key m (Nat.le_refl _)
  exact ⟨fun q => by rw [k1 q, if_pos hi], k2⟩
theorem iss_hit {T n y i x : Nat} (hT : 0 < T) {tm : Nat → Nat} (hx : x < n) : (iss T (nZ tm) n y i = true ∧ num T (nZ tm) y i = 14 * ((x : Nat) : Int) + ((i : Nat) : Int)) ↔ tm i + x * T = y := by
  have hz : nZ tm i = ((tm i : Nat) : Int) := rfl
  have hxT : ((x * T : Nat) : Int) = (x : Int) * (T : Int) := Int.natCast_mul x T
  constructor
  · intro q
    have h1 := iss_i q.1
    have h2 := q.2
    unfold num at h2
    have h3 : ((y : Int) - nZ tm i) / (T : Int) = (x : Int) := by omega
    have h4 := Int.emod_add_mul_ediv ((y : Int) - nZ tm i) (T : Int)
    rw [h1.2.1, h3, Int.mul_comm] at h4
    rw [hz] at h4
    omega
  · intro q
    have h1 : (y : Int) - nZ tm i = (x : Int) * (T : Int) := by rw [hz]; omega
    have h2 : ((y : Int) - nZ tm i) / (T : Int) = (x : Int) := by rw [h1]; exact Int.mul_ediv_cancel _ (by omega)
    have h3 : ((y : Int) - nZ tm i) % (T : Int) = 0 := by rw [h1]; exact Int.mul_emod_left _ _
    refine ⟨iss_t (by rw [hz]; omega) h3 (by rw [h2]; omega), ?_⟩
    unfold num
    rw [h2]
theorem sGn_bd {L : LD} {T : Nat} (hT2 : T ≤ 200) (h0 : 0 < T) {tm : Nat → Nat} (h : ∀ j, j < Ln L → tm j ≤ 1000000) : (0 ≤ sG L T (nZ tm) ∧ sG L T (nZ tm) ≤ 1000001) ∧ (sG L T (nZ tm) - 1) * (T : Int) = sG L T (nZ tm) * (T : Int) - (T : Int) ∧ 0 ≤ sG L T (nZ tm) * (T : Int) ∧ sG L T (nZ tm) * (T : Int) ≤ 200000200 := by
  have h1 := gTn_bd h (Ln L) (Nat.le_refl _)
  have h2 := ediv_bd (T := T) h1.1
  have h3 : 0 ≤ sG L T (nZ tm) ∧ sG L T (nZ tm) ≤ 1000001 := by
    unfold sG
    by_cases e : Ln L = 0
    · rw [if_pos e]; omega
    · rw [if_neg e]; omega
  refine ⟨h3, by rw [Int.sub_mul, Int.one_mul], Int.mul_nonneg h3.1 (by omega), ?_⟩
  have h4 : sG L T (nZ tm) * (T : Int) ≤ 1000001 * (T : Int) := Int.mul_le_mul_of_nonneg_right h3.2 (by omega)
  omega
set_option maxHeartbeats 4000000 in
set_option maxRecDepth 100000 in
theorem c_X3_has (l : Launch) (D : va_G) (g : Nat → ClassId) (a : Nat → Nat) (th : Int) (L : LD) (att T : Nat) (hs : Nat → Int) (tm : Nat → Nat) (pl : Nat → Bool)  (hT2 : T ≤ 200) : zMi l D (zT g) yX3_has wsX3_has 1 12 (wM a g th L att T hs tm pl (fun _ => 0)) [.ref (a 0)] (fun r w1 => r = iI (bI (decide (0 < T))) ∧ w1 = wM a g (if 0 < T then 0 else 1) L att T hs tm pl (fun _ => 0)) := by
  refine z_ofI (cc := cX3_has) (maxL := 1) (ret := (some .boolean)) (by decide) rfl (Nat.le_of_ble_eq_true rfl) ?_
  intro p e s m args below meth c A ls hx hb hr hts hown hlocks hml hP hK hD hS hA hl Q hQ
  have hown : s.vm.findClass RX3 = some m.cls := hown
  have hinX3 : ∀ w ∈ u_ws RX3 TX3 16, w ∈ wsX3_has := by decide +kernel
  have hl : lv_has ls 1 [(0, .ref (a 0))] := hl
  refine lv_aload_n hx hb dX3_has_0 rfl (lv_at hl 0 rfl) ?_
  refine lv_aload_n hx hb dX3_has_1 rfl (lv_at hl 0 rfl) ?_
  refine va_get (D := D) (ci := 3) (v := .int (iI ((T : Nat) : Int))) (C := RX3) (T := TX3) (N := 16) hx hb hts hinX3 hown hK hP 0 rfl rfl 10 (by decide) (hts (.fieldLink RX3 59 "LoopSchedulerModel" "interval" "I") (List.mem_of_getElem? (i := 1) rfl)) (fun _ h9 => h9) rfl dX3_has_2 ?_
  refine z_ifle (a := ((T : Nat) : Int)) (tgt := 12) hx hb dX3_has_5 (by decide) (by omega) (fun c_5 => ?_) (fun c_5 => ?_)
  · refine z_ic hx hb dX3_has_12 ?_
    refine va_put (D := D) (ci := 3) (v := .int (iI ((1 : Nat) : Int))) (ty := .int) (C := RX3) (T := TX3) (N := 16) hx hb hts hinX3 tyX3 tyX3_ok nmX3 hown hK hP hD hS 0 rfl rfl 0 (by decide) (hts (.fieldLink RX3 44 "LoopSchedulerModel" "thrown" "I") (List.mem_of_getElem? (i := 2) rfl)) (fun _ h9 => h9) rfl (by decide +kernel) rfl rfl (Nat.le_of_ble_eq_true rfl) dX3_has_13 (fun H locs hP hD hS => ?_)
    have hP : va_P D vwCl (wM a g 1 L att T hs tm pl (fun _ => 0)) H := hP
    have hD : va_D A (wM a g 1 L att T hs tm pl (fun _ => 0)) := hD
    refine lv_aload_n hx hb dX3_has_16 rfl (lv_at hl 0 rfl) ?_
    refine va_get (D := D) (ci := 3) (v := .int (iI (1))) (C := RX3) (T := TX3) (N := 16) hx hb hts hinX3 hown hK hP 0 rfl rfl 0 (by decide) (hts (.fieldLink RX3 44 "LoopSchedulerModel" "thrown" "I") (List.mem_of_getElem? (i := 2) rfl)) (fun _ h9 => h9) rfl dX3_has_17 ?_
    refine z_ifne (a := 1) (tgt := 27) hx hb dX3_has_20 (by decide) (by omega) (fun c_20 => ?_) (fun c_20 => ?_)
    · refine z_ic hx hb dX3_has_27 ?_
      exact z_zret (w := (wM a g 1 L att T hs tm pl (fun _ => 0))) (v := (iI ((0 : Nat) : Int))) z_nb0 hQ hx hb hr hlocks ⟨by rw [decide_eq_false (show ¬ 0 < T by omega)]; rfl, by rw [if_neg (show ¬ 0 < T by omega)]⟩ hK hP hD hS dX3_has_28
    · exact absurd c_20 (by decide)
  · refine z_ic hx hb dX3_has_8 ?_
    refine lv_goto (tgt := 13) hx hb dX3_has_9 (by decide) ?_
    refine va_put (D := D) (ci := 3) (v := .int (iI ((0 : Nat) : Int))) (ty := .int) (C := RX3) (T := TX3) (N := 16) hx hb hts hinX3 tyX3 tyX3_ok nmX3 hown hK hP hD hS 0 rfl rfl 0 (by decide) (hts (.fieldLink RX3 44 "LoopSchedulerModel" "thrown" "I") (List.mem_of_getElem? (i := 2) rfl)) (fun _ h9 => h9) rfl (by decide +kernel) rfl rfl (Nat.le_of_ble_eq_true rfl) dX3_has_13 (fun H locs hP hD hS => ?_)
    have hP : va_P D vwCl (wM a g 0 L att T hs tm pl (fun _ => 0)) H := hP
    have hD : va_D A (wM a g 0 L att T hs tm pl (fun _ => 0)) := hD
    refine lv_aload_n hx hb dX3_has_16 rfl (lv_at hl 0 rfl) ?_
    refine va_get (D := D) (ci := 3) (v := .int (iI (0))) (C := RX3) (T := TX3) (N := 16) hx hb hts hinX3 hown hK hP 0 rfl rfl 0 (by decide) (hts (.fieldLink RX3 44 "LoopSchedulerModel" "thrown" "I") (List.mem_of_getElem? (i := 2) rfl)) (fun _ h9 => h9) rfl dX3_has_17 ?_
    refine z_ifne (a := 0) (tgt := 27) hx hb dX3_has_20 (by decide) (by omega) (fun c_20 => ?_) (fun c_20 => ?_)
    · exact absurd c_20 (by decide)
    · refine z_ic hx hb dX3_has_23 ?_
      refine lv_goto (tgt := 28) hx hb dX3_has_24 (by decide) ?_
      exact z_zret (w := (wM a g 0 L att T hs tm pl (fun _ => 0))) (v := (iI ((1 : Nat) : Int))) z_nb1 hQ hx hb hr hlocks ⟨by rw [decide_eq_true (show 0 < T by omega)]; rfl, by rw [if_pos (show 0 < T by omega)]⟩ hK hP hD hS dX3_has_28
set_option maxHeartbeats 4000000 in
set_option maxRecDepth 100000 in
theorem c_X3_asks (l : Launch) (D : va_G) (g : Nat → ClassId) (a : Nat → Nat) (th : Int) (L : LD) (att T : Nat) (hs : Nat → Int) (tm : Nat → Nat) (pl : Nat → Bool) (i : Int) (hw : wf L) (hT2 : T ≤ 200) (hri : -2147483648 ≤ i ∧ i < 2147483648) : zMi l D (zT g) yX3_asks wsX3_asks 3 55 (wM a g th L att T hs tm pl (fun _ => 0)) [.ref (a 0), .int (iI (i))] (fun r w1 => (¬ (0 ≤ i ∧ i < (Ln L : Int)) ∧ r = iI 0 ∧ w1 = wM a g 1 L att T hs tm pl (fun _ => 0)) ∨ ((0 ≤ i ∧ i < (Ln L : Int)) ∧ T = 0 ∧ r = iI 0 ∧ w1 = wM a g 2 L att T hs tm pl (fun _ => 0)) ∨ ((0 ≤ i ∧ i < (Ln L : Int)) ∧ 0 < T ∧ r = iI 1 ∧ w1 = wM a g 0 L att T hs tm pl (fun _ => 0))) := by
  refine z_ofI (cc := cX3_asks) (maxL := 2) (ret := (some .boolean)) (by decide) rfl (Nat.le_of_ble_eq_true rfl) ?_
  intro p e s m args below meth c A ls hx hb hr hts hown hlocks hml hP hK hD hS hA hl Q hQ
  have hown : s.vm.findClass RX3 = some m.cls := hown
  have hinX3 : ∀ w ∈ u_ws RX3 TX3 16, w ∈ wsX3_asks := by decide +kernel
  have hl : lv_has ls 2 [(0, .ref (a 0)), (1, .int (iI (i)))] := hl
  have hwn := wf_n hw
  refine lv_aload_n hx hb dX3_asks_0 rfl (lv_at hl 0 rfl) ?_
  refine lv_aload_n hx hb dX3_asks_1 rfl (lv_at hl 0 rfl) ?_
  refine lv_iload_n hx hb dX3_asks_2 rfl (lv_at hl 1 rfl) ?_
  refine z_calli (va_runV (As := [.int (iI (i))]) (rest := [.ref (a 0)]) ⟨hx, hb, hml, hown, hts⟩ (c_X3_isOperation l D g a th L att T hs tm pl i hw (by omega) _) (cwV 1 hts gX3_asks_X3_isOperation rfl rfl rfl (by decide +kernel) ⟨Nat.le_of_ble_eq_true rfl, Nat.le_of_ble_eq_true rfl⟩) (z_preV 0 hK hP hD rfl rfl) rfl rfl hl.1 rfl (lv_room (Nat.le_of_ble_eq_true rfl)) dX3_asks_3 ⟨Nat.zero_le _, Nat.zero_le _⟩) hS hD hA (fun r w1 H locs hw1 hP hD hS => ?_)
  obtain ⟨rfl, rfl⟩ := hw1
  refine z_ifne (a := (bI (decide (0 ≤ i ∧ i < ((Ln L : Nat) : Int))))) (tgt := 13) hx hb dX3_asks_6 (by decide) (bI_r _) (fun c_6 => ?_) (fun c_6 => ?_)
  · have d_6 := of_decide_eq_true (bI_t c_6)
    refine lv_aload_n hx hb dX3_asks_13 rfl (lv_at hl 0 rfl) ?_
    refine va_get (D := D) (ci := 3) (v := .int (iI ((T : Nat) : Int))) (C := RX3) (T := TX3) (N := 16) hx hb hts hinX3 hown hK hP 0 rfl rfl 10 (by decide) (hts (.fieldLink RX3 59 "LoopSchedulerModel" "interval" "I") (List.mem_of_getElem? (i := 1) rfl)) (fun _ h9 => h9) rfl dX3_asks_14 ?_
    refine z_ifne (a := ((T : Nat) : Int)) (tgt := 24) hx hb dX3_asks_17 (by decide) (by omega) (fun c_17 => ?_) (fun c_17 => ?_)
    · refine z_ic hx hb dX3_asks_24 ?_
      refine va_put (D := D) (ci := 3) (v := .int (iI ((0 : Nat) : Int))) (ty := .int) (C := RX3) (T := TX3) (N := 16) hx hb hts hinX3 tyX3 tyX3_ok nmX3 hown hK hP hD hS 0 rfl rfl 0 (by decide) (hts (.fieldLink RX3 44 "LoopSchedulerModel" "thrown" "I") (List.mem_of_getElem? (i := 2) rfl)) (fun _ h9 => h9) rfl (by decide +kernel) rfl rfl (Nat.le_of_ble_eq_true rfl) dX3_asks_25 (fun H locs hP hD hS => ?_)
      have hP : va_P D vwCl (wM a g 0 L att T hs tm pl (fun _ => 0)) H := hP
      have hD : va_D A (wM a g 0 L att T hs tm pl (fun _ => 0)) := hD
      refine lv_aload_n hx hb dX3_asks_28 rfl (lv_at hl 0 rfl) ?_
      refine va_get (D := D) (ci := 3) (v := .int (iI (0))) (C := RX3) (T := TX3) (N := 16) hx hb hts hinX3 hown hK hP 0 rfl rfl 0 (by decide) (hts (.fieldLink RX3 44 "LoopSchedulerModel" "thrown" "I") (List.mem_of_getElem? (i := 2) rfl)) (fun _ h9 => h9) rfl dX3_asks_29 ?_
      refine z_ifne (a := 0) (tgt := 39) hx hb dX3_asks_32 (by decide) (by omega) (fun c_32 => ?_) (fun c_32 => ?_)
      · exact absurd c_32 (by decide)
      · refine z_ic hx hb dX3_asks_35 ?_
        refine lv_goto (tgt := 40) hx hb dX3_asks_36 (by decide) ?_
        exact z_zret (w := (wM a g 0 L att T hs tm pl (fun _ => 0))) (v := (iI ((1 : Nat) : Int))) z_nb1 hQ hx hb hr hlocks (Or.inr (Or.inr ⟨by omega, by omega, rfl, rfl⟩)) hK hP hD hS dX3_asks_40
    · refine z_ic hx hb dX3_asks_20 ?_
      refine lv_goto (tgt := 25) hx hb dX3_asks_21 (by decide) ?_
      refine va_put (D := D) (ci := 3) (v := .int (iI ((2 : Nat) : Int))) (ty := .int) (C := RX3) (T := TX3) (N := 16) hx hb hts hinX3 tyX3 tyX3_ok nmX3 hown hK hP hD hS 0 rfl rfl 0 (by decide) (hts (.fieldLink RX3 44 "LoopSchedulerModel" "thrown" "I") (List.mem_of_getElem? (i := 2) rfl)) (fun _ h9 => h9) rfl (by decide +kernel) rfl rfl (Nat.le_of_ble_eq_true rfl) dX3_asks_25 (fun H locs hP hD hS => ?_)
      have hP : va_P D vwCl (wM a g 2 L att T hs tm pl (fun _ => 0)) H := hP
      have hD : va_D A (wM a g 2 L att T hs tm pl (fun _ => 0)) := hD
      refine lv_aload_n hx hb dX3_asks_28 rfl (lv_at hl 0 rfl) ?_
      refine va_get (D := D) (ci := 3) (v := .int (iI (2))) (C := RX3) (T := TX3) (N := 16) hx hb hts hinX3 hown hK hP 0 rfl rfl 0 (by decide) (hts (.fieldLink RX3 44 "LoopSchedulerModel" "thrown" "I") (List.mem_of_getElem? (i := 2) rfl)) (fun _ h9 => h9) rfl dX3_asks_29 ?_
      refine z_ifne (a := 2) (tgt := 39) hx hb dX3_asks_32 (by decide) (by omega) (fun c_32 => ?_) (fun c_32 => ?_)
      · refine z_ic hx hb dX3_asks_39 ?_
        exact z_zret (w := (wM a g 2 L att T hs tm pl (fun _ => 0))) (v := (iI ((0 : Nat) : Int))) z_nb0 hQ hx hb hr hlocks (Or.inr (Or.inl ⟨by omega, by omega, rfl, rfl⟩)) hK hP hD hS dX3_asks_40
      · exact absurd c_32 (by decide)
  · have d_6 := of_decide_eq_false (bI_f c_6)
    refine z_ic hx hb dX3_asks_9 ?_
    refine lv_goto (tgt := 25) hx hb dX3_asks_10 (by decide) ?_
    refine va_put (D := D) (ci := 3) (v := .int (iI ((1 : Nat) : Int))) (ty := .int) (C := RX3) (T := TX3) (N := 16) hx hb hts hinX3 tyX3 tyX3_ok nmX3 hown hK hP hD hS 0 rfl rfl 0 (by decide) (hts (.fieldLink RX3 44 "LoopSchedulerModel" "thrown" "I") (List.mem_of_getElem? (i := 2) rfl)) (fun _ h9 => h9) rfl (by decide +kernel) rfl rfl (Nat.le_of_ble_eq_true rfl) dX3_asks_25 (fun H locs hP hD hS => ?_)
    have hP : va_P D vwCl (wM a g 1 L att T hs tm pl (fun _ => 0)) H := hP
    have hD : va_D A (wM a g 1 L att T hs tm pl (fun _ => 0)) := hD
    refine lv_aload_n hx hb dX3_asks_28 rfl (lv_at hl 0 rfl) ?_
    refine va_get (D := D) (ci := 3) (v := .int (iI (1))) (C := RX3) (T := TX3) (N := 16) hx hb hts hinX3 hown hK hP 0 rfl rfl 0 (by decide) (hts (.fieldLink RX3 44 "LoopSchedulerModel" "thrown" "I") (List.mem_of_getElem? (i := 2) rfl)) (fun _ h9 => h9) rfl dX3_asks_29 ?_
    refine z_ifne (a := 1) (tgt := 39) hx hb dX3_asks_32 (by decide) (by omega) (fun c_32 => ?_) (fun c_32 => ?_)
    · refine z_ic hx hb dX3_asks_39 ?_
      exact z_zret (w := (wM a g 1 L att T hs tm pl (fun _ => 0))) (v := (iI ((0 : Nat) : Int))) z_nb0 hQ hx hb hr hlocks (Or.inl ⟨by omega, rfl, rfl⟩) hK hP hD hS dX3_asks_40
    · exact absurd c_32 (by decide)
set_option maxHeartbeats 4000000 in
set_option maxRecDepth 100000 in
theorem c_X3_time (l : Launch) (D : va_G) (g : Nat → ClassId) (a : Nat → Nat) (th : Int) (L : LD) (att T : Nat) (hs : Nat → Int) (tm : Nat → Nat) (pl : Nat → Bool) (i : Int) (hw : wf L) (hT2 : T ≤ 200) (hri : -2147483648 ≤ i ∧ i < 2147483648) : zMi l D (zT g) yX3_time wsX3_time 4 76 (wM a g th L att T hs tm pl (fun _ => 0)) [.ref (a 0), .int (iI (i))] (fun r w1 => ((¬ (0 ≤ i ∧ i < (Ln L : Int))) ∧ w1 = wM a g 1 L att T hs tm pl (fun _ => 0)) ∨ (((0 ≤ i ∧ i < (Ln L : Int)) ∧ T = 0) ∧ w1 = wM a g 2 L att T hs tm pl (fun _ => 0)) ∨ (((0 ≤ i ∧ i < (Ln L : Int)) ∧ 0 < T) ∧ r = iI (((tm i.toNat : Nat) : Int)) ∧ w1 = wM a g 0 L att T hs tm pl (fun _ => 0))) := by
  refine z_ofI (cc := cX3_time) (maxL := 2) (ret := (some .int)) (by decide) rfl (Nat.le_of_ble_eq_true rfl) ?_
  intro p e s m args below meth c A ls hx hb hr hts hown hlocks hml hP hK hD hS hA hl Q hQ
  have hown : s.vm.findClass RX3 = some m.cls := hown
  have hinX3 : ∀ w ∈ u_ws RX3 TX3 16, w ∈ wsX3_time := by decide +kernel
  have hl : lv_has ls 2 [(0, .ref (a 0)), (1, .int (iI (i)))] := hl
  have hwn := wf_n hw
  refine lv_aload_n hx hb dX3_time_0 rfl (lv_at hl 0 rfl) ?_
  refine lv_iload_n hx hb dX3_time_1 rfl (lv_at hl 1 rfl) ?_
  refine z_calli (va_runV (As := [.int (iI (i))]) (rest := []) ⟨hx, hb, hml, hown, hts⟩ (c_X3_asks l D g a th L att T hs tm pl i hw (by omega) (by omega) _) (cwV 1 hts gX3_time_X3_asks rfl rfl rfl (by decide +kernel) ⟨Nat.le_of_ble_eq_true rfl, Nat.le_of_ble_eq_true rfl⟩) (z_preV 0 hK hP hD rfl rfl) rfl rfl hl.1 rfl (lv_room (Nat.le_of_ble_eq_true rfl)) dX3_time_2 ⟨Nat.zero_le _, Nat.zero_le _⟩) hS hD hA (fun r w1 H locs hw1 hP hD hS => ?_)
  rcases hw1 with ⟨ha1, rfl, rfl⟩ | ⟨ha1, ha2, rfl, rfl⟩ | ⟨ha1, ha2, rfl, rfl⟩
  · skip
    refine z_ifeq (a := 0) (tgt := 17) hx hb dX3_time_5 (by decide) (by omega) (fun c_5 => ?_) (fun c_5 => ?_)
    · refine z_ic hx hb dX3_time_17 ?_
      exact z_iret (w := (wM a g 1 L att T hs tm pl (fun _ => 0))) (v := (iI ((0 : Nat) : Int))) hQ hx hb hr hlocks (Or.inl (⟨by omega, rfl⟩)) hK hP hD hS dX3_time_18
    · exact absurd c_5 (by decide)
  · skip
    refine z_ifeq (a := 0) (tgt := 17) hx hb dX3_time_5 (by decide) (by omega) (fun c_5 => ?_) (fun c_5 => ?_)
    · refine z_ic hx hb dX3_time_17 ?_
      exact z_iret (w := (wM a g 2 L att T hs tm pl (fun _ => 0))) (v := (iI ((0 : Nat) : Int))) hQ hx hb hr hlocks (Or.inr (Or.inl (⟨by omega, rfl⟩))) hK hP hD hS dX3_time_18
    · exact absurd c_5 (by decide)
  · skip
    refine z_ifeq (a := 1) (tgt := 17) hx hb dX3_time_5 (by decide) (by omega) (fun c_5 => ?_) (fun c_5 => ?_)
    · exact absurd c_5 (by decide)
    · obtain ⟨j, rfl⟩ : ∃ j : Nat, i = (j : Int) := ⟨i.toNat, by omega⟩
      refine lv_aload_n hx hb dX3_time_8 rfl (lv_at hl 0 rfl) ?_
      refine va_get (D := D) (ci := 3) (v := .ref (a 8)) (C := RX3) (T := TX3) (N := 16) hx hb hts hinX3 hown hK hP 0 rfl rfl 11 (by decide) (hts (.fieldLink RX3 31 "LoopSchedulerModel" "times" "[I") (List.mem_of_getElem? (i := 1) rfl)) (fun _ h9 => h9) rfl dX3_time_9 ?_
      refine lv_iload_n hx hb dX3_time_12 rfl (lv_at hl 1 rfl) ?_
      refine z_ialdZ (f := tm) (z := j) hx hb hK hP 8 0 rfl rfl (by omega) (by decide) dX3_time_13 ?_
      refine lv_goto (tgt := 18) hx hb dX3_time_14 (by decide) ?_
      exact z_iret (w := (wM a g 0 L att T hs tm pl (fun _ => 0))) (v := (iI ((tm j : Nat) : Int))) hQ hx hb hr hlocks (Or.inr (Or.inr (⟨by omega, rfl, rfl⟩))) hK hP hD hS dX3_time_18
set_option maxHeartbeats 4000000 in
set_option maxRecDepth 100000 in
theorem c_X3_interval (l : Launch) (D : va_G) (g : Nat → ClassId) (a : Nat → Nat) (th : Int) (L : LD) (att T : Nat) (hs : Nat → Int) (tm : Nat → Nat) (pl : Nat → Bool)  (hT2 : T ≤ 200) : zMi l D (zT g) yX3_interval wsX3_interval 2 32 (wM a g th L att T hs tm pl (fun _ => 0)) [.ref (a 0)] (fun r w1 => ((T = 0) ∧ w1 = wM a g 1 L att T hs tm pl (fun _ => 0)) ∨ ((0 < T) ∧ r = iI (((T : Nat) : Int)) ∧ w1 = wM a g 0 L att T hs tm pl (fun _ => 0))) := by
  refine z_ofI (cc := cX3_interval) (maxL := 1) (ret := (some .int)) (by decide) rfl (Nat.le_of_ble_eq_true rfl) ?_
  intro p e s m args below meth c A ls hx hb hr hts hown hlocks hml hP hK hD hS hA hl Q hQ
  have hown : s.vm.findClass RX3 = some m.cls := hown
  have hinX3 : ∀ w ∈ u_ws RX3 TX3 16, w ∈ wsX3_interval := by decide +kernel
  have hl : lv_has ls 1 [(0, .ref (a 0))] := hl
  refine lv_aload_n hx hb dX3_interval_0 rfl (lv_at hl 0 rfl) ?_
  refine z_calli (va_runV (As := []) (rest := []) ⟨hx, hb, hml, hown, hts⟩ (c_X3_has l D g a th L att T hs tm pl (by omega) _) (cwV 0 hts gX3_interval_X3_has rfl rfl rfl (by decide +kernel) ⟨Nat.le_of_ble_eq_true rfl, Nat.le_of_ble_eq_true rfl⟩) (z_preV 0 hK hP hD rfl rfl) rfl rfl hl.1 rfl (lv_room (Nat.le_of_ble_eq_true rfl)) dX3_interval_1 ⟨Nat.zero_le _, Nat.zero_le _⟩) hS hD hA (fun r w1 H locs hw1 hP hD hS => ?_)
  obtain ⟨rfl, rfl⟩ := hw1
  refine z_ifeq (a := (bI (decide (0 < T)))) (tgt := 14) hx hb dX3_interval_4 (by decide) (bI_r _) (fun c_4 => ?_) (fun c_4 => ?_)
  · have d_4 := of_decide_eq_false (bI_f c_4)
    have ew : (1 : Int) = (if 0 < T then 0 else 1) := (if_neg d_4).symm
    have hP : va_P D vwCl (wM a g 1 L att T hs tm pl (fun _ => 0)) H := Eq.mp (congrArg (fun z9 => va_P D vwCl (wM a g z9 L att T hs tm pl (fun _ => 0)) H) ew.symm) hP
    have hD : va_D A (wM a g 1 L att T hs tm pl (fun _ => 0)) := Eq.mp (congrArg (fun z9 => va_D A (wM a g z9 L att T hs tm pl (fun _ => 0))) ew.symm) hD
    refine z_ic hx hb dX3_interval_14 ?_
    exact z_iret (w := (wM a g 1 L att T hs tm pl (fun _ => 0))) (v := (iI ((0 : Nat) : Int))) hQ hx hb hr hlocks (Or.inl (⟨by omega, rfl⟩)) hK hP hD hS dX3_interval_15
  · have d_4 := of_decide_eq_true (bI_t c_4)
    have ew : (0 : Int) = (if 0 < T then 0 else 1) := (if_pos d_4).symm
    have hP : va_P D vwCl (wM a g 0 L att T hs tm pl (fun _ => 0)) H := Eq.mp (congrArg (fun z9 => va_P D vwCl (wM a g z9 L att T hs tm pl (fun _ => 0)) H) ew.symm) hP
    have hD : va_D A (wM a g 0 L att T hs tm pl (fun _ => 0)) := Eq.mp (congrArg (fun z9 => va_D A (wM a g z9 L att T hs tm pl (fun _ => 0))) ew.symm) hD
    refine lv_aload_n hx hb dX3_interval_7 rfl (lv_at hl 0 rfl) ?_
    refine va_get (D := D) (ci := 3) (v := .int (iI ((T : Nat) : Int))) (C := RX3) (T := TX3) (N := 16) hx hb hts hinX3 hown hK hP 0 rfl rfl 10 (by decide) (hts (.fieldLink RX3 59 "LoopSchedulerModel" "interval" "I") (List.mem_of_getElem? (i := 1) rfl)) (fun _ h9 => h9) rfl dX3_interval_8 ?_
    refine lv_goto (tgt := 15) hx hb dX3_interval_11 (by decide) ?_
    exact z_iret (w := (wM a g 0 L att T hs tm pl (fun _ => 0))) (v := (iI ((T : Nat) : Int))) hQ hx hb hr hlocks (Or.inr (⟨by omega, rfl, rfl⟩)) hK hP hD hS dX3_interval_15
set_option maxHeartbeats 4000000 in
set_option maxRecDepth 100000 in
theorem c_X3_isValid (l : Launch) (D : va_G) (g : Nat → ClassId) (a : Nat → Nat) (th : Int) (L : LD) (att T : Nat) (hs : Nat → Int) (tm : Nat → Nat) (pl : Nat → Bool)  (hw : wf L) (hTT : 0 < T ∧ T ≤ 200) (htm : ∀ j, j < Ln L → tm j ≤ 1000000) : zMi l D (zT g) yX3_isValid wsX3_isValid 3 61 (wM a g th L att T hs tm pl (fun _ => 0)) [.ref (a 0)] (fun r w1 => r = iI (bI (vM L T tm)) ∧ ∃ pl', w1 = wM a g th L att T hs tm pl' (fun _ => 0)) := by
  refine z_ofI (cc := cX3_isValid) (maxL := 2) (ret := (some .boolean)) (by decide) rfl (Nat.le_of_ble_eq_true rfl) ?_
  intro p e s m args below meth c A ls hx hb hr hts hown hlocks hml hP hK hD hS hA hl Q hQ
  have hown : s.vm.findClass RX3 = some m.cls := hown
  have hinX3 : ∀ w ∈ u_ws RX3 TX3 16, w ∈ wsX3_isValid := by decide +kernel
  have hl : lv_has ls 2 [(0, .ref (a 0))] := hl
  refine z_ic hx hb dX3_isValid_0 ?_
  refine lv_istore_n (lv' := [(1, .int (iI ((0 : Nat) : Int))), (0, .ref (a 0))]) hx hb dX3_isValid_1 rfl hl (by decide) rfl (fun ls hl => ?_)
  have loop2 : ∀ (n2 : Nat) (d : Nat) (H : Heap) (locs : List Loc) (ls : Array Slot), Lm L - d < n2 → (d ≤ Lm L) → (∀ j, j < d → (tm (Lsr L j) : Int) + ((Ldl L j : Int) - (T : Int) * (Ldi L j : Int)) ≤ (tm (Lds L j) : Int)) → va_P D vwCl (wM a g th L att T hs tm pl (fun _ => 0)) H → va_D A (wM a g th L att T hs tm pl (fun _ => 0)) → va_S A s.heap H locs → lv_has ls 2 [(0, .ref (a 0)), (1, .int (iI ((d : Nat) : Int)))] → W p l e ({ frames := 3, cells := 0, slots := 0, locals := 61 } : Room) s m args below meth c H locs 0 0 Q (F0 m 2 ls []) := by
    intro n2
    induction n2 with
    | zero => exact fun _ H locs ls hn => absurd hn (Nat.not_lt_zero _)
    | succ n2 ih2 =>
      intro d H locs ls hn2 hd hno hP hD hS hl
      have hwm := wf_m hw
      have hsd := wf_sd hw d
      have hdl := wf_dl hw d
      have hmn := mul_nn T (Ldi L d)
      have hmb := mul_bd hTT.2 (wf_di hw d)
      refine lv_iload_n hx hb dX3_isValid_2 rfl (lv_at hl 1 rfl) ?_
      refine lv_aload_n hx hb dX3_isValid_3 rfl (lv_at hl 0 rfl) ?_
      refine va_get (D := D) (ci := 3) (v := .int (iI ((Lm L : Nat) : Int))) (C := RX3) (T := TX3) (N := 16) hx hb hts hinX3 hown hK hP 0 rfl rfl 5 (by decide) (hts (.fieldLink RX3 66 "LoopSchedulerModel" "dependences" "I") (List.mem_of_getElem? (i := 1) rfl)) (fun _ h9 => h9) rfl dX3_isValid_4 ?_
      refine z_icge (a := ((d : Nat) : Int)) (b := ((Lm L : Nat) : Int)) (tgt := 53) hx hb dX3_isValid_7 (by decide) (by omega) (fun c_7 => ?_) (fun c_7 => ?_)
      · obtain rfl : d = Lm L := by omega
        refine z_ic hx hb dX3_isValid_53 ?_
        refine lv_istore_n (lv' := [(1, .int (iI ((0 : Nat) : Int))), (0, .ref (a 0))]) hx hb dX3_isValid_54 rfl hl (by decide) rfl (fun ls hl => ?_)
        have loop55 : ∀ (n55 : Nat) (i : Nat) (pl' : Nat → Bool) (H : Heap) (locs : List Loc) (ls : Array Slot), Ln L - i < n55 → (i ≤ Ln L) → (∀ j, j < i → pl' j = true) → va_P D vwCl (wM a g th L att T hs tm pl' (fun _ => 0)) H → va_D A (wM a g th L att T hs tm pl' (fun _ => 0)) → va_S A s.heap H locs → lv_has ls 2 [(0, .ref (a 0)), (1, .int (iI ((i : Nat) : Int)))] → W p l e ({ frames := 3, cells := 0, slots := 0, locals := 61 } : Room) s m args below meth c H locs 0 0 Q (F0 m 55 ls []) := by
          intro n55
          induction n55 with
          | zero => exact fun _ _ H locs ls hn => absurd hn (Nat.not_lt_zero _)
          | succ n55 ih55 =>
            intro i pl' H locs ls hn55 hi hp hP hD hS hl
            have hwn := wf_n hw
            refine lv_iload_n hx hb dX3_isValid_55 rfl (lv_at hl 1 rfl) ?_
            refine lv_aload_n hx hb dX3_isValid_56 rfl (lv_at hl 0 rfl) ?_
            refine va_get (D := D) (ci := 3) (v := .int (iI ((Ln L : Nat) : Int))) (C := RX3) (T := TX3) (N := 16) hx hb hts hinX3 hown hK hP 0 rfl rfl 2 (by decide) (hts (.fieldLink RX3 48 "LoopSchedulerModel" "operations" "I") (List.mem_of_getElem? (i := 6) rfl)) (fun _ h9 => h9) rfl dX3_isValid_57 ?_
            refine z_icge (a := ((i : Nat) : Int)) (b := ((Ln L : Nat) : Int)) (tgt := 76) hx hb dX3_isValid_60 (by decide) (by omega) (fun c_60 => ?_) (fun c_60 => ?_)
            · obtain rfl : i = Ln L := by omega
              refine lv_aload_n hx hb dX3_isValid_76 rfl (lv_at hl 0 rfl) ?_
              refine lv_aload_n hx hb dX3_isValid_77 rfl (lv_at hl 0 rfl) ?_
              refine va_get (D := D) (ci := 3) (v := .int (iI ((T : Nat) : Int))) (C := RX3) (T := TX3) (N := 16) hx hb hts hinX3 hown hK hP 0 rfl rfl 10 (by decide) (hts (.fieldLink RX3 59 "LoopSchedulerModel" "interval" "I") (List.mem_of_getElem? (i := 5) rfl)) (fun _ h9 => h9) rfl dX3_isValid_78 ?_
              refine z_calli (va_runV (As := [.int (iI ((T : Nat) : Int))]) (rest := []) ⟨hx, hb, hml, hown, hts⟩ (c_X3_fits l D g a th L att T hs tm pl' T hw hTT (fun j hj _ => by have := htm j hj; omega) _) (cwV 1 hts gX3_isValid_X3_fits rfl rfl rfl (by decide +kernel) ⟨Nat.le_of_ble_eq_true rfl, Nat.le_of_ble_eq_true rfl⟩) (z_preV 0 hK hP hD rfl rfl) rfl rfl hl.1 rfl (lv_room (Nat.le_of_ble_eq_true rfl)) dX3_isValid_81 ⟨Nat.zero_le _, Nat.zero_le _⟩) hS hD hA (fun r w1 H locs hw1 hP hD hS => ?_)
              obtain ⟨rfl, rfl⟩ := hw1
              exact z_zret (w := (wM a g th L att T hs tm pl' (fun _ => 0))) (v := (iI (bI (fA L T tm pl' (Ln L)).2))) (z_nb _) hQ hx hb hr hlocks ⟨by unfold vM; rw [eOK_i.mpr hno, fA_congr (Ln L) hp]; rfl, _, rfl⟩ hK hP hD hS dX3_isValid_84
            · refine lv_aload_n hx hb dX3_isValid_63 rfl (lv_at hl 0 rfl) ?_
              refine va_get (D := D) (ci := 3) (v := .ref (a 10)) (C := RX3) (T := TX3) (N := 16) hx hb hts hinX3 hown hK hP 0 rfl rfl 14 (by decide) (hts (.fieldLink RX3 37 "LoopSchedulerModel" "isPlaced" "[Z") (List.mem_of_getElem? (i := 7) rfl)) (fun _ h9 => h9) rfl dX3_isValid_64 ?_
              refine lv_iload_n hx hb dX3_isValid_67 rfl (lv_at hl 1 rfl) ?_
              refine z_ic hx hb dX3_isValid_68 ?_
              refine z_bast (f := pl') (z := i) hx hb hK hP hD hS 10 2 rfl rfl true (by omega) (by decide) dX3_isValid_69 (fun H locs hP hD hS => ?_)
              have hP : va_P D vwCl (wM a g th L att T hs tm (upB pl' i true) (fun _ => 0)) H := hP
              have hD : va_D A (wM a g th L att T hs tm (upB pl' i true) (fun _ => 0)) := hD
              refine z_iinc (a := ((i : Nat) : Int)) (b := ((i + 1 : Nat) : Int)) (lv' := [(1, .int (iI ((i + 1 : Nat) : Int))), (0, .ref (a 0))]) hx hb 1 dX3_isValid_70 hl rfl rfl (by decide) rfl (fun ls hl => ?_)
              refine lv_goto (tgt := 55) hx hb dX3_isValid_73 (by decide) ?_
              exact ih55 (i + 1) (upB pl' i true) _ _ _ (by omega) (by omega) (fun j h => by by_cases e : j = i; rw [e, upB_s]; rw [upB_n _ _ e]; exact hp j (by omega)) hP hD hS (lv_sub hl [1, 0] rfl)
        exact loop55 ((Ln L - 0) + 1) 0 pl _ _ _ (Nat.lt_succ_self _) (by omega) (fun j h => absurd h (Nat.not_lt_zero j)) hP hD hS (lv_sub hl [1, 0] rfl)
      · have hed := wf_ed hw d (by omega)
        have ht1 := htm _ hed.1
        have ht2 := htm _ hed.2
        refine lv_aload_n hx hb dX3_isValid_10 rfl (lv_at hl 0 rfl) ?_
        refine va_get (D := D) (ci := 3) (v := .ref (a 8)) (C := RX3) (T := TX3) (N := 16) hx hb hts hinX3 hown hK hP 0 rfl rfl 11 (by decide) (hts (.fieldLink RX3 31 "LoopSchedulerModel" "times" "[I") (List.mem_of_getElem? (i := 2) rfl)) (fun _ h9 => h9) rfl dX3_isValid_11 ?_
        refine lv_aload_n hx hb dX3_isValid_14 rfl (lv_at hl 0 rfl) ?_
        refine va_get (D := D) (ci := 3) (v := .ref (a 5)) (C := RX3) (T := TX3) (N := 16) hx hb hts hinX3 hown hK hP 0 rfl rfl 7 (by decide) (hts (.fieldLink RX3 22 "LoopSchedulerModel" "tos" "[I") (List.mem_of_getElem? (i := 3) rfl)) (fun _ h9 => h9) rfl dX3_isValid_15 ?_
        refine lv_iload_n hx hb dX3_isValid_18 rfl (lv_at hl 1 rfl) ?_
        refine z_ialdZ (f := Lds L) (z := d) hx hb hK hP 5 0 rfl rfl (by omega) (by decide) dX3_isValid_19 ?_
        refine z_ialdZ (f := tm) (z := Lds L d) hx hb hK hP 8 0 rfl rfl (by omega) (by decide) dX3_isValid_20 ?_
        refine lv_aload_n hx hb dX3_isValid_21 rfl (lv_at hl 0 rfl) ?_
        refine va_get (D := D) (ci := 3) (v := .ref (a 8)) (C := RX3) (T := TX3) (N := 16) hx hb hts hinX3 hown hK hP 0 rfl rfl 11 (by decide) (hts (.fieldLink RX3 31 "LoopSchedulerModel" "times" "[I") (List.mem_of_getElem? (i := 2) rfl)) (fun _ h9 => h9) rfl dX3_isValid_22 ?_
        refine lv_aload_n hx hb dX3_isValid_25 rfl (lv_at hl 0 rfl) ?_
        refine va_get (D := D) (ci := 3) (v := .ref (a 4)) (C := RX3) (T := TX3) (N := 16) hx hb hts hinX3 hown hK hP 0 rfl rfl 6 (by decide) (hts (.fieldLink RX3 19 "LoopSchedulerModel" "froms" "[I") (List.mem_of_getElem? (i := 4) rfl)) (fun _ h9 => h9) rfl dX3_isValid_26 ?_
        refine lv_iload_n hx hb dX3_isValid_29 rfl (lv_at hl 1 rfl) ?_
        refine z_ialdZ (f := Lsr L) (z := d) hx hb hK hP 4 0 rfl rfl (by omega) (by decide) dX3_isValid_30 ?_
        refine z_ialdZ (f := tm) (z := Lsr L d) hx hb hK hP 8 0 rfl rfl (by omega) (by decide) dX3_isValid_31 ?_
        refine lv_aload_n hx hb dX3_isValid_32 rfl (lv_at hl 0 rfl) ?_
        refine lv_iload_n hx hb dX3_isValid_33 rfl (lv_at hl 1 rfl) ?_
        refine lv_aload_n hx hb dX3_isValid_34 rfl (lv_at hl 0 rfl) ?_
        refine va_get (D := D) (ci := 3) (v := .int (iI ((T : Nat) : Int))) (C := RX3) (T := TX3) (N := 16) hx hb hts hinX3 hown hK hP 0 rfl rfl 10 (by decide) (hts (.fieldLink RX3 59 "LoopSchedulerModel" "interval" "I") (List.mem_of_getElem? (i := 5) rfl)) (fun _ h9 => h9) rfl dX3_isValid_35 ?_
        refine z_calli (va_runV (As := [.int (iI ((d : Nat) : Int)), .int (iI ((T : Nat) : Int))]) (rest := [.int (iI ((tm (Lsr L d) : Nat) : Int)), .int (iI ((tm (Lds L d) : Nat) : Int))]) ⟨hx, hb, hml, hown, hts⟩ (c_X3_lengthOf l D g a th L att T hs tm pl d T (by omega) _) (cwV 2 hts gX3_isValid_X3_lengthOf rfl rfl rfl (by decide +kernel) ⟨Nat.le_of_ble_eq_true rfl, Nat.le_of_ble_eq_true rfl⟩) (z_preV 0 hK hP hD rfl rfl) rfl rfl hl.1 rfl (lv_room (Nat.le_of_ble_eq_true rfl)) dX3_isValid_38 ⟨Nat.zero_le _, Nat.zero_le _⟩) hS hD hA (fun r w1 H locs hw1 hP hD hS => ?_)
        obtain ⟨rfl, rfl⟩ := hw1
        refine z_add (a := ((tm (Lsr L d) : Nat) : Int)) (b := (((Ldl L d : Nat) : Int) - ((T : Nat) : Int) * ((Ldi L d : Nat) : Int))) hx hb dX3_isValid_41 ?_
        refine z_icge (a := ((tm (Lds L d) : Nat) : Int)) (b := (((tm (Lsr L d) : Nat) : Int) + (((Ldl L d : Nat) : Int) - ((T : Nat) : Int) * ((Ldi L d : Nat) : Int)))) (tgt := 47) hx hb dX3_isValid_42 (by decide) (by omega) (fun c_42 => ?_) (fun c_42 => ?_)
        · refine z_iinc (a := ((d : Nat) : Int)) (b := ((d + 1 : Nat) : Int)) (lv' := [(1, .int (iI ((d + 1 : Nat) : Int))), (0, .ref (a 0))]) hx hb 1 dX3_isValid_47 hl rfl rfl (by decide) rfl (fun ls hl => ?_)
          refine lv_goto (tgt := 2) hx hb dX3_isValid_50 (by decide) ?_
          exact ih2 (d + 1) _ _ _ (by omega) (by omega) (fun j h => (Nat.lt_or_ge j d).elim (hno j) (fun q => by rw [show j = d by omega]; omega)) hP hD hS (lv_sub hl [1, 0] rfl)
        · refine z_ic hx hb dX3_isValid_45 ?_
          exact z_zret (w := (wM a g th L att T hs tm pl (fun _ => 0))) (v := (iI ((0 : Nat) : Int))) z_nb0 hQ hx hb hr hlocks ⟨by unfold vM; rw [eOK_f (show d < Lm L by omega) (by omega)]; rfl, _, rfl⟩ hK hP hD hS dX3_isValid_46
  exact loop2 ((Lm L - 0) + 1) 0 _ _ _ (Nat.lt_succ_self _) (by omega) (fun j h => absurd h (Nat.not_lt_zero j)) hP hD hS (lv_sub hl [1, 0] rfl)
set_option maxHeartbeats 4000000 in
set_option maxRecDepth 100000 in
theorem c_X3_isValidWith (l : Launch) (D : va_G) (g : Nat → ClassId) (a : Nat → Nat) (th : Int) (L : LD) (att T : Nat) (hs : Nat → Int) (tm : Nat → Nat) (pl : Nat → Bool) (i x : Nat) (hw : wf L) (hTT : 0 < T ∧ T ≤ 200) (htm : ∀ j, j < Ln L → tm j ≤ 1000000) (hi : i < 14) (hx2 : x ≤ 1000) : zMi l D (zT g) yX3_isValidWith wsX3_isValidWith 4 82 (wM a g th L att T hs tm pl (fun _ => 0)) [.ref (a 0), .int (iI ((i : Nat) : Int)), .int (iI ((x : Nat) : Int))] (fun r w1 => r = iI (bI (vM L T (upN tm i x))) ∧ ∃ pl', w1 = wM a g th L att T hs tm pl' (fun _ => 0)) := by
  refine z_ofI (cc := cX3_isValidWith) (maxL := 5) (ret := (some .boolean)) (by decide) rfl (Nat.le_of_ble_eq_true rfl) ?_
  intro p e s m args below meth c A ls hx hb hr hts hown hlocks hml hP hK hD hS hA hl Q hQ
  have hown : s.vm.findClass RX3 = some m.cls := hown
  have hinX3 : ∀ w ∈ u_ws RX3 TX3 16, w ∈ wsX3_isValidWith := by decide +kernel
  have hl : lv_has ls 5 [(0, .ref (a 0)), (1, .int (iI ((i : Nat) : Int))), (2, .int (iI ((x : Nat) : Int)))] := hl
  refine lv_aload_n hx hb dX3_isValidWith_0 rfl (lv_at hl 0 rfl) ?_
  refine va_get (D := D) (ci := 3) (v := .ref (a 8)) (C := RX3) (T := TX3) (N := 16) hx hb hts hinX3 hown hK hP 0 rfl rfl 11 (by decide) (hts (.fieldLink RX3 31 "LoopSchedulerModel" "times" "[I") (List.mem_of_getElem? (i := 1) rfl)) (fun _ h9 => h9) rfl dX3_isValidWith_1 ?_
  refine lv_iload_n hx hb dX3_isValidWith_4 rfl (lv_at hl 1 rfl) ?_
  refine z_ialdZ (f := tm) (z := i) hx hb hK hP 8 0 rfl rfl (by omega) (by decide) dX3_isValidWith_5 ?_
  refine lv_istore_n (lv' := [(3, .int (iI ((tm i : Nat) : Int))), (0, .ref (a 0)), (1, .int (iI ((i : Nat) : Int))), (2, .int (iI ((x : Nat) : Int)))]) hx hb dX3_isValidWith_6 rfl hl (by decide) rfl (fun ls hl => ?_)
  refine lv_aload_n hx hb dX3_isValidWith_7 rfl (lv_at hl 1 rfl) ?_
  refine va_get (D := D) (ci := 3) (v := .ref (a 8)) (C := RX3) (T := TX3) (N := 16) hx hb hts hinX3 hown hK hP 0 rfl rfl 11 (by decide) (hts (.fieldLink RX3 31 "LoopSchedulerModel" "times" "[I") (List.mem_of_getElem? (i := 1) rfl)) (fun _ h9 => h9) rfl dX3_isValidWith_8 ?_
  refine lv_iload_n hx hb dX3_isValidWith_11 rfl (lv_at hl 2 rfl) ?_
  refine lv_iload_n hx hb dX3_isValidWith_12 rfl (lv_at hl 3 rfl) ?_
  refine z_iastZ (f := tm) (z := i) (v := x) hx hb hK hP hD hS 8 0 rfl rfl (by omega) (by decide) dX3_isValidWith_13 (fun H locs hP hD hS => ?_)
  have hP : va_P D vwCl (wM a g th L att T hs (upN tm i x) pl (fun _ => 0)) H := hP
  have hD : va_D A (wM a g th L att T hs (upN tm i x) pl (fun _ => 0)) := hD
  refine lv_aload_n hx hb dX3_isValidWith_14 rfl (lv_at hl 1 rfl) ?_
  refine z_calli (va_runV (As := []) (rest := []) ⟨hx, hb, hml, hown, hts⟩ (c_X3_isValid l D g a th L att T hs (upN tm i x) pl hw hTT (fun j hj => by by_cases e : j = i; rw [e, upN_s]; omega; rw [upN_n _ _ e]; exact htm j hj) _) (cwV 0 hts gX3_isValidWith_X3_isValid rfl rfl rfl (by decide +kernel) ⟨Nat.le_of_ble_eq_true rfl, Nat.le_of_ble_eq_true rfl⟩) (z_preV 0 hK hP hD rfl rfl) rfl rfl hl.1 rfl (lv_room (Nat.le_of_ble_eq_true rfl)) dX3_isValidWith_15 ⟨Nat.zero_le _, Nat.zero_le _⟩) hS hD hA (fun r w1 H locs hw1 hP hD hS => ?_)
  obtain ⟨rfl, pl', rfl⟩ := hw1
  refine lv_istore (lv' := [(4, .int (iI (bI (vM L T (upN tm i x))))), (3, .int (iI ((tm i : Nat) : Int))), (0, .ref (a 0)), (1, .int (iI ((i : Nat) : Int))), (2, .int (iI ((x : Nat) : Int)))]) hx hb dX3_isValidWith_18 hl (by decide) rfl (fun ls hl => ?_)
  refine lv_aload_n hx hb dX3_isValidWith_20 rfl (lv_at hl 2 rfl) ?_
  refine va_get (D := D) (ci := 3) (v := .ref (a 8)) (C := RX3) (T := TX3) (N := 16) hx hb hts hinX3 hown hK hP 0 rfl rfl 11 (by decide) (hts (.fieldLink RX3 31 "LoopSchedulerModel" "times" "[I") (List.mem_of_getElem? (i := 1) rfl)) (fun _ h9 => h9) rfl dX3_isValidWith_21 ?_
  refine lv_iload_n hx hb dX3_isValidWith_24 rfl (lv_at hl 3 rfl) ?_
  refine lv_iload_n hx hb dX3_isValidWith_25 rfl (lv_at hl 1 rfl) ?_
  refine z_iastZ (f := upN tm i x) (z := i) (v := tm i) hx hb hK hP hD hS 8 0 rfl rfl (by omega) (by decide) dX3_isValidWith_26 (fun H locs hP hD hS => ?_)
  have hP : va_P D vwCl (wM a g th L att T hs (upN (upN tm i x) i (tm i)) pl' (fun _ => 0)) H := hP
  have hD : va_D A (wM a g th L att T hs (upN (upN tm i x) i (tm i)) pl' (fun _ => 0)) := hD
  have ew : tm = upN (upN tm i x) i (tm i) := (by rw [upN_up, upN_self])
  have hP : va_P D vwCl (wM a g th L att T hs tm pl' (fun _ => 0)) H := Eq.mp (congrArg (fun z9 => va_P D vwCl (wM a g th L att T hs z9 pl' (fun _ => 0)) H) ew.symm) hP
  have hD : va_D A (wM a g th L att T hs tm pl' (fun _ => 0)) := Eq.mp (congrArg (fun z9 => va_D A (wM a g th L att T hs z9 pl' (fun _ => 0))) ew.symm) hD
  refine lv_iload hx hb dX3_isValidWith_27 (lv_at hl 0 rfl) ?_
  exact z_zret (w := (wM a g th L att T hs tm pl' (fun _ => 0))) (v := (iI (bI (vM L T (upN tm i x))))) (z_nb _) hQ hx hb hr hlocks ⟨rfl, _, rfl⟩ hK hP hD hS dX3_isValidWith_29
set_option maxHeartbeats 4000000 in
set_option maxRecDepth 100000 in
theorem c_X3_move (l : Launch) (D : va_G) (g : Nat → ClassId) (a : Nat → Nat) (th : Int) (L : LD) (att T : Nat) (hs : Nat → Int) (tm : Nat → Nat) (pl : Nat → Bool) (i u : Int) (hw : wf L) (hT2 : T ≤ 200) (hri : -2147483648 ≤ i ∧ i < 2147483648) (hru : -2147483648 ≤ u ∧ u < 2147483648) (htm : ∀ j, j < Ln L → tm j ≤ 1000000) : zMi l D (zT g) yX3_move wsX3_move 5 106 (wM a g th L att T hs tm pl (fun _ => 0)) [.ref (a 0), .int (iI (i)), .int (iI (u))] (fun r w1 => (¬ (0 ≤ i ∧ i < (Ln L : Int)) ∧ w1 = wM a g 1 L att T hs tm pl (fun _ => 0)) ∨ ((0 ≤ i ∧ i < (Ln L : Int)) ∧ ¬ (0 ≤ u ∧ u ≤ 1000) ∧ w1 = wM a g 2 L att T hs tm pl (fun _ => 0)) ∨ ((0 ≤ i ∧ i < (Ln L : Int)) ∧ (0 ≤ u ∧ u ≤ 1000) ∧ T = 0 ∧ w1 = wM a g 3 L att T hs tm pl (fun _ => 0)) ∨ (((0 ≤ i ∧ i < (Ln L : Int)) ∧ (0 ≤ u ∧ u ≤ 1000) ∧ 0 < T) ∧ r = iI (bI (vM L T (upN tm i.toNat u.toNat))) ∧ ∃ pl', w1 = wM a g 0 L att T hs (if vM L T (upN tm i.toNat u.toNat) = true then upN tm i.toNat u.toNat else tm) pl' (fun _ => 0))) := by
  refine z_ofI (cc := cX3_move) (maxL := 4) (ret := (some .boolean)) (by decide) rfl (Nat.le_of_ble_eq_true rfl) ?_
  intro p e s m args below meth c A ls hx hb hr hts hown hlocks hml hP hK hD hS hA hl Q hQ
  have hown : s.vm.findClass RX3 = some m.cls := hown
  have hinX3 : ∀ w ∈ u_ws RX3 TX3 16, w ∈ wsX3_move := by decide +kernel
  have hl : lv_has ls 4 [(0, .ref (a 0)), (1, .int (iI (i))), (2, .int (iI (u)))] := hl
  have hwn := wf_n hw
  refine lv_aload_n hx hb dX3_move_0 rfl (lv_at hl 0 rfl) ?_
  refine lv_aload_n hx hb dX3_move_1 rfl (lv_at hl 0 rfl) ?_
  refine lv_iload_n hx hb dX3_move_2 rfl (lv_at hl 1 rfl) ?_
  refine z_calli (va_runV (As := [.int (iI (i))]) (rest := [.ref (a 0)]) ⟨hx, hb, hml, hown, hts⟩ (c_X3_isOperation l D g a th L att T hs tm pl i hw (by omega) _) (cwV 1 hts gX3_move_X3_isOperation rfl rfl rfl (by decide +kernel) ⟨Nat.le_of_ble_eq_true rfl, Nat.le_of_ble_eq_true rfl⟩) (z_preV 0 hK hP hD rfl rfl) rfl rfl hl.1 rfl (lv_room (Nat.le_of_ble_eq_true rfl)) dX3_move_3 ⟨Nat.zero_le _, Nat.zero_le _⟩) hS hD hA (fun r w1 H locs hw1 hP hD hS => ?_)
  obtain ⟨rfl, rfl⟩ := hw1
  refine z_ifne (a := (bI (decide (0 ≤ i ∧ i < ((Ln L : Nat) : Int))))) (tgt := 13) hx hb dX3_move_6 (by decide) (bI_r _) (fun c_6 => ?_) (fun c_6 => ?_)
  · have d_6 := of_decide_eq_true (bI_t c_6)
    refine lv_iload_n hx hb dX3_move_13 rfl (lv_at hl 2 rfl) ?_
    refine z_ic hx hb dX3_move_14 ?_
    refine z_sip hx hb dX3_move_15 (by decide) ?_
    refine z_calli (va_runS (As := [.int (iI (u)), .int (iI ((0 : Nat) : Int)), .int (iI ((1000 : Nat) : Int))]) (rest := [.ref (a 0)]) ⟨hx, hb, hml, hown, hts⟩ (c_X3_isIn l D g a th L att T hs tm pl u 0 1000 (by omega) (by omega) (by omega) _) (va_cwS 3 hts gX3_move_X3_isIn rfl rfl rfl (by decide +kernel) ⟨Nat.le_of_ble_eq_true rfl, Nat.le_of_ble_eq_true rfl⟩) (z_preS hK hP hD) rfl rfl hl.1 rfl (lv_room (Nat.le_of_ble_eq_true rfl)) dX3_move_18 ⟨Nat.zero_le _, Nat.zero_le _⟩) hS hD hA (fun r w1 H locs hw1 hP hD hS => ?_)
    obtain ⟨rfl, rfl⟩ := hw1
    refine z_ifne (a := (bI (decide (0 ≤ u ∧ u ≤ 1000)))) (tgt := 28) hx hb dX3_move_21 (by decide) (bI_r _) (fun c_21 => ?_) (fun c_21 => ?_)
    · have d_21 := of_decide_eq_true (bI_t c_21)
      refine lv_aload_n hx hb dX3_move_28 rfl (lv_at hl 0 rfl) ?_
      refine va_get (D := D) (ci := 3) (v := .int (iI ((T : Nat) : Int))) (C := RX3) (T := TX3) (N := 16) hx hb hts hinX3 hown hK hP 0 rfl rfl 10 (by decide) (hts (.fieldLink RX3 59 "LoopSchedulerModel" "interval" "I") (List.mem_of_getElem? (i := 1) rfl)) (fun _ h9 => h9) rfl dX3_move_29 ?_
      refine z_ifne (a := ((T : Nat) : Int)) (tgt := 39) hx hb dX3_move_32 (by decide) (by omega) (fun c_32 => ?_) (fun c_32 => ?_)
      · refine z_ic hx hb dX3_move_39 ?_
        refine va_put (D := D) (ci := 3) (v := .int (iI ((0 : Nat) : Int))) (ty := .int) (C := RX3) (T := TX3) (N := 16) hx hb hts hinX3 tyX3 tyX3_ok nmX3 hown hK hP hD hS 0 rfl rfl 0 (by decide) (hts (.fieldLink RX3 44 "LoopSchedulerModel" "thrown" "I") (List.mem_of_getElem? (i := 2) rfl)) (fun _ h9 => h9) rfl (by decide +kernel) rfl rfl (Nat.le_of_ble_eq_true rfl) dX3_move_40 (fun H locs hP hD hS => ?_)
        have hP : va_P D vwCl (wM a g 0 L att T hs tm pl (fun _ => 0)) H := hP
        have hD : va_D A (wM a g 0 L att T hs tm pl (fun _ => 0)) := hD
        refine lv_aload_n hx hb dX3_move_43 rfl (lv_at hl 0 rfl) ?_
        refine va_get (D := D) (ci := 3) (v := .int (iI (0))) (C := RX3) (T := TX3) (N := 16) hx hb hts hinX3 hown hK hP 0 rfl rfl 0 (by decide) (hts (.fieldLink RX3 44 "LoopSchedulerModel" "thrown" "I") (List.mem_of_getElem? (i := 2) rfl)) (fun _ h9 => h9) rfl dX3_move_44 ?_
        refine z_ifle (a := 0) (tgt := 52) hx hb dX3_move_47 (by decide) (by omega) (fun c_47 => ?_) (fun c_47 => ?_)
        · obtain ⟨j, rfl⟩ : ∃ j : Nat, i = (j : Int) := ⟨i.toNat, by omega⟩
          obtain ⟨v, rfl⟩ : ∃ v : Nat, u = (v : Int) := ⟨u.toNat, by omega⟩
          refine lv_aload_n hx hb dX3_move_52 rfl (lv_at hl 0 rfl) ?_
          refine lv_iload_n hx hb dX3_move_53 rfl (lv_at hl 1 rfl) ?_
          refine lv_iload_n hx hb dX3_move_54 rfl (lv_at hl 2 rfl) ?_
          refine z_calli (va_runV (As := [.int (iI ((j : Nat) : Int)), .int (iI ((v : Nat) : Int))]) (rest := []) ⟨hx, hb, hml, hown, hts⟩ (c_X3_isValidWith l D g a 0 L att T hs tm pl j v hw (by omega) htm (by omega) (by omega) _) (cwV 2 hts gX3_move_X3_isValidWith rfl rfl rfl (by decide +kernel) ⟨Nat.le_of_ble_eq_true rfl, Nat.le_of_ble_eq_true rfl⟩) (z_preV 0 hK hP hD rfl rfl) rfl rfl hl.1 rfl (lv_room (Nat.le_of_ble_eq_true rfl)) dX3_move_55 ⟨Nat.zero_le _, Nat.zero_le _⟩) hS hD hA (fun r w1 H locs hw1 hP hD hS => ?_)
          obtain ⟨rfl, pl2, rfl⟩ := hw1
          refine lv_istore_n (lv' := [(3, .int (iI (bI (vM L T (upN tm j v))))), (0, .ref (a 0)), (1, .int (iI ((j : Nat) : Int))), (2, .int (iI ((v : Nat) : Int)))]) hx hb dX3_move_58 rfl hl (by decide) rfl (fun ls hl => ?_)
          refine lv_iload_n hx hb dX3_move_59 rfl (lv_at hl 0 rfl) ?_
          refine z_ifeq (a := (bI (vM L T (upN tm j v)))) (tgt := 70) hx hb dX3_move_60 (by decide) (bI_r _) (fun c_60 => ?_) (fun c_60 => ?_)
          · have b_60 := bI_f c_60
            refine lv_iload_n hx hb dX3_move_70 rfl (lv_at hl 0 rfl) ?_
            exact z_zret (w := (wM a g 0 L att T hs tm pl2 (fun _ => 0))) (v := (iI (bI (vM L T (upN tm j v))))) (z_nb _) hQ hx hb hr hlocks (Or.inr (Or.inr (Or.inr ⟨by omega, rfl, pl2, congrArg (fun z9 => wM a g 0 L att T hs z9 pl2 (fun _ => 0)) (if_neg (show ¬ vM L T (upN tm ((j : Nat) : Int).toNat ((v : Nat) : Int).toNat) = true by rw [show vM L T (upN tm ((j : Nat) : Int).toNat ((v : Nat) : Int).toNat) = false from b_60]; decide)).symm⟩))) hK hP hD hS dX3_move_71
          · have b_60 := bI_t c_60
            refine lv_aload_n hx hb dX3_move_63 rfl (lv_at hl 1 rfl) ?_
            refine va_get (D := D) (ci := 3) (v := .ref (a 8)) (C := RX3) (T := TX3) (N := 16) hx hb hts hinX3 hown hK hP 0 rfl rfl 11 (by decide) (hts (.fieldLink RX3 31 "LoopSchedulerModel" "times" "[I") (List.mem_of_getElem? (i := 3) rfl)) (fun _ h9 => h9) rfl dX3_move_64 ?_
            refine lv_iload_n hx hb dX3_move_67 rfl (lv_at hl 2 rfl) ?_
            refine lv_iload_n hx hb dX3_move_68 rfl (lv_at hl 3 rfl) ?_
            refine z_iastZ (f := tm) (z := j) (v := v) hx hb hK hP hD hS 8 0 rfl rfl (by omega) (by decide) dX3_move_69 (fun H locs hP hD hS => ?_)
            have hP : va_P D vwCl (wM a g 0 L att T hs (upN tm j v) pl2 (fun _ => 0)) H := hP
            have hD : va_D A (wM a g 0 L att T hs (upN tm j v) pl2 (fun _ => 0)) := hD
            refine lv_iload_n hx hb dX3_move_70 rfl (lv_at hl 0 rfl) ?_
            exact z_zret (w := (wM a g 0 L att T hs (upN tm j v) pl2 (fun _ => 0))) (v := (iI (bI (vM L T (upN tm j v))))) (z_nb _) hQ hx hb hr hlocks (Or.inr (Or.inr (Or.inr ⟨by omega, rfl, pl2, congrArg (fun z9 => wM a g 0 L att T hs z9 pl2 (fun _ => 0)) (if_pos (show vM L T (upN tm ((j : Nat) : Int).toNat ((v : Nat) : Int).toNat) = true from b_60)).symm⟩))) hK hP hD hS dX3_move_71
        · exact absurd c_47 (by decide)
      · refine z_ic hx hb dX3_move_35 ?_
        refine lv_goto (tgt := 40) hx hb dX3_move_36 (by decide) ?_
        refine va_put (D := D) (ci := 3) (v := .int (iI ((3 : Nat) : Int))) (ty := .int) (C := RX3) (T := TX3) (N := 16) hx hb hts hinX3 tyX3 tyX3_ok nmX3 hown hK hP hD hS 0 rfl rfl 0 (by decide) (hts (.fieldLink RX3 44 "LoopSchedulerModel" "thrown" "I") (List.mem_of_getElem? (i := 2) rfl)) (fun _ h9 => h9) rfl (by decide +kernel) rfl rfl (Nat.le_of_ble_eq_true rfl) dX3_move_40 (fun H locs hP hD hS => ?_)
        have hP : va_P D vwCl (wM a g 3 L att T hs tm pl (fun _ => 0)) H := hP
        have hD : va_D A (wM a g 3 L att T hs tm pl (fun _ => 0)) := hD
        refine lv_aload_n hx hb dX3_move_43 rfl (lv_at hl 0 rfl) ?_
        refine va_get (D := D) (ci := 3) (v := .int (iI (3))) (C := RX3) (T := TX3) (N := 16) hx hb hts hinX3 hown hK hP 0 rfl rfl 0 (by decide) (hts (.fieldLink RX3 44 "LoopSchedulerModel" "thrown" "I") (List.mem_of_getElem? (i := 2) rfl)) (fun _ h9 => h9) rfl dX3_move_44 ?_
        refine z_ifle (a := 3) (tgt := 52) hx hb dX3_move_47 (by decide) (by omega) (fun c_47 => ?_) (fun c_47 => ?_)
        · exact absurd c_47 (by decide)
        · refine z_ic hx hb dX3_move_50 ?_
          exact z_zret (w := (wM a g 3 L att T hs tm pl (fun _ => 0))) (v := (iI ((0 : Nat) : Int))) z_nb0 hQ hx hb hr hlocks (Or.inr (Or.inr (Or.inl ⟨by omega, by omega, by omega, rfl⟩))) hK hP hD hS dX3_move_51
    · have d_21 := of_decide_eq_false (bI_f c_21)
      refine z_ic hx hb dX3_move_24 ?_
      refine lv_goto (tgt := 40) hx hb dX3_move_25 (by decide) ?_
      refine va_put (D := D) (ci := 3) (v := .int (iI ((2 : Nat) : Int))) (ty := .int) (C := RX3) (T := TX3) (N := 16) hx hb hts hinX3 tyX3 tyX3_ok nmX3 hown hK hP hD hS 0 rfl rfl 0 (by decide) (hts (.fieldLink RX3 44 "LoopSchedulerModel" "thrown" "I") (List.mem_of_getElem? (i := 2) rfl)) (fun _ h9 => h9) rfl (by decide +kernel) rfl rfl (Nat.le_of_ble_eq_true rfl) dX3_move_40 (fun H locs hP hD hS => ?_)
      have hP : va_P D vwCl (wM a g 2 L att T hs tm pl (fun _ => 0)) H := hP
      have hD : va_D A (wM a g 2 L att T hs tm pl (fun _ => 0)) := hD
      refine lv_aload_n hx hb dX3_move_43 rfl (lv_at hl 0 rfl) ?_
      refine va_get (D := D) (ci := 3) (v := .int (iI (2))) (C := RX3) (T := TX3) (N := 16) hx hb hts hinX3 hown hK hP 0 rfl rfl 0 (by decide) (hts (.fieldLink RX3 44 "LoopSchedulerModel" "thrown" "I") (List.mem_of_getElem? (i := 2) rfl)) (fun _ h9 => h9) rfl dX3_move_44 ?_
      refine z_ifle (a := 2) (tgt := 52) hx hb dX3_move_47 (by decide) (by omega) (fun c_47 => ?_) (fun c_47 => ?_)
      · exact absurd c_47 (by decide)
      · refine z_ic hx hb dX3_move_50 ?_
        exact z_zret (w := (wM a g 2 L att T hs tm pl (fun _ => 0))) (v := (iI ((0 : Nat) : Int))) z_nb0 hQ hx hb hr hlocks (Or.inr (Or.inl ⟨by omega, by omega, rfl⟩)) hK hP hD hS dX3_move_51
  · have d_6 := of_decide_eq_false (bI_f c_6)
    refine z_ic hx hb dX3_move_9 ?_
    refine lv_goto (tgt := 40) hx hb dX3_move_10 (by decide) ?_
    refine va_put (D := D) (ci := 3) (v := .int (iI ((1 : Nat) : Int))) (ty := .int) (C := RX3) (T := TX3) (N := 16) hx hb hts hinX3 tyX3 tyX3_ok nmX3 hown hK hP hD hS 0 rfl rfl 0 (by decide) (hts (.fieldLink RX3 44 "LoopSchedulerModel" "thrown" "I") (List.mem_of_getElem? (i := 2) rfl)) (fun _ h9 => h9) rfl (by decide +kernel) rfl rfl (Nat.le_of_ble_eq_true rfl) dX3_move_40 (fun H locs hP hD hS => ?_)
    have hP : va_P D vwCl (wM a g 1 L att T hs tm pl (fun _ => 0)) H := hP
    have hD : va_D A (wM a g 1 L att T hs tm pl (fun _ => 0)) := hD
    refine lv_aload_n hx hb dX3_move_43 rfl (lv_at hl 0 rfl) ?_
    refine va_get (D := D) (ci := 3) (v := .int (iI (1))) (C := RX3) (T := TX3) (N := 16) hx hb hts hinX3 hown hK hP 0 rfl rfl 0 (by decide) (hts (.fieldLink RX3 44 "LoopSchedulerModel" "thrown" "I") (List.mem_of_getElem? (i := 2) rfl)) (fun _ h9 => h9) rfl dX3_move_44 ?_
    refine z_ifle (a := 1) (tgt := 52) hx hb dX3_move_47 (by decide) (by omega) (fun c_47 => ?_) (fun c_47 => ?_)
    · exact absurd c_47 (by decide)
    · refine z_ic hx hb dX3_move_50 ?_
      exact z_zret (w := (wM a g 1 L att T hs tm pl (fun _ => 0))) (v := (iI ((0 : Nat) : Int))) z_nb0 hQ hx hb hr hlocks (Or.inl ⟨by omega, rfl⟩) hK hP hD hS dX3_move_51
set_option maxHeartbeats 4000000 in
set_option maxRecDepth 100000 in
theorem c_X3_freedom (l : Launch) (D : va_G) (g : Nat → ClassId) (a : Nat → Nat) (th : Int) (L : LD) (att T : Nat) (hs : Nat → Int) (tm : Nat → Nat) (pl : Nat → Bool) (i : Int) (hw : wf L) (hT2 : T ≤ 200) (hri : -2147483648 ≤ i ∧ i < 2147483648) (htm : ∀ j, j < Ln L → tm j ≤ 1000000) : zMi l D (zT g) yX3_freedom wsX3_freedom 5 106 (wM a g th L att T hs tm pl (fun _ => 0)) [.ref (a 0), .int (iI (i))] (fun r w1 => (¬ (0 ≤ i ∧ i < (Ln L : Int)) ∧ w1 = wM a g 1 L att T hs tm pl (fun _ => 0)) ∨ ((0 ≤ i ∧ i < (Ln L : Int)) ∧ T = 0 ∧ w1 = wM a g 2 L att T hs tm pl (fun _ => 0)) ∨ (((0 ≤ i ∧ i < (Ln L : Int)) ∧ 0 < T) ∧ r = iI ((cnt (fun s => vM L T (upN tm i.toNat s)) 0 1001 : Nat) : Int) ∧ ∃ pl', w1 = wM a g 0 L att T hs tm pl' (fun _ => 0))) := by
  refine z_ofI (cc := cX3_freedom) (maxL := 4) (ret := (some .int)) (by decide) rfl (Nat.le_of_ble_eq_true rfl) ?_
  intro p e s m args below meth c A ls hx hb hr hts hown hlocks hml hP hK hD hS hA hl Q hQ
  have hown : s.vm.findClass RX3 = some m.cls := hown
  have hinX3 : ∀ w ∈ u_ws RX3 TX3 16, w ∈ wsX3_freedom := by decide +kernel
  have hl : lv_has ls 4 [(0, .ref (a 0)), (1, .int (iI (i)))] := hl
  have hwn := wf_n hw
  refine lv_aload_n hx hb dX3_freedom_0 rfl (lv_at hl 0 rfl) ?_
  refine lv_iload_n hx hb dX3_freedom_1 rfl (lv_at hl 1 rfl) ?_
  refine z_calli (va_runV (As := [.int (iI (i))]) (rest := []) ⟨hx, hb, hml, hown, hts⟩ (c_X3_asks l D g a th L att T hs tm pl i hw (by omega) (by omega) _) (cwV 1 hts gX3_freedom_X3_asks rfl rfl rfl (by decide +kernel) ⟨Nat.le_of_ble_eq_true rfl, Nat.le_of_ble_eq_true rfl⟩) (z_preV 0 hK hP hD rfl rfl) rfl rfl hl.1 rfl (lv_room (Nat.le_of_ble_eq_true rfl)) dX3_freedom_2 ⟨Nat.zero_le _, Nat.zero_le _⟩) hS hD hA (fun r w1 H locs hw1 hP hD hS => ?_)
  rcases hw1 with ⟨ha1, rfl, rfl⟩ | ⟨ha1, ha2, rfl, rfl⟩ | ⟨ha1, ha2, rfl, rfl⟩
  · skip
    refine z_ifne (a := 0) (tgt := 10) hx hb dX3_freedom_5 (by decide) (by omega) (fun c_5 => ?_) (fun c_5 => ?_)
    · exact absurd c_5 (by decide)
    · refine z_ic hx hb dX3_freedom_8 ?_
      exact z_iret (w := (wM a g 1 L att T hs tm pl (fun _ => 0))) (v := (iI ((0 : Nat) : Int))) hQ hx hb hr hlocks (Or.inl ⟨by omega, rfl⟩) hK hP hD hS dX3_freedom_9
  · skip
    refine z_ifne (a := 0) (tgt := 10) hx hb dX3_freedom_5 (by decide) (by omega) (fun c_5 => ?_) (fun c_5 => ?_)
    · exact absurd c_5 (by decide)
    · refine z_ic hx hb dX3_freedom_8 ?_
      exact z_iret (w := (wM a g 2 L att T hs tm pl (fun _ => 0))) (v := (iI ((0 : Nat) : Int))) hQ hx hb hr hlocks (Or.inr (Or.inl ⟨by omega, by omega, rfl⟩)) hK hP hD hS dX3_freedom_9
  · skip
    refine z_ifne (a := 1) (tgt := 10) hx hb dX3_freedom_5 (by decide) (by omega) (fun c_5 => ?_) (fun c_5 => ?_)
    · obtain ⟨j, rfl⟩ : ∃ j : Nat, i = (j : Int) := ⟨i.toNat, by omega⟩
      refine z_ic hx hb dX3_freedom_10 ?_
      refine lv_istore_n (lv' := [(2, .int (iI ((0 : Nat) : Int))), (0, .ref (a 0)), (1, .int (iI ((j : Nat) : Int)))]) hx hb dX3_freedom_11 rfl hl (by decide) rfl (fun ls hl => ?_)
      refine z_ic hx hb dX3_freedom_12 ?_
      refine lv_istore_n (lv' := [(3, .int (iI ((0 : Nat) : Int))), (2, .int (iI ((0 : Nat) : Int))), (0, .ref (a 0)), (1, .int (iI ((j : Nat) : Int)))]) hx hb dX3_freedom_13 rfl hl (by decide) rfl (fun ls hl => ?_)
      have loop14 : ∀ (n14 : Nat) (x : Nat) (q : Nat) (pl' : Nat → Bool) (H : Heap) (locs : List Loc) (ls : Array Slot), 1001 - x < n14 → (x ≤ 1001) → (q ≤ x) → (q + cnt (fun s => vM L T (upN tm j s)) x (1001 - x) = cnt (fun s => vM L T (upN tm j s)) 0 1001) → va_P D vwCl (wM a g 0 L att T hs tm pl' (fun _ => 0)) H → va_D A (wM a g 0 L att T hs tm pl' (fun _ => 0)) → va_S A s.heap H locs → lv_has ls 4 [(0, .ref (a 0)), (1, .int (iI ((j : Nat) : Int))), (2, .int (iI ((q : Nat) : Int))), (3, .int (iI ((x : Nat) : Int)))] → W p l e ({ frames := 5, cells := 0, slots := 0, locals := 106 } : Room) s m args below meth c H locs 0 0 Q (F0 m 14 ls []) := by
        intro n14
        induction n14 with
        | zero => exact fun _ _ _ H locs ls hn => absurd hn (Nat.not_lt_zero _)
        | succ n14 ih14 =>
          intro x q pl' H locs ls hn14 hx2 hq hf hP hD hS hl
          refine lv_iload_n hx hb dX3_freedom_14 rfl (lv_at hl 3 rfl) ?_
          refine z_sip hx hb dX3_freedom_15 (by decide) ?_
          refine z_icgt (a := ((x : Nat) : Int)) (b := 1000) (tgt := 44) hx hb dX3_freedom_18 (by decide) (by omega) (fun c_18 => ?_) (fun c_18 => ?_)
          · have hN : q = cnt (fun s => vM L T (upN tm j s)) 0 1001 := by rw [← hf, show 1001 - x = 0 by omega]; rfl
            refine lv_iload_n hx hb dX3_freedom_44 rfl (lv_at hl 2 rfl) ?_
            exact z_iret (w := (wM a g 0 L att T hs tm pl' (fun _ => 0))) (v := (iI ((q : Nat) : Int))) hQ hx hb hr hlocks (Or.inr (Or.inr ⟨by omega, by rw [hN]; rfl, _, rfl⟩)) hK hP hD hS dX3_freedom_45
          · have hstep : 1001 - x = (1001 - (x + 1)) + 1 := by omega
            refine lv_iload_n hx hb dX3_freedom_21 rfl (lv_at hl 2 rfl) ?_
            refine lv_aload_n hx hb dX3_freedom_22 rfl (lv_at hl 0 rfl) ?_
            refine lv_iload_n hx hb dX3_freedom_23 rfl (lv_at hl 1 rfl) ?_
            refine lv_iload_n hx hb dX3_freedom_24 rfl (lv_at hl 3 rfl) ?_
            refine z_calli (va_runV (As := [.int (iI ((j : Nat) : Int)), .int (iI ((x : Nat) : Int))]) (rest := [.int (iI ((q : Nat) : Int))]) ⟨hx, hb, hml, hown, hts⟩ (c_X3_isValidWith l D g a 0 L att T hs tm pl' j x hw (by omega) htm (by omega) (by omega) _) (cwV 2 hts gX3_freedom_X3_isValidWith rfl rfl rfl (by decide +kernel) ⟨Nat.le_of_ble_eq_true rfl, Nat.le_of_ble_eq_true rfl⟩) (z_preV 0 hK hP hD rfl rfl) rfl rfl hl.1 rfl (lv_room (Nat.le_of_ble_eq_true rfl)) dX3_freedom_25 ⟨Nat.zero_le _, Nat.zero_le _⟩) hS hD hA (fun r w1 H locs hw1 hP hD hS => ?_)
            obtain ⟨rfl, pl2, rfl⟩ := hw1
            refine z_ifeq (a := (bI (vM L T (upN tm j x)))) (tgt := 35) hx hb dX3_freedom_28 (by decide) (bI_r _) (fun c_28 => ?_) (fun c_28 => ?_)
            · have b_28 := bI_f c_28
              refine z_ic hx hb dX3_freedom_35 ?_
              refine z_add (a := ((q : Nat) : Int)) (b := 0) hx hb dX3_freedom_36 ?_
              refine z_eqI (y := iI ((q : Nat) : Int)) (congrArg iI (by omega)) ?_
              refine lv_istore_n (lv' := [(2, .int (iI ((q : Nat) : Int))), (0, .ref (a 0)), (1, .int (iI ((j : Nat) : Int))), (3, .int (iI ((x : Nat) : Int)))]) hx hb dX3_freedom_37 rfl hl (by decide) rfl (fun ls hl => ?_)
              refine z_iinc (a := ((x : Nat) : Int)) (b := ((x + 1 : Nat) : Int)) (lv' := [(3, .int (iI ((x + 1 : Nat) : Int))), (2, .int (iI ((q : Nat) : Int))), (0, .ref (a 0)), (1, .int (iI ((j : Nat) : Int)))]) hx hb 3 dX3_freedom_38 hl rfl rfl (by decide) rfl (fun ls hl => ?_)
              refine lv_goto (tgt := 14) hx hb dX3_freedom_41 (by decide) ?_
              exact ih14 (x + 1) q pl2 _ _ _ (by omega) (by omega) (by omega) (by rw [← hf, hstep, cnt_f (show (fun s => vM L T (upN tm j s)) x = false from b_28)]) hP hD hS (lv_sub hl [2, 3, 1, 0] rfl)
            · have b_28 := bI_t c_28
              refine z_ic hx hb dX3_freedom_31 ?_
              refine lv_goto (tgt := 36) hx hb dX3_freedom_32 (by decide) ?_
              refine z_add (a := ((q : Nat) : Int)) (b := 1) hx hb dX3_freedom_36 ?_
              refine z_eqI (y := iI ((q + 1 : Nat) : Int)) (congrArg iI (by omega)) ?_
              refine lv_istore_n (lv' := [(2, .int (iI ((q + 1 : Nat) : Int))), (0, .ref (a 0)), (1, .int (iI ((j : Nat) : Int))), (3, .int (iI ((x : Nat) : Int)))]) hx hb dX3_freedom_37 rfl hl (by decide) rfl (fun ls hl => ?_)
              refine z_iinc (a := ((x : Nat) : Int)) (b := ((x + 1 : Nat) : Int)) (lv' := [(3, .int (iI ((x + 1 : Nat) : Int))), (2, .int (iI ((q + 1 : Nat) : Int))), (0, .ref (a 0)), (1, .int (iI ((j : Nat) : Int)))]) hx hb 3 dX3_freedom_38 hl rfl rfl (by decide) rfl (fun ls hl => ?_)
              refine lv_goto (tgt := 14) hx hb dX3_freedom_41 (by decide) ?_
              exact ih14 (x + 1) (q + 1) pl2 _ _ _ (by omega) (by omega) (by omega) (by rw [← hf, hstep, cnt_t (show (fun s => vM L T (upN tm j s)) x = true from b_28)]; omega) hP hD hS (lv_sub hl [2, 3, 1, 0] rfl)
      exact loop14 ((1001 - 0) + 1) 0 0 pl _ _ _ (Nat.lt_succ_self _) (by omega) (by omega) (Nat.zero_add _) hP hD hS (lv_sub hl [2, 3, 1, 0] rfl)
    · exact absurd c_5 (by decide)
set_option maxHeartbeats 4000000 in
set_option maxRecDepth 100000 in
theorem c_X3_latest (l : Launch) (D : va_G) (g : Nat → ClassId) (a : Nat → Nat) (th : Int) (L : LD) (att T : Nat) (hs : Nat → Int) (tm : Nat → Nat) (pl : Nat → Bool)  (hw : wf L) (htm : ∀ j, j < Ln L → tm j ≤ 1000000) : zMi l D (zT g) yX3_latest wsX3_latest 1 13 (wM a g th L att T hs tm pl (fun _ => 0)) [.ref (a 0)] (fun r w1 => r = iI (gT (nZ tm) (Ln L)) ∧ w1 = wM a g th L att T hs tm pl (fun _ => 0)) := by
  refine z_ofI (cc := cX3_latest) (maxL := 3) (ret := (some .int)) (by decide) rfl (Nat.le_of_ble_eq_true rfl) ?_
  intro p e s m args below meth c A ls hx hb hr hts hown hlocks hml hP hK hD hS hA hl Q hQ
  have hown : s.vm.findClass RX3 = some m.cls := hown
  have hinX3 : ∀ w ∈ u_ws RX3 TX3 16, w ∈ wsX3_latest := by decide +kernel
  have hl : lv_has ls 3 [(0, .ref (a 0))] := hl
  refine z_ic hx hb dX3_latest_0 ?_
  refine lv_istore_n (lv' := [(1, .int (iI ((0 : Nat) : Int))), (0, .ref (a 0))]) hx hb dX3_latest_1 rfl hl (by decide) rfl (fun ls hl => ?_)
  refine z_ic hx hb dX3_latest_2 ?_
  refine lv_istore_n (lv' := [(2, .int (iI ((0 : Nat) : Int))), (1, .int (iI ((0 : Nat) : Int))), (0, .ref (a 0))]) hx hb dX3_latest_3 rfl hl (by decide) rfl (fun ls hl => ?_)
  have loop4 : ∀ (n4 : Nat) (i : Nat) (H : Heap) (locs : List Loc) (ls : Array Slot), Ln L - i < n4 → (i ≤ Ln L) → va_P D vwCl (wM a g th L att T hs tm pl (fun _ => 0)) H → va_D A (wM a g th L att T hs tm pl (fun _ => 0)) → va_S A s.heap H locs → lv_has ls 3 [(0, .ref (a 0)), (1, .int (iI (gT (nZ tm) i))), (2, .int (iI ((i : Nat) : Int)))] → W p l e ({ frames := 1, cells := 0, slots := 0, locals := 13 } : Room) s m args below meth c H locs 0 0 Q (F0 m 4 ls []) := by
    intro n4
    induction n4 with
    | zero => exact fun _ H locs ls hn => absurd hn (Nat.not_lt_zero _)
    | succ n4 ih4 =>
      intro i H locs ls hn4 hi hP hD hS hl
      have hwn := wf_n hw
      have hb1 := gTn_bd htm i hi
      refine lv_iload_n hx hb dX3_latest_4 rfl (lv_at hl 2 rfl) ?_
      refine lv_aload_n hx hb dX3_latest_5 rfl (lv_at hl 0 rfl) ?_
      refine va_get (D := D) (ci := 3) (v := .int (iI ((Ln L : Nat) : Int))) (C := RX3) (T := TX3) (N := 16) hx hb hts hinX3 hown hK hP 0 rfl rfl 2 (by decide) (hts (.fieldLink RX3 48 "LoopSchedulerModel" "operations" "I") (List.mem_of_getElem? (i := 1) rfl)) (fun _ h9 => h9) rfl dX3_latest_6 ?_
      refine z_icge (a := ((i : Nat) : Int)) (b := ((Ln L : Nat) : Int)) (tgt := 29) hx hb dX3_latest_9 (by decide) (by omega) (fun c_9 => ?_) (fun c_9 => ?_)
      · obtain rfl : i = Ln L := by omega
        refine lv_iload_n hx hb dX3_latest_29 rfl (lv_at hl 1 rfl) ?_
        exact z_iret (w := (wM a g th L att T hs tm pl (fun _ => 0))) (v := (iI (gT (nZ tm) (Ln L)))) hQ hx hb hr hlocks ⟨rfl, rfl⟩ hK hP hD hS dX3_latest_30
      · have hti := htm i (by omega)
        refine lv_iload_n hx hb dX3_latest_12 rfl (lv_at hl 1 rfl) ?_
        refine lv_aload_n hx hb dX3_latest_13 rfl (lv_at hl 0 rfl) ?_
        refine va_get (D := D) (ci := 3) (v := .ref (a 8)) (C := RX3) (T := TX3) (N := 16) hx hb hts hinX3 hown hK hP 0 rfl rfl 11 (by decide) (hts (.fieldLink RX3 31 "LoopSchedulerModel" "times" "[I") (List.mem_of_getElem? (i := 2) rfl)) (fun _ h9 => h9) rfl dX3_latest_14 ?_
        refine lv_iload_n hx hb dX3_latest_17 rfl (lv_at hl 2 rfl) ?_
        refine z_ialdZ (f := tm) (z := i) hx hb hK hP 8 0 rfl rfl (by omega) (by decide) dX3_latest_18 ?_
        refine z_mmax (a := (gT (nZ tm) i)) (b := ((tm i : Nat) : Int)) hx hb hml hl.1 hown (hts (.methodLink RX3 97 Lib.Math.max.name) (List.mem_of_getElem? (i := 3) rfl)) (hts (.static Lib.Math.max.name) (List.mem_of_getElem? (i := 4) rfl)) (hts (.initialized "java/lang/Math") (List.mem_of_getElem? (i := 5) rfl)) (hts (.code Lib.Math.max.name Lib.Math.max.code 2 (some .int)) (List.mem_of_getElem? (i := 6) rfl)) (Nat.le_of_ble_eq_true rfl) (Nat.le_of_ble_eq_true rfl) (Nat.zero_le _) (Nat.zero_le _) (by omega) dX3_latest_19 ?_
        refine lv_istore_n (lv' := [(1, .int (iI (max (gT (nZ tm) i) ((tm i : Nat) : Int)))), (0, .ref (a 0)), (2, .int (iI ((i : Nat) : Int)))]) hx hb dX3_latest_22 rfl hl (by decide) rfl (fun ls hl => ?_)
        refine z_iinc (a := ((i : Nat) : Int)) (b := ((i + 1 : Nat) : Int)) (lv' := [(2, .int (iI ((i + 1 : Nat) : Int))), (1, .int (iI (max (gT (nZ tm) i) ((tm i : Nat) : Int)))), (0, .ref (a 0))]) hx hb 2 dX3_latest_23 hl rfl rfl (by decide) rfl (fun ls hl => ?_)
        refine lv_goto (tgt := 4) hx hb dX3_latest_26 (by decide) ?_
        exact ih4 (i + 1) _ _ _ (by omega) (by omega) hP hD hS (lv_sub hl [2, 1, 0] rfl)
  exact loop4 ((Ln L - 0) + 1) 0 _ _ _ (Nat.lt_succ_self _) (by omega) hP hD hS (lv_sub hl [2, 1, 0] rfl)
set_option maxHeartbeats 4000000 in
set_option maxRecDepth 100000 in
theorem c_X3_stageCount (l : Launch) (D : va_G) (g : Nat → ClassId) (a : Nat → Nat) (th : Int) (L : LD) (att T : Nat) (hs : Nat → Int) (tm : Nat → Nat) (pl : Nat → Bool)  (hw : wf L) (hTT : 0 < T ∧ T ≤ 200) (htm : ∀ j, j < Ln L → tm j ≤ 1000000) : zMi l D (zT g) yX3_stageCount wsX3_stageCount 2 35 (wM a g th L att T hs tm pl (fun _ => 0)) [.ref (a 0)] (fun r w1 => r = iI (sG L T (nZ tm)) ∧ w1 = wM a g th L att T hs tm pl (fun _ => 0)) := by
  refine z_ofI (cc := cX3_stageCount) (maxL := 1) (ret := (some .int)) (by decide) rfl (Nat.le_of_ble_eq_true rfl) ?_
  intro p e s m args below meth c A ls hx hb hr hts hown hlocks hml hP hK hD hS hA hl Q hQ
  have hown : s.vm.findClass RX3 = some m.cls := hown
  have hinX3 : ∀ w ∈ u_ws RX3 TX3 16, w ∈ wsX3_stageCount := by decide +kernel
  have hl : lv_has ls 1 [(0, .ref (a 0))] := hl
  have hwn := wf_n hw
  have hgb := gTn_bd htm (Ln L) (Nat.le_refl _)
  refine lv_aload_n hx hb dX3_stageCount_0 rfl (lv_at hl 0 rfl) ?_
  refine va_get (D := D) (ci := 3) (v := .int (iI ((Ln L : Nat) : Int))) (C := RX3) (T := TX3) (N := 16) hx hb hts hinX3 hown hK hP 0 rfl rfl 2 (by decide) (hts (.fieldLink RX3 48 "LoopSchedulerModel" "operations" "I") (List.mem_of_getElem? (i := 1) rfl)) (fun _ h9 => h9) rfl dX3_stageCount_1 ?_
  refine z_ifne (a := ((Ln L : Nat) : Int)) (tgt := 11) hx hb dX3_stageCount_4 (by decide) (by omega) (fun c_4 => ?_) (fun c_4 => ?_)
  · refine lv_aload_n hx hb dX3_stageCount_11 rfl (lv_at hl 0 rfl) ?_
    refine z_calli (va_runV (As := []) (rest := []) ⟨hx, hb, hml, hown, hts⟩ (c_X3_latest l D g a th L att T hs tm pl hw htm _) (cwV 0 hts gX3_stageCount_X3_latest rfl rfl rfl (by decide +kernel) ⟨Nat.le_of_ble_eq_true rfl, Nat.le_of_ble_eq_true rfl⟩) (z_preV 0 hK hP hD rfl rfl) rfl rfl hl.1 rfl (lv_room (Nat.le_of_ble_eq_true rfl)) dX3_stageCount_12 ⟨Nat.zero_le _, Nat.zero_le _⟩) hS hD hA (fun r w1 H locs hw1 hP hD hS => ?_)
    obtain ⟨rfl, rfl⟩ := hw1
    refine lv_aload_n hx hb dX3_stageCount_15 rfl (lv_at hl 0 rfl) ?_
    refine va_get (D := D) (ci := 3) (v := .int (iI ((T : Nat) : Int))) (C := RX3) (T := TX3) (N := 16) hx hb hts hinX3 hown hK hP 0 rfl rfl 10 (by decide) (hts (.fieldLink RX3 59 "LoopSchedulerModel" "interval" "I") (List.mem_of_getElem? (i := 2) rfl)) (fun _ h9 => h9) rfl dX3_stageCount_16 ?_
    refine z_div (a := (gT (nZ tm) (Ln L))) (b := ((T : Nat) : Int)) hx hb (by omega) dX3_stageCount_19 ?_
    refine z_ic hx hb dX3_stageCount_20 ?_
    refine z_add (a := ((gT (nZ tm) (Ln L)) / ((T : Nat) : Int))) (b := 1) hx hb dX3_stageCount_21 ?_
    exact z_iret (w := (wM a g th L att T hs tm pl (fun _ => 0))) (v := (iI (((gT (nZ tm) (Ln L)) / ((T : Nat) : Int)) + 1))) hQ hx hb hr hlocks ⟨congrArg iI (if_neg (by omega)).symm, rfl⟩ hK hP hD hS dX3_stageCount_22
  · refine z_ic hx hb dX3_stageCount_7 ?_
    refine lv_goto (tgt := 22) hx hb dX3_stageCount_8 (by decide) ?_
    exact z_iret (w := (wM a g th L att T hs tm pl (fun _ => 0))) (v := (iI ((0 : Nat) : Int))) hQ hx hb hr hlocks ⟨congrArg iI (if_pos (by omega)).symm, rfl⟩ hK hP hD hS dX3_stageCount_22
set_option maxHeartbeats 4000000 in
set_option maxRecDepth 100000 in
theorem c_X3_stages (l : Launch) (D : va_G) (g : Nat → ClassId) (a : Nat → Nat) (th : Int) (L : LD) (att T : Nat) (hs : Nat → Int) (tm : Nat → Nat) (pl : Nat → Bool)  (hw : wf L) (hT2 : T ≤ 200) (htm : ∀ j, j < Ln L → tm j ≤ 1000000) : zMi l D (zT g) yX3_stages wsX3_stages 3 55 (wM a g th L att T hs tm pl (fun _ => 0)) [.ref (a 0)] (fun r w1 => ((T = 0) ∧ w1 = wM a g 1 L att T hs tm pl (fun _ => 0)) ∨ ((0 < T) ∧ r = iI (sG L T (nZ tm)) ∧ w1 = wM a g 0 L att T hs tm pl (fun _ => 0))) := by
  refine z_ofI (cc := cX3_stages) (maxL := 1) (ret := (some .int)) (by decide) rfl (Nat.le_of_ble_eq_true rfl) ?_
  intro p e s m args below meth c A ls hx hb hr hts hown hlocks hml hP hK hD hS hA hl Q hQ
  have hown : s.vm.findClass RX3 = some m.cls := hown
  have hinX3 : ∀ w ∈ u_ws RX3 TX3 16, w ∈ wsX3_stages := by decide +kernel
  have hl : lv_has ls 1 [(0, .ref (a 0))] := hl
  refine lv_aload_n hx hb dX3_stages_0 rfl (lv_at hl 0 rfl) ?_
  refine z_calli (va_runV (As := []) (rest := []) ⟨hx, hb, hml, hown, hts⟩ (c_X3_has l D g a th L att T hs tm pl (by omega) _) (cwV 0 hts gX3_stages_X3_has rfl rfl rfl (by decide +kernel) ⟨Nat.le_of_ble_eq_true rfl, Nat.le_of_ble_eq_true rfl⟩) (z_preV 0 hK hP hD rfl rfl) rfl rfl hl.1 rfl (lv_room (Nat.le_of_ble_eq_true rfl)) dX3_stages_1 ⟨Nat.zero_le _, Nat.zero_le _⟩) hS hD hA (fun r w1 H locs hw1 hP hD hS => ?_)
  obtain ⟨rfl, rfl⟩ := hw1
  refine z_ifeq (a := (bI (decide (0 < T)))) (tgt := 14) hx hb dX3_stages_4 (by decide) (bI_r _) (fun c_4 => ?_) (fun c_4 => ?_)
  · have d_4 := of_decide_eq_false (bI_f c_4)
    have ew : (1 : Int) = (if 0 < T then 0 else 1) := (if_neg d_4).symm
    have hP : va_P D vwCl (wM a g 1 L att T hs tm pl (fun _ => 0)) H := Eq.mp (congrArg (fun z9 => va_P D vwCl (wM a g z9 L att T hs tm pl (fun _ => 0)) H) ew.symm) hP
    have hD : va_D A (wM a g 1 L att T hs tm pl (fun _ => 0)) := Eq.mp (congrArg (fun z9 => va_D A (wM a g z9 L att T hs tm pl (fun _ => 0))) ew.symm) hD
    refine z_ic hx hb dX3_stages_14 ?_
    exact z_iret (w := (wM a g 1 L att T hs tm pl (fun _ => 0))) (v := (iI ((0 : Nat) : Int))) hQ hx hb hr hlocks (Or.inl (⟨by omega, rfl⟩)) hK hP hD hS dX3_stages_15
  · have d_4 := of_decide_eq_true (bI_t c_4)
    have ew : (0 : Int) = (if 0 < T then 0 else 1) := (if_pos d_4).symm
    have hP : va_P D vwCl (wM a g 0 L att T hs tm pl (fun _ => 0)) H := Eq.mp (congrArg (fun z9 => va_P D vwCl (wM a g z9 L att T hs tm pl (fun _ => 0)) H) ew.symm) hP
    have hD : va_D A (wM a g 0 L att T hs tm pl (fun _ => 0)) := Eq.mp (congrArg (fun z9 => va_D A (wM a g z9 L att T hs tm pl (fun _ => 0))) ew.symm) hD
    refine lv_aload_n hx hb dX3_stages_7 rfl (lv_at hl 0 rfl) ?_
    refine z_calli (va_runV (As := []) (rest := []) ⟨hx, hb, hml, hown, hts⟩ (c_X3_stageCount l D g a 0 L att T hs tm pl hw ⟨by omega, by omega⟩ htm _) (cwV 0 hts gX3_stages_X3_stageCount rfl rfl rfl (by decide +kernel) ⟨Nat.le_of_ble_eq_true rfl, Nat.le_of_ble_eq_true rfl⟩) (z_preV 0 hK hP hD rfl rfl) rfl rfl hl.1 rfl (lv_room (Nat.le_of_ble_eq_true rfl)) dX3_stages_8 ⟨Nat.zero_le _, Nat.zero_le _⟩) hS hD hA (fun r w1 H locs hw1 hP hD hS => ?_)
    obtain ⟨rfl, rfl⟩ := hw1
    refine lv_goto (tgt := 15) hx hb dX3_stages_11 (by decide) ?_
    exact z_iret (w := (wM a g 0 L att T hs tm pl (fun _ => 0))) (v := (iI (sG L T (nZ tm)))) hQ hx hb hr hlocks (Or.inr (⟨by omega, rfl, rfl⟩)) hK hP hD hS dX3_stages_15
set_option maxHeartbeats 4000000 in
set_option maxRecDepth 100000 in
theorem c_X3_takenIn (l : Launch) (D : va_G) (g : Nat → ClassId) (a : Nat → Nat) (th : Int) (L : LD) (att T : Nat) (hs : Nat → Int) (tm : Nat → Nat) (pl : Nat → Bool) (row kd t : Nat) (hw : wf L) (htt : 0 < t ∧ t ≤ 200) (hrow : row < t) (hk3 : kd < 3) (htm : ∀ i, i < Ln L → pl i = true → tm i ≤ 1000000) : zMi l D (zT g) yX3_takenIn wsX3_takenIn 1 12 (wM a g th L att T hs tm pl (fun _ => 0)) [.ref (a 0), .int (iI ((row : Nat) : Int)), .int (iI ((kd : Nat) : Int)), .int (iI ((t : Nat) : Int))] (fun r w1 => r = iI ((hqA L t tm pl (200 * kd + row) (Ln L) : Nat) : Int) ∧ w1 = wM a g th L att T hs tm pl (fun _ => 0)) := by
  refine z_ofI (cc := cX3_takenIn) (maxL := 7) (ret := (some .int)) (by decide) rfl (Nat.le_of_ble_eq_true rfl) ?_
  intro p e s m args below meth c A ls hx hb hr hts hown hlocks hml hP hK hD hS hA hl Q hQ
  have hown : s.vm.findClass RX3 = some m.cls := hown
  have hinX3 : ∀ w ∈ u_ws RX3 TX3 16, w ∈ wsX3_takenIn := by decide +kernel
  have hl : lv_has ls 7 [(0, .ref (a 0)), (1, .int (iI ((row : Nat) : Int))), (2, .int (iI ((kd : Nat) : Int))), (3, .int (iI ((t : Nat) : Int)))] := hl
  refine z_ic hx hb dX3_takenIn_0 ?_
  refine lv_istore (lv' := [(4, .int (iI ((0 : Nat) : Int))), (0, .ref (a 0)), (1, .int (iI ((row : Nat) : Int))), (2, .int (iI ((kd : Nat) : Int))), (3, .int (iI ((t : Nat) : Int)))]) hx hb dX3_takenIn_1 hl (by decide) rfl (fun ls hl => ?_)
  refine z_ic hx hb dX3_takenIn_3 ?_
  refine lv_istore (lv' := [(5, .int (iI ((0 : Nat) : Int))), (4, .int (iI ((0 : Nat) : Int))), (0, .ref (a 0)), (1, .int (iI ((row : Nat) : Int))), (2, .int (iI ((kd : Nat) : Int))), (3, .int (iI ((t : Nat) : Int)))]) hx hb dX3_takenIn_4 hl (by decide) rfl (fun ls hl => ?_)
  have loop6 : ∀ (n6 : Nat) (i : Nat) (H : Heap) (locs : List Loc) (ls : Array Slot), Ln L - i < n6 → (i ≤ Ln L) → va_P D vwCl (wM a g th L att T hs tm pl (fun _ => 0)) H → va_D A (wM a g th L att T hs tm pl (fun _ => 0)) → va_S A s.heap H locs → lv_has ls 7 [(0, .ref (a 0)), (1, .int (iI ((row : Nat) : Int))), (2, .int (iI ((kd : Nat) : Int))), (3, .int (iI ((t : Nat) : Int))), (4, .int (iI ((hqA L t tm pl (200 * kd + row) i : Nat) : Int))), (5, .int (iI ((i : Nat) : Int)))] → W p l e ({ frames := 1, cells := 0, slots := 0, locals := 12 } : Room) s m args below meth c H locs 0 0 Q (F0 m 6 ls []) := by
    intro n6
    induction n6 with
    | zero => exact fun _ H locs ls hn => absurd hn (Nat.not_lt_zero _)
    | succ n6 ih6 =>
      intro i H locs ls hn6 hi hP hD hS hl
      have hwn := wf_n hw
      have hkd := wf_kd hw i
      have hby := wf_by hw i
      have hal := hqA_le hw t tm pl (200 * kd + row) i
      refine lv_iload hx hb dX3_takenIn_6 (lv_at hl 5 rfl) ?_
      refine lv_aload_n hx hb dX3_takenIn_8 rfl (lv_at hl 0 rfl) ?_
      refine va_get (D := D) (ci := 3) (v := .int (iI ((Ln L : Nat) : Int))) (C := RX3) (T := TX3) (N := 16) hx hb hts hinX3 hown hK hP 0 rfl rfl 2 (by decide) (hts (.fieldLink RX3 48 "LoopSchedulerModel" "operations" "I") (List.mem_of_getElem? (i := 1) rfl)) (fun _ h9 => h9) rfl dX3_takenIn_9 ?_
      refine z_icge (a := ((i : Nat) : Int)) (b := ((Ln L : Nat) : Int)) (tgt := 89) hx hb dX3_takenIn_12 (by decide) (by omega) (fun c_12 => ?_) (fun c_12 => ?_)
      · obtain rfl : i = Ln L := by omega
        refine lv_iload hx hb dX3_takenIn_89 (lv_at hl 4 rfl) ?_
        exact z_iret (w := (wM a g th L att T hs tm pl (fun _ => 0))) (v := (iI ((hqA L t tm pl (200 * kd + row) (Ln L) : Nat) : Int))) hQ hx hb hr hlocks ⟨rfl, rfl⟩ hK hP hD hS dX3_takenIn_91
      · have hin : i < Ln L := by omega
        refine z_ic hx hb dX3_takenIn_15 ?_
        refine lv_istore (lv' := [(6, .int (iI ((0 : Nat) : Int))), (0, .ref (a 0)), (1, .int (iI ((row : Nat) : Int))), (2, .int (iI ((kd : Nat) : Int))), (3, .int (iI ((t : Nat) : Int))), (4, .int (iI ((hqA L t tm pl (200 * kd + row) i : Nat) : Int))), (5, .int (iI ((i : Nat) : Int)))]) hx hb dX3_takenIn_16 hl (by decide) rfl (fun ls hl => ?_)
        have loop18 : ∀ (n18 : Nat) (q : Nat) (H : Heap) (locs : List Loc) (ls : Array Slot), Lby L i - q < n18 → (q ≤ bq L pl i) → (i < Ln L) → va_P D vwCl (wM a g th L att T hs tm pl (fun _ => 0)) H → va_D A (wM a g th L att T hs tm pl (fun _ => 0)) → va_S A s.heap H locs → lv_has ls 7 [(0, .ref (a 0)), (1, .int (iI ((row : Nat) : Int))), (2, .int (iI ((kd : Nat) : Int))), (3, .int (iI ((t : Nat) : Int))), (4, .int (iI ((hqA L t tm pl (200 * kd + row) i + hqK L t tm i (200 * kd + row) q : Nat) : Int))), (5, .int (iI ((i : Nat) : Int))), (6, .int (iI ((q : Nat) : Int)))] → W p l e ({ frames := 1, cells := 0, slots := 0, locals := 12 } : Room) s m args below meth c H locs 0 0 Q (F0 m 18 ls []) := by
          intro n18
          induction n18 with
          | zero => exact fun _ H locs ls hn => absurd hn (Nat.not_lt_zero _)
          | succ n18 ih18 =>
            intro q H locs ls hn18 hq hin hP hD hS hl
            have hkl := hqK_le L t tm i (200 * kd + row) q
            have hbl := bq_le L pl i
            have hmod := Nat.mod_lt (tm i + q) htt.1
            have hcx : cx L t tm i q = 200 * Lkd L i + (tm i + q) % t := rfl
            refine lv_iload hx hb dX3_takenIn_18 (lv_at hl 6 rfl) ?_
            refine lv_aload_n hx hb dX3_takenIn_20 rfl (lv_at hl 0 rfl) ?_
            refine va_get (D := D) (ci := 3) (v := .ref (a 3)) (C := RX3) (T := TX3) (N := 16) hx hb hts hinX3 hown hK hP 0 rfl rfl 4 (by decide) (hts (.fieldLink RX3 16 "LoopSchedulerModel" "busy" "[I") (List.mem_of_getElem? (i := 2) rfl)) (fun _ h9 => h9) rfl dX3_takenIn_21 ?_
            refine lv_iload hx hb dX3_takenIn_24 (lv_at hl 5 rfl) ?_
            refine z_ialdZ (f := Lby L) (z := i) hx hb hK hP 3 0 rfl rfl (by omega) (by decide) dX3_takenIn_26 ?_
            refine z_icge (a := ((q : Nat) : Int)) (b := ((Lby L i : Nat) : Int)) (tgt := 83) hx hb dX3_takenIn_27 (by decide) (by omega) (fun c_27 => ?_) (fun c_27 => ?_)
            · have hend : bq L pl i = q := by omega
              refine z_iinc (a := ((i : Nat) : Int)) (b := ((i + 1 : Nat) : Int)) (lv' := [(5, .int (iI ((i + 1 : Nat) : Int))), (0, .ref (a 0)), (1, .int (iI ((row : Nat) : Int))), (2, .int (iI ((kd : Nat) : Int))), (3, .int (iI ((t : Nat) : Int))), (4, .int (iI ((hqA L t tm pl (200 * kd + row) i + hqK L t tm i (200 * kd + row) q : Nat) : Int))), (6, .int (iI ((q : Nat) : Int)))]) hx hb 5 dX3_takenIn_83 hl rfl rfl (by decide) rfl (fun ls hl => ?_)
              refine lv_goto (tgt := 6) hx hb dX3_takenIn_86 (by decide) ?_
              exact ih6 (i + 1) _ _ _ (by omega) (by omega) hP hD hS (by rw [show hqA L t tm pl (200 * kd + row) (i + 1) = hqA L t tm pl (200 * kd + row) i + hqK L t tm i (200 * kd + row) q from by rw [hqA_s, hend]]; exact lv_sub hl [1, 2, 3, 4, 5, 0] rfl)
            · refine lv_aload_n hx hb dX3_takenIn_30 rfl (lv_at hl 0 rfl) ?_
              refine va_get (D := D) (ci := 3) (v := .ref (a 10)) (C := RX3) (T := TX3) (N := 16) hx hb hts hinX3 hown hK hP 0 rfl rfl 14 (by decide) (hts (.fieldLink RX3 37 "LoopSchedulerModel" "isPlaced" "[Z") (List.mem_of_getElem? (i := 3) rfl)) (fun _ h9 => h9) rfl dX3_takenIn_31 ?_
              refine lv_iload hx hb dX3_takenIn_34 (lv_at hl 5 rfl) ?_
              refine z_bald (f := pl) (z := i) hx hb hK hP 10 2 rfl rfl (by omega) (by decide) dX3_takenIn_36 ?_
              refine z_ifeq (a := (bI (pl i))) (tgt := 83) hx hb dX3_takenIn_37 (by decide) (bI_r _) (fun c_37 => ?_) (fun c_37 => ?_)
              · have b_37 := bI_f c_37
                have hend : bq L pl i = q := by have q9 := bq_f (L := L) b_37; omega
                refine z_iinc (a := ((i : Nat) : Int)) (b := ((i + 1 : Nat) : Int)) (lv' := [(5, .int (iI ((i + 1 : Nat) : Int))), (0, .ref (a 0)), (1, .int (iI ((row : Nat) : Int))), (2, .int (iI ((kd : Nat) : Int))), (3, .int (iI ((t : Nat) : Int))), (4, .int (iI ((hqA L t tm pl (200 * kd + row) i + hqK L t tm i (200 * kd + row) q : Nat) : Int))), (6, .int (iI ((q : Nat) : Int)))]) hx hb 5 dX3_takenIn_83 hl rfl rfl (by decide) rfl (fun ls hl => ?_)
                refine lv_goto (tgt := 6) hx hb dX3_takenIn_86 (by decide) ?_
                exact ih6 (i + 1) _ _ _ (by omega) (by omega) hP hD hS (by rw [show hqA L t tm pl (200 * kd + row) (i + 1) = hqA L t tm pl (200 * kd + row) i + hqK L t tm i (200 * kd + row) q from by rw [hqA_s, hend]]; exact lv_sub hl [1, 2, 3, 4, 5, 0] rfl)
              · have b_37 := bI_t c_37
                have hbt := bq_t (L := L) b_37
                have htmi := htm i hin b_37
                refine lv_aload_n hx hb dX3_takenIn_40 rfl (lv_at hl 0 rfl) ?_
                refine va_get (D := D) (ci := 3) (v := .ref (a 2)) (C := RX3) (T := TX3) (N := 16) hx hb hts hinX3 hown hK hP 0 rfl rfl 3 (by decide) (hts (.fieldLink RX3 13 "LoopSchedulerModel" "kinds" "[I") (List.mem_of_getElem? (i := 4) rfl)) (fun _ h9 => h9) rfl dX3_takenIn_41 ?_
                refine lv_iload hx hb dX3_takenIn_44 (lv_at hl 5 rfl) ?_
                refine z_ialdZ (f := Lkd L) (z := i) hx hb hK hP 2 0 rfl rfl (by omega) (by decide) dX3_takenIn_46 ?_
                refine lv_iload_n hx hb dX3_takenIn_47 rfl (lv_at hl 2 rfl) ?_
                refine z_icne (a := ((Lkd L i : Nat) : Int)) (b := ((kd : Nat) : Int)) (tgt := 83) hx hb dX3_takenIn_48 (by decide) (by omega) (fun c_48 => ?_) (fun c_48 => ?_)
                · have hz0 : ∀ k, hqK L t tm i (200 * kd + row) k = 0 := fun k => hqK_0 (by omega) (by omega) htt k
                  have hend : hqK L t tm i (200 * kd + row) (bq L pl i) = hqK L t tm i (200 * kd + row) q := by rw [hz0, hz0]
                  refine z_iinc (a := ((i : Nat) : Int)) (b := ((i + 1 : Nat) : Int)) (lv' := [(5, .int (iI ((i + 1 : Nat) : Int))), (0, .ref (a 0)), (1, .int (iI ((row : Nat) : Int))), (2, .int (iI ((kd : Nat) : Int))), (3, .int (iI ((t : Nat) : Int))), (4, .int (iI ((hqA L t tm pl (200 * kd + row) i + hqK L t tm i (200 * kd + row) q : Nat) : Int))), (6, .int (iI ((q : Nat) : Int)))]) hx hb 5 dX3_takenIn_83 hl rfl rfl (by decide) rfl (fun ls hl => ?_)
                  refine lv_goto (tgt := 6) hx hb dX3_takenIn_86 (by decide) ?_
                  exact ih6 (i + 1) _ _ _ (by omega) (by omega) hP hD hS (by rw [show hqA L t tm pl (200 * kd + row) (i + 1) = hqA L t tm pl (200 * kd + row) i + hqK L t tm i (200 * kd + row) q from by rw [hqA_s, hend]]; exact lv_sub hl [1, 2, 3, 4, 5, 0] rfl)
                · refine lv_iload hx hb dX3_takenIn_51 (lv_at hl 4 rfl) ?_
                  refine lv_aload_n hx hb dX3_takenIn_53 rfl (lv_at hl 0 rfl) ?_
                  refine va_get (D := D) (ci := 3) (v := .ref (a 8)) (C := RX3) (T := TX3) (N := 16) hx hb hts hinX3 hown hK hP 0 rfl rfl 11 (by decide) (hts (.fieldLink RX3 31 "LoopSchedulerModel" "times" "[I") (List.mem_of_getElem? (i := 5) rfl)) (fun _ h9 => h9) rfl dX3_takenIn_54 ?_
                  refine lv_iload hx hb dX3_takenIn_57 (lv_at hl 5 rfl) ?_
                  refine z_ialdZ (f := tm) (z := i) hx hb hK hP 8 0 rfl rfl (by omega) (by decide) dX3_takenIn_59 ?_
                  refine lv_iload hx hb dX3_takenIn_60 (lv_at hl 6 rfl) ?_
                  refine z_add (a := ((tm i : Nat) : Int)) (b := ((q : Nat) : Int)) hx hb dX3_takenIn_62 ?_
                  refine z_eqI (y := iI ((tm i + q : Nat) : Int)) (congrArg iI (by omega)) ?_
                  refine lv_iload_n hx hb dX3_takenIn_63 rfl (lv_at hl 3 rfl) ?_
                  refine z_rem (a := ((tm i + q : Nat) : Int)) (b := ((t : Nat) : Int)) hx hb (by omega) dX3_takenIn_64 ?_
                  refine z_eqI (y := iI (((tm i + q) % t : Nat) : Int)) (congrArg iI (Int.natCast_emod _ _).symm) ?_
                  refine lv_iload_n hx hb dX3_takenIn_65 rfl (lv_at hl 1 rfl) ?_
                  refine z_icne (a := (((tm i + q) % t : Nat) : Int)) (b := ((row : Nat) : Int)) (tgt := 73) hx hb dX3_takenIn_66 (by decide) (by omega) (fun c_66 => ?_) (fun c_66 => ?_)
                  · refine z_ic hx hb dX3_takenIn_73 ?_
                    refine z_add (a := ((hqA L t tm pl (200 * kd + row) i + hqK L t tm i (200 * kd + row) q : Nat) : Int)) (b := 0) hx hb dX3_takenIn_74 ?_
                    refine z_eqI (y := iI ((hqA L t tm pl (200 * kd + row) i + hqK L t tm i (200 * kd + row) (q + 1) : Nat) : Int)) (congrArg iI (by rw [show hqK L t tm i (200 * kd + row) (q + 1) = _ from if_neg (by omega)]; omega)) ?_
                    refine lv_istore (lv' := [(4, .int (iI ((hqA L t tm pl (200 * kd + row) i + hqK L t tm i (200 * kd + row) (q + 1) : Nat) : Int))), (0, .ref (a 0)), (1, .int (iI ((row : Nat) : Int))), (2, .int (iI ((kd : Nat) : Int))), (3, .int (iI ((t : Nat) : Int))), (5, .int (iI ((i : Nat) : Int))), (6, .int (iI ((q : Nat) : Int)))]) hx hb dX3_takenIn_75 hl (by decide) rfl (fun ls hl => ?_)
                    refine z_iinc (a := ((q : Nat) : Int)) (b := ((q + 1 : Nat) : Int)) (lv' := [(6, .int (iI ((q + 1 : Nat) : Int))), (4, .int (iI ((hqA L t tm pl (200 * kd + row) i + hqK L t tm i (200 * kd + row) (q + 1) : Nat) : Int))), (0, .ref (a 0)), (1, .int (iI ((row : Nat) : Int))), (2, .int (iI ((kd : Nat) : Int))), (3, .int (iI ((t : Nat) : Int))), (5, .int (iI ((i : Nat) : Int)))]) hx hb 6 dX3_takenIn_77 hl rfl rfl (by decide) rfl (fun ls hl => ?_)
                    refine lv_goto (tgt := 18) hx hb dX3_takenIn_80 (by decide) ?_
                    exact ih18 (q + 1) _ _ _ (by omega) (by omega) (by omega) hP hD hS (lv_sub hl [2, 3, 4, 5, 1, 6, 0] rfl)
                  · refine z_ic hx hb dX3_takenIn_69 ?_
                    refine lv_goto (tgt := 74) hx hb dX3_takenIn_70 (by decide) ?_
                    refine z_add (a := ((hqA L t tm pl (200 * kd + row) i + hqK L t tm i (200 * kd + row) q : Nat) : Int)) (b := 1) hx hb dX3_takenIn_74 ?_
                    refine z_eqI (y := iI ((hqA L t tm pl (200 * kd + row) i + hqK L t tm i (200 * kd + row) (q + 1) : Nat) : Int)) (congrArg iI (by rw [show hqK L t tm i (200 * kd + row) (q + 1) = _ from if_pos (by omega)]; omega)) ?_
                    refine lv_istore (lv' := [(4, .int (iI ((hqA L t tm pl (200 * kd + row) i + hqK L t tm i (200 * kd + row) (q + 1) : Nat) : Int))), (0, .ref (a 0)), (1, .int (iI ((row : Nat) : Int))), (2, .int (iI ((kd : Nat) : Int))), (3, .int (iI ((t : Nat) : Int))), (5, .int (iI ((i : Nat) : Int))), (6, .int (iI ((q : Nat) : Int)))]) hx hb dX3_takenIn_75 hl (by decide) rfl (fun ls hl => ?_)
                    refine z_iinc (a := ((q : Nat) : Int)) (b := ((q + 1 : Nat) : Int)) (lv' := [(6, .int (iI ((q + 1 : Nat) : Int))), (4, .int (iI ((hqA L t tm pl (200 * kd + row) i + hqK L t tm i (200 * kd + row) (q + 1) : Nat) : Int))), (0, .ref (a 0)), (1, .int (iI ((row : Nat) : Int))), (2, .int (iI ((kd : Nat) : Int))), (3, .int (iI ((t : Nat) : Int))), (5, .int (iI ((i : Nat) : Int)))]) hx hb 6 dX3_takenIn_77 hl rfl rfl (by decide) rfl (fun ls hl => ?_)
                    refine lv_goto (tgt := 18) hx hb dX3_takenIn_80 (by decide) ?_
                    exact ih18 (q + 1) _ _ _ (by omega) (by omega) (by omega) hP hD hS (lv_sub hl [2, 3, 4, 5, 1, 6, 0] rfl)
        exact loop18 ((Lby L i - 0) + 1) 0 _ _ _ (Nat.lt_succ_self _) (by omega) (by omega) hP hD hS (lv_sub hl [1, 2, 3, 4, 5, 6, 0] rfl)
  exact loop6 ((Ln L - 0) + 1) 0 _ _ _ (Nat.lt_succ_self _) (by omega) hP hD hS (lv_sub hl [2, 3, 4, 5, 1, 0] rfl)
set_option maxHeartbeats 4000000 in
set_option maxRecDepth 100000 in
theorem c_X3_taken (l : Launch) (D : va_G) (g : Nat → ClassId) (a : Nat → Nat) (th : Int) (L : LD) (att T : Nat) (hs : Nat → Int) (tm : Nat → Nat) (pl : Nat → Bool) (i k : Int) (hw : wf L) (hT2 : T ≤ 200) (hri : -2147483648 ≤ i ∧ i < 2147483648) (hrk : -2147483648 ≤ k ∧ k < 2147483648) (htm : ∀ j, j < Ln L → tm j ≤ 1000000) : zMi l D (zT g) yX3_taken wsX3_taken 2 38 (wM a g th L att T hs tm pl (fun _ => 0)) [.ref (a 0), .int (iI (i)), .int (iI (k))] (fun r w1 => (¬ (0 ≤ k ∧ k ≤ 2) ∧ w1 = wM a g 1 L att T hs tm pl (fun _ => 0)) ∨ ((0 ≤ k ∧ k ≤ 2) ∧ T = 0 ∧ w1 = wM a g 2 L att T hs tm pl (fun _ => 0)) ∨ ((0 ≤ k ∧ k ≤ 2) ∧ 0 < T ∧ ¬ (0 ≤ i ∧ i < (T : Int)) ∧ w1 = wM a g 3 L att T hs tm pl (fun _ => 0)) ∨ (((0 ≤ k ∧ k ≤ 2) ∧ 0 < T ∧ (0 ≤ i ∧ i < (T : Int))) ∧ r = iI ((hqA L T tm (fun _ => true) (200 * k.toNat + i.toNat) (Ln L) : Nat) : Int) ∧ ∃ pl', w1 = wM a g 0 L att T hs tm pl' (fun _ => 0))) := by
  refine z_ofI (cc := cX3_taken) (maxL := 4) (ret := (some .int)) (by decide) rfl (Nat.le_of_ble_eq_true rfl) ?_
  intro p e s m args below meth c A ls hx hb hr hts hown hlocks hml hP hK hD hS hA hl Q hQ
  have hown : s.vm.findClass RX3 = some m.cls := hown
  have hinX3 : ∀ w ∈ u_ws RX3 TX3 16, w ∈ wsX3_taken := by decide +kernel
  have hl : lv_has ls 4 [(0, .ref (a 0)), (1, .int (iI (i))), (2, .int (iI (k)))] := hl
  have hwn := wf_n hw
  refine lv_aload_n hx hb dX3_taken_0 rfl (lv_at hl 0 rfl) ?_
  refine lv_iload_n hx hb dX3_taken_1 rfl (lv_at hl 2 rfl) ?_
  refine z_ic hx hb dX3_taken_2 ?_
  refine z_ic hx hb dX3_taken_3 ?_
  refine z_calli (va_runS (As := [.int (iI (k)), .int (iI ((0 : Nat) : Int)), .int (iI ((2 : Nat) : Int))]) (rest := [.ref (a 0)]) ⟨hx, hb, hml, hown, hts⟩ (c_X3_isIn l D g a th L att T hs tm pl k 0 2 (by omega) (by omega) (by omega) _) (va_cwS 3 hts gX3_taken_X3_isIn rfl rfl rfl (by decide +kernel) ⟨Nat.le_of_ble_eq_true rfl, Nat.le_of_ble_eq_true rfl⟩) (z_preS hK hP hD) rfl rfl hl.1 rfl (lv_room (Nat.le_of_ble_eq_true rfl)) dX3_taken_4 ⟨Nat.zero_le _, Nat.zero_le _⟩) hS hD hA (fun r w1 H locs hw1 hP hD hS => ?_)
  obtain ⟨rfl, rfl⟩ := hw1
  refine z_ifne (a := (bI (decide (0 ≤ k ∧ k ≤ 2)))) (tgt := 14) hx hb dX3_taken_7 (by decide) (bI_r _) (fun c_7 => ?_) (fun c_7 => ?_)
  · have d_7 := of_decide_eq_true (bI_t c_7)
    refine lv_aload_n hx hb dX3_taken_14 rfl (lv_at hl 0 rfl) ?_
    refine va_get (D := D) (ci := 3) (v := .int (iI ((T : Nat) : Int))) (C := RX3) (T := TX3) (N := 16) hx hb hts hinX3 hown hK hP 0 rfl rfl 10 (by decide) (hts (.fieldLink RX3 59 "LoopSchedulerModel" "interval" "I") (List.mem_of_getElem? (i := 1) rfl)) (fun _ h9 => h9) rfl dX3_taken_15 ?_
    refine z_ifne (a := ((T : Nat) : Int)) (tgt := 25) hx hb dX3_taken_18 (by decide) (by omega) (fun c_18 => ?_) (fun c_18 => ?_)
    · refine lv_iload_n hx hb dX3_taken_25 rfl (lv_at hl 1 rfl) ?_
      refine z_ic hx hb dX3_taken_26 ?_
      refine lv_aload_n hx hb dX3_taken_27 rfl (lv_at hl 0 rfl) ?_
      refine va_get (D := D) (ci := 3) (v := .int (iI ((T : Nat) : Int))) (C := RX3) (T := TX3) (N := 16) hx hb hts hinX3 hown hK hP 0 rfl rfl 10 (by decide) (hts (.fieldLink RX3 59 "LoopSchedulerModel" "interval" "I") (List.mem_of_getElem? (i := 1) rfl)) (fun _ h9 => h9) rfl dX3_taken_28 ?_
      refine z_ic hx hb dX3_taken_31 ?_
      refine z_sub (a := ((T : Nat) : Int)) (b := 1) hx hb dX3_taken_32 ?_
      refine z_calli (va_runS (As := [.int (iI (i)), .int (iI ((0 : Nat) : Int)), .int (iI (((T : Nat) : Int) - 1))]) (rest := [.ref (a 0)]) ⟨hx, hb, hml, hown, hts⟩ (c_X3_isIn l D g a th L att T hs tm pl i 0 (((T : Nat) : Int) - 1) (by omega) (by omega) (by omega) _) (va_cwS 3 hts gX3_taken_X3_isIn rfl rfl rfl (by decide +kernel) ⟨Nat.le_of_ble_eq_true rfl, Nat.le_of_ble_eq_true rfl⟩) (z_preS hK hP hD) rfl rfl hl.1 rfl (lv_room (Nat.le_of_ble_eq_true rfl)) dX3_taken_33 ⟨Nat.zero_le _, Nat.zero_le _⟩) hS hD hA (fun r w1 H locs hw1 hP hD hS => ?_)
      obtain ⟨rfl, rfl⟩ := hw1
      refine z_ifne (a := (bI (decide (0 ≤ i ∧ i ≤ (((T : Nat) : Int) - 1))))) (tgt := 43) hx hb dX3_taken_36 (by decide) (bI_r _) (fun c_36 => ?_) (fun c_36 => ?_)
      · have d_36 := of_decide_eq_true (bI_t c_36)
        refine z_ic hx hb dX3_taken_43 ?_
        refine va_put (D := D) (ci := 3) (v := .int (iI ((0 : Nat) : Int))) (ty := .int) (C := RX3) (T := TX3) (N := 16) hx hb hts hinX3 tyX3 tyX3_ok nmX3 hown hK hP hD hS 0 rfl rfl 0 (by decide) (hts (.fieldLink RX3 44 "LoopSchedulerModel" "thrown" "I") (List.mem_of_getElem? (i := 2) rfl)) (fun _ h9 => h9) rfl (by decide +kernel) rfl rfl (Nat.le_of_ble_eq_true rfl) dX3_taken_44 (fun H locs hP hD hS => ?_)
        have hP : va_P D vwCl (wM a g 0 L att T hs tm pl (fun _ => 0)) H := hP
        have hD : va_D A (wM a g 0 L att T hs tm pl (fun _ => 0)) := hD
        refine lv_aload_n hx hb dX3_taken_47 rfl (lv_at hl 0 rfl) ?_
        refine va_get (D := D) (ci := 3) (v := .int (iI (0))) (C := RX3) (T := TX3) (N := 16) hx hb hts hinX3 hown hK hP 0 rfl rfl 0 (by decide) (hts (.fieldLink RX3 44 "LoopSchedulerModel" "thrown" "I") (List.mem_of_getElem? (i := 2) rfl)) (fun _ h9 => h9) rfl dX3_taken_48 ?_
        refine z_ifle (a := 0) (tgt := 56) hx hb dX3_taken_51 (by decide) (by omega) (fun c_51 => ?_) (fun c_51 => ?_)
        · obtain ⟨j, rfl⟩ : ∃ j : Nat, i = (j : Int) := ⟨i.toNat, by omega⟩
          obtain ⟨x, rfl⟩ : ∃ x : Nat, k = (x : Int) := ⟨k.toNat, by omega⟩
          refine z_ic hx hb dX3_taken_56 ?_
          refine lv_istore_n (lv' := [(3, .int (iI ((0 : Nat) : Int))), (0, .ref (a 0)), (1, .int (iI ((j : Nat) : Int))), (2, .int (iI ((x : Nat) : Int)))]) hx hb dX3_taken_57 rfl hl (by decide) rfl (fun ls hl => ?_)
          have loop58 : ∀ (n58 : Nat) (q : Nat) (pl' : Nat → Bool) (H : Heap) (locs : List Loc) (ls : Array Slot), Ln L - q < n58 → (q ≤ Ln L) → (∀ j, j < q → pl' j = true) → va_P D vwCl (wM a g 0 L att T hs tm pl' (fun _ => 0)) H → va_D A (wM a g 0 L att T hs tm pl' (fun _ => 0)) → va_S A s.heap H locs → lv_has ls 4 [(0, .ref (a 0)), (1, .int (iI ((j : Nat) : Int))), (2, .int (iI ((x : Nat) : Int))), (3, .int (iI ((q : Nat) : Int)))] → W p l e ({ frames := 2, cells := 0, slots := 0, locals := 38 } : Room) s m args below meth c H locs 0 0 Q (F0 m 58 ls []) := by
            intro n58
            induction n58 with
            | zero => exact fun _ _ H locs ls hn => absurd hn (Nat.not_lt_zero _)
            | succ n58 ih58 =>
              intro q pl' H locs ls hn58 hq hp hP hD hS hl
              refine lv_iload_n hx hb dX3_taken_58 rfl (lv_at hl 3 rfl) ?_
              refine lv_aload_n hx hb dX3_taken_59 rfl (lv_at hl 0 rfl) ?_
              refine va_get (D := D) (ci := 3) (v := .int (iI ((Ln L : Nat) : Int))) (C := RX3) (T := TX3) (N := 16) hx hb hts hinX3 hown hK hP 0 rfl rfl 2 (by decide) (hts (.fieldLink RX3 48 "LoopSchedulerModel" "operations" "I") (List.mem_of_getElem? (i := 3) rfl)) (fun _ h9 => h9) rfl dX3_taken_60 ?_
              refine z_icge (a := ((q : Nat) : Int)) (b := ((Ln L : Nat) : Int)) (tgt := 79) hx hb dX3_taken_63 (by decide) (by omega) (fun c_63 => ?_) (fun c_63 => ?_)
              · obtain rfl : q = Ln L := by omega
                refine lv_aload_n hx hb dX3_taken_79 rfl (lv_at hl 0 rfl) ?_
                refine lv_iload_n hx hb dX3_taken_80 rfl (lv_at hl 1 rfl) ?_
                refine lv_iload_n hx hb dX3_taken_81 rfl (lv_at hl 2 rfl) ?_
                refine lv_aload_n hx hb dX3_taken_82 rfl (lv_at hl 0 rfl) ?_
                refine va_get (D := D) (ci := 3) (v := .int (iI ((T : Nat) : Int))) (C := RX3) (T := TX3) (N := 16) hx hb hts hinX3 hown hK hP 0 rfl rfl 10 (by decide) (hts (.fieldLink RX3 59 "LoopSchedulerModel" "interval" "I") (List.mem_of_getElem? (i := 1) rfl)) (fun _ h9 => h9) rfl dX3_taken_83 ?_
                refine z_calli (va_runV (As := [.int (iI ((j : Nat) : Int)), .int (iI ((x : Nat) : Int)), .int (iI ((T : Nat) : Int))]) (rest := []) ⟨hx, hb, hml, hown, hts⟩ (c_X3_takenIn l D g a 0 L att T hs tm pl' j x T hw (by omega) (by omega) (by omega) (fun y hy _ => htm y hy) _) (cwV 3 hts gX3_taken_X3_takenIn rfl rfl rfl (by decide +kernel) ⟨Nat.le_of_ble_eq_true rfl, Nat.le_of_ble_eq_true rfl⟩) (z_preV 0 hK hP hD rfl rfl) rfl rfl hl.1 rfl (lv_room (Nat.le_of_ble_eq_true rfl)) dX3_taken_86 ⟨Nat.zero_le _, Nat.zero_le _⟩) hS hD hA (fun r w1 H locs hw1 hP hD hS => ?_)
                obtain ⟨rfl, rfl⟩ := hw1
                exact z_iret (w := (wM a g 0 L att T hs tm pl' (fun _ => 0))) (v := (iI ((hqA L T tm pl' (200 * x + j) (Ln L) : Nat) : Int))) hQ hx hb hr hlocks (Or.inr (Or.inr (Or.inr ⟨by omega, by rw [hqA_congr (Ln L) hp]; rfl, _, rfl⟩))) hK hP hD hS dX3_taken_89
              · refine lv_aload_n hx hb dX3_taken_66 rfl (lv_at hl 0 rfl) ?_
                refine va_get (D := D) (ci := 3) (v := .ref (a 10)) (C := RX3) (T := TX3) (N := 16) hx hb hts hinX3 hown hK hP 0 rfl rfl 14 (by decide) (hts (.fieldLink RX3 37 "LoopSchedulerModel" "isPlaced" "[Z") (List.mem_of_getElem? (i := 4) rfl)) (fun _ h9 => h9) rfl dX3_taken_67 ?_
                refine lv_iload_n hx hb dX3_taken_70 rfl (lv_at hl 3 rfl) ?_
                refine z_ic hx hb dX3_taken_71 ?_
                refine z_bast (f := pl') (z := q) hx hb hK hP hD hS 10 2 rfl rfl true (by omega) (by decide) dX3_taken_72 (fun H locs hP hD hS => ?_)
                have hP : va_P D vwCl (wM a g 0 L att T hs tm (upB pl' q true) (fun _ => 0)) H := hP
                have hD : va_D A (wM a g 0 L att T hs tm (upB pl' q true) (fun _ => 0)) := hD
                refine z_iinc (a := ((q : Nat) : Int)) (b := ((q + 1 : Nat) : Int)) (lv' := [(3, .int (iI ((q + 1 : Nat) : Int))), (0, .ref (a 0)), (1, .int (iI ((j : Nat) : Int))), (2, .int (iI ((x : Nat) : Int)))]) hx hb 3 dX3_taken_73 hl rfl rfl (by decide) rfl (fun ls hl => ?_)
                refine lv_goto (tgt := 58) hx hb dX3_taken_76 (by decide) ?_
                exact ih58 (q + 1) (upB pl' q true) _ _ _ (by omega) (by omega) (fun y h => by by_cases e : y = q; rw [e, upB_s]; rw [upB_n _ _ e]; exact hp y (by omega)) hP hD hS (lv_sub hl [1, 2, 3, 0] rfl)
          exact loop58 ((Ln L - 0) + 1) 0 pl _ _ _ (Nat.lt_succ_self _) (by omega) (fun j h => absurd h (Nat.not_lt_zero j)) hP hD hS (lv_sub hl [1, 2, 3, 0] rfl)
        · exact absurd c_51 (by decide)
      · have d_36 := of_decide_eq_false (bI_f c_36)
        refine z_ic hx hb dX3_taken_39 ?_
        refine lv_goto (tgt := 44) hx hb dX3_taken_40 (by decide) ?_
        refine va_put (D := D) (ci := 3) (v := .int (iI ((3 : Nat) : Int))) (ty := .int) (C := RX3) (T := TX3) (N := 16) hx hb hts hinX3 tyX3 tyX3_ok nmX3 hown hK hP hD hS 0 rfl rfl 0 (by decide) (hts (.fieldLink RX3 44 "LoopSchedulerModel" "thrown" "I") (List.mem_of_getElem? (i := 2) rfl)) (fun _ h9 => h9) rfl (by decide +kernel) rfl rfl (Nat.le_of_ble_eq_true rfl) dX3_taken_44 (fun H locs hP hD hS => ?_)
        have hP : va_P D vwCl (wM a g 3 L att T hs tm pl (fun _ => 0)) H := hP
        have hD : va_D A (wM a g 3 L att T hs tm pl (fun _ => 0)) := hD
        refine lv_aload_n hx hb dX3_taken_47 rfl (lv_at hl 0 rfl) ?_
        refine va_get (D := D) (ci := 3) (v := .int (iI (3))) (C := RX3) (T := TX3) (N := 16) hx hb hts hinX3 hown hK hP 0 rfl rfl 0 (by decide) (hts (.fieldLink RX3 44 "LoopSchedulerModel" "thrown" "I") (List.mem_of_getElem? (i := 2) rfl)) (fun _ h9 => h9) rfl dX3_taken_48 ?_
        refine z_ifle (a := 3) (tgt := 56) hx hb dX3_taken_51 (by decide) (by omega) (fun c_51 => ?_) (fun c_51 => ?_)
        · exact absurd c_51 (by decide)
        · refine z_ic hx hb dX3_taken_54 ?_
          exact z_iret (w := (wM a g 3 L att T hs tm pl (fun _ => 0))) (v := (iI ((0 : Nat) : Int))) hQ hx hb hr hlocks (Or.inr (Or.inr (Or.inl ⟨by omega, by omega, by omega, rfl⟩))) hK hP hD hS dX3_taken_55
    · refine z_ic hx hb dX3_taken_21 ?_
      refine lv_goto (tgt := 44) hx hb dX3_taken_22 (by decide) ?_
      refine va_put (D := D) (ci := 3) (v := .int (iI ((2 : Nat) : Int))) (ty := .int) (C := RX3) (T := TX3) (N := 16) hx hb hts hinX3 tyX3 tyX3_ok nmX3 hown hK hP hD hS 0 rfl rfl 0 (by decide) (hts (.fieldLink RX3 44 "LoopSchedulerModel" "thrown" "I") (List.mem_of_getElem? (i := 2) rfl)) (fun _ h9 => h9) rfl (by decide +kernel) rfl rfl (Nat.le_of_ble_eq_true rfl) dX3_taken_44 (fun H locs hP hD hS => ?_)
      have hP : va_P D vwCl (wM a g 2 L att T hs tm pl (fun _ => 0)) H := hP
      have hD : va_D A (wM a g 2 L att T hs tm pl (fun _ => 0)) := hD
      refine lv_aload_n hx hb dX3_taken_47 rfl (lv_at hl 0 rfl) ?_
      refine va_get (D := D) (ci := 3) (v := .int (iI (2))) (C := RX3) (T := TX3) (N := 16) hx hb hts hinX3 hown hK hP 0 rfl rfl 0 (by decide) (hts (.fieldLink RX3 44 "LoopSchedulerModel" "thrown" "I") (List.mem_of_getElem? (i := 2) rfl)) (fun _ h9 => h9) rfl dX3_taken_48 ?_
      refine z_ifle (a := 2) (tgt := 56) hx hb dX3_taken_51 (by decide) (by omega) (fun c_51 => ?_) (fun c_51 => ?_)
      · exact absurd c_51 (by decide)
      · refine z_ic hx hb dX3_taken_54 ?_
        exact z_iret (w := (wM a g 2 L att T hs tm pl (fun _ => 0))) (v := (iI ((0 : Nat) : Int))) hQ hx hb hr hlocks (Or.inr (Or.inl ⟨by omega, by omega, rfl⟩)) hK hP hD hS dX3_taken_55
  · have d_7 := of_decide_eq_false (bI_f c_7)
    refine z_ic hx hb dX3_taken_10 ?_
    refine lv_goto (tgt := 44) hx hb dX3_taken_11 (by decide) ?_
    refine va_put (D := D) (ci := 3) (v := .int (iI ((1 : Nat) : Int))) (ty := .int) (C := RX3) (T := TX3) (N := 16) hx hb hts hinX3 tyX3 tyX3_ok nmX3 hown hK hP hD hS 0 rfl rfl 0 (by decide) (hts (.fieldLink RX3 44 "LoopSchedulerModel" "thrown" "I") (List.mem_of_getElem? (i := 2) rfl)) (fun _ h9 => h9) rfl (by decide +kernel) rfl rfl (Nat.le_of_ble_eq_true rfl) dX3_taken_44 (fun H locs hP hD hS => ?_)
    have hP : va_P D vwCl (wM a g 1 L att T hs tm pl (fun _ => 0)) H := hP
    have hD : va_D A (wM a g 1 L att T hs tm pl (fun _ => 0)) := hD
    refine lv_aload_n hx hb dX3_taken_47 rfl (lv_at hl 0 rfl) ?_
    refine va_get (D := D) (ci := 3) (v := .int (iI (1))) (C := RX3) (T := TX3) (N := 16) hx hb hts hinX3 hown hK hP 0 rfl rfl 0 (by decide) (hts (.fieldLink RX3 44 "LoopSchedulerModel" "thrown" "I") (List.mem_of_getElem? (i := 2) rfl)) (fun _ h9 => h9) rfl dX3_taken_48 ?_
    refine z_ifle (a := 1) (tgt := 56) hx hb dX3_taken_51 (by decide) (by omega) (fun c_51 => ?_) (fun c_51 => ?_)
    · exact absurd c_51 (by decide)
    · refine z_ic hx hb dX3_taken_54 ?_
      exact z_iret (w := (wM a g 1 L att T hs tm pl (fun _ => 0))) (v := (iI ((0 : Nat) : Int))) hQ hx hb hr hlocks (Or.inl ⟨by omega, rfl⟩) hK hP hD hS dX3_taken_55
set_option maxHeartbeats 4000000 in
set_option maxRecDepth 100000 in
theorem c_X3_lifeOf (l : Launch) (D : va_G) (g : Nat → ClassId) (a : Nat → Nat) (th : Int) (L : LD) (att T : Nat) (hs : Nat → Int) (tm : Nat → Nat) (pl : Nat → Bool) (i : Nat) (hw : wf L) (hT2 : T ≤ 200) (htm : ∀ j, j < Ln L → tm j ≤ 1000000) (hi : i < Ln L) : zMi l D (zT g) yX3_lifeOf wsX3_lifeOf 1 13 (wM a g th L att T hs tm pl (fun _ => 0)) [.ref (a 0), .int (iI ((i : Nat) : Int))] (fun r w1 => r = iI (lf L T (nZ tm) i) ∧ w1 = wM a g th L att T hs tm pl (fun _ => 0)) := by
  refine z_ofI (cc := cX3_lifeOf) (maxL := 4) (ret := (some .int)) (by decide) rfl (Nat.le_of_ble_eq_true rfl) ?_
  intro p e s m args below meth c A ls hx hb hr hts hown hlocks hml hP hK hD hS hA hl Q hQ
  have hown : s.vm.findClass RX3 = some m.cls := hown
  have hinX3 : ∀ w ∈ u_ws RX3 TX3 16, w ∈ wsX3_lifeOf := by decide +kernel
  have hl : lv_has ls 4 [(0, .ref (a 0)), (1, .int (iI ((i : Nat) : Int)))] := hl
  have hwn := wf_n hw
  have hti := htm i hi
  refine lv_aload_n hx hb dX3_lifeOf_0 rfl (lv_at hl 0 rfl) ?_
  refine va_get (D := D) (ci := 3) (v := .ref (a 8)) (C := RX3) (T := TX3) (N := 16) hx hb hts hinX3 hown hK hP 0 rfl rfl 11 (by decide) (hts (.fieldLink RX3 31 "LoopSchedulerModel" "times" "[I") (List.mem_of_getElem? (i := 1) rfl)) (fun _ h9 => h9) rfl dX3_lifeOf_1 ?_
  refine lv_iload_n hx hb dX3_lifeOf_4 rfl (lv_at hl 1 rfl) ?_
  refine z_ialdZ (f := tm) (z := i) hx hb hK hP 8 0 rfl rfl (by omega) (by decide) dX3_lifeOf_5 ?_
  refine lv_istore_n (lv' := [(2, .int (iI ((tm i : Nat) : Int))), (0, .ref (a 0)), (1, .int (iI ((i : Nat) : Int)))]) hx hb dX3_lifeOf_6 rfl hl (by decide) rfl (fun ls hl => ?_)
  refine z_ic hx hb dX3_lifeOf_7 ?_
  refine lv_istore_n (lv' := [(3, .int (iI ((0 : Nat) : Int))), (2, .int (iI ((tm i : Nat) : Int))), (0, .ref (a 0)), (1, .int (iI ((i : Nat) : Int)))]) hx hb dX3_lifeOf_8 rfl hl (by decide) rfl (fun ls hl => ?_)
  have loop9 : ∀ (n9 : Nat) (k : Nat) (H : Heap) (locs : List Loc) (ls : Array Slot), Lm L - k < n9 → (k ≤ Lm L) → va_P D vwCl (wM a g th L att T hs tm pl (fun _ => 0)) H → va_D A (wM a g th L att T hs tm pl (fun _ => 0)) → va_S A s.heap H locs → lv_has ls 4 [(0, .ref (a 0)), (1, .int (iI ((i : Nat) : Int))), (2, .int (iI (leA L T (nZ tm) i k))), (3, .int (iI ((k : Nat) : Int)))] → W p l e ({ frames := 1, cells := 0, slots := 0, locals := 13 } : Room) s m args below meth c H locs 0 0 Q (F0 m 9 ls []) := by
    intro n9
    induction n9 with
    | zero => exact fun _ H locs ls hn => absurd hn (Nat.not_lt_zero _)
    | succ n9 ih9 =>
      intro k H locs ls hn9 hk hP hD hS hl
      have hwm := wf_m hw
      have hsd := wf_sd hw k
      have hmn := mul_nn T (Ldi L k)
      have hmb := mul_bd hT2 (wf_di hw k)
      have hlb := leAn_bd hw hT2 htm hi k hk
      refine lv_iload_n hx hb dX3_lifeOf_9 rfl (lv_at hl 3 rfl) ?_
      refine lv_aload_n hx hb dX3_lifeOf_10 rfl (lv_at hl 0 rfl) ?_
      refine va_get (D := D) (ci := 3) (v := .int (iI ((Lm L : Nat) : Int))) (C := RX3) (T := TX3) (N := 16) hx hb hts hinX3 hown hK hP 0 rfl rfl 5 (by decide) (hts (.fieldLink RX3 66 "LoopSchedulerModel" "dependences" "I") (List.mem_of_getElem? (i := 2) rfl)) (fun _ h9 => h9) rfl dX3_lifeOf_11 ?_
      refine z_icge (a := ((k : Nat) : Int)) (b := ((Lm L : Nat) : Int)) (tgt := 61) hx hb dX3_lifeOf_14 (by decide) (by omega) (fun c_14 => ?_) (fun c_14 => ?_)
      · obtain rfl : k = Lm L := by omega
        refine lv_iload_n hx hb dX3_lifeOf_61 rfl (lv_at hl 2 rfl) ?_
        refine lv_aload_n hx hb dX3_lifeOf_62 rfl (lv_at hl 0 rfl) ?_
        refine va_get (D := D) (ci := 3) (v := .ref (a 8)) (C := RX3) (T := TX3) (N := 16) hx hb hts hinX3 hown hK hP 0 rfl rfl 11 (by decide) (hts (.fieldLink RX3 31 "LoopSchedulerModel" "times" "[I") (List.mem_of_getElem? (i := 1) rfl)) (fun _ h9 => h9) rfl dX3_lifeOf_63 ?_
        refine lv_iload_n hx hb dX3_lifeOf_66 rfl (lv_at hl 1 rfl) ?_
        refine z_ialdZ (f := tm) (z := i) hx hb hK hP 8 0 rfl rfl (by omega) (by decide) dX3_lifeOf_67 ?_
        refine z_sub (a := (leA L T (nZ tm) i (Lm L))) (b := ((tm i : Nat) : Int)) hx hb dX3_lifeOf_68 ?_
        exact z_iret (w := (wM a g th L att T hs tm pl (fun _ => 0))) (v := (iI ((leA L T (nZ tm) i (Lm L)) - ((tm i : Nat) : Int)))) hQ hx hb hr hlocks ⟨rfl, rfl⟩ hK hP hD hS dX3_lifeOf_69
      · have hed := wf_ed hw k (by omega)
        have htd := htm _ hed.2
        refine lv_aload_n hx hb dX3_lifeOf_17 rfl (lv_at hl 0 rfl) ?_
        refine va_get (D := D) (ci := 3) (v := .ref (a 4)) (C := RX3) (T := TX3) (N := 16) hx hb hts hinX3 hown hK hP 0 rfl rfl 6 (by decide) (hts (.fieldLink RX3 19 "LoopSchedulerModel" "froms" "[I") (List.mem_of_getElem? (i := 3) rfl)) (fun _ h9 => h9) rfl dX3_lifeOf_18 ?_
        refine lv_iload_n hx hb dX3_lifeOf_21 rfl (lv_at hl 3 rfl) ?_
        refine z_ialdZ (f := Lsr L) (z := k) hx hb hK hP 4 0 rfl rfl (by omega) (by decide) dX3_lifeOf_22 ?_
        refine lv_iload_n hx hb dX3_lifeOf_23 rfl (lv_at hl 1 rfl) ?_
        refine z_icne (a := ((Lsr L k : Nat) : Int)) (b := ((i : Nat) : Int)) (tgt := 55) hx hb dX3_lifeOf_24 (by decide) (by omega) (fun c_24 => ?_) (fun c_24 => ?_)
        · refine z_iinc (a := ((k : Nat) : Int)) (b := ((k + 1 : Nat) : Int)) (lv' := [(3, .int (iI ((k + 1 : Nat) : Int))), (0, .ref (a 0)), (1, .int (iI ((i : Nat) : Int))), (2, .int (iI (leA L T (nZ tm) i k)))]) hx hb 3 dX3_lifeOf_55 hl rfl rfl (by decide) rfl (fun ls hl => ?_)
          refine lv_goto (tgt := 9) hx hb dX3_lifeOf_58 (by decide) ?_
          exact ih9 (k + 1) _ _ _ (by omega) (by omega) hP hD hS (by rw [show leA L T (nZ tm) i (k + 1) = _ from leA_f (by omega)]; exact lv_sub hl [1, 2, 3, 0] rfl)
        · refine lv_iload_n hx hb dX3_lifeOf_27 rfl (lv_at hl 2 rfl) ?_
          refine lv_aload_n hx hb dX3_lifeOf_28 rfl (lv_at hl 0 rfl) ?_
          refine va_get (D := D) (ci := 3) (v := .ref (a 8)) (C := RX3) (T := TX3) (N := 16) hx hb hts hinX3 hown hK hP 0 rfl rfl 11 (by decide) (hts (.fieldLink RX3 31 "LoopSchedulerModel" "times" "[I") (List.mem_of_getElem? (i := 1) rfl)) (fun _ h9 => h9) rfl dX3_lifeOf_29 ?_
          refine lv_aload_n hx hb dX3_lifeOf_32 rfl (lv_at hl 0 rfl) ?_
          refine va_get (D := D) (ci := 3) (v := .ref (a 5)) (C := RX3) (T := TX3) (N := 16) hx hb hts hinX3 hown hK hP 0 rfl rfl 7 (by decide) (hts (.fieldLink RX3 22 "LoopSchedulerModel" "tos" "[I") (List.mem_of_getElem? (i := 4) rfl)) (fun _ h9 => h9) rfl dX3_lifeOf_33 ?_
          refine lv_iload_n hx hb dX3_lifeOf_36 rfl (lv_at hl 3 rfl) ?_
          refine z_ialdZ (f := Lds L) (z := k) hx hb hK hP 5 0 rfl rfl (by omega) (by decide) dX3_lifeOf_37 ?_
          refine z_ialdZ (f := tm) (z := Lds L k) hx hb hK hP 8 0 rfl rfl (by omega) (by decide) dX3_lifeOf_38 ?_
          refine lv_aload_n hx hb dX3_lifeOf_39 rfl (lv_at hl 0 rfl) ?_
          refine va_get (D := D) (ci := 3) (v := .int (iI ((T : Nat) : Int))) (C := RX3) (T := TX3) (N := 16) hx hb hts hinX3 hown hK hP 0 rfl rfl 10 (by decide) (hts (.fieldLink RX3 59 "LoopSchedulerModel" "interval" "I") (List.mem_of_getElem? (i := 5) rfl)) (fun _ h9 => h9) rfl dX3_lifeOf_40 ?_
          refine lv_aload_n hx hb dX3_lifeOf_43 rfl (lv_at hl 0 rfl) ?_
          refine va_get (D := D) (ci := 3) (v := .ref (a 7)) (C := RX3) (T := TX3) (N := 16) hx hb hts hinX3 hown hK hP 0 rfl rfl 9 (by decide) (hts (.fieldLink RX3 28 "LoopSchedulerModel" "distances" "[I") (List.mem_of_getElem? (i := 6) rfl)) (fun _ h9 => h9) rfl dX3_lifeOf_44 ?_
          refine lv_iload_n hx hb dX3_lifeOf_47 rfl (lv_at hl 3 rfl) ?_
          refine z_ialdZ (f := Ldi L) (z := k) hx hb hK hP 7 0 rfl rfl (by omega) (by decide) dX3_lifeOf_48 ?_
          refine z_mul (a := ((T : Nat) : Int)) (b := ((Ldi L k : Nat) : Int)) hx hb dX3_lifeOf_49 ?_
          refine z_add (a := ((tm (Lds L k) : Nat) : Int)) (b := (((T : Nat) : Int) * ((Ldi L k : Nat) : Int))) hx hb dX3_lifeOf_50 ?_
          refine z_mmax (a := (leA L T (nZ tm) i k)) (b := (((tm (Lds L k) : Nat) : Int) + (((T : Nat) : Int) * ((Ldi L k : Nat) : Int)))) hx hb hml hl.1 hown (hts (.methodLink RX3 97 Lib.Math.max.name) (List.mem_of_getElem? (i := 7) rfl)) (hts (.static Lib.Math.max.name) (List.mem_of_getElem? (i := 8) rfl)) (hts (.initialized "java/lang/Math") (List.mem_of_getElem? (i := 9) rfl)) (hts (.code Lib.Math.max.name Lib.Math.max.code 2 (some .int)) (List.mem_of_getElem? (i := 10) rfl)) (Nat.le_of_ble_eq_true rfl) (Nat.le_of_ble_eq_true rfl) (Nat.zero_le _) (Nat.zero_le _) (by omega) dX3_lifeOf_51 ?_
          refine lv_istore_n (lv' := [(2, .int (iI (max (leA L T (nZ tm) i k) (((tm (Lds L k) : Nat) : Int) + (((T : Nat) : Int) * ((Ldi L k : Nat) : Int)))))), (0, .ref (a 0)), (1, .int (iI ((i : Nat) : Int))), (3, .int (iI ((k : Nat) : Int)))]) hx hb dX3_lifeOf_54 rfl hl (by decide) rfl (fun ls hl => ?_)
          refine z_iinc (a := ((k : Nat) : Int)) (b := ((k + 1 : Nat) : Int)) (lv' := [(3, .int (iI ((k + 1 : Nat) : Int))), (2, .int (iI (max (leA L T (nZ tm) i k) (((tm (Lds L k) : Nat) : Int) + (((T : Nat) : Int) * ((Ldi L k : Nat) : Int)))))), (0, .ref (a 0)), (1, .int (iI ((i : Nat) : Int)))]) hx hb 3 dX3_lifeOf_55 hl rfl rfl (by decide) rfl (fun ls hl => ?_)
          refine lv_goto (tgt := 9) hx hb dX3_lifeOf_58 (by decide) ?_
          exact ih9 (k + 1) _ _ _ (by omega) (by omega) hP hD hS (by rw [show leA L T (nZ tm) i (k + 1) = _ from leA_t (by omega)]; exact lv_sub hl [2, 3, 1, 0] rfl)
  exact loop9 ((Lm L - 0) + 1) 0 _ _ _ (Nat.lt_succ_self _) (by omega) hP hD hS (lv_sub hl [2, 3, 1, 0] rfl)
set_option maxHeartbeats 4000000 in
set_option maxRecDepth 100000 in
theorem c_X3_lifetime (l : Launch) (D : va_G) (g : Nat → ClassId) (a : Nat → Nat) (th : Int) (L : LD) (att T : Nat) (hs : Nat → Int) (tm : Nat → Nat) (pl : Nat → Bool) (i : Int) (hw : wf L) (hT2 : T ≤ 200) (hri : -2147483648 ≤ i ∧ i < 2147483648) (htm : ∀ j, j < Ln L → tm j ≤ 1000000) : zMi l D (zT g) yX3_lifetime wsX3_lifetime 4 76 (wM a g th L att T hs tm pl (fun _ => 0)) [.ref (a 0), .int (iI (i))] (fun r w1 => ((¬ (0 ≤ i ∧ i < (Ln L : Int))) ∧ w1 = wM a g 1 L att T hs tm pl (fun _ => 0)) ∨ (((0 ≤ i ∧ i < (Ln L : Int)) ∧ T = 0) ∧ w1 = wM a g 2 L att T hs tm pl (fun _ => 0)) ∨ (((0 ≤ i ∧ i < (Ln L : Int)) ∧ 0 < T) ∧ r = iI (lf L T (nZ tm) i.toNat) ∧ w1 = wM a g 0 L att T hs tm pl (fun _ => 0))) := by
  refine z_ofI (cc := cX3_lifetime) (maxL := 2) (ret := (some .int)) (by decide) rfl (Nat.le_of_ble_eq_true rfl) ?_
  intro p e s m args below meth c A ls hx hb hr hts hown hlocks hml hP hK hD hS hA hl Q hQ
  have hown : s.vm.findClass RX3 = some m.cls := hown
  have hinX3 : ∀ w ∈ u_ws RX3 TX3 16, w ∈ wsX3_lifetime := by decide +kernel
  have hl : lv_has ls 2 [(0, .ref (a 0)), (1, .int (iI (i)))] := hl
  have hwn := wf_n hw
  refine lv_aload_n hx hb dX3_lifetime_0 rfl (lv_at hl 0 rfl) ?_
  refine lv_iload_n hx hb dX3_lifetime_1 rfl (lv_at hl 1 rfl) ?_
  refine z_calli (va_runV (As := [.int (iI (i))]) (rest := []) ⟨hx, hb, hml, hown, hts⟩ (c_X3_asks l D g a th L att T hs tm pl i hw (by omega) (by omega) _) (cwV 1 hts gX3_lifetime_X3_asks rfl rfl rfl (by decide +kernel) ⟨Nat.le_of_ble_eq_true rfl, Nat.le_of_ble_eq_true rfl⟩) (z_preV 0 hK hP hD rfl rfl) rfl rfl hl.1 rfl (lv_room (Nat.le_of_ble_eq_true rfl)) dX3_lifetime_2 ⟨Nat.zero_le _, Nat.zero_le _⟩) hS hD hA (fun r w1 H locs hw1 hP hD hS => ?_)
  rcases hw1 with ⟨ha1, rfl, rfl⟩ | ⟨ha1, ha2, rfl, rfl⟩ | ⟨ha1, ha2, rfl, rfl⟩
  · skip
    refine z_ifeq (a := 0) (tgt := 16) hx hb dX3_lifetime_5 (by decide) (by omega) (fun c_5 => ?_) (fun c_5 => ?_)
    · refine z_ic hx hb dX3_lifetime_16 ?_
      exact z_iret (w := (wM a g 1 L att T hs tm pl (fun _ => 0))) (v := (iI ((0 : Nat) : Int))) hQ hx hb hr hlocks (Or.inl (⟨by omega, rfl⟩)) hK hP hD hS dX3_lifetime_17
    · exact absurd c_5 (by decide)
  · skip
    refine z_ifeq (a := 0) (tgt := 16) hx hb dX3_lifetime_5 (by decide) (by omega) (fun c_5 => ?_) (fun c_5 => ?_)
    · refine z_ic hx hb dX3_lifetime_16 ?_
      exact z_iret (w := (wM a g 2 L att T hs tm pl (fun _ => 0))) (v := (iI ((0 : Nat) : Int))) hQ hx hb hr hlocks (Or.inr (Or.inl (⟨by omega, rfl⟩))) hK hP hD hS dX3_lifetime_17
    · exact absurd c_5 (by decide)
  · skip
    refine z_ifeq (a := 1) (tgt := 16) hx hb dX3_lifetime_5 (by decide) (by omega) (fun c_5 => ?_) (fun c_5 => ?_)
    · exact absurd c_5 (by decide)
    · obtain ⟨j, rfl⟩ : ∃ j : Nat, i = (j : Int) := ⟨i.toNat, by omega⟩
      refine lv_aload_n hx hb dX3_lifetime_8 rfl (lv_at hl 0 rfl) ?_
      refine lv_iload_n hx hb dX3_lifetime_9 rfl (lv_at hl 1 rfl) ?_
      refine z_calli (va_runV (As := [.int (iI ((j : Nat) : Int))]) (rest := []) ⟨hx, hb, hml, hown, hts⟩ (c_X3_lifeOf l D g a 0 L att T hs tm pl j hw (by omega) htm (by omega) _) (cwV 1 hts gX3_lifetime_X3_lifeOf rfl rfl rfl (by decide +kernel) ⟨Nat.le_of_ble_eq_true rfl, Nat.le_of_ble_eq_true rfl⟩) (z_preV 0 hK hP hD rfl rfl) rfl rfl hl.1 rfl (lv_room (Nat.le_of_ble_eq_true rfl)) dX3_lifetime_10 ⟨Nat.zero_le _, Nat.zero_le _⟩) hS hD hA (fun r w1 H locs hw1 hP hD hS => ?_)
      obtain ⟨rfl, rfl⟩ := hw1
      refine lv_goto (tgt := 17) hx hb dX3_lifetime_13 (by decide) ?_
      exact z_iret (w := (wM a g 0 L att T hs tm pl (fun _ => 0))) (v := (iI (lf L T (nZ tm) j))) hQ hx hb hr hlocks (Or.inr (Or.inr (⟨by omega, rfl, rfl⟩))) hK hP hD hS dX3_lifetime_17
set_option maxHeartbeats 4000000 in
set_option maxRecDepth 100000 in
theorem c_X3_liveIn (l : Launch) (D : va_G) (g : Nat → ClassId) (a : Nat → Nat) (th : Int) (L : LD) (att T : Nat) (hs : Nat → Int) (tm : Nat → Nat) (pl : Nat → Bool) (row : Nat) (hw : wf L) (hTT : 0 < T ∧ T ≤ 200) (hrow : row < T) (htm : ∀ j, j < Ln L → tm j ≤ 1000000) : zMi l D (zT g) yX3_liveIn wsX3_liveIn 2 36 (wM a g th L att T hs tm pl (fun _ => 0)) [.ref (a 0), .int (iI ((row : Nat) : Int))] (fun r w1 => r = iI ((lrM L T tm row (Ln L) : Nat) : Int) ∧ w1 = wM a g th L att T hs tm pl (fun _ => 0)) := by
  refine z_ofI (cc := cX3_liveIn) (maxL := 5) (ret := (some .int)) (by decide) rfl (Nat.le_of_ble_eq_true rfl) ?_
  intro p e s m args below meth c A ls hx hb hr hts hown hlocks hml hP hK hD hS hA hl Q hQ
  have hown : s.vm.findClass RX3 = some m.cls := hown
  have hinX3 : ∀ w ∈ u_ws RX3 TX3 16, w ∈ wsX3_liveIn := by decide +kernel
  have hl : lv_has ls 5 [(0, .ref (a 0)), (1, .int (iI ((row : Nat) : Int)))] := hl
  refine z_ic hx hb dX3_liveIn_0 ?_
  refine lv_istore_n (lv' := [(2, .int (iI ((0 : Nat) : Int))), (0, .ref (a 0)), (1, .int (iI ((row : Nat) : Int)))]) hx hb dX3_liveIn_1 rfl hl (by decide) rfl (fun ls hl => ?_)
  refine z_ic hx hb dX3_liveIn_2 ?_
  refine lv_istore_n (lv' := [(3, .int (iI ((0 : Nat) : Int))), (2, .int (iI ((0 : Nat) : Int))), (0, .ref (a 0)), (1, .int (iI ((row : Nat) : Int)))]) hx hb dX3_liveIn_3 rfl hl (by decide) rfl (fun ls hl => ?_)
  have loop4 : ∀ (n4 : Nat) (i : Nat) (H : Heap) (locs : List Loc) (ls : Array Slot), Ln L - i < n4 → (i ≤ Ln L) → va_P D vwCl (wM a g th L att T hs tm pl (fun _ => 0)) H → va_D A (wM a g th L att T hs tm pl (fun _ => 0)) → va_S A s.heap H locs → lv_has ls 5 [(0, .ref (a 0)), (1, .int (iI ((row : Nat) : Int))), (2, .int (iI ((lrM L T tm row i : Nat) : Int))), (3, .int (iI ((i : Nat) : Int)))] → W p l e ({ frames := 2, cells := 0, slots := 0, locals := 36 } : Room) s m args below meth c H locs 0 0 Q (F0 m 4 ls []) := by
    intro n4
    induction n4 with
    | zero => exact fun _ H locs ls hn => absurd hn (Nat.not_lt_zero _)
    | succ n4 ih4 =>
      intro i H locs ls hn4 hi hP hD hS hl
      have hwn := wf_n hw
      have hlr := lrM_le hw hTT.2 htm row i hi
      refine lv_iload_n hx hb dX3_liveIn_4 rfl (lv_at hl 3 rfl) ?_
      refine lv_aload_n hx hb dX3_liveIn_5 rfl (lv_at hl 0 rfl) ?_
      refine va_get (D := D) (ci := 3) (v := .int (iI ((Ln L : Nat) : Int))) (C := RX3) (T := TX3) (N := 16) hx hb hts hinX3 hown hK hP 0 rfl rfl 2 (by decide) (hts (.fieldLink RX3 48 "LoopSchedulerModel" "operations" "I") (List.mem_of_getElem? (i := 1) rfl)) (fun _ h9 => h9) rfl dX3_liveIn_6 ?_
      refine z_icge (a := ((i : Nat) : Int)) (b := ((Ln L : Nat) : Int)) (tgt := 63) hx hb dX3_liveIn_9 (by decide) (by omega) (fun c_9 => ?_) (fun c_9 => ?_)
      · obtain rfl : i = Ln L := by omega
        refine lv_iload_n hx hb dX3_liveIn_63 rfl (lv_at hl 2 rfl) ?_
        exact z_iret (w := (wM a g th L att T hs tm pl (fun _ => 0))) (v := (iI ((lrM L T tm row (Ln L) : Nat) : Int))) hQ hx hb hr hlocks ⟨rfl, rfl⟩ hK hP hD hS dX3_liveIn_64
      · have hin : i < Ln L := by omega
        refine z_ic hx hb dX3_liveIn_12 ?_
        refine lv_istore (lv' := [(4, .int (iI ((0 : Nat) : Int))), (0, .ref (a 0)), (1, .int (iI ((row : Nat) : Int))), (2, .int (iI ((lrM L T tm row i : Nat) : Int))), (3, .int (iI ((i : Nat) : Int)))]) hx hb dX3_liveIn_13 hl (by decide) rfl (fun ls hl => ?_)
        have loop15 : ∀ (n15 : Nat) (q : Nat) (H : Heap) (locs : List Loc) (ls : Array Slot), (lf L T (nZ tm) i).toNat - q < n15 → (q ≤ (lf L T (nZ tm) i).toNat) → (i < Ln L) → va_P D vwCl (wM a g th L att T hs tm pl (fun _ => 0)) H → va_D A (wM a g th L att T hs tm pl (fun _ => 0)) → va_S A s.heap H locs → lv_has ls 5 [(0, .ref (a 0)), (1, .int (iI ((row : Nat) : Int))), (2, .int (iI ((lrM L T tm row i + hrq (tm i) T row q : Nat) : Int))), (3, .int (iI ((i : Nat) : Int))), (4, .int (iI ((q : Nat) : Int)))] → W p l e ({ frames := 2, cells := 0, slots := 0, locals := 36 } : Room) s m args below meth c H locs 0 0 Q (F0 m 15 ls []) := by
          intro n15
          induction n15 with
          | zero => exact fun _ H locs ls hn => absurd hn (Nat.not_lt_zero _)
          | succ n15 ih15 =>
            intro q H locs ls hn15 hq hin hP hD hS hl
            have hlf := lfn_bd hw hTT.2 htm hin
            have hhl := hrq_le (tm i) T row q
            have hti := htm i hin
            refine lv_iload hx hb dX3_liveIn_15 (lv_at hl 4 rfl) ?_
            refine lv_aload_n hx hb dX3_liveIn_17 rfl (lv_at hl 0 rfl) ?_
            refine lv_iload_n hx hb dX3_liveIn_18 rfl (lv_at hl 3 rfl) ?_
            refine z_calli (va_runV (As := [.int (iI ((i : Nat) : Int))]) (rest := [.int (iI ((q : Nat) : Int))]) ⟨hx, hb, hml, hown, hts⟩ (c_X3_lifeOf l D g a th L att T hs tm pl i hw (by omega) htm (by omega) _) (cwV 1 hts gX3_liveIn_X3_lifeOf rfl rfl rfl (by decide +kernel) ⟨Nat.le_of_ble_eq_true rfl, Nat.le_of_ble_eq_true rfl⟩) (z_preV 0 hK hP hD rfl rfl) rfl rfl hl.1 rfl (lv_room (Nat.le_of_ble_eq_true rfl)) dX3_liveIn_19 ⟨Nat.zero_le _, Nat.zero_le _⟩) hS hD hA (fun r w1 H locs hw1 hP hD hS => ?_)
            obtain ⟨rfl, rfl⟩ := hw1
            refine z_icge (a := ((q : Nat) : Int)) (b := (lf L T (nZ tm) i)) (tgt := 57) hx hb dX3_liveIn_22 (by decide) (by omega) (fun c_22 => ?_) (fun c_22 => ?_)
            · have hend : q = (lf L T (nZ tm) i).toNat := by omega
              refine z_iinc (a := ((i : Nat) : Int)) (b := ((i + 1 : Nat) : Int)) (lv' := [(3, .int (iI ((i + 1 : Nat) : Int))), (0, .ref (a 0)), (1, .int (iI ((row : Nat) : Int))), (2, .int (iI ((lrM L T tm row i + hrq (tm i) T row q : Nat) : Int))), (4, .int (iI ((q : Nat) : Int)))]) hx hb 3 dX3_liveIn_57 hl rfl rfl (by decide) rfl (fun ls hl => ?_)
              refine lv_goto (tgt := 4) hx hb dX3_liveIn_60 (by decide) ?_
              exact ih4 (i + 1) _ _ _ (by omega) (by omega) hP hD hS (by rw [show lrM L T tm row (i + 1) = lrM L T tm row i + hrq (tm i) T row q from by rw [lrM_s, hend]]; exact lv_sub hl [1, 2, 3, 0] rfl)
            · have hmd := Nat.mod_lt (tm i + q) hTT.1
              refine lv_iload_n hx hb dX3_liveIn_25 rfl (lv_at hl 2 rfl) ?_
              refine lv_aload_n hx hb dX3_liveIn_26 rfl (lv_at hl 0 rfl) ?_
              refine va_get (D := D) (ci := 3) (v := .ref (a 8)) (C := RX3) (T := TX3) (N := 16) hx hb hts hinX3 hown hK hP 0 rfl rfl 11 (by decide) (hts (.fieldLink RX3 31 "LoopSchedulerModel" "times" "[I") (List.mem_of_getElem? (i := 2) rfl)) (fun _ h9 => h9) rfl dX3_liveIn_27 ?_
              refine lv_iload_n hx hb dX3_liveIn_30 rfl (lv_at hl 3 rfl) ?_
              refine z_ialdZ (f := tm) (z := i) hx hb hK hP 8 0 rfl rfl (by omega) (by decide) dX3_liveIn_31 ?_
              refine lv_iload hx hb dX3_liveIn_32 (lv_at hl 4 rfl) ?_
              refine z_add (a := ((tm i : Nat) : Int)) (b := ((q : Nat) : Int)) hx hb dX3_liveIn_34 ?_
              refine z_eqI (y := iI ((tm i + q : Nat) : Int)) (congrArg iI (by omega)) ?_
              refine lv_aload_n hx hb dX3_liveIn_35 rfl (lv_at hl 0 rfl) ?_
              refine va_get (D := D) (ci := 3) (v := .int (iI ((T : Nat) : Int))) (C := RX3) (T := TX3) (N := 16) hx hb hts hinX3 hown hK hP 0 rfl rfl 10 (by decide) (hts (.fieldLink RX3 59 "LoopSchedulerModel" "interval" "I") (List.mem_of_getElem? (i := 3) rfl)) (fun _ h9 => h9) rfl dX3_liveIn_36 ?_
              refine z_rem (a := ((tm i + q : Nat) : Int)) (b := ((T : Nat) : Int)) hx hb (by omega) dX3_liveIn_39 ?_
              refine z_eqI (y := iI (((tm i + q) % T : Nat) : Int)) (congrArg iI (Int.natCast_emod _ _).symm) ?_
              refine lv_iload_n hx hb dX3_liveIn_40 rfl (lv_at hl 1 rfl) ?_
              refine z_icne (a := (((tm i + q) % T : Nat) : Int)) (b := ((row : Nat) : Int)) (tgt := 48) hx hb dX3_liveIn_41 (by decide) (by omega) (fun c_41 => ?_) (fun c_41 => ?_)
              · refine z_ic hx hb dX3_liveIn_48 ?_
                refine z_add (a := ((lrM L T tm row i + hrq (tm i) T row q : Nat) : Int)) (b := 0) hx hb dX3_liveIn_49 ?_
                refine z_eqI (y := iI ((lrM L T tm row i + hrq (tm i) T row (q + 1) : Nat) : Int)) (congrArg iI (by rw [hrq_f (show ¬ (tm i + q) % T = row by omega)]; omega)) ?_
                refine lv_istore_n (lv' := [(2, .int (iI ((lrM L T tm row i + hrq (tm i) T row (q + 1) : Nat) : Int))), (0, .ref (a 0)), (1, .int (iI ((row : Nat) : Int))), (3, .int (iI ((i : Nat) : Int))), (4, .int (iI ((q : Nat) : Int)))]) hx hb dX3_liveIn_50 rfl hl (by decide) rfl (fun ls hl => ?_)
                refine z_iinc (a := ((q : Nat) : Int)) (b := ((q + 1 : Nat) : Int)) (lv' := [(4, .int (iI ((q + 1 : Nat) : Int))), (2, .int (iI ((lrM L T tm row i + hrq (tm i) T row (q + 1) : Nat) : Int))), (0, .ref (a 0)), (1, .int (iI ((row : Nat) : Int))), (3, .int (iI ((i : Nat) : Int)))]) hx hb 4 dX3_liveIn_51 hl rfl rfl (by decide) rfl (fun ls hl => ?_)
                refine lv_goto (tgt := 15) hx hb dX3_liveIn_54 (by decide) ?_
                exact ih15 (q + 1) _ _ _ (by omega) (by omega) (by omega) hP hD hS (lv_sub hl [2, 3, 1, 4, 0] rfl)
              · refine z_ic hx hb dX3_liveIn_44 ?_
                refine lv_goto (tgt := 49) hx hb dX3_liveIn_45 (by decide) ?_
                refine z_add (a := ((lrM L T tm row i + hrq (tm i) T row q : Nat) : Int)) (b := 1) hx hb dX3_liveIn_49 ?_
                refine z_eqI (y := iI ((lrM L T tm row i + hrq (tm i) T row (q + 1) : Nat) : Int)) (congrArg iI (by rw [hrq_t (show (tm i + q) % T = row by omega)]; omega)) ?_
                refine lv_istore_n (lv' := [(2, .int (iI ((lrM L T tm row i + hrq (tm i) T row (q + 1) : Nat) : Int))), (0, .ref (a 0)), (1, .int (iI ((row : Nat) : Int))), (3, .int (iI ((i : Nat) : Int))), (4, .int (iI ((q : Nat) : Int)))]) hx hb dX3_liveIn_50 rfl hl (by decide) rfl (fun ls hl => ?_)
                refine z_iinc (a := ((q : Nat) : Int)) (b := ((q + 1 : Nat) : Int)) (lv' := [(4, .int (iI ((q + 1 : Nat) : Int))), (2, .int (iI ((lrM L T tm row i + hrq (tm i) T row (q + 1) : Nat) : Int))), (0, .ref (a 0)), (1, .int (iI ((row : Nat) : Int))), (3, .int (iI ((i : Nat) : Int)))]) hx hb 4 dX3_liveIn_51 hl rfl rfl (by decide) rfl (fun ls hl => ?_)
                refine lv_goto (tgt := 15) hx hb dX3_liveIn_54 (by decide) ?_
                exact ih15 (q + 1) _ _ _ (by omega) (by omega) (by omega) hP hD hS (lv_sub hl [2, 3, 1, 4, 0] rfl)
        exact loop15 (((lf L T (nZ tm) i).toNat - 0) + 1) 0 _ _ _ (Nat.lt_succ_self _) (by omega) (by omega) hP hD hS (lv_sub hl [1, 2, 3, 4, 0] rfl)
  exact loop4 ((Ln L - 0) + 1) 0 _ _ _ (Nat.lt_succ_self _) (by omega) hP hD hS (lv_sub hl [2, 3, 1, 0] rfl)
set_option maxHeartbeats 4000000 in
set_option maxRecDepth 100000 in
theorem c_X3_live (l : Launch) (D : va_G) (g : Nat → ClassId) (a : Nat → Nat) (th : Int) (L : LD) (att T : Nat) (hs : Nat → Int) (tm : Nat → Nat) (pl : Nat → Bool) (i : Int) (hw : wf L) (hT2 : T ≤ 200) (hri : -2147483648 ≤ i ∧ i < 2147483648) (htm : ∀ j, j < Ln L → tm j ≤ 1000000) : zMi l D (zT g) yX3_live wsX3_live 3 60 (wM a g th L att T hs tm pl (fun _ => 0)) [.ref (a 0), .int (iI (i))] (fun r w1 => ((T = 0) ∧ w1 = wM a g 1 L att T hs tm pl (fun _ => 0)) ∨ ((0 < T ∧ ¬ (0 ≤ i ∧ i < (T : Int))) ∧ w1 = wM a g 2 L att T hs tm pl (fun _ => 0)) ∨ ((0 < T ∧ (0 ≤ i ∧ i < (T : Int))) ∧ r = iI (((lrM L T tm i.toNat (Ln L) : Nat) : Int)) ∧ w1 = wM a g 0 L att T hs tm pl (fun _ => 0))) := by
  refine z_ofI (cc := cX3_live) (maxL := 2) (ret := (some .int)) (by decide) rfl (Nat.le_of_ble_eq_true rfl) ?_
  intro p e s m args below meth c A ls hx hb hr hts hown hlocks hml hP hK hD hS hA hl Q hQ
  have hown : s.vm.findClass RX3 = some m.cls := hown
  have hinX3 : ∀ w ∈ u_ws RX3 TX3 16, w ∈ wsX3_live := by decide +kernel
  have hl : lv_has ls 2 [(0, .ref (a 0)), (1, .int (iI (i)))] := hl
  refine lv_aload_n hx hb dX3_live_0 rfl (lv_at hl 0 rfl) ?_
  refine lv_aload_n hx hb dX3_live_1 rfl (lv_at hl 0 rfl) ?_
  refine va_get (D := D) (ci := 3) (v := .int (iI ((T : Nat) : Int))) (C := RX3) (T := TX3) (N := 16) hx hb hts hinX3 hown hK hP 0 rfl rfl 10 (by decide) (hts (.fieldLink RX3 59 "LoopSchedulerModel" "interval" "I") (List.mem_of_getElem? (i := 1) rfl)) (fun _ h9 => h9) rfl dX3_live_2 ?_
  refine z_ifne (a := ((T : Nat) : Int)) (tgt := 12) hx hb dX3_live_5 (by decide) (by omega) (fun c_5 => ?_) (fun c_5 => ?_)
  · refine lv_iload_n hx hb dX3_live_12 rfl (lv_at hl 1 rfl) ?_
    refine z_ic hx hb dX3_live_13 ?_
    refine lv_aload_n hx hb dX3_live_14 rfl (lv_at hl 0 rfl) ?_
    refine va_get (D := D) (ci := 3) (v := .int (iI ((T : Nat) : Int))) (C := RX3) (T := TX3) (N := 16) hx hb hts hinX3 hown hK hP 0 rfl rfl 10 (by decide) (hts (.fieldLink RX3 59 "LoopSchedulerModel" "interval" "I") (List.mem_of_getElem? (i := 1) rfl)) (fun _ h9 => h9) rfl dX3_live_15 ?_
    refine z_ic hx hb dX3_live_18 ?_
    refine z_sub (a := ((T : Nat) : Int)) (b := 1) hx hb dX3_live_19 ?_
    refine z_calli (va_runS (As := [.int (iI (i)), .int (iI ((0 : Nat) : Int)), .int (iI (((T : Nat) : Int) - 1))]) (rest := [.ref (a 0)]) ⟨hx, hb, hml, hown, hts⟩ (c_X3_isIn l D g a th L att T hs tm pl i 0 (((T : Nat) : Int) - 1) (by omega) (by omega) (by omega) _) (va_cwS 3 hts gX3_live_X3_isIn rfl rfl rfl (by decide +kernel) ⟨Nat.le_of_ble_eq_true rfl, Nat.le_of_ble_eq_true rfl⟩) (z_preS hK hP hD) rfl rfl hl.1 rfl (lv_room (Nat.le_of_ble_eq_true rfl)) dX3_live_20 ⟨Nat.zero_le _, Nat.zero_le _⟩) hS hD hA (fun r w1 H locs hw1 hP hD hS => ?_)
    obtain ⟨rfl, rfl⟩ := hw1
    refine z_ifne (a := (bI (decide (0 ≤ i ∧ i ≤ (((T : Nat) : Int) - 1))))) (tgt := 30) hx hb dX3_live_23 (by decide) (bI_r _) (fun c_23 => ?_) (fun c_23 => ?_)
    · have d_23 := of_decide_eq_true (bI_t c_23)
      refine z_ic hx hb dX3_live_30 ?_
      refine va_put (D := D) (ci := 3) (v := .int (iI ((0 : Nat) : Int))) (ty := .int) (C := RX3) (T := TX3) (N := 16) hx hb hts hinX3 tyX3 tyX3_ok nmX3 hown hK hP hD hS 0 rfl rfl 0 (by decide) (hts (.fieldLink RX3 44 "LoopSchedulerModel" "thrown" "I") (List.mem_of_getElem? (i := 2) rfl)) (fun _ h9 => h9) rfl (by decide +kernel) rfl rfl (Nat.le_of_ble_eq_true rfl) dX3_live_31 (fun H locs hP hD hS => ?_)
      have hP : va_P D vwCl (wM a g 0 L att T hs tm pl (fun _ => 0)) H := hP
      have hD : va_D A (wM a g 0 L att T hs tm pl (fun _ => 0)) := hD
      refine lv_aload_n hx hb dX3_live_34 rfl (lv_at hl 0 rfl) ?_
      refine va_get (D := D) (ci := 3) (v := .int (iI (0))) (C := RX3) (T := TX3) (N := 16) hx hb hts hinX3 hown hK hP 0 rfl rfl 0 (by decide) (hts (.fieldLink RX3 44 "LoopSchedulerModel" "thrown" "I") (List.mem_of_getElem? (i := 2) rfl)) (fun _ h9 => h9) rfl dX3_live_35 ?_
      refine z_ifne (a := 0) (tgt := 49) hx hb dX3_live_38 (by decide) (by omega) (fun c_38 => ?_) (fun c_38 => ?_)
      · exact absurd c_38 (by decide)
      · obtain ⟨j, rfl⟩ : ∃ j : Nat, i = (j : Int) := ⟨i.toNat, by omega⟩
        refine lv_aload_n hx hb dX3_live_41 rfl (lv_at hl 0 rfl) ?_
        refine lv_iload_n hx hb dX3_live_42 rfl (lv_at hl 1 rfl) ?_
        refine z_calli (va_runV (As := [.int (iI ((j : Nat) : Int))]) (rest := []) ⟨hx, hb, hml, hown, hts⟩ (c_X3_liveIn l D g a 0 L att T hs tm pl j hw ⟨by omega, by omega⟩ (by omega) htm _) (cwV 1 hts gX3_live_X3_liveIn rfl rfl rfl (by decide +kernel) ⟨Nat.le_of_ble_eq_true rfl, Nat.le_of_ble_eq_true rfl⟩) (z_preV 0 hK hP hD rfl rfl) rfl rfl hl.1 rfl (lv_room (Nat.le_of_ble_eq_true rfl)) dX3_live_43 ⟨Nat.zero_le _, Nat.zero_le _⟩) hS hD hA (fun r w1 H locs hw1 hP hD hS => ?_)
        obtain ⟨rfl, rfl⟩ := hw1
        refine lv_goto (tgt := 50) hx hb dX3_live_46 (by decide) ?_
        exact z_iret (w := (wM a g 0 L att T hs tm pl (fun _ => 0))) (v := (iI ((lrM L T tm j (Ln L) : Nat) : Int))) hQ hx hb hr hlocks (Or.inr (Or.inr (⟨by omega, rfl, rfl⟩))) hK hP hD hS dX3_live_50
    · have d_23 := of_decide_eq_false (bI_f c_23)
      refine z_ic hx hb dX3_live_26 ?_
      refine lv_goto (tgt := 31) hx hb dX3_live_27 (by decide) ?_
      refine va_put (D := D) (ci := 3) (v := .int (iI ((2 : Nat) : Int))) (ty := .int) (C := RX3) (T := TX3) (N := 16) hx hb hts hinX3 tyX3 tyX3_ok nmX3 hown hK hP hD hS 0 rfl rfl 0 (by decide) (hts (.fieldLink RX3 44 "LoopSchedulerModel" "thrown" "I") (List.mem_of_getElem? (i := 2) rfl)) (fun _ h9 => h9) rfl (by decide +kernel) rfl rfl (Nat.le_of_ble_eq_true rfl) dX3_live_31 (fun H locs hP hD hS => ?_)
      have hP : va_P D vwCl (wM a g 2 L att T hs tm pl (fun _ => 0)) H := hP
      have hD : va_D A (wM a g 2 L att T hs tm pl (fun _ => 0)) := hD
      refine lv_aload_n hx hb dX3_live_34 rfl (lv_at hl 0 rfl) ?_
      refine va_get (D := D) (ci := 3) (v := .int (iI (2))) (C := RX3) (T := TX3) (N := 16) hx hb hts hinX3 hown hK hP 0 rfl rfl 0 (by decide) (hts (.fieldLink RX3 44 "LoopSchedulerModel" "thrown" "I") (List.mem_of_getElem? (i := 2) rfl)) (fun _ h9 => h9) rfl dX3_live_35 ?_
      refine z_ifne (a := 2) (tgt := 49) hx hb dX3_live_38 (by decide) (by omega) (fun c_38 => ?_) (fun c_38 => ?_)
      · refine z_ic hx hb dX3_live_49 ?_
        exact z_iret (w := (wM a g 2 L att T hs tm pl (fun _ => 0))) (v := (iI ((0 : Nat) : Int))) hQ hx hb hr hlocks (Or.inr (Or.inl (⟨by omega, rfl⟩))) hK hP hD hS dX3_live_50
      · exact absurd c_38 (by decide)
  · refine z_ic hx hb dX3_live_8 ?_
    refine lv_goto (tgt := 31) hx hb dX3_live_9 (by decide) ?_
    refine va_put (D := D) (ci := 3) (v := .int (iI ((1 : Nat) : Int))) (ty := .int) (C := RX3) (T := TX3) (N := 16) hx hb hts hinX3 tyX3 tyX3_ok nmX3 hown hK hP hD hS 0 rfl rfl 0 (by decide) (hts (.fieldLink RX3 44 "LoopSchedulerModel" "thrown" "I") (List.mem_of_getElem? (i := 2) rfl)) (fun _ h9 => h9) rfl (by decide +kernel) rfl rfl (Nat.le_of_ble_eq_true rfl) dX3_live_31 (fun H locs hP hD hS => ?_)
    have hP : va_P D vwCl (wM a g 1 L att T hs tm pl (fun _ => 0)) H := hP
    have hD : va_D A (wM a g 1 L att T hs tm pl (fun _ => 0)) := hD
    refine lv_aload_n hx hb dX3_live_34 rfl (lv_at hl 0 rfl) ?_
    refine va_get (D := D) (ci := 3) (v := .int (iI (1))) (C := RX3) (T := TX3) (N := 16) hx hb hts hinX3 hown hK hP 0 rfl rfl 0 (by decide) (hts (.fieldLink RX3 44 "LoopSchedulerModel" "thrown" "I") (List.mem_of_getElem? (i := 2) rfl)) (fun _ h9 => h9) rfl dX3_live_35 ?_
    refine z_ifne (a := 1) (tgt := 49) hx hb dX3_live_38 (by decide) (by omega) (fun c_38 => ?_) (fun c_38 => ?_)
    · refine z_ic hx hb dX3_live_49 ?_
      exact z_iret (w := (wM a g 1 L att T hs tm pl (fun _ => 0))) (v := (iI ((0 : Nat) : Int))) hQ hx hb hr hlocks (Or.inl (⟨by omega, rfl⟩)) hK hP hD hS dX3_live_50
    · exact absurd c_38 (by decide)
set_option maxHeartbeats 4000000 in
set_option maxRecDepth 100000 in
theorem c_X3_registers (l : Launch) (D : va_G) (g : Nat → ClassId) (a : Nat → Nat) (th : Int) (L : LD) (att T : Nat) (hs : Nat → Int) (tm : Nat → Nat) (pl : Nat → Bool)  (hw : wf L) (hT2 : T ≤ 200) (htm : ∀ j, j < Ln L → tm j ≤ 1000000) : zMi l D (zT g) yX3_registers wsX3_registers 3 60 (wM a g th L att T hs tm pl (fun _ => 0)) [.ref (a 0)] (fun r w1 => ((T = 0) ∧ w1 = wM a g 1 L att T hs tm pl (fun _ => 0)) ∨ ((0 < T) ∧ r = iI (rg (fun r => ((lrM L T tm r (Ln L) : Nat) : Int)) T) ∧ w1 = wM a g 0 L att T hs tm pl (fun _ => 0))) := by
  refine z_ofI (cc := cX3_registers) (maxL := 3) (ret := (some .int)) (by decide) rfl (Nat.le_of_ble_eq_true rfl) ?_
  intro p e s m args below meth c A ls hx hb hr hts hown hlocks hml hP hK hD hS hA hl Q hQ
  have hown : s.vm.findClass RX3 = some m.cls := hown
  have hinX3 : ∀ w ∈ u_ws RX3 TX3 16, w ∈ wsX3_registers := by decide +kernel
  have hl : lv_has ls 3 [(0, .ref (a 0))] := hl
  have hwn := wf_n hw
  have hcl : ∀ r : Nat, (0 : Int) ≤ (fun r => ((lrM L T tm r (Ln L) : Nat) : Int)) r ∧ (fun r => ((lrM L T tm r (Ln L) : Nat) : Int)) r ≤ 28008400 := fun r => by have q9 := lrM_le hw hT2 htm r (Ln L) (Nat.le_refl _); show (0 : Int) ≤ ((lrM L T tm r (Ln L) : Nat) : Int) ∧ ((lrM L T tm r (Ln L) : Nat) : Int) ≤ 28008400; omega
  refine z_ic hx hb dX3_registers_0 ?_
  refine lv_istore_n (lv' := [(1, .int (iI ((0 : Nat) : Int))), (0, .ref (a 0))]) hx hb dX3_registers_1 rfl hl (by decide) rfl (fun ls hl => ?_)
  refine z_ic hx hb dX3_registers_2 ?_
  refine lv_istore_n (lv' := [(2, .int (iI ((0 : Nat) : Int))), (1, .int (iI ((0 : Nat) : Int))), (0, .ref (a 0))]) hx hb dX3_registers_3 rfl hl (by decide) rfl (fun ls hl => ?_)
  have loop4 : ∀ (n4 : Nat) (x : Nat) (H : Heap) (locs : List Loc) (ls : Array Slot), T - x < n4 → (x ≤ T) → va_P D vwCl (wM a g th L att T hs tm pl (fun _ => 0)) H → va_D A (wM a g th L att T hs tm pl (fun _ => 0)) → va_S A s.heap H locs → lv_has ls 3 [(0, .ref (a 0)), (1, .int (iI (rg (fun r => ((lrM L T tm r (Ln L) : Nat) : Int)) x))), (2, .int (iI ((x : Nat) : Int)))] → W p l e ({ frames := 3, cells := 0, slots := 0, locals := 60 } : Room) s m args below meth c H locs 0 0 Q (F0 m 4 ls []) := by
    intro n4
    induction n4 with
    | zero => exact fun _ H locs ls hn => absurd hn (Nat.not_lt_zero _)
    | succ n4 ih4 =>
      intro x H locs ls hn4 hx2 hP hD hS hl
      have hb8 := rg_bd (M := 28008400) (by decide) hcl x
      have hb9 : (0 : Int) ≤ ((lrM L T tm x (Ln L) : Nat) : Int) ∧ ((lrM L T tm x (Ln L) : Nat) : Int) ≤ 28008400 := hcl x
      refine lv_iload_n hx hb dX3_registers_4 rfl (lv_at hl 2 rfl) ?_
      refine lv_aload_n hx hb dX3_registers_5 rfl (lv_at hl 0 rfl) ?_
      refine va_get (D := D) (ci := 3) (v := .int (iI ((T : Nat) : Int))) (C := RX3) (T := TX3) (N := 16) hx hb hts hinX3 hown hK hP 0 rfl rfl 10 (by decide) (hts (.fieldLink RX3 59 "LoopSchedulerModel" "interval" "I") (List.mem_of_getElem? (i := 1) rfl)) (fun _ h9 => h9) rfl dX3_registers_6 ?_
      refine z_icge (a := ((x : Nat) : Int)) (b := ((T : Nat) : Int)) (tgt := 28) hx hb dX3_registers_9 (by decide) (by omega) (fun c_9 => ?_) (fun c_9 => ?_)
      · obtain rfl : T = x := by omega
        refine lv_aload_n hx hb dX3_registers_28 rfl (lv_at hl 0 rfl) ?_
        refine z_calli (va_runV (As := []) (rest := []) ⟨hx, hb, hml, hown, hts⟩ (c_X3_has l D g a th L att T hs tm pl (by omega) _) (cwV 0 hts gX3_registers_X3_has rfl rfl rfl (by decide +kernel) ⟨Nat.le_of_ble_eq_true rfl, Nat.le_of_ble_eq_true rfl⟩) (z_preV 0 hK hP hD rfl rfl) rfl rfl hl.1 rfl (lv_room (Nat.le_of_ble_eq_true rfl)) dX3_registers_29 ⟨Nat.zero_le _, Nat.zero_le _⟩) hS hD hA (fun r w1 H locs hw1 hP hD hS => ?_)
        obtain ⟨rfl, rfl⟩ := hw1
        refine z_ifeq (a := (bI (decide (0 < T)))) (tgt := 39) hx hb dX3_registers_32 (by decide) (bI_r _) (fun c_32 => ?_) (fun c_32 => ?_)
        · have d_32 := of_decide_eq_false (bI_f c_32)
          have ew : (1 : Int) = (if 0 < T then 0 else 1) := (if_neg d_32).symm
          have hP : va_P D vwCl (wM a g 1 L att T hs tm pl (fun _ => 0)) H := Eq.mp (congrArg (fun z9 => va_P D vwCl (wM a g z9 L att T hs tm pl (fun _ => 0)) H) ew.symm) hP
          have hD : va_D A (wM a g 1 L att T hs tm pl (fun _ => 0)) := Eq.mp (congrArg (fun z9 => va_D A (wM a g z9 L att T hs tm pl (fun _ => 0))) ew.symm) hD
          refine z_ic hx hb dX3_registers_39 ?_
          exact z_iret (w := (wM a g 1 L att T hs tm pl (fun _ => 0))) (v := (iI ((0 : Nat) : Int))) hQ hx hb hr hlocks (Or.inl (⟨by omega, rfl⟩)) hK hP hD hS dX3_registers_40
        · have d_32 := of_decide_eq_true (bI_t c_32)
          have ew : (0 : Int) = (if 0 < T then 0 else 1) := (if_pos d_32).symm
          have hP : va_P D vwCl (wM a g 0 L att T hs tm pl (fun _ => 0)) H := Eq.mp (congrArg (fun z9 => va_P D vwCl (wM a g z9 L att T hs tm pl (fun _ => 0)) H) ew.symm) hP
          have hD : va_D A (wM a g 0 L att T hs tm pl (fun _ => 0)) := Eq.mp (congrArg (fun z9 => va_D A (wM a g z9 L att T hs tm pl (fun _ => 0))) ew.symm) hD
          refine lv_iload_n hx hb dX3_registers_35 rfl (lv_at hl 1 rfl) ?_
          refine lv_goto (tgt := 40) hx hb dX3_registers_36 (by decide) ?_
          exact z_iret (w := (wM a g 0 L att T hs tm pl (fun _ => 0))) (v := (iI (rg (fun r => ((lrM L T tm r (Ln L) : Nat) : Int)) T))) hQ hx hb hr hlocks (Or.inr (⟨by omega, rfl, rfl⟩)) hK hP hD hS dX3_registers_40
      · refine lv_iload_n hx hb dX3_registers_12 rfl (lv_at hl 1 rfl) ?_
        refine lv_aload_n hx hb dX3_registers_13 rfl (lv_at hl 0 rfl) ?_
        refine lv_iload_n hx hb dX3_registers_14 rfl (lv_at hl 2 rfl) ?_
        refine z_calli (va_runV (As := [.int (iI ((x : Nat) : Int))]) (rest := [.int (iI (rg (fun r => ((lrM L T tm r (Ln L) : Nat) : Int)) x))]) ⟨hx, hb, hml, hown, hts⟩ (c_X3_liveIn l D g a th L att T hs tm pl x hw ⟨by omega, by omega⟩ (by omega) htm _) (cwV 1 hts gX3_registers_X3_liveIn rfl rfl rfl (by decide +kernel) ⟨Nat.le_of_ble_eq_true rfl, Nat.le_of_ble_eq_true rfl⟩) (z_preV 0 hK hP hD rfl rfl) rfl rfl hl.1 rfl (lv_room (Nat.le_of_ble_eq_true rfl)) dX3_registers_15 ⟨Nat.zero_le _, Nat.zero_le _⟩) hS hD hA (fun r w1 H locs hw1 hP hD hS => ?_)
        obtain ⟨rfl, rfl⟩ := hw1
        refine z_mmax (a := (rg (fun r => ((lrM L T tm r (Ln L) : Nat) : Int)) x)) (b := ((lrM L T tm x (Ln L) : Nat) : Int)) hx hb hml hl.1 hown (hts (.methodLink RX3 97 Lib.Math.max.name) (List.mem_of_getElem? (i := 2) rfl)) (hts (.static Lib.Math.max.name) (List.mem_of_getElem? (i := 3) rfl)) (hts (.initialized "java/lang/Math") (List.mem_of_getElem? (i := 4) rfl)) (hts (.code Lib.Math.max.name Lib.Math.max.code 2 (some .int)) (List.mem_of_getElem? (i := 5) rfl)) (Nat.le_of_ble_eq_true rfl) (Nat.le_of_ble_eq_true rfl) (Nat.zero_le _) (Nat.zero_le _) (by omega) dX3_registers_18 ?_
        refine lv_istore_n (lv' := [(1, .int (iI (max (rg (fun r => ((lrM L T tm r (Ln L) : Nat) : Int)) x) ((lrM L T tm x (Ln L) : Nat) : Int)))), (0, .ref (a 0)), (2, .int (iI ((x : Nat) : Int)))]) hx hb dX3_registers_21 rfl hl (by decide) rfl (fun ls hl => ?_)
        refine z_iinc (a := ((x : Nat) : Int)) (b := ((x + 1 : Nat) : Int)) (lv' := [(2, .int (iI ((x + 1 : Nat) : Int))), (1, .int (iI (max (rg (fun r => ((lrM L T tm r (Ln L) : Nat) : Int)) x) ((lrM L T tm x (Ln L) : Nat) : Int)))), (0, .ref (a 0))]) hx hb 2 dX3_registers_22 hl rfl rfl (by decide) rfl (fun ls hl => ?_)
        refine lv_goto (tgt := 4) hx hb dX3_registers_25 (by decide) ?_
        exact ih4 (x + 1) _ _ _ (by omega) (by omega) hP hD hS (lv_sub hl [2, 1, 0] rfl)
  exact loop4 ((T - 0) + 1) 0 _ _ _ (Nat.lt_succ_self _) (by omega) hP hD hS (lv_sub hl [2, 1, 0] rfl)
set_option maxHeartbeats 4000000 in
set_option maxRecDepth 100000 in
theorem c_X3_copiesOf (l : Launch) (D : va_G) (g : Nat → ClassId) (a : Nat → Nat) (th : Int) (L : LD) (att T : Nat) (hs : Nat → Int) (tm : Nat → Nat) (pl : Nat → Bool) (i : Nat) (hw : wf L) (hTT : 0 < T ∧ T ≤ 200) (htm : ∀ j, j < Ln L → tm j ≤ 1000000) (hi : i < Ln L) : zMi l D (zT g) yX3_copiesOf wsX3_copiesOf 2 36 (wM a g th L att T hs tm pl (fun _ => 0)) [.ref (a 0), .int (iI ((i : Nat) : Int))] (fun r w1 => r = iI (cC T (lf L T (nZ tm)) i) ∧ w1 = wM a g th L att T hs tm pl (fun _ => 0)) := by
  refine z_ofI (cc := cX3_copiesOf) (maxL := 3) (ret := (some .int)) (by decide) rfl (Nat.le_of_ble_eq_true rfl) ?_
  intro p e s m args below meth c A ls hx hb hr hts hown hlocks hml hP hK hD hS hA hl Q hQ
  have hown : s.vm.findClass RX3 = some m.cls := hown
  have hinX3 : ∀ w ∈ u_ws RX3 TX3 16, w ∈ wsX3_copiesOf := by decide +kernel
  have hl : lv_has ls 3 [(0, .ref (a 0)), (1, .int (iI ((i : Nat) : Int)))] := hl
  have hlf := lfn_bd hw hTT.2 htm hi
  have hcb := cqn_le (show (lf L T (nZ tm) i).toNat ≤ 1000600 by omega) hTT
  have hce := cC_cqn (T := T) (lt := lf L T (nZ tm)) (i := i) hlf.1 hTT.1
  refine z_ic hx hb dX3_copiesOf_0 ?_
  refine lv_istore_n (lv' := [(2, .int (iI ((1 : Nat) : Int))), (0, .ref (a 0)), (1, .int (iI ((i : Nat) : Int)))]) hx hb dX3_copiesOf_1 rfl hl (by decide) rfl (fun ls hl => ?_)
  have loop2 : ∀ (n2 : Nat) (b : Nat) (H : Heap) (locs : List Loc) (ls : Array Slot), cqn (lf L T (nZ tm) i).toNat T - b < n2 → (1 ≤ b) → (b ≤ cqn (lf L T (nZ tm) i).toNat T) → va_P D vwCl (wM a g th L att T hs tm pl (fun _ => 0)) H → va_D A (wM a g th L att T hs tm pl (fun _ => 0)) → va_S A s.heap H locs → lv_has ls 3 [(0, .ref (a 0)), (1, .int (iI ((i : Nat) : Int))), (2, .int (iI ((b : Nat) : Int)))] → W p l e ({ frames := 2, cells := 0, slots := 0, locals := 36 } : Room) s m args below meth c H locs 0 0 Q (F0 m 2 ls []) := by
    intro n2
    induction n2 with
    | zero => exact fun _ H locs ls hn => absurd hn (Nat.not_lt_zero _)
    | succ n2 ih2 =>
      intro b H locs ls hn2 hb1 hb2 hP hD hS hl
      have hbm : b * T ≤ 2000000 * 200 := Nat.mul_le_mul (by omega) hTT.2
      have hcq : cqn (lf L T (nZ tm) i).toNat T = max 1 (((lf L T (nZ tm) i).toNat + T - 1) / T) := rfl
      refine lv_iload_n hx hb dX3_copiesOf_2 rfl (lv_at hl 2 rfl) ?_
      refine lv_aload_n hx hb dX3_copiesOf_3 rfl (lv_at hl 0 rfl) ?_
      refine va_get (D := D) (ci := 3) (v := .int (iI ((T : Nat) : Int))) (C := RX3) (T := TX3) (N := 16) hx hb hts hinX3 hown hK hP 0 rfl rfl 10 (by decide) (hts (.fieldLink RX3 59 "LoopSchedulerModel" "interval" "I") (List.mem_of_getElem? (i := 1) rfl)) (fun _ h9 => h9) rfl dX3_copiesOf_4 ?_
      refine z_mul (a := ((b : Nat) : Int)) (b := ((T : Nat) : Int)) hx hb dX3_copiesOf_7 ?_
      refine z_eqI (y := iI ((b * T : Nat) : Int)) (congrArg iI (Int.natCast_mul _ _).symm) ?_
      refine lv_aload_n hx hb dX3_copiesOf_8 rfl (lv_at hl 0 rfl) ?_
      refine lv_iload_n hx hb dX3_copiesOf_9 rfl (lv_at hl 1 rfl) ?_
      refine z_calli (va_runV (As := [.int (iI ((i : Nat) : Int))]) (rest := [.int (iI ((b * T : Nat) : Int))]) ⟨hx, hb, hml, hown, hts⟩ (c_X3_lifeOf l D g a th L att T hs tm pl i hw (by omega) htm (by omega) _) (cwV 1 hts gX3_copiesOf_X3_lifeOf rfl rfl rfl (by decide +kernel) ⟨Nat.le_of_ble_eq_true rfl, Nat.le_of_ble_eq_true rfl⟩) (z_preV 0 hK hP hD rfl rfl) rfl rfl hl.1 rfl (lv_room (Nat.le_of_ble_eq_true rfl)) dX3_copiesOf_10 ⟨Nat.zero_le _, Nat.zero_le _⟩) hS hD hA (fun r w1 H locs hw1 hP hD hS => ?_)
      obtain ⟨rfl, rfl⟩ := hw1
      refine z_icge (a := ((b * T : Nat) : Int)) (b := (lf L T (nZ tm) i)) (tgt := 22) hx hb dX3_copiesOf_13 (by decide) (by omega) (fun c_13 => ?_) (fun c_13 => ?_)
      · have hcd := cd1 hTT.1 (show (lf L T (nZ tm) i).toNat ≤ b * T by omega)
        have hend : b = cqn (lf L T (nZ tm) i).toNat T := by omega
        refine lv_iload_n hx hb dX3_copiesOf_22 rfl (lv_at hl 2 rfl) ?_
        exact z_iret (w := (wM a g th L att T hs tm pl (fun _ => 0))) (v := (iI ((b : Nat) : Int))) hQ hx hb hr hlocks ⟨by rw [hend, hce], rfl⟩ hK hP hD hS dX3_copiesOf_23
      · have hcd := cd2 hTT.1 (show b * T < (lf L T (nZ tm) i).toNat by omega)
        refine z_iinc (a := ((b : Nat) : Int)) (b := ((b + 1 : Nat) : Int)) (lv' := [(2, .int (iI ((b + 1 : Nat) : Int))), (0, .ref (a 0)), (1, .int (iI ((i : Nat) : Int)))]) hx hb 2 dX3_copiesOf_16 hl rfl rfl (by decide) rfl (fun ls hl => ?_)
        refine lv_goto (tgt := 2) hx hb dX3_copiesOf_19 (by decide) ?_
        exact ih2 (b + 1) _ _ _ (by omega) (by omega) (by omega) hP hD hS (lv_sub hl [1, 2, 0] rfl)
  exact loop2 ((cqn (lf L T (nZ tm) i).toNat T - 1) + 1) 1 _ _ _ (Nat.lt_succ_self _) (by omega) (Nat.le_max_left _ _) hP hD hS (lv_sub hl [1, 2, 0] rfl)
set_option maxHeartbeats 4000000 in
set_option maxRecDepth 100000 in
theorem c_X3_copies (l : Launch) (D : va_G) (g : Nat → ClassId) (a : Nat → Nat) (th : Int) (L : LD) (att T : Nat) (hs : Nat → Int) (tm : Nat → Nat) (pl : Nat → Bool) (i : Int) (hw : wf L) (hT2 : T ≤ 200) (hri : -2147483648 ≤ i ∧ i < 2147483648) (htm : ∀ j, j < Ln L → tm j ≤ 1000000) : zMi l D (zT g) yX3_copies wsX3_copies 4 76 (wM a g th L att T hs tm pl (fun _ => 0)) [.ref (a 0), .int (iI (i))] (fun r w1 => ((¬ (0 ≤ i ∧ i < (Ln L : Int))) ∧ w1 = wM a g 1 L att T hs tm pl (fun _ => 0)) ∨ (((0 ≤ i ∧ i < (Ln L : Int)) ∧ T = 0) ∧ w1 = wM a g 2 L att T hs tm pl (fun _ => 0)) ∨ (((0 ≤ i ∧ i < (Ln L : Int)) ∧ 0 < T) ∧ r = iI (cC T (lf L T (nZ tm)) i.toNat) ∧ w1 = wM a g 0 L att T hs tm pl (fun _ => 0))) := by
  refine z_ofI (cc := cX3_copies) (maxL := 2) (ret := (some .int)) (by decide) rfl (Nat.le_of_ble_eq_true rfl) ?_
  intro p e s m args below meth c A ls hx hb hr hts hown hlocks hml hP hK hD hS hA hl Q hQ
  have hown : s.vm.findClass RX3 = some m.cls := hown
  have hinX3 : ∀ w ∈ u_ws RX3 TX3 16, w ∈ wsX3_copies := by decide +kernel
  have hl : lv_has ls 2 [(0, .ref (a 0)), (1, .int (iI (i)))] := hl
  have hwn := wf_n hw
  refine lv_aload_n hx hb dX3_copies_0 rfl (lv_at hl 0 rfl) ?_
  refine lv_iload_n hx hb dX3_copies_1 rfl (lv_at hl 1 rfl) ?_
  refine z_calli (va_runV (As := [.int (iI (i))]) (rest := []) ⟨hx, hb, hml, hown, hts⟩ (c_X3_asks l D g a th L att T hs tm pl i hw (by omega) (by omega) _) (cwV 1 hts gX3_copies_X3_asks rfl rfl rfl (by decide +kernel) ⟨Nat.le_of_ble_eq_true rfl, Nat.le_of_ble_eq_true rfl⟩) (z_preV 0 hK hP hD rfl rfl) rfl rfl hl.1 rfl (lv_room (Nat.le_of_ble_eq_true rfl)) dX3_copies_2 ⟨Nat.zero_le _, Nat.zero_le _⟩) hS hD hA (fun r w1 H locs hw1 hP hD hS => ?_)
  rcases hw1 with ⟨ha1, rfl, rfl⟩ | ⟨ha1, ha2, rfl, rfl⟩ | ⟨ha1, ha2, rfl, rfl⟩
  · skip
    refine z_ifeq (a := 0) (tgt := 16) hx hb dX3_copies_5 (by decide) (by omega) (fun c_5 => ?_) (fun c_5 => ?_)
    · refine z_ic hx hb dX3_copies_16 ?_
      exact z_iret (w := (wM a g 1 L att T hs tm pl (fun _ => 0))) (v := (iI ((0 : Nat) : Int))) hQ hx hb hr hlocks (Or.inl (⟨by omega, rfl⟩)) hK hP hD hS dX3_copies_17
    · exact absurd c_5 (by decide)
  · skip
    refine z_ifeq (a := 0) (tgt := 16) hx hb dX3_copies_5 (by decide) (by omega) (fun c_5 => ?_) (fun c_5 => ?_)
    · refine z_ic hx hb dX3_copies_16 ?_
      exact z_iret (w := (wM a g 2 L att T hs tm pl (fun _ => 0))) (v := (iI ((0 : Nat) : Int))) hQ hx hb hr hlocks (Or.inr (Or.inl (⟨by omega, rfl⟩))) hK hP hD hS dX3_copies_17
    · exact absurd c_5 (by decide)
  · skip
    refine z_ifeq (a := 1) (tgt := 16) hx hb dX3_copies_5 (by decide) (by omega) (fun c_5 => ?_) (fun c_5 => ?_)
    · exact absurd c_5 (by decide)
    · obtain ⟨j, rfl⟩ : ∃ j : Nat, i = (j : Int) := ⟨i.toNat, by omega⟩
      refine lv_aload_n hx hb dX3_copies_8 rfl (lv_at hl 0 rfl) ?_
      refine lv_iload_n hx hb dX3_copies_9 rfl (lv_at hl 1 rfl) ?_
      refine z_calli (va_runV (As := [.int (iI ((j : Nat) : Int))]) (rest := []) ⟨hx, hb, hml, hown, hts⟩ (c_X3_copiesOf l D g a 0 L att T hs tm pl j hw ⟨by omega, by omega⟩ htm (by omega) _) (cwV 1 hts gX3_copies_X3_copiesOf rfl rfl rfl (by decide +kernel) ⟨Nat.le_of_ble_eq_true rfl, Nat.le_of_ble_eq_true rfl⟩) (z_preV 0 hK hP hD rfl rfl) rfl rfl hl.1 rfl (lv_room (Nat.le_of_ble_eq_true rfl)) dX3_copies_10 ⟨Nat.zero_le _, Nat.zero_le _⟩) hS hD hA (fun r w1 H locs hw1 hP hD hS => ?_)
      obtain ⟨rfl, rfl⟩ := hw1
      refine lv_goto (tgt := 17) hx hb dX3_copies_13 (by decide) ?_
      exact z_iret (w := (wM a g 0 L att T hs tm pl (fun _ => 0))) (v := (iI (cC T (lf L T (nZ tm)) j))) hQ hx hb hr hlocks (Or.inr (Or.inr (⟨by omega, rfl, rfl⟩))) hK hP hD hS dX3_copies_17
set_option maxHeartbeats 4000000 in
set_option maxRecDepth 100000 in
theorem c_X3_unrolling (l : Launch) (D : va_G) (g : Nat → ClassId) (a : Nat → Nat) (th : Int) (L : LD) (att T : Nat) (hs : Nat → Int) (tm : Nat → Nat) (pl : Nat → Bool)  (hw : wf L) (hT2 : T ≤ 200) (htm : ∀ j, j < Ln L → tm j ≤ 1000000) : zMi l D (zT g) yX3_unrolling wsX3_unrolling 3 58 (wM a g th L att T hs tm pl (fun _ => 0)) [.ref (a 0)] (fun r w1 => (T = 0 ∧ w1 = wM a g 1 L att T hs tm pl (fun _ => 0)) ∨ ((0 < T) ∧ (((∀ j, j ≤ Ln L → unM (cN T (lf L T (nZ tm))) j ≤ 1000000) ∧ r = iI ((unM (cN T (lf L T (nZ tm))) (Ln L) : Nat) : Int)) ∨ (∃ x, x < Ln L ∧ (∀ j, j ≤ x → unM (cN T (lf L T (nZ tm))) j ≤ 1000000) ∧ 1000000 < unM (cN T (lf L T (nZ tm))) (x + 1) ∧ r = iI 1000000)) ∧ w1 = wM a g 0 L att T hs tm pl (fun _ => 0))) := by
  refine z_ofI (cc := cX3_unrolling) (maxL := 6) (ret := (some .int)) (by decide) rfl (Nat.le_of_ble_eq_true rfl) ?_
  intro p e s m args below meth c A ls hx hb hr hts hown hlocks hml hP hK hD hS hA hl Q hQ
  have hown : s.vm.findClass RX3 = some m.cls := hown
  have hinX3 : ∀ w ∈ u_ws RX3 TX3 16, w ∈ wsX3_unrolling := by decide +kernel
  have hl : lv_has ls 6 [(0, .ref (a 0))] := hl
  have hwn := wf_n hw
  refine lv_aload_n hx hb dX3_unrolling_0 rfl (lv_at hl 0 rfl) ?_
  refine z_calli (va_runV (As := []) (rest := []) ⟨hx, hb, hml, hown, hts⟩ (c_X3_has l D g a th L att T hs tm pl (by omega) _) (cwV 0 hts gX3_unrolling_X3_has rfl rfl rfl (by decide +kernel) ⟨Nat.le_of_ble_eq_true rfl, Nat.le_of_ble_eq_true rfl⟩) (z_preV 0 hK hP hD rfl rfl) rfl rfl hl.1 rfl (lv_room (Nat.le_of_ble_eq_true rfl)) dX3_unrolling_1 ⟨Nat.zero_le _, Nat.zero_le _⟩) hS hD hA (fun r w1 H locs hw1 hP hD hS => ?_)
  obtain ⟨rfl, rfl⟩ := hw1
  refine z_ifne (a := (bI (decide (0 < T)))) (tgt := 9) hx hb dX3_unrolling_4 (by decide) (bI_r _) (fun c_4 => ?_) (fun c_4 => ?_)
  · have d_4 := of_decide_eq_true (bI_t c_4)
    have ew : (0 : Int) = (if 0 < T then 0 else 1) := (if_pos d_4).symm
    have hP : va_P D vwCl (wM a g 0 L att T hs tm pl (fun _ => 0)) H := Eq.mp (congrArg (fun z9 => va_P D vwCl (wM a g z9 L att T hs tm pl (fun _ => 0)) H) ew.symm) hP
    have hD : va_D A (wM a g 0 L att T hs tm pl (fun _ => 0)) := Eq.mp (congrArg (fun z9 => va_D A (wM a g z9 L att T hs tm pl (fun _ => 0))) ew.symm) hD
    refine lv_lconst (v := lI 1) hx hb dX3_unrolling_9 (by decide) ?_
    refine lv_lstore_n (lv' := [(1, .long (lI (1))), (0, .ref (a 0))]) hx hb dX3_unrolling_10 rfl hl (by decide) rfl (fun ls hl => ?_)
    refine z_ic hx hb dX3_unrolling_11 ?_
    refine lv_istore_n (lv' := [(3, .int (iI ((0 : Nat) : Int))), (1, .long (lI (1))), (0, .ref (a 0))]) hx hb dX3_unrolling_12 rfl hl (by decide) rfl (fun ls hl => ?_)
    have loop13 : ∀ (n13 : Nat) (x : Nat) (H : Heap) (locs : List Loc) (ls : Array Slot), Ln L - x < n13 → (x ≤ Ln L) → (∀ j, j ≤ x → unM (cN T (lf L T (nZ tm))) j ≤ 1000000) → (1 ≤ unM (cN T (lf L T (nZ tm))) x) → va_P D vwCl (wM a g 0 L att T hs tm pl (fun _ => 0)) H → va_D A (wM a g 0 L att T hs tm pl (fun _ => 0)) → va_S A s.heap H locs → lv_has ls 6 [(0, .ref (a 0)), (1, .long (lI (((unM (cN T (lf L T (nZ tm))) x : Nat) : Int)))), (3, .int (iI ((x : Nat) : Int)))] → W p l e ({ frames := 3, cells := 0, slots := 0, locals := 58 } : Room) s m args below meth c H locs 0 0 Q (F0 m 13 ls []) := by
      intro n13
      induction n13 with
      | zero => exact fun _ H locs ls hn => absurd hn (Nat.not_lt_zero _)
      | succ n13 ih13 =>
        intro x H locs ls hn13 hx2 hu hup hP hD hS hl
        have hux := hu x (Nat.le_refl x)
        refine lv_iload_n hx hb dX3_unrolling_13 rfl (lv_at hl 2 rfl) ?_
        refine lv_aload_n hx hb dX3_unrolling_14 rfl (lv_at hl 0 rfl) ?_
        refine va_get (D := D) (ci := 3) (v := .int (iI ((Ln L : Nat) : Int))) (C := RX3) (T := TX3) (N := 16) hx hb hts hinX3 hown hK hP 0 rfl rfl 2 (by decide) (hts (.fieldLink RX3 48 "LoopSchedulerModel" "operations" "I") (List.mem_of_getElem? (i := 1) rfl)) (fun _ h9 => h9) rfl dX3_unrolling_15 ?_
        refine z_icge (a := ((x : Nat) : Int)) (b := ((Ln L : Nat) : Int)) (tgt := 62) hx hb dX3_unrolling_18 (by decide) (by omega) (fun c_18 => ?_) (fun c_18 => ?_)
        · obtain rfl : x = Ln L := by omega
          refine lv_lload_n hx hb dX3_unrolling_62 rfl (lv_at hl 1 rfl) ?_
          refine zl_l2i (z := ((unM (cN T (lf L T (nZ tm))) (Ln L) : Nat) : Int)) hx hb dX3_unrolling_63 ?_
          exact z_iret (w := (wM a g 0 L att T hs tm pl (fun _ => 0))) (v := (iI (((unM (cN T (lf L T (nZ tm))) (Ln L) : Nat) : Int)))) hQ hx hb hr hlocks (Or.inr ⟨by omega, Or.inl ⟨hu, rfl⟩, rfl⟩) hK hP hD hS dX3_unrolling_64
        · have hxn : x < Ln L := by omega
          refine lv_lload_n hx hb dX3_unrolling_21 rfl (lv_at hl 1 rfl) ?_
          refine lv_lstore (lv' := [(4, .long (lI (((unM (cN T (lf L T (nZ tm))) x : Nat) : Int)))), (0, .ref (a 0)), (1, .long (lI (((unM (cN T (lf L T (nZ tm))) x : Nat) : Int)))), (3, .int (iI ((x : Nat) : Int)))]) hx hb dX3_unrolling_22 hl (by decide) rfl (fun ls hl => ?_)
          have loop24 : ∀ (n24 : Nat) (f : Nat) (H : Heap) (locs : List Loc) (ls : Array Slot), (cN T (lf L T (nZ tm))) x - f < n24 → (1 ≤ f ∧ f ≤ (cN T (lf L T (nZ tm))) x) → (ffst (lcf (unM (cN T (lf L T (nZ tm))) x) ((cN T (lf L T (nZ tm))) x)) f ((cN T (lf L T (nZ tm))) x - f) = ffst (lcf (unM (cN T (lf L T (nZ tm))) x) ((cN T (lf L T (nZ tm))) x)) 1 ((cN T (lf L T (nZ tm))) x - 1)) → (x < Ln L) → va_P D vwCl (wM a g 0 L att T hs tm pl (fun _ => 0)) H → va_D A (wM a g 0 L att T hs tm pl (fun _ => 0)) → va_S A s.heap H locs → lv_has ls 6 [(0, .ref (a 0)), (1, .long (lI (((unM (cN T (lf L T (nZ tm))) x * f : Nat) : Int)))), (3, .int (iI ((x : Nat) : Int))), (4, .long (lI (((unM (cN T (lf L T (nZ tm))) x : Nat) : Int))))] → W p l e ({ frames := 3, cells := 0, slots := 0, locals := 58 } : Room) s m args below meth c H locs 0 0 Q (F0 m 24 ls []) := by
            intro n24
            induction n24 with
            | zero => exact fun _ H locs ls hn => absurd hn (Nat.not_lt_zero _)
            | succ n24 ih24 =>
              intro f H locs ls hn24 hf1 hf hxn hP hD hS hl
              have hce := cNn_e hw ⟨by omega, by omega⟩ htm hxn
              have hm1 : unM (cN T (lf L T (nZ tm))) x * f ≤ 1000000 * 2000200 := Nat.mul_le_mul hux (by omega)
              have hmd := Nat.mod_lt (unM (cN T (lf L T (nZ tm))) x * f) (show 0 < (cN T (lf L T (nZ tm))) x by omega)
              refine lv_lload_n hx hb dX3_unrolling_24 rfl (lv_at hl 1 rfl) ?_
              refine lv_aload_n hx hb dX3_unrolling_25 rfl (lv_at hl 0 rfl) ?_
              refine lv_iload_n hx hb dX3_unrolling_26 rfl (lv_at hl 2 rfl) ?_
              refine z_calli (va_runV (As := [.int (iI ((x : Nat) : Int))]) (rest := [.long (lI (((unM (cN T (lf L T (nZ tm))) x * f : Nat) : Int)))]) ⟨hx, hb, hml, hown, hts⟩ (c_X3_copiesOf l D g a 0 L att T hs tm pl x hw ⟨by omega, by omega⟩ htm (by omega) _) (cwV 1 hts gX3_unrolling_X3_copiesOf rfl rfl rfl (by decide +kernel) ⟨Nat.le_of_ble_eq_true rfl, Nat.le_of_ble_eq_true rfl⟩) (z_preV 0 hK hP hD rfl rfl) rfl rfl hl.1 rfl (lv_room (Nat.le_of_ble_eq_true rfl)) dX3_unrolling_27 ⟨Nat.zero_le _, Nat.zero_le _⟩) hS hD hA (fun r w1 H locs hw1 hP hD hS => ?_)
              obtain ⟨rfl, rfl⟩ := hw1
              refine z_eqI (y := (iI (((cN T (lf L T (nZ tm))) x : Nat) : Int))) (congrArg iI hce.1) ?_
              refine zl_i2l (z := (((cN T (lf L T (nZ tm))) x : Nat) : Int)) hx hb (by omega) dX3_unrolling_30 ?_
              refine zl_rem (a := ((unM (cN T (lf L T (nZ tm))) x * f : Nat) : Int)) (b := (((cN T (lf L T (nZ tm))) x : Nat) : Int)) hx hb (by omega) dX3_unrolling_31 ?_
              refine z_eqL (y := lI ((unM (cN T (lf L T (nZ tm))) x * f % (cN T (lf L T (nZ tm))) x : Nat) : Int)) (congrArg lI (Int.natCast_emod _ _).symm) ?_
              refine lv_lconst (v := lI 0) hx hb dX3_unrolling_32 (by decide) ?_
              refine zl_cmp (a := ((unM (cN T (lf L T (nZ tm))) x * f % (cN T (lf L T (nZ tm))) x : Nat) : Int)) (b := 0) hx hb (by omega) dX3_unrolling_33 ?_
              refine z_ifeq (a := (cmpZ (((unM (cN T (lf L T (nZ tm))) x * f % (cN T (lf L T (nZ tm))) x : Nat) : Int)) (0))) (tgt := 45) hx hb dX3_unrolling_34 (by decide) (by have q9 := cmpZ_r (((unM (cN T (lf L T (nZ tm))) x * f % (cN T (lf L T (nZ tm))) x : Nat) : Int)) (0); omega) (fun c_34 => ?_) (fun c_34 => ?_)
              · have hdv : unM (cN T (lf L T (nZ tm))) x * f % (cN T (lf L T (nZ tm))) x = 0 := by have q9 := cmpZ_0.mp c_34; omega
                have hfin : unM (cN T (lf L T (nZ tm))) x * f = unM (cN T (lf L T (nZ tm))) (x + 1) := lcN_fin hdv hf1 hf
                have hup1 : 1 ≤ unM (cN T (lf L T (nZ tm))) (x + 1) := by rw [← hfin]; exact Nat.mul_pos hup hf1.1
                refine lv_lload_n hx hb dX3_unrolling_45 rfl (lv_at hl 1 rfl) ?_
                refine lv_ldc2 (v := 1000000) hx hb hown (hts (.constantLong RX3 146 (1000000)) (List.mem_of_getElem? (i := 2) rfl)) dX3_unrolling_46 ?_
                refine z_eqL (y := lI 1000000) (by decide) ?_
                refine zl_cmp (a := ((unM (cN T (lf L T (nZ tm))) x * f : Nat) : Int)) (b := 1000000) hx hb (by omega) dX3_unrolling_49 ?_
                refine z_ifle (a := (cmpZ (((unM (cN T (lf L T (nZ tm))) x * f : Nat) : Int)) (1000000))) (tgt := 56) hx hb dX3_unrolling_50 (by decide) (by have q9 := cmpZ_r (((unM (cN T (lf L T (nZ tm))) x * f : Nat) : Int)) (1000000); omega) (fun c_50 => ?_) (fun c_50 => ?_)
                · have c9 := cmpZ_le.mp c_50
                  refine z_iinc (a := ((x : Nat) : Int)) (b := ((x + 1 : Nat) : Int)) (lv' := [(3, .int (iI ((x + 1 : Nat) : Int))), (0, .ref (a 0)), (1, .long (lI (((unM (cN T (lf L T (nZ tm))) x * f : Nat) : Int)))), (4, .long (lI (((unM (cN T (lf L T (nZ tm))) x : Nat) : Int))))]) hx hb 2 dX3_unrolling_56 hl rfl rfl (by decide) rfl (fun ls hl => ?_)
                  refine lv_goto (tgt := 13) hx hb dX3_unrolling_59 (by decide) ?_
                  exact ih13 (x + 1) _ _ _ (by omega) (by omega) (fun j h => (Nat.lt_or_ge j (x + 1)).elim (fun q => hu j (by omega)) (fun q => by rw [show j = x + 1 by omega]; omega)) hup1 hP hD hS (by rw [show unM (cN T (lf L T (nZ tm))) (x + 1) = unM (cN T (lf L T (nZ tm))) x * f from hfin.symm]; exact lv_sub hl [1, 2, 0] rfl)
                · have c9 : ¬ _ := fun q => c_50 (cmpZ_le.mpr q)
                  refine lv_ldc (v := 1000000) hx hb hown (hts (.constant RX3 96 (1000000)) (List.mem_of_getElem? (i := 3) rfl)) dX3_unrolling_53 ?_
                  refine z_eqI (y := iI ((1000000 : Nat) : Int)) (by decide) ?_
                  exact z_iret (w := (wM a g 0 L att T hs tm pl (fun _ => 0))) (v := (iI ((1000000 : Nat) : Int))) hQ hx hb hr hlocks (Or.inr ⟨by omega, Or.inr ⟨x, by omega, hu, by omega, rfl⟩, rfl⟩) hK hP hD hS dX3_unrolling_55
              · have hnd : ¬ unM (cN T (lf L T (nZ tm))) x * f % (cN T (lf L T (nZ tm))) x = 0 := fun q => c_34 (cmpZ_0.mpr (by rw [q]; rfl))
                have hflt : f < (cN T (lf L T (nZ tm))) x := by rcases Nat.lt_or_ge f ((cN T (lf L T (nZ tm))) x) with q | q; exact q; exact absurd (by rw [show f = (cN T (lf L T (nZ tm))) x by omega]; exact Nat.mul_mod_left _ _) hnd
                refine lv_lload_n hx hb dX3_unrolling_37 rfl (lv_at hl 1 rfl) ?_
                refine lv_lload hx hb dX3_unrolling_38 (lv_at hl 3 rfl) ?_
                refine zl_add (a := ((unM (cN T (lf L T (nZ tm))) x * f : Nat) : Int)) (b := ((unM (cN T (lf L T (nZ tm))) x : Nat) : Int)) hx hb dX3_unrolling_40 ?_
                refine lv_lstore_n (lv' := [(1, .long (lI ((((unM (cN T (lf L T (nZ tm))) x * f : Nat) : Int)) + (((unM (cN T (lf L T (nZ tm))) x : Nat) : Int))))), (0, .ref (a 0)), (3, .int (iI ((x : Nat) : Int))), (4, .long (lI (((unM (cN T (lf L T (nZ tm))) x : Nat) : Int))))]) hx hb dX3_unrolling_41 rfl hl (by decide) rfl (fun ls hl => ?_)
                refine lv_goto (tgt := 24) hx hb dX3_unrolling_42 (by decide) ?_
                exact ih24 (f + 1) _ _ _ (by omega) (by omega) (by rw [← hf, show (cN T (lf L T (nZ tm))) x - f = ((cN T (lf L T (nZ tm))) x - (f + 1)) + 1 by omega]; exact (ffst_f (decide_eq_false hnd)).symm) (by omega) hP hD hS (by rw [show ((unM (cN T (lf L T (nZ tm))) x * (f + 1) : Nat) : Int) = ((unM (cN T (lf L T (nZ tm))) x * f : Nat) : Int) + ((unM (cN T (lf L T (nZ tm))) x : Nat) : Int) from (by rw [Nat.mul_succ, Int.natCast_add])]; exact lv_sub hl [1, 0, 2, 3] rfl)
          exact loop24 (((cN T (lf L T (nZ tm))) x - 1) + 1) 1 _ _ _ (Nat.lt_succ_self _) ⟨Nat.le_refl 1, (cNn_e hw ⟨by omega, by omega⟩ htm (show x < Ln L by omega)).2.1⟩ rfl (by omega) hP hD hS (by rw [show unM (cN T (lf L T (nZ tm))) x * 1 = unM (cN T (lf L T (nZ tm))) x from Nat.mul_one _]; exact lv_sub hl [1, 2, 3, 0] rfl)
    exact loop13 ((Ln L - 0) + 1) 0 _ _ _ (Nat.lt_succ_self _) (by omega) (fun j h => by rw [show j = 0 by omega]; exact (show 1 ≤ 1000000 by decide)) (Nat.le_refl 1) hP hD hS (lv_sub hl [2, 1, 0] rfl)
  · have d_4 := of_decide_eq_false (bI_f c_4)
    have ew : (1 : Int) = (if 0 < T then 0 else 1) := (if_neg d_4).symm
    have hP : va_P D vwCl (wM a g 1 L att T hs tm pl (fun _ => 0)) H := Eq.mp (congrArg (fun z9 => va_P D vwCl (wM a g z9 L att T hs tm pl (fun _ => 0)) H) ew.symm) hP
    have hD : va_D A (wM a g 1 L att T hs tm pl (fun _ => 0)) := Eq.mp (congrArg (fun z9 => va_D A (wM a g z9 L att T hs tm pl (fun _ => 0))) ew.symm) hD
    refine z_ic hx hb dX3_unrolling_7 ?_
    exact z_iret (w := (wM a g 1 L att T hs tm pl (fun _ => 0))) (v := (iI ((0 : Nat) : Int))) hQ hx hb hr hlocks (Or.inl ⟨by omega, rfl⟩) hK hP hD hS dX3_unrolling_8
set_option maxHeartbeats 4000000 in
set_option maxRecDepth 100000 in
theorem c_X3_cycles (l : Launch) (D : va_G) (g : Nat → ClassId) (a : Nat → Nat) (th : Int) (L : LD) (att T : Nat) (hs : Nat → Int) (tm : Nat → Nat) (pl : Nat → Bool) (i : Int) (hw : wf L) (hT2 : T ≤ 200) (hri : -2147483648 ≤ i ∧ i < 2147483648) (htm : ∀ j, j < Ln L → tm j ≤ 1000000) : zMi l D (zT g) yX3_cycles wsX3_cycles 2 35 (wM a g th L att T hs tm pl (fun _ => 0)) [.ref (a 0), .int (iI (i))] (fun r w1 => ((T = 0) ∧ w1 = wM a g 1 L att T hs tm pl (fun _ => 0)) ∨ ((0 < T ∧ ¬ (1 ≤ i ∧ i ≤ 1000)) ∧ w1 = wM a g 2 L att T hs tm pl (fun _ => 0)) ∨ ((0 < T ∧ (1 ≤ i ∧ i ≤ 1000)) ∧ r = iI (if Ln L = 0 then 0 else gT (nZ tm) (Ln L) + (i - 1) * (T : Int) + 1) ∧ w1 = wM a g 0 L att T hs tm pl (fun _ => 0))) := by
  refine z_ofI (cc := cX3_cycles) (maxL := 2) (ret := (some .int)) (by decide) rfl (Nat.le_of_ble_eq_true rfl) ?_
  intro p e s m args below meth c A ls hx hb hr hts hown hlocks hml hP hK hD hS hA hl Q hQ
  have hown : s.vm.findClass RX3 = some m.cls := hown
  have hinX3 : ∀ w ∈ u_ws RX3 TX3 16, w ∈ wsX3_cycles := by decide +kernel
  have hl : lv_has ls 2 [(0, .ref (a 0)), (1, .int (iI (i)))] := hl
  have hwn := wf_n hw
  refine lv_aload_n hx hb dX3_cycles_0 rfl (lv_at hl 0 rfl) ?_
  refine lv_aload_n hx hb dX3_cycles_1 rfl (lv_at hl 0 rfl) ?_
  refine va_get (D := D) (ci := 3) (v := .int (iI ((T : Nat) : Int))) (C := RX3) (T := TX3) (N := 16) hx hb hts hinX3 hown hK hP 0 rfl rfl 10 (by decide) (hts (.fieldLink RX3 59 "LoopSchedulerModel" "interval" "I") (List.mem_of_getElem? (i := 1) rfl)) (fun _ h9 => h9) rfl dX3_cycles_2 ?_
  refine z_ifne (a := ((T : Nat) : Int)) (tgt := 12) hx hb dX3_cycles_5 (by decide) (by omega) (fun c_5 => ?_) (fun c_5 => ?_)
  · refine lv_iload_n hx hb dX3_cycles_12 rfl (lv_at hl 1 rfl) ?_
    refine z_ic hx hb dX3_cycles_13 ?_
    refine z_sip hx hb dX3_cycles_14 (by decide) ?_
    refine z_calli (va_runS (As := [.int (iI (i)), .int (iI ((1 : Nat) : Int)), .int (iI ((1000 : Nat) : Int))]) (rest := [.ref (a 0)]) ⟨hx, hb, hml, hown, hts⟩ (c_X3_isIn l D g a th L att T hs tm pl i 1 1000 (by omega) (by omega) (by omega) _) (va_cwS 3 hts gX3_cycles_X3_isIn rfl rfl rfl (by decide +kernel) ⟨Nat.le_of_ble_eq_true rfl, Nat.le_of_ble_eq_true rfl⟩) (z_preS hK hP hD) rfl rfl hl.1 rfl (lv_room (Nat.le_of_ble_eq_true rfl)) dX3_cycles_17 ⟨Nat.zero_le _, Nat.zero_le _⟩) hS hD hA (fun r w1 H locs hw1 hP hD hS => ?_)
    obtain ⟨rfl, rfl⟩ := hw1
    refine z_ifne (a := (bI (decide (1 ≤ i ∧ i ≤ 1000)))) (tgt := 27) hx hb dX3_cycles_20 (by decide) (bI_r _) (fun c_20 => ?_) (fun c_20 => ?_)
    · have d_20 := of_decide_eq_true (bI_t c_20)
      refine z_ic hx hb dX3_cycles_27 ?_
      refine va_put (D := D) (ci := 3) (v := .int (iI ((0 : Nat) : Int))) (ty := .int) (C := RX3) (T := TX3) (N := 16) hx hb hts hinX3 tyX3 tyX3_ok nmX3 hown hK hP hD hS 0 rfl rfl 0 (by decide) (hts (.fieldLink RX3 44 "LoopSchedulerModel" "thrown" "I") (List.mem_of_getElem? (i := 2) rfl)) (fun _ h9 => h9) rfl (by decide +kernel) rfl rfl (Nat.le_of_ble_eq_true rfl) dX3_cycles_28 (fun H locs hP hD hS => ?_)
      have hP : va_P D vwCl (wM a g 0 L att T hs tm pl (fun _ => 0)) H := hP
      have hD : va_D A (wM a g 0 L att T hs tm pl (fun _ => 0)) := hD
      refine lv_aload_n hx hb dX3_cycles_31 rfl (lv_at hl 0 rfl) ?_
      refine va_get (D := D) (ci := 3) (v := .int (iI (0))) (C := RX3) (T := TX3) (N := 16) hx hb hts hinX3 hown hK hP 0 rfl rfl 0 (by decide) (hts (.fieldLink RX3 44 "LoopSchedulerModel" "thrown" "I") (List.mem_of_getElem? (i := 2) rfl)) (fun _ h9 => h9) rfl dX3_cycles_32 ?_
      refine z_ifgt (a := 0) (tgt := 45) hx hb dX3_cycles_35 (by decide) (by omega) (fun c_35 => ?_) (fun c_35 => ?_)
      · exact absurd c_35 (by decide)
      · refine lv_aload_n hx hb dX3_cycles_38 rfl (lv_at hl 0 rfl) ?_
        refine va_get (D := D) (ci := 3) (v := .int (iI ((Ln L : Nat) : Int))) (C := RX3) (T := TX3) (N := 16) hx hb hts hinX3 hown hK hP 0 rfl rfl 2 (by decide) (hts (.fieldLink RX3 48 "LoopSchedulerModel" "operations" "I") (List.mem_of_getElem? (i := 3) rfl)) (fun _ h9 => h9) rfl dX3_cycles_39 ?_
        refine z_ifne (a := ((Ln L : Nat) : Int)) (tgt := 49) hx hb dX3_cycles_42 (by decide) (by omega) (fun c_42 => ?_) (fun c_42 => ?_)
        · refine lv_aload_n hx hb dX3_cycles_49 rfl (lv_at hl 0 rfl) ?_
          refine z_calli (va_runV (As := []) (rest := []) ⟨hx, hb, hml, hown, hts⟩ (c_X3_latest l D g a 0 L att T hs tm pl hw htm _) (cwV 0 hts gX3_cycles_X3_latest rfl rfl rfl (by decide +kernel) ⟨Nat.le_of_ble_eq_true rfl, Nat.le_of_ble_eq_true rfl⟩) (z_preV 0 hK hP hD rfl rfl) rfl rfl hl.1 rfl (lv_room (Nat.le_of_ble_eq_true rfl)) dX3_cycles_50 ⟨Nat.zero_le _, Nat.zero_le _⟩) hS hD hA (fun r w1 H locs hw1 hP hD hS => ?_)
          obtain ⟨rfl, rfl⟩ := hw1
          refine lv_iload_n hx hb dX3_cycles_53 rfl (lv_at hl 1 rfl) ?_
          refine z_ic hx hb dX3_cycles_54 ?_
          refine z_sub (a := i) (b := 1) hx hb dX3_cycles_55 ?_
          refine lv_aload_n hx hb dX3_cycles_56 rfl (lv_at hl 0 rfl) ?_
          refine va_get (D := D) (ci := 3) (v := .int (iI ((T : Nat) : Int))) (C := RX3) (T := TX3) (N := 16) hx hb hts hinX3 hown hK hP 0 rfl rfl 10 (by decide) (hts (.fieldLink RX3 59 "LoopSchedulerModel" "interval" "I") (List.mem_of_getElem? (i := 1) rfl)) (fun _ h9 => h9) rfl dX3_cycles_57 ?_
          refine z_mul (a := (i - 1)) (b := ((T : Nat) : Int)) hx hb dX3_cycles_60 ?_
          refine z_add (a := (gT (nZ tm) (Ln L))) (b := ((i - 1) * ((T : Nat) : Int))) hx hb dX3_cycles_61 ?_
          refine z_ic hx hb dX3_cycles_62 ?_
          refine z_add (a := ((gT (nZ tm) (Ln L)) + ((i - 1) * ((T : Nat) : Int)))) (b := 1) hx hb dX3_cycles_63 ?_
          exact z_iret (w := (wM a g 0 L att T hs tm pl (fun _ => 0))) (v := (iI (((gT (nZ tm) (Ln L)) + ((i - 1) * ((T : Nat) : Int))) + 1))) hQ hx hb hr hlocks (Or.inr (Or.inr (⟨by omega, by rw [if_neg (show ¬ Ln L = 0 by omega)], rfl⟩))) hK hP hD hS dX3_cycles_64
        · refine z_ic hx hb dX3_cycles_45 ?_
          refine lv_goto (tgt := 64) hx hb dX3_cycles_46 (by decide) ?_
          exact z_iret (w := (wM a g 0 L att T hs tm pl (fun _ => 0))) (v := (iI ((0 : Nat) : Int))) hQ hx hb hr hlocks (Or.inr (Or.inr (⟨by omega, by rw [if_pos (show Ln L = 0 by omega)]; rfl, rfl⟩))) hK hP hD hS dX3_cycles_64
    · have d_20 := of_decide_eq_false (bI_f c_20)
      refine z_ic hx hb dX3_cycles_23 ?_
      refine lv_goto (tgt := 28) hx hb dX3_cycles_24 (by decide) ?_
      refine va_put (D := D) (ci := 3) (v := .int (iI ((2 : Nat) : Int))) (ty := .int) (C := RX3) (T := TX3) (N := 16) hx hb hts hinX3 tyX3 tyX3_ok nmX3 hown hK hP hD hS 0 rfl rfl 0 (by decide) (hts (.fieldLink RX3 44 "LoopSchedulerModel" "thrown" "I") (List.mem_of_getElem? (i := 2) rfl)) (fun _ h9 => h9) rfl (by decide +kernel) rfl rfl (Nat.le_of_ble_eq_true rfl) dX3_cycles_28 (fun H locs hP hD hS => ?_)
      have hP : va_P D vwCl (wM a g 2 L att T hs tm pl (fun _ => 0)) H := hP
      have hD : va_D A (wM a g 2 L att T hs tm pl (fun _ => 0)) := hD
      refine lv_aload_n hx hb dX3_cycles_31 rfl (lv_at hl 0 rfl) ?_
      refine va_get (D := D) (ci := 3) (v := .int (iI (2))) (C := RX3) (T := TX3) (N := 16) hx hb hts hinX3 hown hK hP 0 rfl rfl 0 (by decide) (hts (.fieldLink RX3 44 "LoopSchedulerModel" "thrown" "I") (List.mem_of_getElem? (i := 2) rfl)) (fun _ h9 => h9) rfl dX3_cycles_32 ?_
      refine z_ifgt (a := 2) (tgt := 45) hx hb dX3_cycles_35 (by decide) (by omega) (fun c_35 => ?_) (fun c_35 => ?_)
      · refine z_ic hx hb dX3_cycles_45 ?_
        refine lv_goto (tgt := 64) hx hb dX3_cycles_46 (by decide) ?_
        exact z_iret (w := (wM a g 2 L att T hs tm pl (fun _ => 0))) (v := (iI ((0 : Nat) : Int))) hQ hx hb hr hlocks (Or.inr (Or.inl (⟨by omega, rfl⟩))) hK hP hD hS dX3_cycles_64
      · exact absurd c_35 (by decide)
  · refine z_ic hx hb dX3_cycles_8 ?_
    refine lv_goto (tgt := 28) hx hb dX3_cycles_9 (by decide) ?_
    refine va_put (D := D) (ci := 3) (v := .int (iI ((1 : Nat) : Int))) (ty := .int) (C := RX3) (T := TX3) (N := 16) hx hb hts hinX3 tyX3 tyX3_ok nmX3 hown hK hP hD hS 0 rfl rfl 0 (by decide) (hts (.fieldLink RX3 44 "LoopSchedulerModel" "thrown" "I") (List.mem_of_getElem? (i := 2) rfl)) (fun _ h9 => h9) rfl (by decide +kernel) rfl rfl (Nat.le_of_ble_eq_true rfl) dX3_cycles_28 (fun H locs hP hD hS => ?_)
    have hP : va_P D vwCl (wM a g 1 L att T hs tm pl (fun _ => 0)) H := hP
    have hD : va_D A (wM a g 1 L att T hs tm pl (fun _ => 0)) := hD
    refine lv_aload_n hx hb dX3_cycles_31 rfl (lv_at hl 0 rfl) ?_
    refine va_get (D := D) (ci := 3) (v := .int (iI (1))) (C := RX3) (T := TX3) (N := 16) hx hb hts hinX3 hown hK hP 0 rfl rfl 0 (by decide) (hts (.fieldLink RX3 44 "LoopSchedulerModel" "thrown" "I") (List.mem_of_getElem? (i := 2) rfl)) (fun _ h9 => h9) rfl dX3_cycles_32 ?_
    refine z_ifgt (a := 1) (tgt := 45) hx hb dX3_cycles_35 (by decide) (by omega) (fun c_35 => ?_) (fun c_35 => ?_)
    · refine z_ic hx hb dX3_cycles_45 ?_
      refine lv_goto (tgt := 64) hx hb dX3_cycles_46 (by decide) ?_
      exact z_iret (w := (wM a g 1 L att T hs tm pl (fun _ => 0))) (v := (iI ((0 : Nat) : Int))) hQ hx hb hr hlocks (Or.inl (⟨by omega, rfl⟩)) hK hP hD hS dX3_cycles_64
    · exact absurd c_35 (by decide)
set_option maxHeartbeats 4000000 in
set_option maxRecDepth 100000 in
theorem c_X3_issuedIn (l : Launch) (D : va_G) (g : Nat → ClassId) (a : Nat → Nat) (th : Int) (L : LD) (att T : Nat) (hs : Nat → Int) (tm : Nat → Nat) (pl : Nat → Bool) (n y : Nat) (hw : wf L) (hTT : 0 < T ∧ T ≤ 200) (htm : ∀ j, j < Ln L → tm j ≤ 1000000) (hn : n ≤ 100000000) (hy : y < 2147483648) : zMi l D (zT g) yX3_issuedIn wsX3_issuedIn 1 12 (wM a g th L att T hs tm pl (fun _ => 0)) [.ref (a 0), .int (iI ((n : Nat) : Int)), .int (iI ((y : Nat) : Int))] (fun r w1 => r = iI ((isn T (nZ tm) n y (Ln L) : Nat) : Int) ∧ w1 = wM a g th L att T hs tm pl (fun _ => 0)) := by
  refine z_ofI (cc := cX3_issuedIn) (maxL := 6) (ret := (some .int)) (by decide) rfl (Nat.le_of_ble_eq_true rfl) ?_
  intro p e s m args below meth c A ls hx hb hr hts hown hlocks hml hP hK hD hS hA hl Q hQ
  have hown : s.vm.findClass RX3 = some m.cls := hown
  have hinX3 : ∀ w ∈ u_ws RX3 TX3 16, w ∈ wsX3_issuedIn := by decide +kernel
  have hl : lv_has ls 6 [(0, .ref (a 0)), (1, .int (iI ((n : Nat) : Int))), (2, .int (iI ((y : Nat) : Int)))] := hl
  refine z_ic hx hb dX3_issuedIn_0 ?_
  refine lv_istore_n (lv' := [(3, .int (iI ((0 : Nat) : Int))), (0, .ref (a 0)), (1, .int (iI ((n : Nat) : Int))), (2, .int (iI ((y : Nat) : Int)))]) hx hb dX3_issuedIn_1 rfl hl (by decide) rfl (fun ls hl => ?_)
  refine z_ic hx hb dX3_issuedIn_2 ?_
  refine lv_istore (lv' := [(4, .int (iI ((0 : Nat) : Int))), (3, .int (iI ((0 : Nat) : Int))), (0, .ref (a 0)), (1, .int (iI ((n : Nat) : Int))), (2, .int (iI ((y : Nat) : Int)))]) hx hb dX3_issuedIn_3 hl (by decide) rfl (fun ls hl => ?_)
  have loop5 : ∀ (n5 : Nat) (i : Nat) (H : Heap) (locs : List Loc) (ls : Array Slot), Ln L - i < n5 → (i ≤ Ln L) → va_P D vwCl (wM a g th L att T hs tm pl (fun _ => 0)) H → va_D A (wM a g th L att T hs tm pl (fun _ => 0)) → va_S A s.heap H locs → lv_has ls 6 [(0, .ref (a 0)), (1, .int (iI ((n : Nat) : Int))), (2, .int (iI ((y : Nat) : Int))), (3, .int (iI ((isn T (nZ tm) n y i : Nat) : Int))), (4, .int (iI ((i : Nat) : Int)))] → W p l e ({ frames := 1, cells := 0, slots := 0, locals := 12 } : Room) s m args below meth c H locs 0 0 Q (F0 m 5 ls []) := by
    intro n5
    induction n5 with
    | zero => exact fun _ H locs ls hn => absurd hn (Nat.not_lt_zero _)
    | succ n5 ih5 =>
      intro i H locs ls hn5 hi hP hD hS hl
      have hwn := wf_n hw
      have hil := isn_le T (nZ tm) n y i
      refine lv_iload hx hb dX3_issuedIn_5 (lv_at hl 4 rfl) ?_
      refine lv_aload_n hx hb dX3_issuedIn_7 rfl (lv_at hl 0 rfl) ?_
      refine va_get (D := D) (ci := 3) (v := .int (iI ((Ln L : Nat) : Int))) (C := RX3) (T := TX3) (N := 16) hx hb hts hinX3 hown hK hP 0 rfl rfl 2 (by decide) (hts (.fieldLink RX3 48 "LoopSchedulerModel" "operations" "I") (List.mem_of_getElem? (i := 1) rfl)) (fun _ h9 => h9) rfl dX3_issuedIn_8 ?_
      refine z_icge (a := ((i : Nat) : Int)) (b := ((Ln L : Nat) : Int)) (tgt := 65) hx hb dX3_issuedIn_11 (by decide) (by omega) (fun c_11 => ?_) (fun c_11 => ?_)
      · obtain rfl : i = Ln L := by omega
        refine lv_iload_n hx hb dX3_issuedIn_65 rfl (lv_at hl 3 rfl) ?_
        exact z_iret (w := (wM a g th L att T hs tm pl (fun _ => 0))) (v := (iI ((isn T (nZ tm) n y (Ln L) : Nat) : Int))) hQ hx hb hr hlocks ⟨rfl, rfl⟩ hK hP hD hS dX3_issuedIn_66
      · have hti := htm i (by omega)
        refine lv_iload_n hx hb dX3_issuedIn_14 rfl (lv_at hl 2 rfl) ?_
        refine lv_aload_n hx hb dX3_issuedIn_15 rfl (lv_at hl 0 rfl) ?_
        refine va_get (D := D) (ci := 3) (v := .ref (a 8)) (C := RX3) (T := TX3) (N := 16) hx hb hts hinX3 hown hK hP 0 rfl rfl 11 (by decide) (hts (.fieldLink RX3 31 "LoopSchedulerModel" "times" "[I") (List.mem_of_getElem? (i := 2) rfl)) (fun _ h9 => h9) rfl dX3_issuedIn_16 ?_
        refine lv_iload hx hb dX3_issuedIn_19 (lv_at hl 4 rfl) ?_
        refine z_ialdZ (f := tm) (z := i) hx hb hK hP 8 0 rfl rfl (by omega) (by decide) dX3_issuedIn_21 ?_
        refine z_sub (a := ((y : Nat) : Int)) (b := ((tm i : Nat) : Int)) hx hb dX3_issuedIn_22 ?_
        refine lv_istore (lv' := [(5, .int (iI (((y : Nat) : Int) - ((tm i : Nat) : Int)))), (0, .ref (a 0)), (1, .int (iI ((n : Nat) : Int))), (2, .int (iI ((y : Nat) : Int))), (3, .int (iI ((isn T (nZ tm) n y i : Nat) : Int))), (4, .int (iI ((i : Nat) : Int)))]) hx hb dX3_issuedIn_23 hl (by decide) rfl (fun ls hl => ?_)
        refine lv_iload_n hx hb dX3_issuedIn_25 rfl (lv_at hl 4 rfl) ?_
        refine lv_iload hx hb dX3_issuedIn_26 (lv_at hl 0 rfl) ?_
        refine z_iflt (a := (((y : Nat) : Int) - ((tm i : Nat) : Int))) (tgt := 56) hx hb dX3_issuedIn_28 (by decide) (by omega) (fun c_28 => ?_) (fun c_28 => ?_)
        · refine z_ic hx hb dX3_issuedIn_56 ?_
          refine z_add (a := ((isn T (nZ tm) n y i : Nat) : Int)) (b := 0) hx hb dX3_issuedIn_57 ?_
          refine z_eqI (y := iI ((isn T (nZ tm) n y (i + 1) : Nat) : Int)) (congrArg iI (by rw [isn_f (iss_f (T := T) (tm := nZ tm) (n := n) (c := y) (i := i) (fun q => by unfold nZ at q; omega))]; omega)) ?_
          refine lv_istore_n (lv' := [(3, .int (iI ((isn T (nZ tm) n y (i + 1) : Nat) : Int))), (5, .int (iI (((y : Nat) : Int) - ((tm i : Nat) : Int)))), (0, .ref (a 0)), (1, .int (iI ((n : Nat) : Int))), (2, .int (iI ((y : Nat) : Int))), (4, .int (iI ((i : Nat) : Int)))]) hx hb dX3_issuedIn_58 rfl hl (by decide) rfl (fun ls hl => ?_)
          refine z_iinc (a := ((i : Nat) : Int)) (b := ((i + 1 : Nat) : Int)) (lv' := [(4, .int (iI ((i + 1 : Nat) : Int))), (3, .int (iI ((isn T (nZ tm) n y (i + 1) : Nat) : Int))), (5, .int (iI (((y : Nat) : Int) - ((tm i : Nat) : Int)))), (0, .ref (a 0)), (1, .int (iI ((n : Nat) : Int))), (2, .int (iI ((y : Nat) : Int)))]) hx hb 5 dX3_issuedIn_59 hl rfl rfl (by decide) rfl (fun ls hl => ?_)
          refine lv_goto (tgt := 5) hx hb dX3_issuedIn_62 (by decide) ?_
          exact ih5 (i + 1) _ _ _ (by omega) (by omega) hP hD hS (lv_sub hl [3, 4, 5, 1, 0] rfl)
        · have hm9 := emod_bd (((y : Nat) : Int) - ((tm i : Nat) : Int)) hTT.1
          have hd9 := ediv_bd (T := T) (show 0 ≤ ((y : Nat) : Int) - ((tm i : Nat) : Int) by omega)
          refine lv_iload hx hb dX3_issuedIn_31 (lv_at hl 0 rfl) ?_
          refine lv_aload_n hx hb dX3_issuedIn_33 rfl (lv_at hl 1 rfl) ?_
          refine va_get (D := D) (ci := 3) (v := .int (iI ((T : Nat) : Int))) (C := RX3) (T := TX3) (N := 16) hx hb hts hinX3 hown hK hP 0 rfl rfl 10 (by decide) (hts (.fieldLink RX3 59 "LoopSchedulerModel" "interval" "I") (List.mem_of_getElem? (i := 3) rfl)) (fun _ h9 => h9) rfl dX3_issuedIn_34 ?_
          refine z_rem (a := (((y : Nat) : Int) - ((tm i : Nat) : Int))) (b := ((T : Nat) : Int)) hx hb (by omega) dX3_issuedIn_37 ?_
          refine z_ifne (a := ((((y : Nat) : Int) - ((tm i : Nat) : Int)) % ((T : Nat) : Int))) (tgt := 56) hx hb dX3_issuedIn_38 (by decide) (by omega) (fun c_38 => ?_) (fun c_38 => ?_)
          · refine z_ic hx hb dX3_issuedIn_56 ?_
            refine z_add (a := ((isn T (nZ tm) n y i : Nat) : Int)) (b := 0) hx hb dX3_issuedIn_57 ?_
            refine z_eqI (y := iI ((isn T (nZ tm) n y (i + 1) : Nat) : Int)) (congrArg iI (by rw [isn_f (iss_f (T := T) (tm := nZ tm) (n := n) (c := y) (i := i) (fun q => by unfold nZ at q; omega))]; omega)) ?_
            refine lv_istore_n (lv' := [(3, .int (iI ((isn T (nZ tm) n y (i + 1) : Nat) : Int))), (5, .int (iI (((y : Nat) : Int) - ((tm i : Nat) : Int)))), (0, .ref (a 0)), (1, .int (iI ((n : Nat) : Int))), (2, .int (iI ((y : Nat) : Int))), (4, .int (iI ((i : Nat) : Int)))]) hx hb dX3_issuedIn_58 rfl hl (by decide) rfl (fun ls hl => ?_)
            refine z_iinc (a := ((i : Nat) : Int)) (b := ((i + 1 : Nat) : Int)) (lv' := [(4, .int (iI ((i + 1 : Nat) : Int))), (3, .int (iI ((isn T (nZ tm) n y (i + 1) : Nat) : Int))), (5, .int (iI (((y : Nat) : Int) - ((tm i : Nat) : Int)))), (0, .ref (a 0)), (1, .int (iI ((n : Nat) : Int))), (2, .int (iI ((y : Nat) : Int)))]) hx hb 5 dX3_issuedIn_59 hl rfl rfl (by decide) rfl (fun ls hl => ?_)
            refine lv_goto (tgt := 5) hx hb dX3_issuedIn_62 (by decide) ?_
            exact ih5 (i + 1) _ _ _ (by omega) (by omega) hP hD hS (lv_sub hl [3, 4, 5, 1, 0] rfl)
          · refine lv_iload hx hb dX3_issuedIn_41 (lv_at hl 0 rfl) ?_
            refine lv_aload_n hx hb dX3_issuedIn_43 rfl (lv_at hl 1 rfl) ?_
            refine va_get (D := D) (ci := 3) (v := .int (iI ((T : Nat) : Int))) (C := RX3) (T := TX3) (N := 16) hx hb hts hinX3 hown hK hP 0 rfl rfl 10 (by decide) (hts (.fieldLink RX3 59 "LoopSchedulerModel" "interval" "I") (List.mem_of_getElem? (i := 3) rfl)) (fun _ h9 => h9) rfl dX3_issuedIn_44 ?_
            refine z_div (a := (((y : Nat) : Int) - ((tm i : Nat) : Int))) (b := ((T : Nat) : Int)) hx hb (by omega) dX3_issuedIn_47 ?_
            refine lv_iload_n hx hb dX3_issuedIn_48 rfl (lv_at hl 2 rfl) ?_
            refine z_icge (a := ((((y : Nat) : Int) - ((tm i : Nat) : Int)) / ((T : Nat) : Int))) (b := ((n : Nat) : Int)) (tgt := 56) hx hb dX3_issuedIn_49 (by decide) (by omega) (fun c_49 => ?_) (fun c_49 => ?_)
            · refine z_ic hx hb dX3_issuedIn_56 ?_
              refine z_add (a := ((isn T (nZ tm) n y i : Nat) : Int)) (b := 0) hx hb dX3_issuedIn_57 ?_
              refine z_eqI (y := iI ((isn T (nZ tm) n y (i + 1) : Nat) : Int)) (congrArg iI (by rw [isn_f (iss_f (T := T) (tm := nZ tm) (n := n) (c := y) (i := i) (fun q => by unfold nZ at q; omega))]; omega)) ?_
              refine lv_istore_n (lv' := [(3, .int (iI ((isn T (nZ tm) n y (i + 1) : Nat) : Int))), (5, .int (iI (((y : Nat) : Int) - ((tm i : Nat) : Int)))), (0, .ref (a 0)), (1, .int (iI ((n : Nat) : Int))), (2, .int (iI ((y : Nat) : Int))), (4, .int (iI ((i : Nat) : Int)))]) hx hb dX3_issuedIn_58 rfl hl (by decide) rfl (fun ls hl => ?_)
              refine z_iinc (a := ((i : Nat) : Int)) (b := ((i + 1 : Nat) : Int)) (lv' := [(4, .int (iI ((i + 1 : Nat) : Int))), (3, .int (iI ((isn T (nZ tm) n y (i + 1) : Nat) : Int))), (5, .int (iI (((y : Nat) : Int) - ((tm i : Nat) : Int)))), (0, .ref (a 0)), (1, .int (iI ((n : Nat) : Int))), (2, .int (iI ((y : Nat) : Int)))]) hx hb 5 dX3_issuedIn_59 hl rfl rfl (by decide) rfl (fun ls hl => ?_)
              refine lv_goto (tgt := 5) hx hb dX3_issuedIn_62 (by decide) ?_
              exact ih5 (i + 1) _ _ _ (by omega) (by omega) hP hD hS (lv_sub hl [3, 4, 5, 1, 0] rfl)
            · refine z_ic hx hb dX3_issuedIn_52 ?_
              refine lv_goto (tgt := 57) hx hb dX3_issuedIn_53 (by decide) ?_
              refine z_add (a := ((isn T (nZ tm) n y i : Nat) : Int)) (b := 1) hx hb dX3_issuedIn_57 ?_
              refine z_eqI (y := iI ((isn T (nZ tm) n y (i + 1) : Nat) : Int)) (congrArg iI (by rw [isn_t (iss_t (T := T) (tm := nZ tm) (n := n) (c := y) (i := i) (by unfold nZ; omega) (by unfold nZ; omega) (by unfold nZ; omega))]; omega)) ?_
              refine lv_istore_n (lv' := [(3, .int (iI ((isn T (nZ tm) n y (i + 1) : Nat) : Int))), (5, .int (iI (((y : Nat) : Int) - ((tm i : Nat) : Int)))), (0, .ref (a 0)), (1, .int (iI ((n : Nat) : Int))), (2, .int (iI ((y : Nat) : Int))), (4, .int (iI ((i : Nat) : Int)))]) hx hb dX3_issuedIn_58 rfl hl (by decide) rfl (fun ls hl => ?_)
              refine z_iinc (a := ((i : Nat) : Int)) (b := ((i + 1 : Nat) : Int)) (lv' := [(4, .int (iI ((i + 1 : Nat) : Int))), (3, .int (iI ((isn T (nZ tm) n y (i + 1) : Nat) : Int))), (5, .int (iI (((y : Nat) : Int) - ((tm i : Nat) : Int)))), (0, .ref (a 0)), (1, .int (iI ((n : Nat) : Int))), (2, .int (iI ((y : Nat) : Int)))]) hx hb 5 dX3_issuedIn_59 hl rfl rfl (by decide) rfl (fun ls hl => ?_)
              refine lv_goto (tgt := 5) hx hb dX3_issuedIn_62 (by decide) ?_
              exact ih5 (i + 1) _ _ _ (by omega) (by omega) hP hD hS (lv_sub hl [3, 4, 5, 1, 0] rfl)
  exact loop5 ((Ln L - 0) + 1) 0 _ _ _ (Nat.lt_succ_self _) (by omega) hP hD hS (lv_sub hl [2, 3, 4, 1, 0] rfl)
set_option maxHeartbeats 4000000 in
set_option maxRecDepth 100000 in
theorem c_X3_issued (l : Launch) (D : va_G) (g : Nat → ClassId) (a : Nat → Nat) (th : Int) (L : LD) (att T : Nat) (hs : Nat → Int) (tm : Nat → Nat) (pl : Nat → Bool) (i u : Int) (hw : wf L) (hT2 : T ≤ 200) (hri : -2147483648 ≤ i ∧ i < 2147483648) (hru : -2147483648 ≤ u ∧ u < 2147483648) (htm : ∀ j, j < Ln L → tm j ≤ 1000000) : zMi l D (zT g) yX3_issued wsX3_issued 2 37 (wM a g th L att T hs tm pl (fun _ => 0)) [.ref (a 0), .int (iI (i)), .int (iI (u))] (fun r w1 => ((T = 0) ∧ w1 = wM a g 1 L att T hs tm pl (fun _ => 0)) ∨ ((0 < T ∧ ¬ ((1 ≤ i ∧ i ≤ 1000) ∧ 0 ≤ u)) ∧ w1 = wM a g 2 L att T hs tm pl (fun _ => 0)) ∨ ((0 < T ∧ ((1 ≤ i ∧ i ≤ 1000) ∧ 0 ≤ u)) ∧ r = iI (((isn T (nZ tm) i.toNat u.toNat (Ln L) : Nat) : Int)) ∧ w1 = wM a g 0 L att T hs tm pl (fun _ => 0))) := by
  refine z_ofI (cc := cX3_issued) (maxL := 3) (ret := (some .int)) (by decide) rfl (Nat.le_of_ble_eq_true rfl) ?_
  intro p e s m args below meth c A ls hx hb hr hts hown hlocks hml hP hK hD hS hA hl Q hQ
  have hown : s.vm.findClass RX3 = some m.cls := hown
  have hinX3 : ∀ w ∈ u_ws RX3 TX3 16, w ∈ wsX3_issued := by decide +kernel
  have hl : lv_has ls 3 [(0, .ref (a 0)), (1, .int (iI (i))), (2, .int (iI (u)))] := hl
  refine lv_aload_n hx hb dX3_issued_0 rfl (lv_at hl 0 rfl) ?_
  refine lv_aload_n hx hb dX3_issued_1 rfl (lv_at hl 0 rfl) ?_
  refine va_get (D := D) (ci := 3) (v := .int (iI ((T : Nat) : Int))) (C := RX3) (T := TX3) (N := 16) hx hb hts hinX3 hown hK hP 0 rfl rfl 10 (by decide) (hts (.fieldLink RX3 59 "LoopSchedulerModel" "interval" "I") (List.mem_of_getElem? (i := 1) rfl)) (fun _ h9 => h9) rfl dX3_issued_2 ?_
  refine z_ifne (a := ((T : Nat) : Int)) (tgt := 12) hx hb dX3_issued_5 (by decide) (by omega) (fun c_5 => ?_) (fun c_5 => ?_)
  · refine lv_iload_n hx hb dX3_issued_12 rfl (lv_at hl 1 rfl) ?_
    refine z_ic hx hb dX3_issued_13 ?_
    refine z_sip hx hb dX3_issued_14 (by decide) ?_
    refine z_calli (va_runS (As := [.int (iI (i)), .int (iI ((1 : Nat) : Int)), .int (iI ((1000 : Nat) : Int))]) (rest := [.ref (a 0)]) ⟨hx, hb, hml, hown, hts⟩ (c_X3_isIn l D g a th L att T hs tm pl i 1 1000 (by omega) (by omega) (by omega) _) (va_cwS 3 hts gX3_issued_X3_isIn rfl rfl rfl (by decide +kernel) ⟨Nat.le_of_ble_eq_true rfl, Nat.le_of_ble_eq_true rfl⟩) (z_preS hK hP hD) rfl rfl hl.1 rfl (lv_room (Nat.le_of_ble_eq_true rfl)) dX3_issued_17 ⟨Nat.zero_le _, Nat.zero_le _⟩) hS hD hA (fun r w1 H locs hw1 hP hD hS => ?_)
    obtain ⟨rfl, rfl⟩ := hw1
    refine z_ifeq (a := (bI (decide (1 ≤ i ∧ i ≤ 1000)))) (tgt := 27) hx hb dX3_issued_20 (by decide) (bI_r _) (fun c_20 => ?_) (fun c_20 => ?_)
    · have d_20 := of_decide_eq_false (bI_f c_20)
      refine z_ic hx hb dX3_issued_27 ?_
      refine lv_goto (tgt := 32) hx hb dX3_issued_28 (by decide) ?_
      refine va_put (D := D) (ci := 3) (v := .int (iI ((2 : Nat) : Int))) (ty := .int) (C := RX3) (T := TX3) (N := 16) hx hb hts hinX3 tyX3 tyX3_ok nmX3 hown hK hP hD hS 0 rfl rfl 0 (by decide) (hts (.fieldLink RX3 44 "LoopSchedulerModel" "thrown" "I") (List.mem_of_getElem? (i := 2) rfl)) (fun _ h9 => h9) rfl (by decide +kernel) rfl rfl (Nat.le_of_ble_eq_true rfl) dX3_issued_32 (fun H locs hP hD hS => ?_)
      have hP : va_P D vwCl (wM a g 2 L att T hs tm pl (fun _ => 0)) H := hP
      have hD : va_D A (wM a g 2 L att T hs tm pl (fun _ => 0)) := hD
      refine lv_aload_n hx hb dX3_issued_35 rfl (lv_at hl 0 rfl) ?_
      refine va_get (D := D) (ci := 3) (v := .int (iI (2))) (C := RX3) (T := TX3) (N := 16) hx hb hts hinX3 hown hK hP 0 rfl rfl 0 (by decide) (hts (.fieldLink RX3 44 "LoopSchedulerModel" "thrown" "I") (List.mem_of_getElem? (i := 2) rfl)) (fun _ h9 => h9) rfl dX3_issued_36 ?_
      refine z_ifne (a := 2) (tgt := 51) hx hb dX3_issued_39 (by decide) (by omega) (fun c_39 => ?_) (fun c_39 => ?_)
      · refine z_ic hx hb dX3_issued_51 ?_
        exact z_iret (w := (wM a g 2 L att T hs tm pl (fun _ => 0))) (v := (iI ((0 : Nat) : Int))) hQ hx hb hr hlocks (Or.inr (Or.inl (⟨by omega, rfl⟩))) hK hP hD hS dX3_issued_52
      · exact absurd c_39 (by decide)
    · have d_20 := of_decide_eq_true (bI_t c_20)
      refine lv_iload_n hx hb dX3_issued_23 rfl (lv_at hl 2 rfl) ?_
      refine z_ifge (a := u) (tgt := 31) hx hb dX3_issued_24 (by decide) (by omega) (fun c_24 => ?_) (fun c_24 => ?_)
      · refine z_ic hx hb dX3_issued_31 ?_
        refine va_put (D := D) (ci := 3) (v := .int (iI ((0 : Nat) : Int))) (ty := .int) (C := RX3) (T := TX3) (N := 16) hx hb hts hinX3 tyX3 tyX3_ok nmX3 hown hK hP hD hS 0 rfl rfl 0 (by decide) (hts (.fieldLink RX3 44 "LoopSchedulerModel" "thrown" "I") (List.mem_of_getElem? (i := 2) rfl)) (fun _ h9 => h9) rfl (by decide +kernel) rfl rfl (Nat.le_of_ble_eq_true rfl) dX3_issued_32 (fun H locs hP hD hS => ?_)
        have hP : va_P D vwCl (wM a g 0 L att T hs tm pl (fun _ => 0)) H := hP
        have hD : va_D A (wM a g 0 L att T hs tm pl (fun _ => 0)) := hD
        refine lv_aload_n hx hb dX3_issued_35 rfl (lv_at hl 0 rfl) ?_
        refine va_get (D := D) (ci := 3) (v := .int (iI (0))) (C := RX3) (T := TX3) (N := 16) hx hb hts hinX3 hown hK hP 0 rfl rfl 0 (by decide) (hts (.fieldLink RX3 44 "LoopSchedulerModel" "thrown" "I") (List.mem_of_getElem? (i := 2) rfl)) (fun _ h9 => h9) rfl dX3_issued_36 ?_
        refine z_ifne (a := 0) (tgt := 51) hx hb dX3_issued_39 (by decide) (by omega) (fun c_39 => ?_) (fun c_39 => ?_)
        · exact absurd c_39 (by decide)
        · obtain ⟨n, rfl⟩ : ∃ n : Nat, i = (n : Int) := ⟨i.toNat, by omega⟩
          obtain ⟨y, rfl⟩ : ∃ y : Nat, u = (y : Int) := ⟨u.toNat, by omega⟩
          refine lv_aload_n hx hb dX3_issued_42 rfl (lv_at hl 0 rfl) ?_
          refine lv_iload_n hx hb dX3_issued_43 rfl (lv_at hl 1 rfl) ?_
          refine lv_iload_n hx hb dX3_issued_44 rfl (lv_at hl 2 rfl) ?_
          refine z_calli (va_runV (As := [.int (iI ((n : Nat) : Int)), .int (iI ((y : Nat) : Int))]) (rest := []) ⟨hx, hb, hml, hown, hts⟩ (c_X3_issuedIn l D g a 0 L att T hs tm pl n y hw ⟨by omega, by omega⟩ htm (by omega) (by omega) _) (cwV 2 hts gX3_issued_X3_issuedIn rfl rfl rfl (by decide +kernel) ⟨Nat.le_of_ble_eq_true rfl, Nat.le_of_ble_eq_true rfl⟩) (z_preV 0 hK hP hD rfl rfl) rfl rfl hl.1 rfl (lv_room (Nat.le_of_ble_eq_true rfl)) dX3_issued_45 ⟨Nat.zero_le _, Nat.zero_le _⟩) hS hD hA (fun r w1 H locs hw1 hP hD hS => ?_)
          obtain ⟨rfl, rfl⟩ := hw1
          refine lv_goto (tgt := 52) hx hb dX3_issued_48 (by decide) ?_
          exact z_iret (w := (wM a g 0 L att T hs tm pl (fun _ => 0))) (v := (iI ((isn T (nZ tm) n y (Ln L) : Nat) : Int))) hQ hx hb hr hlocks (Or.inr (Or.inr (⟨by omega, rfl, rfl⟩))) hK hP hD hS dX3_issued_52
      · refine z_ic hx hb dX3_issued_27 ?_
        refine lv_goto (tgt := 32) hx hb dX3_issued_28 (by decide) ?_
        refine va_put (D := D) (ci := 3) (v := .int (iI ((2 : Nat) : Int))) (ty := .int) (C := RX3) (T := TX3) (N := 16) hx hb hts hinX3 tyX3 tyX3_ok nmX3 hown hK hP hD hS 0 rfl rfl 0 (by decide) (hts (.fieldLink RX3 44 "LoopSchedulerModel" "thrown" "I") (List.mem_of_getElem? (i := 2) rfl)) (fun _ h9 => h9) rfl (by decide +kernel) rfl rfl (Nat.le_of_ble_eq_true rfl) dX3_issued_32 (fun H locs hP hD hS => ?_)
        have hP : va_P D vwCl (wM a g 2 L att T hs tm pl (fun _ => 0)) H := hP
        have hD : va_D A (wM a g 2 L att T hs tm pl (fun _ => 0)) := hD
        refine lv_aload_n hx hb dX3_issued_35 rfl (lv_at hl 0 rfl) ?_
        refine va_get (D := D) (ci := 3) (v := .int (iI (2))) (C := RX3) (T := TX3) (N := 16) hx hb hts hinX3 hown hK hP 0 rfl rfl 0 (by decide) (hts (.fieldLink RX3 44 "LoopSchedulerModel" "thrown" "I") (List.mem_of_getElem? (i := 2) rfl)) (fun _ h9 => h9) rfl dX3_issued_36 ?_
        refine z_ifne (a := 2) (tgt := 51) hx hb dX3_issued_39 (by decide) (by omega) (fun c_39 => ?_) (fun c_39 => ?_)
        · refine z_ic hx hb dX3_issued_51 ?_
          exact z_iret (w := (wM a g 2 L att T hs tm pl (fun _ => 0))) (v := (iI ((0 : Nat) : Int))) hQ hx hb hr hlocks (Or.inr (Or.inl (⟨by omega, rfl⟩))) hK hP hD hS dX3_issued_52
        · exact absurd c_39 (by decide)
  · refine z_ic hx hb dX3_issued_8 ?_
    refine lv_goto (tgt := 32) hx hb dX3_issued_9 (by decide) ?_
    refine va_put (D := D) (ci := 3) (v := .int (iI ((1 : Nat) : Int))) (ty := .int) (C := RX3) (T := TX3) (N := 16) hx hb hts hinX3 tyX3 tyX3_ok nmX3 hown hK hP hD hS 0 rfl rfl 0 (by decide) (hts (.fieldLink RX3 44 "LoopSchedulerModel" "thrown" "I") (List.mem_of_getElem? (i := 2) rfl)) (fun _ h9 => h9) rfl (by decide +kernel) rfl rfl (Nat.le_of_ble_eq_true rfl) dX3_issued_32 (fun H locs hP hD hS => ?_)
    have hP : va_P D vwCl (wM a g 1 L att T hs tm pl (fun _ => 0)) H := hP
    have hD : va_D A (wM a g 1 L att T hs tm pl (fun _ => 0)) := hD
    refine lv_aload_n hx hb dX3_issued_35 rfl (lv_at hl 0 rfl) ?_
    refine va_get (D := D) (ci := 3) (v := .int (iI (1))) (C := RX3) (T := TX3) (N := 16) hx hb hts hinX3 hown hK hP 0 rfl rfl 0 (by decide) (hts (.fieldLink RX3 44 "LoopSchedulerModel" "thrown" "I") (List.mem_of_getElem? (i := 2) rfl)) (fun _ h9 => h9) rfl dX3_issued_36 ?_
    refine z_ifne (a := 1) (tgt := 51) hx hb dX3_issued_39 (by decide) (by omega) (fun c_39 => ?_) (fun c_39 => ?_)
    · refine z_ic hx hb dX3_issued_51 ?_
      exact z_iret (w := (wM a g 1 L att T hs tm pl (fun _ => 0))) (v := (iI ((0 : Nat) : Int))) hQ hx hb hr hlocks (Or.inl (⟨by omega, rfl⟩)) hK hP hD hS dX3_issued_52
    · exact absurd c_39 (by decide)
set_option maxHeartbeats 4000000 in
set_option maxRecDepth 100000 in
theorem c_X3_issueAt (l : Launch) (D : va_G) (g : Nat → ClassId) (a : Nat → Nat) (th : Int) (L : LD) (att T : Nat) (hs : Nat → Int) (tm : Nat → Nat) (pl : Nat → Bool) (n y k : Nat) (hw : wf L) (hTT : 0 < T ∧ T ≤ 200) (htm : ∀ j, j < Ln L → tm j ≤ 1000000) (hn : n ≤ 1000) (hy : y < 2147483648) (hk : k < isn T (nZ tm) n y (Ln L)) : zMi l D (zT g) yX3_issueAt wsX3_issueAt 1 12 (wM a g th L att T hs tm pl (fun _ => 0)) [.ref (a 0), .int (iI ((n : Nat) : Int)), .int (iI ((y : Nat) : Int)), .int (iI ((k : Nat) : Int))] (fun r w1 => (∃ i, i < Ln L ∧ (iss T (nZ tm) n y i = true ∧ ((cib T (nZ tm) n y (num T (nZ tm) y i) (Ln L) : Nat) : Int) = (k : Int)) ∧ r = iI (num T (nZ tm) y i)) ∧ w1 = wM a g th L att T hs tm pl (fun _ => 0)) := by
  refine z_ofI (cc := cX3_issueAt) (maxL := 7) (ret := (some .int)) (by decide) rfl (Nat.le_of_ble_eq_true rfl) ?_
  intro p e s m args below meth c A ls hx hb hr hts hown hlocks hml hP hK hD hS hA hl Q hQ
  have hown : s.vm.findClass RX3 = some m.cls := hown
  have hinX3 : ∀ w ∈ u_ws RX3 TX3 16, w ∈ wsX3_issueAt := by decide +kernel
  have hl : lv_has ls 7 [(0, .ref (a 0)), (1, .int (iI ((n : Nat) : Int))), (2, .int (iI ((y : Nat) : Int))), (3, .int (iI ((k : Nat) : Int)))] := hl
  have hwn := wf_n hw
  have hisl := isn_le T (nZ tm) n y (Ln L)
  have hc0 : cib T (nZ tm) n y (14 * ((0 : Nat) : Int) + ((0 : Nat) : Int)) (Ln L) = 0 := cib_0 hTT.1 (Ln L)
  refine lv_iload_n hx hb dX3_issueAt_0 rfl (lv_at hl 3 rfl) ?_
  refine lv_istore (lv' := [(4, .int (iI ((k : Nat) : Int))), (0, .ref (a 0)), (1, .int (iI ((n : Nat) : Int))), (2, .int (iI ((y : Nat) : Int))), (3, .int (iI ((k : Nat) : Int)))]) hx hb dX3_issueAt_1 hl (by decide) rfl (fun ls hl => ?_)
  refine z_ic hx hb dX3_issueAt_3 ?_
  refine lv_istore (lv' := [(5, .int (iI ((0 : Nat) : Int))), (4, .int (iI ((k : Nat) : Int))), (0, .ref (a 0)), (1, .int (iI ((n : Nat) : Int))), (2, .int (iI ((y : Nat) : Int))), (3, .int (iI ((k : Nat) : Int)))]) hx hb dX3_issueAt_4 hl (by decide) rfl (fun ls hl => ?_)
  have loop6 : ∀ (n6 : Nat) (x : Nat) (H : Heap) (locs : List Loc) (ls : Array Slot), n - x < n6 → (x ≤ n) → (0 ≤ (k : Int) - ((cib T (nZ tm) n y (14 * ((x : Nat) : Int) + ((0 : Nat) : Int)) (Ln L) : Nat) : Int)) → va_P D vwCl (wM a g th L att T hs tm pl (fun _ => 0)) H → va_D A (wM a g th L att T hs tm pl (fun _ => 0)) → va_S A s.heap H locs → lv_has ls 7 [(0, .ref (a 0)), (1, .int (iI ((n : Nat) : Int))), (2, .int (iI ((y : Nat) : Int))), (4, .int (iI ((k : Int) - ((cib T (nZ tm) n y (14 * ((x : Nat) : Int) + ((0 : Nat) : Int)) (Ln L) : Nat) : Int)))), (5, .int (iI ((x : Nat) : Int)))] → W p l e ({ frames := 1, cells := 0, slots := 0, locals := 12 } : Room) s m args below meth c H locs 0 0 Q (F0 m 6 ls []) := by
    intro n6
    induction n6 with
    | zero => exact fun _ H locs ls hn => absurd hn (Nat.not_lt_zero _)
    | succ n6 ih6 =>
      intro x H locs ls hn6 hx2 hlv hP hD hS hl
      have hcl0 := cib_le T (nZ tm) n y (14 * ((x : Nat) : Int) + ((0 : Nat) : Int)) (Ln L)
      refine lv_iload hx hb dX3_issueAt_6 (lv_at hl 4 rfl) ?_
      refine lv_iload_n hx hb dX3_issueAt_8 rfl (lv_at hl 1 rfl) ?_
      refine z_icge (a := ((x : Nat) : Int)) (b := ((n : Nat) : Int)) (tgt := 80) hx hb dX3_issueAt_9 (by decide) (by omega) (fun c_9 => ?_) (fun c_9 => ?_)
      · have hfull := cib_full (T := T) (tm := nZ tm) (n := n) (c := y) hwn
        have hxe : x = n := by omega
        rw [hxe] at hlv
        exact absurd hlv (by rw [show (14 * ((n : Nat) : Int) + ((0 : Nat) : Int)) = 14 * ((n : Nat) : Int) from Int.add_zero _, hfull]; omega)
      · refine lv_iload hx hb dX3_issueAt_12 (lv_at hl 3 rfl) ?_
        refine z_iflt (a := ((k : Int) - ((cib T (nZ tm) n y (14 * ((x : Nat) : Int) + ((0 : Nat) : Int)) (Ln L) : Nat) : Int))) (tgt := 80) hx hb dX3_issueAt_14 (by decide) (by omega) (fun c_14 => ?_) (fun c_14 => ?_)
        · exact absurd c_14 (by omega)
        · refine z_ic hx hb dX3_issueAt_17 ?_
          refine lv_istore (lv' := [(6, .int (iI ((0 : Nat) : Int))), (0, .ref (a 0)), (1, .int (iI ((n : Nat) : Int))), (2, .int (iI ((y : Nat) : Int))), (4, .int (iI ((k : Int) - ((cib T (nZ tm) n y (14 * ((x : Nat) : Int) + ((0 : Nat) : Int)) (Ln L) : Nat) : Int)))), (5, .int (iI ((x : Nat) : Int)))]) hx hb dX3_issueAt_18 hl (by decide) rfl (fun ls hl => ?_)
          have loop20 : ∀ (n20 : Nat) (i : Nat) (H : Heap) (locs : List Loc) (ls : Array Slot), Ln L - i < n20 → (i ≤ Ln L) → (0 ≤ (k : Int) - ((cib T (nZ tm) n y (14 * ((x : Nat) : Int) + ((i : Nat) : Int)) (Ln L) : Nat) : Int)) → (x < n) → va_P D vwCl (wM a g th L att T hs tm pl (fun _ => 0)) H → va_D A (wM a g th L att T hs tm pl (fun _ => 0)) → va_S A s.heap H locs → lv_has ls 7 [(0, .ref (a 0)), (1, .int (iI ((n : Nat) : Int))), (2, .int (iI ((y : Nat) : Int))), (4, .int (iI ((k : Int) - ((cib T (nZ tm) n y (14 * ((x : Nat) : Int) + ((i : Nat) : Int)) (Ln L) : Nat) : Int)))), (5, .int (iI ((x : Nat) : Int))), (6, .int (iI ((i : Nat) : Int)))] → W p l e ({ frames := 1, cells := 0, slots := 0, locals := 12 } : Room) s m args below meth c H locs 0 0 Q (F0 m 20 ls []) := by
            intro n20
            induction n20 with
            | zero => exact fun _ H locs ls hn => absurd hn (Nat.not_lt_zero _)
            | succ n20 ih20 =>
              intro i H locs ls hn20 hi hl2 hxn hP hD hS hl
              have hcl := cib_le T (nZ tm) n y (14 * ((x : Nat) : Int) + ((i : Nat) : Int)) (Ln L)
              have hxT : x * T ≤ 1000 * 200 := Nat.mul_le_mul (by omega) hTT.2
              refine lv_iload hx hb dX3_issueAt_20 (lv_at hl 5 rfl) ?_
              refine lv_aload_n hx hb dX3_issueAt_22 rfl (lv_at hl 0 rfl) ?_
              refine va_get (D := D) (ci := 3) (v := .int (iI ((Ln L : Nat) : Int))) (C := RX3) (T := TX3) (N := 16) hx hb hts hinX3 hown hK hP 0 rfl rfl 2 (by decide) (hts (.fieldLink RX3 48 "LoopSchedulerModel" "operations" "I") (List.mem_of_getElem? (i := 1) rfl)) (fun _ h9 => h9) rfl dX3_issueAt_23 ?_
              refine z_icge (a := ((i : Nat) : Int)) (b := ((Ln L : Nat) : Int)) (tgt := 74) hx hb dX3_issueAt_26 (by decide) (by omega) (fun c_26 => ?_) (fun c_26 => ?_)
              · have hie : i = Ln L := by omega
                have hnx : cib T (nZ tm) n y (14 * ((x + 1 : Nat) : Int) + ((0 : Nat) : Int)) (Ln L) = cib T (nZ tm) n y (14 * ((x : Nat) : Int) + ((i : Nat) : Int)) (Ln L) := by rw [hie]; exact cib_next hTT.1 hwn x
                refine z_iinc (a := ((x : Nat) : Int)) (b := ((x + 1 : Nat) : Int)) (lv' := [(5, .int (iI ((x + 1 : Nat) : Int))), (0, .ref (a 0)), (1, .int (iI ((n : Nat) : Int))), (2, .int (iI ((y : Nat) : Int))), (4, .int (iI ((k : Int) - ((cib T (nZ tm) n y (14 * ((x : Nat) : Int) + ((i : Nat) : Int)) (Ln L) : Nat) : Int)))), (6, .int (iI ((i : Nat) : Int)))]) hx hb 4 dX3_issueAt_74 hl rfl rfl (by decide) rfl (fun ls hl => ?_)
                refine lv_goto (tgt := 6) hx hb dX3_issueAt_77 (by decide) ?_
                exact ih6 (x + 1) _ _ _ (by omega) (by omega) (by rw [hnx]; exact hl2) hP hD hS (by rw [hnx]; exact lv_sub hl [1, 2, 3, 4, 0] rfl)
              · have hin : i < Ln L := by omega
                have hti := htm i hin
                have hhit := iss_hit (n := n) (y := y) hTT.1 (tm := tm) (i := i) (x := x) hxn
                have hstp := cib_step (T := T) (tm := nZ tm) (n := n) (c := y) hTT.1 hwn hin x
                refine lv_aload_n hx hb dX3_issueAt_29 rfl (lv_at hl 0 rfl) ?_
                refine va_get (D := D) (ci := 3) (v := .ref (a 8)) (C := RX3) (T := TX3) (N := 16) hx hb hts hinX3 hown hK hP 0 rfl rfl 11 (by decide) (hts (.fieldLink RX3 31 "LoopSchedulerModel" "times" "[I") (List.mem_of_getElem? (i := 2) rfl)) (fun _ h9 => h9) rfl dX3_issueAt_30 ?_
                refine lv_iload hx hb dX3_issueAt_33 (lv_at hl 5 rfl) ?_
                refine z_ialdZ (f := tm) (z := i) hx hb hK hP 8 0 rfl rfl (by omega) (by decide) dX3_issueAt_35 ?_
                refine lv_iload hx hb dX3_issueAt_36 (lv_at hl 4 rfl) ?_
                refine lv_aload_n hx hb dX3_issueAt_38 rfl (lv_at hl 0 rfl) ?_
                refine va_get (D := D) (ci := 3) (v := .int (iI ((T : Nat) : Int))) (C := RX3) (T := TX3) (N := 16) hx hb hts hinX3 hown hK hP 0 rfl rfl 10 (by decide) (hts (.fieldLink RX3 59 "LoopSchedulerModel" "interval" "I") (List.mem_of_getElem? (i := 3) rfl)) (fun _ h9 => h9) rfl dX3_issueAt_39 ?_
                refine z_mul (a := ((x : Nat) : Int)) (b := ((T : Nat) : Int)) hx hb dX3_issueAt_42 ?_
                refine z_eqI (y := iI ((x * T : Nat) : Int)) (congrArg iI (Int.natCast_mul _ _).symm) ?_
                refine z_add (a := ((tm i : Nat) : Int)) (b := ((x * T : Nat) : Int)) hx hb dX3_issueAt_43 ?_
                refine lv_iload_n hx hb dX3_issueAt_44 rfl (lv_at hl 2 rfl) ?_
                refine z_iceq (a := (((tm i : Nat) : Int) + ((x * T : Nat) : Int))) (b := ((y : Nat) : Int)) (tgt := 51) hx hb dX3_issueAt_45 (by decide) (by omega) (fun c_45 => ?_) (fun c_45 => ?_)
                · have hih := hhit.mpr (by omega)
                  have hst : cib T (nZ tm) n y (14 * ((x : Nat) : Int) + ((i + 1 : Nat) : Int)) (Ln L) = cib T (nZ tm) n y (14 * ((x : Nat) : Int) + ((i : Nat) : Int)) (Ln L) + 1 := hstp.1 hih
                  refine lv_iload hx hb dX3_issueAt_51 (lv_at hl 3 rfl) ?_
                  refine z_ifne (a := ((k : Int) - ((cib T (nZ tm) n y (14 * ((x : Nat) : Int) + ((i : Nat) : Int)) (Ln L) : Nat) : Int))) (tgt := 65) hx hb dX3_issueAt_53 (by decide) (by omega) (fun c_53 => ?_) (fun c_53 => ?_)
                  · refine z_iinc (a := ((k : Int) - ((cib T (nZ tm) n y (14 * ((x : Nat) : Int) + ((i : Nat) : Int)) (Ln L) : Nat) : Int))) (b := (((k : Int) - ((cib T (nZ tm) n y (14 * ((x : Nat) : Int) + ((i : Nat) : Int)) (Ln L) : Nat) : Int)) + (-1))) (lv' := [(4, .int (iI (((k : Int) - ((cib T (nZ tm) n y (14 * ((x : Nat) : Int) + ((i : Nat) : Int)) (Ln L) : Nat) : Int)) + (-1)))), (0, .ref (a 0)), (1, .int (iI ((n : Nat) : Int))), (2, .int (iI ((y : Nat) : Int))), (5, .int (iI ((x : Nat) : Int))), (6, .int (iI ((i : Nat) : Int)))]) hx hb 3 dX3_issueAt_65 hl rfl rfl (by decide) rfl (fun ls hl => ?_)
                    refine z_iinc (a := ((i : Nat) : Int)) (b := ((i + 1 : Nat) : Int)) (lv' := [(6, .int (iI ((i + 1 : Nat) : Int))), (4, .int (iI (((k : Int) - ((cib T (nZ tm) n y (14 * ((x : Nat) : Int) + ((i : Nat) : Int)) (Ln L) : Nat) : Int)) + (-1)))), (0, .ref (a 0)), (1, .int (iI ((n : Nat) : Int))), (2, .int (iI ((y : Nat) : Int))), (5, .int (iI ((x : Nat) : Int)))]) hx hb 5 dX3_issueAt_68 hl rfl rfl (by decide) rfl (fun ls hl => ?_)
                    refine lv_goto (tgt := 20) hx hb dX3_issueAt_71 (by decide) ?_
                    exact ih20 (i + 1) _ _ _ (by omega) (by omega) (by rw [hst]; omega) (by omega) hP hD hS (by rw [hst, show (k : Int) - ((cib T (nZ tm) n y (14 * ((x : Nat) : Int) + ((i : Nat) : Int)) (Ln L) + 1 : Nat) : Int) = _ from (by omega : _ = (k : Int) - ((cib T (nZ tm) n y (14 * ((x : Nat) : Int) + ((i : Nat) : Int)) (Ln L) : Nat) : Int) + (-1))]; exact lv_sub hl [2, 3, 4, 1, 5, 0] rfl)
                  · refine z_bip hx hb dX3_issueAt_56 (by decide) ?_
                    refine lv_iload hx hb dX3_issueAt_58 (lv_at hl 4 rfl) ?_
                    refine z_mul (a := 14) (b := ((x : Nat) : Int)) hx hb dX3_issueAt_60 ?_
                    refine lv_iload hx hb dX3_issueAt_61 (lv_at hl 5 rfl) ?_
                    refine z_add (a := (14 * ((x : Nat) : Int))) (b := ((i : Nat) : Int)) hx hb dX3_issueAt_63 ?_
                    exact z_iret (w := (wM a g th L att T hs tm pl (fun _ => 0))) (v := (iI ((14 * ((x : Nat) : Int)) + ((i : Nat) : Int)))) hQ hx hb hr hlocks ⟨⟨i, hin, ⟨hih.1, by rw [hih.2]; omega⟩, by rw [hih.2]⟩, rfl⟩ hK hP hD hS dX3_issueAt_64
                · have hst : cib T (nZ tm) n y (14 * ((x : Nat) : Int) + ((i + 1 : Nat) : Int)) (Ln L) = cib T (nZ tm) n y (14 * ((x : Nat) : Int) + ((i : Nat) : Int)) (Ln L) := hstp.2 (fun q => c_45 (by have q2 := hhit.mp q; omega))
                  refine lv_goto (tgt := 68) hx hb dX3_issueAt_48 (by decide) ?_
                  refine z_iinc (a := ((i : Nat) : Int)) (b := ((i + 1 : Nat) : Int)) (lv' := [(6, .int (iI ((i + 1 : Nat) : Int))), (0, .ref (a 0)), (1, .int (iI ((n : Nat) : Int))), (2, .int (iI ((y : Nat) : Int))), (4, .int (iI ((k : Int) - ((cib T (nZ tm) n y (14 * ((x : Nat) : Int) + ((i : Nat) : Int)) (Ln L) : Nat) : Int)))), (5, .int (iI ((x : Nat) : Int)))]) hx hb 5 dX3_issueAt_68 hl rfl rfl (by decide) rfl (fun ls hl => ?_)
                  refine lv_goto (tgt := 20) hx hb dX3_issueAt_71 (by decide) ?_
                  exact ih20 (i + 1) _ _ _ (by omega) (by omega) (by rw [hst]; omega) (by omega) hP hD hS (by rw [hst]; exact lv_sub hl [1, 2, 3, 4, 5, 0] rfl)
          exact loop20 ((Ln L - 0) + 1) 0 _ _ _ (Nat.lt_succ_self _) (by omega) hlv (by omega) hP hD hS (lv_sub hl [1, 2, 3, 4, 5, 0] rfl)
  exact loop6 ((n - 0) + 1) 0 _ _ _ (Nat.lt_succ_self _) (by omega) (by rw [hc0]; omega) hP hD hS (by rw [hc0, show (k : Int) - ((0 : Nat) : Int) = (k : Int) from Int.sub_zero _]; exact lv_sub hl [2, 3, 4, 1, 0] rfl)
set_option maxHeartbeats 4000000 in
set_option maxRecDepth 100000 in
theorem c_X3_issue (l : Launch) (D : va_G) (g : Nat → ClassId) (a : Nat → Nat) (th : Int) (L : LD) (att T : Nat) (hs : Nat → Int) (tm : Nat → Nat) (pl : Nat → Bool) (i u k : Int) (hw : wf L) (hT2 : T ≤ 200) (hri : -2147483648 ≤ i ∧ i < 2147483648) (hru : -2147483648 ≤ u ∧ u < 2147483648) (hrk : -2147483648 ≤ k ∧ k < 2147483648) (htm : ∀ j, j < Ln L → tm j ≤ 1000000) : zMi l D (zT g) yX3_issue wsX3_issue 2 38 (wM a g th L att T hs tm pl (fun _ => 0)) [.ref (a 0), .int (iI (i)), .int (iI (u)), .int (iI (k))] (fun r w1 => (T = 0 ∧ w1 = wM a g 1 L att T hs tm pl (fun _ => 0)) ∨ ((0 < T ∧ ¬ ((1 ≤ i ∧ i ≤ 1000) ∧ 0 ≤ u)) ∧ w1 = wM a g 2 L att T hs tm pl (fun _ => 0)) ∨ ((0 < T ∧ ((1 ≤ i ∧ i ≤ 1000) ∧ 0 ≤ u)) ∧ ¬ (0 ≤ k ∧ k < ((isn T (nZ tm) i.toNat u.toNat (Ln L) : Nat) : Int)) ∧ w1 = wM a g 3 L att T hs tm pl (fun _ => 0)) ∨ ((0 < T ∧ ((1 ≤ i ∧ i ≤ 1000) ∧ 0 ≤ u)) ∧ (0 ≤ k ∧ k < ((isn T (nZ tm) i.toNat u.toNat (Ln L) : Nat) : Int)) ∧ (∃ x, x < Ln L ∧ (iss T (nZ tm) i.toNat u.toNat x = true ∧ ((cib T (nZ tm) i.toNat u.toNat (num T (nZ tm) u.toNat x) (Ln L) : Nat) : Int) = k) ∧ r = iI (num T (nZ tm) u.toNat x)) ∧ w1 = wM a g 0 L att T hs tm pl (fun _ => 0))) := by
  refine z_ofI (cc := cX3_issue) (maxL := 4) (ret := (some .int)) (by decide) rfl (Nat.le_of_ble_eq_true rfl) ?_
  intro p e s m args below meth c A ls hx hb hr hts hown hlocks hml hP hK hD hS hA hl Q hQ
  have hown : s.vm.findClass RX3 = some m.cls := hown
  have hinX3 : ∀ w ∈ u_ws RX3 TX3 16, w ∈ wsX3_issue := by decide +kernel
  have hl : lv_has ls 4 [(0, .ref (a 0)), (1, .int (iI (i))), (2, .int (iI (u))), (3, .int (iI (k)))] := hl
  have hwn := wf_n hw
  refine lv_aload_n hx hb dX3_issue_0 rfl (lv_at hl 0 rfl) ?_
  refine lv_aload_n hx hb dX3_issue_1 rfl (lv_at hl 0 rfl) ?_
  refine va_get (D := D) (ci := 3) (v := .int (iI ((T : Nat) : Int))) (C := RX3) (T := TX3) (N := 16) hx hb hts hinX3 hown hK hP 0 rfl rfl 10 (by decide) (hts (.fieldLink RX3 59 "LoopSchedulerModel" "interval" "I") (List.mem_of_getElem? (i := 1) rfl)) (fun _ h9 => h9) rfl dX3_issue_2 ?_
  refine z_ifne (a := ((T : Nat) : Int)) (tgt := 12) hx hb dX3_issue_5 (by decide) (by omega) (fun c_5 => ?_) (fun c_5 => ?_)
  · refine lv_iload_n hx hb dX3_issue_12 rfl (lv_at hl 1 rfl) ?_
    refine z_ic hx hb dX3_issue_13 ?_
    refine z_sip hx hb dX3_issue_14 (by decide) ?_
    refine z_calli (va_runS (As := [.int (iI (i)), .int (iI ((1 : Nat) : Int)), .int (iI ((1000 : Nat) : Int))]) (rest := [.ref (a 0)]) ⟨hx, hb, hml, hown, hts⟩ (c_X3_isIn l D g a th L att T hs tm pl i 1 1000 (by omega) (by omega) (by omega) _) (va_cwS 3 hts gX3_issue_X3_isIn rfl rfl rfl (by decide +kernel) ⟨Nat.le_of_ble_eq_true rfl, Nat.le_of_ble_eq_true rfl⟩) (z_preS hK hP hD) rfl rfl hl.1 rfl (lv_room (Nat.le_of_ble_eq_true rfl)) dX3_issue_17 ⟨Nat.zero_le _, Nat.zero_le _⟩) hS hD hA (fun r w1 H locs hw1 hP hD hS => ?_)
    obtain ⟨rfl, rfl⟩ := hw1
    refine z_ifeq (a := (bI (decide (1 ≤ i ∧ i ≤ 1000)))) (tgt := 27) hx hb dX3_issue_20 (by decide) (bI_r _) (fun c_20 => ?_) (fun c_20 => ?_)
    · have d_20 := of_decide_eq_false (bI_f c_20)
      refine z_ic hx hb dX3_issue_27 ?_
      refine lv_goto (tgt := 50) hx hb dX3_issue_28 (by decide) ?_
      refine va_put (D := D) (ci := 3) (v := .int (iI ((2 : Nat) : Int))) (ty := .int) (C := RX3) (T := TX3) (N := 16) hx hb hts hinX3 tyX3 tyX3_ok nmX3 hown hK hP hD hS 0 rfl rfl 0 (by decide) (hts (.fieldLink RX3 44 "LoopSchedulerModel" "thrown" "I") (List.mem_of_getElem? (i := 2) rfl)) (fun _ h9 => h9) rfl (by decide +kernel) rfl rfl (Nat.le_of_ble_eq_true rfl) dX3_issue_50 (fun H locs hP hD hS => ?_)
      have hP : va_P D vwCl (wM a g 2 L att T hs tm pl (fun _ => 0)) H := hP
      have hD : va_D A (wM a g 2 L att T hs tm pl (fun _ => 0)) := hD
      refine lv_aload_n hx hb dX3_issue_53 rfl (lv_at hl 0 rfl) ?_
      refine va_get (D := D) (ci := 3) (v := .int (iI (2))) (C := RX3) (T := TX3) (N := 16) hx hb hts hinX3 hown hK hP 0 rfl rfl 0 (by decide) (hts (.fieldLink RX3 44 "LoopSchedulerModel" "thrown" "I") (List.mem_of_getElem? (i := 2) rfl)) (fun _ h9 => h9) rfl dX3_issue_54 ?_
      refine z_ifne (a := 2) (tgt := 70) hx hb dX3_issue_57 (by decide) (by omega) (fun c_57 => ?_) (fun c_57 => ?_)
      · refine z_ic hx hb dX3_issue_70 ?_
        exact z_iret (w := (wM a g 2 L att T hs tm pl (fun _ => 0))) (v := (iI ((0 : Nat) : Int))) hQ hx hb hr hlocks (Or.inr (Or.inl ⟨by omega, rfl⟩)) hK hP hD hS dX3_issue_71
      · exact absurd c_57 (by decide)
    · have d_20 := of_decide_eq_true (bI_t c_20)
      refine lv_iload_n hx hb dX3_issue_23 rfl (lv_at hl 2 rfl) ?_
      refine z_ifge (a := u) (tgt := 31) hx hb dX3_issue_24 (by decide) (by omega) (fun c_24 => ?_) (fun c_24 => ?_)
      · refine lv_iload_n hx hb dX3_issue_31 rfl (lv_at hl 3 rfl) ?_
        refine z_iflt (a := k) (tgt := 45) hx hb dX3_issue_32 (by decide) (by omega) (fun c_32 => ?_) (fun c_32 => ?_)
        · refine z_ic hx hb dX3_issue_45 ?_
          refine lv_goto (tgt := 50) hx hb dX3_issue_46 (by decide) ?_
          refine va_put (D := D) (ci := 3) (v := .int (iI ((3 : Nat) : Int))) (ty := .int) (C := RX3) (T := TX3) (N := 16) hx hb hts hinX3 tyX3 tyX3_ok nmX3 hown hK hP hD hS 0 rfl rfl 0 (by decide) (hts (.fieldLink RX3 44 "LoopSchedulerModel" "thrown" "I") (List.mem_of_getElem? (i := 2) rfl)) (fun _ h9 => h9) rfl (by decide +kernel) rfl rfl (Nat.le_of_ble_eq_true rfl) dX3_issue_50 (fun H locs hP hD hS => ?_)
          have hP : va_P D vwCl (wM a g 3 L att T hs tm pl (fun _ => 0)) H := hP
          have hD : va_D A (wM a g 3 L att T hs tm pl (fun _ => 0)) := hD
          refine lv_aload_n hx hb dX3_issue_53 rfl (lv_at hl 0 rfl) ?_
          refine va_get (D := D) (ci := 3) (v := .int (iI (3))) (C := RX3) (T := TX3) (N := 16) hx hb hts hinX3 hown hK hP 0 rfl rfl 0 (by decide) (hts (.fieldLink RX3 44 "LoopSchedulerModel" "thrown" "I") (List.mem_of_getElem? (i := 2) rfl)) (fun _ h9 => h9) rfl dX3_issue_54 ?_
          refine z_ifne (a := 3) (tgt := 70) hx hb dX3_issue_57 (by decide) (by omega) (fun c_57 => ?_) (fun c_57 => ?_)
          · refine z_ic hx hb dX3_issue_70 ?_
            exact z_iret (w := (wM a g 3 L att T hs tm pl (fun _ => 0))) (v := (iI ((0 : Nat) : Int))) hQ hx hb hr hlocks (Or.inr (Or.inr (Or.inl ⟨by omega, by omega, rfl⟩))) hK hP hD hS dX3_issue_71
          · exact absurd c_57 (by decide)
        · obtain ⟨n, rfl⟩ : ∃ n : Nat, i = (n : Int) := ⟨i.toNat, by omega⟩
          obtain ⟨y, rfl⟩ : ∃ y : Nat, u = (y : Int) := ⟨u.toNat, by omega⟩
          have hisl := isn_le T (nZ tm) n y (Ln L)
          refine lv_iload_n hx hb dX3_issue_35 rfl (lv_at hl 3 rfl) ?_
          refine lv_aload_n hx hb dX3_issue_36 rfl (lv_at hl 0 rfl) ?_
          refine lv_iload_n hx hb dX3_issue_37 rfl (lv_at hl 1 rfl) ?_
          refine lv_iload_n hx hb dX3_issue_38 rfl (lv_at hl 2 rfl) ?_
          refine z_calli (va_runV (As := [.int (iI ((n : Nat) : Int)), .int (iI ((y : Nat) : Int))]) (rest := [.int (iI (k)), .ref (a 0)]) ⟨hx, hb, hml, hown, hts⟩ (c_X3_issuedIn l D g a th L att T hs tm pl n y hw ⟨by omega, by omega⟩ htm (by omega) (by omega) _) (cwV 2 hts gX3_issue_X3_issuedIn rfl rfl rfl (by decide +kernel) ⟨Nat.le_of_ble_eq_true rfl, Nat.le_of_ble_eq_true rfl⟩) (z_preV 0 hK hP hD rfl rfl) rfl rfl hl.1 rfl (lv_room (Nat.le_of_ble_eq_true rfl)) dX3_issue_39 ⟨Nat.zero_le _, Nat.zero_le _⟩) hS hD hA (fun r w1 H locs hw1 hP hD hS => ?_)
          obtain ⟨rfl, rfl⟩ := hw1
          refine z_iclt (a := k) (b := ((isn T (nZ tm) n y (Ln L) : Nat) : Int)) (tgt := 49) hx hb dX3_issue_42 (by decide) (by omega) (fun c_42 => ?_) (fun c_42 => ?_)
          · refine z_ic hx hb dX3_issue_49 ?_
            refine va_put (D := D) (ci := 3) (v := .int (iI ((0 : Nat) : Int))) (ty := .int) (C := RX3) (T := TX3) (N := 16) hx hb hts hinX3 tyX3 tyX3_ok nmX3 hown hK hP hD hS 0 rfl rfl 0 (by decide) (hts (.fieldLink RX3 44 "LoopSchedulerModel" "thrown" "I") (List.mem_of_getElem? (i := 2) rfl)) (fun _ h9 => h9) rfl (by decide +kernel) rfl rfl (Nat.le_of_ble_eq_true rfl) dX3_issue_50 (fun H locs hP hD hS => ?_)
            have hP : va_P D vwCl (wM a g 0 L att T hs tm pl (fun _ => 0)) H := hP
            have hD : va_D A (wM a g 0 L att T hs tm pl (fun _ => 0)) := hD
            refine lv_aload_n hx hb dX3_issue_53 rfl (lv_at hl 0 rfl) ?_
            refine va_get (D := D) (ci := 3) (v := .int (iI (0))) (C := RX3) (T := TX3) (N := 16) hx hb hts hinX3 hown hK hP 0 rfl rfl 0 (by decide) (hts (.fieldLink RX3 44 "LoopSchedulerModel" "thrown" "I") (List.mem_of_getElem? (i := 2) rfl)) (fun _ h9 => h9) rfl dX3_issue_54 ?_
            refine z_ifne (a := 0) (tgt := 70) hx hb dX3_issue_57 (by decide) (by omega) (fun c_57 => ?_) (fun c_57 => ?_)
            · exact absurd c_57 (by decide)
            · obtain ⟨z, rfl⟩ : ∃ z : Nat, k = (z : Int) := ⟨k.toNat, by omega⟩
              refine lv_aload_n hx hb dX3_issue_60 rfl (lv_at hl 0 rfl) ?_
              refine lv_iload_n hx hb dX3_issue_61 rfl (lv_at hl 1 rfl) ?_
              refine lv_iload_n hx hb dX3_issue_62 rfl (lv_at hl 2 rfl) ?_
              refine lv_iload_n hx hb dX3_issue_63 rfl (lv_at hl 3 rfl) ?_
              refine z_calli (va_runV (As := [.int (iI ((n : Nat) : Int)), .int (iI ((y : Nat) : Int)), .int (iI ((z : Nat) : Int))]) (rest := []) ⟨hx, hb, hml, hown, hts⟩ (c_X3_issueAt l D g a 0 L att T hs tm pl n y z hw ⟨by omega, by omega⟩ htm (by omega) (by omega) (by omega) _) (cwV 3 hts gX3_issue_X3_issueAt rfl rfl rfl (by decide +kernel) ⟨Nat.le_of_ble_eq_true rfl, Nat.le_of_ble_eq_true rfl⟩) (z_preV 0 hK hP hD rfl rfl) rfl rfl hl.1 rfl (lv_room (Nat.le_of_ble_eq_true rfl)) dX3_issue_64 ⟨Nat.zero_le _, Nat.zero_le _⟩) hS hD hA (fun r w1 H locs hw1 hP hD hS => ?_)
              obtain ⟨⟨x, hxn, hx9, rfl⟩, rfl⟩ := hw1
              refine lv_goto (tgt := 71) hx hb dX3_issue_67 (by decide) ?_
              exact z_iret (w := (wM a g 0 L att T hs tm pl (fun _ => 0))) (v := (iI (num T (nZ tm) y x))) hQ hx hb hr hlocks (Or.inr (Or.inr (Or.inr ⟨by omega, ⟨by omega, (show ((z : Nat) : Int) < ((isn T (nZ tm) n y (Ln L) : Nat) : Int) by omega)⟩, ⟨x, hxn, hx9, rfl⟩, rfl⟩))) hK hP hD hS dX3_issue_71
          · refine z_ic hx hb dX3_issue_45 ?_
            refine lv_goto (tgt := 50) hx hb dX3_issue_46 (by decide) ?_
            refine va_put (D := D) (ci := 3) (v := .int (iI ((3 : Nat) : Int))) (ty := .int) (C := RX3) (T := TX3) (N := 16) hx hb hts hinX3 tyX3 tyX3_ok nmX3 hown hK hP hD hS 0 rfl rfl 0 (by decide) (hts (.fieldLink RX3 44 "LoopSchedulerModel" "thrown" "I") (List.mem_of_getElem? (i := 2) rfl)) (fun _ h9 => h9) rfl (by decide +kernel) rfl rfl (Nat.le_of_ble_eq_true rfl) dX3_issue_50 (fun H locs hP hD hS => ?_)
            have hP : va_P D vwCl (wM a g 3 L att T hs tm pl (fun _ => 0)) H := hP
            have hD : va_D A (wM a g 3 L att T hs tm pl (fun _ => 0)) := hD
            refine lv_aload_n hx hb dX3_issue_53 rfl (lv_at hl 0 rfl) ?_
            refine va_get (D := D) (ci := 3) (v := .int (iI (3))) (C := RX3) (T := TX3) (N := 16) hx hb hts hinX3 hown hK hP 0 rfl rfl 0 (by decide) (hts (.fieldLink RX3 44 "LoopSchedulerModel" "thrown" "I") (List.mem_of_getElem? (i := 2) rfl)) (fun _ h9 => h9) rfl dX3_issue_54 ?_
            refine z_ifne (a := 3) (tgt := 70) hx hb dX3_issue_57 (by decide) (by omega) (fun c_57 => ?_) (fun c_57 => ?_)
            · refine z_ic hx hb dX3_issue_70 ?_
              exact z_iret (w := (wM a g 3 L att T hs tm pl (fun _ => 0))) (v := (iI ((0 : Nat) : Int))) hQ hx hb hr hlocks (Or.inr (Or.inr (Or.inl ⟨by omega, (fun q => by have q2 : k < ((isn T (nZ tm) n y (Ln L) : Nat) : Int) := q.2; omega), rfl⟩))) hK hP hD hS dX3_issue_71
            · exact absurd c_57 (by decide)
      · refine z_ic hx hb dX3_issue_27 ?_
        refine lv_goto (tgt := 50) hx hb dX3_issue_28 (by decide) ?_
        refine va_put (D := D) (ci := 3) (v := .int (iI ((2 : Nat) : Int))) (ty := .int) (C := RX3) (T := TX3) (N := 16) hx hb hts hinX3 tyX3 tyX3_ok nmX3 hown hK hP hD hS 0 rfl rfl 0 (by decide) (hts (.fieldLink RX3 44 "LoopSchedulerModel" "thrown" "I") (List.mem_of_getElem? (i := 2) rfl)) (fun _ h9 => h9) rfl (by decide +kernel) rfl rfl (Nat.le_of_ble_eq_true rfl) dX3_issue_50 (fun H locs hP hD hS => ?_)
        have hP : va_P D vwCl (wM a g 2 L att T hs tm pl (fun _ => 0)) H := hP
        have hD : va_D A (wM a g 2 L att T hs tm pl (fun _ => 0)) := hD
        refine lv_aload_n hx hb dX3_issue_53 rfl (lv_at hl 0 rfl) ?_
        refine va_get (D := D) (ci := 3) (v := .int (iI (2))) (C := RX3) (T := TX3) (N := 16) hx hb hts hinX3 hown hK hP 0 rfl rfl 0 (by decide) (hts (.fieldLink RX3 44 "LoopSchedulerModel" "thrown" "I") (List.mem_of_getElem? (i := 2) rfl)) (fun _ h9 => h9) rfl dX3_issue_54 ?_
        refine z_ifne (a := 2) (tgt := 70) hx hb dX3_issue_57 (by decide) (by omega) (fun c_57 => ?_) (fun c_57 => ?_)
        · refine z_ic hx hb dX3_issue_70 ?_
          exact z_iret (w := (wM a g 2 L att T hs tm pl (fun _ => 0))) (v := (iI ((0 : Nat) : Int))) hQ hx hb hr hlocks (Or.inr (Or.inl ⟨by omega, rfl⟩)) hK hP hD hS dX3_issue_71
        · exact absurd c_57 (by decide)
  · refine z_ic hx hb dX3_issue_8 ?_
    refine lv_goto (tgt := 50) hx hb dX3_issue_9 (by decide) ?_
    refine va_put (D := D) (ci := 3) (v := .int (iI ((1 : Nat) : Int))) (ty := .int) (C := RX3) (T := TX3) (N := 16) hx hb hts hinX3 tyX3 tyX3_ok nmX3 hown hK hP hD hS 0 rfl rfl 0 (by decide) (hts (.fieldLink RX3 44 "LoopSchedulerModel" "thrown" "I") (List.mem_of_getElem? (i := 2) rfl)) (fun _ h9 => h9) rfl (by decide +kernel) rfl rfl (Nat.le_of_ble_eq_true rfl) dX3_issue_50 (fun H locs hP hD hS => ?_)
    have hP : va_P D vwCl (wM a g 1 L att T hs tm pl (fun _ => 0)) H := hP
    have hD : va_D A (wM a g 1 L att T hs tm pl (fun _ => 0)) := hD
    refine lv_aload_n hx hb dX3_issue_53 rfl (lv_at hl 0 rfl) ?_
    refine va_get (D := D) (ci := 3) (v := .int (iI (1))) (C := RX3) (T := TX3) (N := 16) hx hb hts hinX3 hown hK hP 0 rfl rfl 0 (by decide) (hts (.fieldLink RX3 44 "LoopSchedulerModel" "thrown" "I") (List.mem_of_getElem? (i := 2) rfl)) (fun _ h9 => h9) rfl dX3_issue_54 ?_
    refine z_ifne (a := 1) (tgt := 70) hx hb dX3_issue_57 (by decide) (by omega) (fun c_57 => ?_) (fun c_57 => ?_)
    · refine z_ic hx hb dX3_issue_70 ?_
      exact z_iret (w := (wM a g 1 L att T hs tm pl (fun _ => 0))) (v := (iI ((0 : Nat) : Int))) hQ hx hb hr hlocks (Or.inl ⟨by omega, rfl⟩) hK hP hD hS dX3_issue_71
    · exact absurd c_57 (by decide)
set_option maxHeartbeats 4000000 in
set_option maxRecDepth 100000 in
theorem c_X3_prologue (l : Launch) (D : va_G) (g : Nat → ClassId) (a : Nat → Nat) (th : Int) (L : LD) (att T : Nat) (hs : Nat → Int) (tm : Nat → Nat) (pl : Nat → Bool)  (hw : wf L) (hT2 : T ≤ 200) (htm : ∀ j, j < Ln L → tm j ≤ 1000000) : zMi l D (zT g) yX3_prologue wsX3_prologue 3 55 (wM a g th L att T hs tm pl (fun _ => 0)) [.ref (a 0)] (fun r w1 => (T = 0 ∧ w1 = wM a g 1 L att T hs tm pl (fun _ => 0)) ∨ (0 < T ∧ r = iI ((sumI (fun c => isn T (nZ tm) 1000 c (Ln L)) ((sG L T (nZ tm) - 1) * (T : Int)).toNat : Nat) : Int) ∧ w1 = wM a g 0 L att T hs tm pl (fun _ => 0))) := by
  refine z_ofI (cc := cX3_prologue) (maxL := 3) (ret := (some .int)) (by decide) rfl (Nat.le_of_ble_eq_true rfl) ?_
  intro p e s m args below meth c A ls hx hb hr hts hown hlocks hml hP hK hD hS hA hl Q hQ
  have hown : s.vm.findClass RX3 = some m.cls := hown
  have hinX3 : ∀ w ∈ u_ws RX3 TX3 16, w ∈ wsX3_prologue := by decide +kernel
  have hl : lv_has ls 3 [(0, .ref (a 0))] := hl
  have hwn := wf_n hw
  refine lv_aload_n hx hb dX3_prologue_0 rfl (lv_at hl 0 rfl) ?_
  refine z_calli (va_runV (As := []) (rest := []) ⟨hx, hb, hml, hown, hts⟩ (c_X3_has l D g a th L att T hs tm pl (by omega) _) (cwV 0 hts gX3_prologue_X3_has rfl rfl rfl (by decide +kernel) ⟨Nat.le_of_ble_eq_true rfl, Nat.le_of_ble_eq_true rfl⟩) (z_preV 0 hK hP hD rfl rfl) rfl rfl hl.1 rfl (lv_room (Nat.le_of_ble_eq_true rfl)) dX3_prologue_1 ⟨Nat.zero_le _, Nat.zero_le _⟩) hS hD hA (fun r w1 H locs hw1 hP hD hS => ?_)
  obtain ⟨rfl, rfl⟩ := hw1
  refine z_ifne (a := (bI (decide (0 < T)))) (tgt := 9) hx hb dX3_prologue_4 (by decide) (bI_r _) (fun c_4 => ?_) (fun c_4 => ?_)
  · have d_4 := of_decide_eq_true (bI_t c_4)
    have ew : (0 : Int) = (if 0 < T then 0 else 1) := (if_pos d_4).symm
    have hP : va_P D vwCl (wM a g 0 L att T hs tm pl (fun _ => 0)) H := Eq.mp (congrArg (fun z9 => va_P D vwCl (wM a g z9 L att T hs tm pl (fun _ => 0)) H) ew.symm) hP
    have hD : va_D A (wM a g 0 L att T hs tm pl (fun _ => 0)) := Eq.mp (congrArg (fun z9 => va_D A (wM a g z9 L att T hs tm pl (fun _ => 0))) ew.symm) hD
    have hsb := sGn_bd (L := L) (T := T) hT2 (by omega) htm
    refine z_ic hx hb dX3_prologue_9 ?_
    refine lv_istore_n (lv' := [(1, .int (iI ((0 : Nat) : Int))), (0, .ref (a 0))]) hx hb dX3_prologue_10 rfl hl (by decide) rfl (fun ls hl => ?_)
    refine z_ic hx hb dX3_prologue_11 ?_
    refine lv_istore_n (lv' := [(2, .int (iI ((0 : Nat) : Int))), (1, .int (iI ((0 : Nat) : Int))), (0, .ref (a 0))]) hx hb dX3_prologue_12 rfl hl (by decide) rfl (fun ls hl => ?_)
    have loop13 : ∀ (n13 : Nat) (x : Nat) (H : Heap) (locs : List Loc) (ls : Array Slot), ((sG L T (nZ tm) - 1) * (T : Int)).toNat - x < n13 → (x ≤ ((sG L T (nZ tm) - 1) * (T : Int)).toNat) → va_P D vwCl (wM a g 0 L att T hs tm pl (fun _ => 0)) H → va_D A (wM a g 0 L att T hs tm pl (fun _ => 0)) → va_S A s.heap H locs → lv_has ls 3 [(0, .ref (a 0)), (1, .int (iI ((sumI (fun c => isn T (nZ tm) 1000 c (Ln L)) x : Nat) : Int))), (2, .int (iI ((x : Nat) : Int)))] → W p l e ({ frames := 3, cells := 0, slots := 0, locals := 55 } : Room) s m args below meth c H locs 0 0 Q (F0 m 13 ls []) := by
      intro n13
      induction n13 with
      | zero => exact fun _ H locs ls hn => absurd hn (Nat.not_lt_zero _)
      | succ n13 ih13 =>
        intro x H locs ls hn13 hx2 hP hD hS hl
        have hsl := sumI_le (f := (fun c => isn T (nZ tm) 1000 c (Ln L))) (M := 14) (fun c => Nat.le_trans (isn_le T (nZ tm) 1000 c (Ln L)) hwn) x
        have hil := isn_le T (nZ tm) 1000 x (Ln L)
        refine lv_iload_n hx hb dX3_prologue_13 rfl (lv_at hl 2 rfl) ?_
        refine lv_aload_n hx hb dX3_prologue_14 rfl (lv_at hl 0 rfl) ?_
        refine z_calli (va_runV (As := []) (rest := [.int (iI ((x : Nat) : Int))]) ⟨hx, hb, hml, hown, hts⟩ (c_X3_stageCount l D g a 0 L att T hs tm pl hw ⟨by omega, by omega⟩ htm _) (cwV 0 hts gX3_prologue_X3_stageCount rfl rfl rfl (by decide +kernel) ⟨Nat.le_of_ble_eq_true rfl, Nat.le_of_ble_eq_true rfl⟩) (z_preV 0 hK hP hD rfl rfl) rfl rfl hl.1 rfl (lv_room (Nat.le_of_ble_eq_true rfl)) dX3_prologue_15 ⟨Nat.zero_le _, Nat.zero_le _⟩) hS hD hA (fun r w1 H locs hw1 hP hD hS => ?_)
        obtain ⟨rfl, rfl⟩ := hw1
        refine z_ic hx hb dX3_prologue_18 ?_
        refine z_sub (a := (sG L T (nZ tm))) (b := 1) hx hb dX3_prologue_19 ?_
        refine lv_aload_n hx hb dX3_prologue_20 rfl (lv_at hl 0 rfl) ?_
        refine va_get (D := D) (ci := 3) (v := .int (iI ((T : Nat) : Int))) (C := RX3) (T := TX3) (N := 16) hx hb hts hinX3 hown hK hP 0 rfl rfl 10 (by decide) (hts (.fieldLink RX3 59 "LoopSchedulerModel" "interval" "I") (List.mem_of_getElem? (i := 1) rfl)) (fun _ h9 => h9) rfl dX3_prologue_21 ?_
        refine z_mul (a := ((sG L T (nZ tm)) - 1)) (b := ((T : Nat) : Int)) hx hb dX3_prologue_24 ?_
        refine z_icge (a := ((x : Nat) : Int)) (b := (((sG L T (nZ tm)) - 1) * ((T : Nat) : Int))) (tgt := 45) hx hb dX3_prologue_25 (by decide) (by omega) (fun c_25 => ?_) (fun c_25 => ?_)
        · have hend : x = ((sG L T (nZ tm) - 1) * (T : Int)).toNat := by omega
          refine lv_iload_n hx hb dX3_prologue_45 rfl (lv_at hl 1 rfl) ?_
          exact z_iret (w := (wM a g 0 L att T hs tm pl (fun _ => 0))) (v := (iI ((sumI (fun c => isn T (nZ tm) 1000 c (Ln L)) x : Nat) : Int))) hQ hx hb hr hlocks (Or.inr ⟨by omega, by rw [← hend], rfl⟩) hK hP hD hS dX3_prologue_46
        · refine lv_iload_n hx hb dX3_prologue_28 rfl (lv_at hl 1 rfl) ?_
          refine lv_aload_n hx hb dX3_prologue_29 rfl (lv_at hl 0 rfl) ?_
          refine z_sip hx hb dX3_prologue_30 (by decide) ?_
          refine lv_iload_n hx hb dX3_prologue_33 rfl (lv_at hl 2 rfl) ?_
          refine z_calli (va_runV (As := [.int (iI ((1000 : Nat) : Int)), .int (iI ((x : Nat) : Int))]) (rest := [.int (iI ((sumI (fun c => isn T (nZ tm) 1000 c (Ln L)) x : Nat) : Int))]) ⟨hx, hb, hml, hown, hts⟩ (c_X3_issuedIn l D g a 0 L att T hs tm pl 1000 x hw ⟨by omega, by omega⟩ htm (by omega) (by omega) _) (cwV 2 hts gX3_prologue_X3_issuedIn rfl rfl rfl (by decide +kernel) ⟨Nat.le_of_ble_eq_true rfl, Nat.le_of_ble_eq_true rfl⟩) (z_preV 0 hK hP hD rfl rfl) rfl rfl hl.1 rfl (lv_room (Nat.le_of_ble_eq_true rfl)) dX3_prologue_34 ⟨Nat.zero_le _, Nat.zero_le _⟩) hS hD hA (fun r w1 H locs hw1 hP hD hS => ?_)
          obtain ⟨rfl, rfl⟩ := hw1
          refine z_add (a := ((sumI (fun c => isn T (nZ tm) 1000 c (Ln L)) x : Nat) : Int)) (b := ((isn T (nZ tm) 1000 x (Ln L) : Nat) : Int)) hx hb dX3_prologue_37 ?_
          refine z_eqI (y := iI ((sumI (fun c => isn T (nZ tm) 1000 c (Ln L)) (x + 1) : Nat) : Int)) (congrArg iI (Int.natCast_add _ _).symm) ?_
          refine lv_istore_n (lv' := [(1, .int (iI ((sumI (fun c => isn T (nZ tm) 1000 c (Ln L)) (x + 1) : Nat) : Int))), (0, .ref (a 0)), (2, .int (iI ((x : Nat) : Int)))]) hx hb dX3_prologue_38 rfl hl (by decide) rfl (fun ls hl => ?_)
          refine z_iinc (a := ((x : Nat) : Int)) (b := ((x + 1 : Nat) : Int)) (lv' := [(2, .int (iI ((x + 1 : Nat) : Int))), (1, .int (iI ((sumI (fun c => isn T (nZ tm) 1000 c (Ln L)) (x + 1) : Nat) : Int))), (0, .ref (a 0))]) hx hb 2 dX3_prologue_39 hl rfl rfl (by decide) rfl (fun ls hl => ?_)
          refine lv_goto (tgt := 13) hx hb dX3_prologue_42 (by decide) ?_
          exact ih13 (x + 1) _ _ _ (by omega) (by omega) hP hD hS (lv_sub hl [2, 1, 0] rfl)
    exact loop13 ((((sG L T (nZ tm) - 1) * (T : Int)).toNat - 0) + 1) 0 _ _ _ (Nat.lt_succ_self _) (by omega) hP hD hS (lv_sub hl [2, 1, 0] rfl)
  · have d_4 := of_decide_eq_false (bI_f c_4)
    have ew : (1 : Int) = (if 0 < T then 0 else 1) := (if_neg d_4).symm
    have hP : va_P D vwCl (wM a g 1 L att T hs tm pl (fun _ => 0)) H := Eq.mp (congrArg (fun z9 => va_P D vwCl (wM a g z9 L att T hs tm pl (fun _ => 0)) H) ew.symm) hP
    have hD : va_D A (wM a g 1 L att T hs tm pl (fun _ => 0)) := Eq.mp (congrArg (fun z9 => va_D A (wM a g z9 L att T hs tm pl (fun _ => 0))) ew.symm) hD
    refine z_ic hx hb dX3_prologue_7 ?_
    exact z_iret (w := (wM a g 1 L att T hs tm pl (fun _ => 0))) (v := (iI ((0 : Nat) : Int))) hQ hx hb hr hlocks (Or.inl ⟨by omega, rfl⟩) hK hP hD hS dX3_prologue_8
set_option maxHeartbeats 4000000 in
set_option maxRecDepth 100000 in
theorem c_X3_epilogue (l : Launch) (D : va_G) (g : Nat → ClassId) (a : Nat → Nat) (th : Int) (L : LD) (att T : Nat) (hs : Nat → Int) (tm : Nat → Nat) (pl : Nat → Bool)  (hw : wf L) (hT2 : T ≤ 200) (htm : ∀ j, j < Ln L → tm j ≤ 1000000) : zMi l D (zT g) yX3_epilogue wsX3_epilogue 3 55 (wM a g th L att T hs tm pl (fun _ => 0)) [.ref (a 0)] (fun r w1 => (T = 0 ∧ w1 = wM a g 1 L att T hs tm pl (fun _ => 0)) ∨ (0 < T ∧ r = iI ((sumI (fun c => isn T (nZ tm) (max (sG L T (nZ tm)) 1).toNat ((sG L T (nZ tm) * (T : Int)).toNat + c) (Ln L)) ((gT (nZ tm) (Ln L)).toNat + 1) : Nat) : Int) ∧ w1 = wM a g 0 L att T hs tm pl (fun _ => 0))) := by
  refine z_ofI (cc := cX3_epilogue) (maxL := 4) (ret := (some .int)) (by decide) rfl (Nat.le_of_ble_eq_true rfl) ?_
  intro p e s m args below meth c A ls hx hb hr hts hown hlocks hml hP hK hD hS hA hl Q hQ
  have hown : s.vm.findClass RX3 = some m.cls := hown
  have hinX3 : ∀ w ∈ u_ws RX3 TX3 16, w ∈ wsX3_epilogue := by decide +kernel
  have hl : lv_has ls 4 [(0, .ref (a 0))] := hl
  have hwn := wf_n hw
  refine lv_aload_n hx hb dX3_epilogue_0 rfl (lv_at hl 0 rfl) ?_
  refine z_calli (va_runV (As := []) (rest := []) ⟨hx, hb, hml, hown, hts⟩ (c_X3_has l D g a th L att T hs tm pl (by omega) _) (cwV 0 hts gX3_epilogue_X3_has rfl rfl rfl (by decide +kernel) ⟨Nat.le_of_ble_eq_true rfl, Nat.le_of_ble_eq_true rfl⟩) (z_preV 0 hK hP hD rfl rfl) rfl rfl hl.1 rfl (lv_room (Nat.le_of_ble_eq_true rfl)) dX3_epilogue_1 ⟨Nat.zero_le _, Nat.zero_le _⟩) hS hD hA (fun r w1 H locs hw1 hP hD hS => ?_)
  obtain ⟨rfl, rfl⟩ := hw1
  refine z_ifne (a := (bI (decide (0 < T)))) (tgt := 9) hx hb dX3_epilogue_4 (by decide) (bI_r _) (fun c_4 => ?_) (fun c_4 => ?_)
  · have d_4 := of_decide_eq_true (bI_t c_4)
    have ew : (0 : Int) = (if 0 < T then 0 else 1) := (if_pos d_4).symm
    have hP : va_P D vwCl (wM a g 0 L att T hs tm pl (fun _ => 0)) H := Eq.mp (congrArg (fun z9 => va_P D vwCl (wM a g z9 L att T hs tm pl (fun _ => 0)) H) ew.symm) hP
    have hD : va_D A (wM a g 0 L att T hs tm pl (fun _ => 0)) := Eq.mp (congrArg (fun z9 => va_D A (wM a g z9 L att T hs tm pl (fun _ => 0))) ew.symm) hD
    have hsb := sGn_bd (L := L) (T := T) hT2 (by omega) htm
    have hgb := gTn_bd htm (Ln L) (Nat.le_refl _)
    refine z_ic hx hb dX3_epilogue_9 ?_
    refine lv_istore_n (lv' := [(1, .int (iI ((0 : Nat) : Int))), (0, .ref (a 0))]) hx hb dX3_epilogue_10 rfl hl (by decide) rfl (fun ls hl => ?_)
    refine lv_aload_n hx hb dX3_epilogue_11 rfl (lv_at hl 1 rfl) ?_
    refine z_calli (va_runV (As := []) (rest := []) ⟨hx, hb, hml, hown, hts⟩ (c_X3_latest l D g a 0 L att T hs tm pl hw htm _) (cwV 0 hts gX3_epilogue_X3_latest rfl rfl rfl (by decide +kernel) ⟨Nat.le_of_ble_eq_true rfl, Nat.le_of_ble_eq_true rfl⟩) (z_preV 0 hK hP hD rfl rfl) rfl rfl hl.1 rfl (lv_room (Nat.le_of_ble_eq_true rfl)) dX3_epilogue_12 ⟨Nat.zero_le _, Nat.zero_le _⟩) hS hD hA (fun r w1 H locs hw1 hP hD hS => ?_)
    obtain ⟨rfl, rfl⟩ := hw1
    refine lv_aload_n hx hb dX3_epilogue_15 rfl (lv_at hl 1 rfl) ?_
    refine z_calli (va_runV (As := []) (rest := [.int (iI (gT (nZ tm) (Ln L)))]) ⟨hx, hb, hml, hown, hts⟩ (c_X3_stageCount l D g a 0 L att T hs tm pl hw ⟨by omega, by omega⟩ htm _) (cwV 0 hts gX3_epilogue_X3_stageCount rfl rfl rfl (by decide +kernel) ⟨Nat.le_of_ble_eq_true rfl, Nat.le_of_ble_eq_true rfl⟩) (z_preV 0 hK hP hD rfl rfl) rfl rfl hl.1 rfl (lv_room (Nat.le_of_ble_eq_true rfl)) dX3_epilogue_16 ⟨Nat.zero_le _, Nat.zero_le _⟩) hS hD hA (fun r w1 H locs hw1 hP hD hS => ?_)
    obtain ⟨rfl, rfl⟩ := hw1
    refine lv_aload_n hx hb dX3_epilogue_19 rfl (lv_at hl 1 rfl) ?_
    refine va_get (D := D) (ci := 3) (v := .int (iI ((T : Nat) : Int))) (C := RX3) (T := TX3) (N := 16) hx hb hts hinX3 hown hK hP 0 rfl rfl 10 (by decide) (hts (.fieldLink RX3 59 "LoopSchedulerModel" "interval" "I") (List.mem_of_getElem? (i := 1) rfl)) (fun _ h9 => h9) rfl dX3_epilogue_20 ?_
    refine z_mul (a := (sG L T (nZ tm))) (b := ((T : Nat) : Int)) hx hb dX3_epilogue_23 ?_
    refine z_add (a := (gT (nZ tm) (Ln L))) (b := ((sG L T (nZ tm)) * ((T : Nat) : Int))) hx hb dX3_epilogue_24 ?_
    refine lv_istore_n (lv' := [(2, .int (iI ((gT (nZ tm) (Ln L)) + ((sG L T (nZ tm)) * ((T : Nat) : Int))))), (1, .int (iI ((0 : Nat) : Int))), (0, .ref (a 0))]) hx hb dX3_epilogue_25 rfl hl (by decide) rfl (fun ls hl => ?_)
    refine lv_aload_n hx hb dX3_epilogue_26 rfl (lv_at hl 2 rfl) ?_
    refine z_calli (va_runV (As := []) (rest := []) ⟨hx, hb, hml, hown, hts⟩ (c_X3_stageCount l D g a 0 L att T hs tm pl hw ⟨by omega, by omega⟩ htm _) (cwV 0 hts gX3_epilogue_X3_stageCount rfl rfl rfl (by decide +kernel) ⟨Nat.le_of_ble_eq_true rfl, Nat.le_of_ble_eq_true rfl⟩) (z_preV 0 hK hP hD rfl rfl) rfl rfl hl.1 rfl (lv_room (Nat.le_of_ble_eq_true rfl)) dX3_epilogue_27 ⟨Nat.zero_le _, Nat.zero_le _⟩) hS hD hA (fun r w1 H locs hw1 hP hD hS => ?_)
    obtain ⟨rfl, rfl⟩ := hw1
    refine lv_aload_n hx hb dX3_epilogue_30 rfl (lv_at hl 2 rfl) ?_
    refine va_get (D := D) (ci := 3) (v := .int (iI ((T : Nat) : Int))) (C := RX3) (T := TX3) (N := 16) hx hb hts hinX3 hown hK hP 0 rfl rfl 10 (by decide) (hts (.fieldLink RX3 59 "LoopSchedulerModel" "interval" "I") (List.mem_of_getElem? (i := 1) rfl)) (fun _ h9 => h9) rfl dX3_epilogue_31 ?_
    refine z_mul (a := (sG L T (nZ tm))) (b := ((T : Nat) : Int)) hx hb dX3_epilogue_34 ?_
    refine z_eqI (y := iI (((sG L T (nZ tm) * (T : Int)).toNat : Nat) : Int)) (congrArg iI (by omega)) ?_
    refine lv_istore_n (lv' := [(3, .int (iI (((sG L T (nZ tm) * (T : Int)).toNat : Nat) : Int))), (2, .int (iI ((gT (nZ tm) (Ln L)) + ((sG L T (nZ tm)) * ((T : Nat) : Int))))), (1, .int (iI ((0 : Nat) : Int))), (0, .ref (a 0))]) hx hb dX3_epilogue_35 rfl hl (by decide) rfl (fun ls hl => ?_)
    have loop36 : ∀ (n36 : Nat) (x : Nat) (H : Heap) (locs : List Loc) (ls : Array Slot), (gT (nZ tm) (Ln L)).toNat + 1 - x < n36 → (x ≤ (gT (nZ tm) (Ln L)).toNat + 1) → va_P D vwCl (wM a g 0 L att T hs tm pl (fun _ => 0)) H → va_D A (wM a g 0 L att T hs tm pl (fun _ => 0)) → va_S A s.heap H locs → lv_has ls 4 [(0, .ref (a 0)), (1, .int (iI ((sumI (fun c => isn T (nZ tm) (max (sG L T (nZ tm)) 1).toNat ((sG L T (nZ tm) * (T : Int)).toNat + c) (Ln L)) x : Nat) : Int))), (2, .int (iI (gT (nZ tm) (Ln L) + (sG L T (nZ tm)) * ((T : Nat) : Int)))), (3, .int (iI (((sG L T (nZ tm) * (T : Int)).toNat + x : Nat) : Int)))] → W p l e ({ frames := 3, cells := 0, slots := 0, locals := 55 } : Room) s m args below meth c H locs 0 0 Q (F0 m 36 ls []) := by
      intro n36
      induction n36 with
      | zero => exact fun _ H locs ls hn => absurd hn (Nat.not_lt_zero _)
      | succ n36 ih36 =>
        intro x H locs ls hn36 hx2 hP hD hS hl
        have hsl := sumI_le (f := (fun c => isn T (nZ tm) (max (sG L T (nZ tm)) 1).toNat ((sG L T (nZ tm) * (T : Int)).toNat + c) (Ln L))) (M := 14) (fun c => Nat.le_trans (isn_le T (nZ tm) _ _ (Ln L)) hwn) x
        have hil := isn_le T (nZ tm) (max (sG L T (nZ tm)) 1).toNat ((sG L T (nZ tm) * (T : Int)).toNat + x) (Ln L)
        refine lv_iload_n hx hb dX3_epilogue_36 rfl (lv_at hl 3 rfl) ?_
        refine lv_iload_n hx hb dX3_epilogue_37 rfl (lv_at hl 2 rfl) ?_
        refine z_icgt (a := (((sG L T (nZ tm) * (T : Int)).toNat + x : Nat) : Int)) (b := (gT (nZ tm) (Ln L) + (sG L T (nZ tm)) * ((T : Nat) : Int))) (tgt := 63) hx hb dX3_epilogue_38 (by decide) (by omega) (fun c_38 => ?_) (fun c_38 => ?_)
        · have hend : x = (gT (nZ tm) (Ln L)).toNat + 1 := by omega
          refine lv_iload_n hx hb dX3_epilogue_63 rfl (lv_at hl 1 rfl) ?_
          exact z_iret (w := (wM a g 0 L att T hs tm pl (fun _ => 0))) (v := (iI ((sumI (fun c => isn T (nZ tm) (max (sG L T (nZ tm)) 1).toNat ((sG L T (nZ tm) * (T : Int)).toNat + c) (Ln L)) x : Nat) : Int))) hQ hx hb hr hlocks (Or.inr ⟨by omega, by rw [← hend], rfl⟩) hK hP hD hS dX3_epilogue_64
        · refine lv_iload_n hx hb dX3_epilogue_41 rfl (lv_at hl 1 rfl) ?_
          refine lv_aload_n hx hb dX3_epilogue_42 rfl (lv_at hl 0 rfl) ?_
          refine lv_aload_n hx hb dX3_epilogue_43 rfl (lv_at hl 0 rfl) ?_
          refine z_calli (va_runV (As := []) (rest := [.ref (a 0), .int (iI ((sumI (fun c => isn T (nZ tm) (max (sG L T (nZ tm)) 1).toNat ((sG L T (nZ tm) * (T : Int)).toNat + c) (Ln L)) x : Nat) : Int))]) ⟨hx, hb, hml, hown, hts⟩ (c_X3_stageCount l D g a 0 L att T hs tm pl hw ⟨by omega, by omega⟩ htm _) (cwV 0 hts gX3_epilogue_X3_stageCount rfl rfl rfl (by decide +kernel) ⟨Nat.le_of_ble_eq_true rfl, Nat.le_of_ble_eq_true rfl⟩) (z_preV 0 hK hP hD rfl rfl) rfl rfl hl.1 rfl (lv_room (Nat.le_of_ble_eq_true rfl)) dX3_epilogue_44 ⟨Nat.zero_le _, Nat.zero_le _⟩) hS hD hA (fun r w1 H locs hw1 hP hD hS => ?_)
          obtain ⟨rfl, rfl⟩ := hw1
          refine z_ic hx hb dX3_epilogue_47 ?_
          refine z_mmax (a := (sG L T (nZ tm))) (b := 1) hx hb hml hl.1 hown (hts (.methodLink RX3 97 Lib.Math.max.name) (List.mem_of_getElem? (i := 2) rfl)) (hts (.static Lib.Math.max.name) (List.mem_of_getElem? (i := 3) rfl)) (hts (.initialized "java/lang/Math") (List.mem_of_getElem? (i := 4) rfl)) (hts (.code Lib.Math.max.name Lib.Math.max.code 2 (some .int)) (List.mem_of_getElem? (i := 5) rfl)) (Nat.le_of_ble_eq_true rfl) (Nat.le_of_ble_eq_true rfl) (Nat.zero_le _) (Nat.zero_le _) (by omega) dX3_epilogue_48 ?_
          refine z_eqI (y := iI (((max (sG L T (nZ tm)) 1).toNat : Nat) : Int)) (congrArg iI (by omega)) ?_
          refine lv_iload_n hx hb dX3_epilogue_51 rfl (lv_at hl 3 rfl) ?_
          refine z_calli (va_runV (As := [.int (iI (((max (sG L T (nZ tm)) 1).toNat : Nat) : Int)), .int (iI (((sG L T (nZ tm) * (T : Int)).toNat + x : Nat) : Int))]) (rest := [.int (iI ((sumI (fun c => isn T (nZ tm) (max (sG L T (nZ tm)) 1).toNat ((sG L T (nZ tm) * (T : Int)).toNat + c) (Ln L)) x : Nat) : Int))]) ⟨hx, hb, hml, hown, hts⟩ (c_X3_issuedIn l D g a 0 L att T hs tm pl ((max (sG L T (nZ tm)) 1).toNat) ((sG L T (nZ tm) * (T : Int)).toNat + x) hw ⟨by omega, by omega⟩ htm (by omega) (by omega) _) (cwV 2 hts gX3_epilogue_X3_issuedIn rfl rfl rfl (by decide +kernel) ⟨Nat.le_of_ble_eq_true rfl, Nat.le_of_ble_eq_true rfl⟩) (z_preV 0 hK hP hD rfl rfl) rfl rfl hl.1 rfl (lv_room (Nat.le_of_ble_eq_true rfl)) dX3_epilogue_52 ⟨Nat.zero_le _, Nat.zero_le _⟩) hS hD hA (fun r w1 H locs hw1 hP hD hS => ?_)
          obtain ⟨rfl, rfl⟩ := hw1
          refine z_add (a := ((sumI (fun c => isn T (nZ tm) (max (sG L T (nZ tm)) 1).toNat ((sG L T (nZ tm) * (T : Int)).toNat + c) (Ln L)) x : Nat) : Int)) (b := ((isn T (nZ tm) ((max (sG L T (nZ tm)) 1).toNat) ((sG L T (nZ tm) * (T : Int)).toNat + x) (Ln L) : Nat) : Int)) hx hb dX3_epilogue_55 ?_
          refine z_eqI (y := iI ((sumI (fun c => isn T (nZ tm) (max (sG L T (nZ tm)) 1).toNat ((sG L T (nZ tm) * (T : Int)).toNat + c) (Ln L)) (x + 1) : Nat) : Int)) (congrArg iI (Int.natCast_add _ _).symm) ?_
          refine lv_istore_n (lv' := [(1, .int (iI ((sumI (fun c => isn T (nZ tm) (max (sG L T (nZ tm)) 1).toNat ((sG L T (nZ tm) * (T : Int)).toNat + c) (Ln L)) (x + 1) : Nat) : Int))), (0, .ref (a 0)), (2, .int (iI (gT (nZ tm) (Ln L) + (sG L T (nZ tm)) * ((T : Nat) : Int)))), (3, .int (iI (((sG L T (nZ tm) * (T : Int)).toNat + x : Nat) : Int)))]) hx hb dX3_epilogue_56 rfl hl (by decide) rfl (fun ls hl => ?_)
          refine z_iinc (a := (((sG L T (nZ tm) * (T : Int)).toNat + x : Nat) : Int)) (b := (((sG L T (nZ tm) * (T : Int)).toNat + (x + 1) : Nat) : Int)) (lv' := [(3, .int (iI (((sG L T (nZ tm) * (T : Int)).toNat + (x + 1) : Nat) : Int))), (1, .int (iI ((sumI (fun c => isn T (nZ tm) (max (sG L T (nZ tm)) 1).toNat ((sG L T (nZ tm) * (T : Int)).toNat + c) (Ln L)) (x + 1) : Nat) : Int))), (0, .ref (a 0)), (2, .int (iI (gT (nZ tm) (Ln L) + (sG L T (nZ tm)) * ((T : Nat) : Int))))]) hx hb 3 dX3_epilogue_57 hl rfl (by omega) (by decide) rfl (fun ls hl => ?_)
          refine lv_goto (tgt := 36) hx hb dX3_epilogue_60 (by decide) ?_
          exact ih36 (x + 1) _ _ _ (by omega) (by omega) hP hD hS (lv_sub hl [2, 1, 3, 0] rfl)
    exact loop36 (((gT (nZ tm) (Ln L)).toNat + 1 - 0) + 1) 0 _ _ _ (Nat.lt_succ_self _) (by omega) hP hD hS (lv_sub hl [3, 2, 1, 0] rfl)
  · have d_4 := of_decide_eq_false (bI_f c_4)
    have ew : (1 : Int) = (if 0 < T then 0 else 1) := (if_neg d_4).symm
    have hP : va_P D vwCl (wM a g 1 L att T hs tm pl (fun _ => 0)) H := Eq.mp (congrArg (fun z9 => va_P D vwCl (wM a g z9 L att T hs tm pl (fun _ => 0)) H) ew.symm) hP
    have hD : va_D A (wM a g 1 L att T hs tm pl (fun _ => 0)) := Eq.mp (congrArg (fun z9 => va_D A (wM a g z9 L att T hs tm pl (fun _ => 0))) ew.symm) hD
    refine z_ic hx hb dX3_epilogue_7 ?_
    exact z_iret (w := (wM a g 1 L att T hs tm pl (fun _ => 0))) (v := (iI ((0 : Nat) : Int))) hQ hx hb hr hlocks (Or.inl ⟨by omega, rfl⟩) hK hP hD hS dX3_epilogue_8
set_option maxHeartbeats 4000000 in
set_option maxRecDepth 100000 in
theorem c_X3_digest (l : Launch) (D : va_G) (g : Nat → ClassId) (a : Nat → Nat) (th : Int) (L : LD) (att T : Nat) (hs : Nat → Int) (tm : Nat → Nat) (pl : Nat → Bool)  (hw : wf L) (hT2 : T ≤ 200) : zMl l D (zT g) yX3_digest wsX3_digest 1 12 (wM a g th L att T hs tm pl (fun _ => 0)) [.ref (a 0)] (fun r w1 => r = dg L T (nZ tm) ∧ w1 = wM a g 0 L att T hs tm pl (fun _ => 0)) := by
  refine z_ofL (cc := cX3_digest) (maxL := 4) (ret := (some .long)) (by decide) rfl (Nat.le_of_ble_eq_true rfl) ?_
  intro p e s m args below meth c A ls hx hb hr hts hown hlocks hml hP hK hD hS hA hl Q hQ
  have hown : s.vm.findClass RX3 = some m.cls := hown
  have hinX3 : ∀ w ∈ u_ws RX3 TX3 16, w ∈ wsX3_digest := by decide +kernel
  have hl : lv_has ls 4 [(0, .ref (a 0))] := hl
  have hwn := wf_n hw
  have hwm := wf_m hw
  refine lv_aload_n hx hb dX3_digest_0 rfl (lv_at hl 0 rfl) ?_
  refine z_ic hx hb dX3_digest_1 ?_
  refine va_put (D := D) (ci := 3) (v := .int (iI ((0 : Nat) : Int))) (ty := .int) (C := RX3) (T := TX3) (N := 16) hx hb hts hinX3 tyX3 tyX3_ok nmX3 hown hK hP hD hS 0 rfl rfl 0 (by decide) (hts (.fieldLink RX3 44 "LoopSchedulerModel" "thrown" "I") (List.mem_of_getElem? (i := 1) rfl)) (fun _ h9 => h9) rfl (by decide +kernel) rfl rfl (Nat.le_of_ble_eq_true rfl) dX3_digest_2 (fun H locs hP hD hS => ?_)
  have hP : va_P D vwCl (wM a g 0 L att T hs tm pl (fun _ => 0)) H := hP
  have hD : va_D A (wM a g 0 L att T hs tm pl (fun _ => 0)) := hD
  refine lv_ldc2 (v := 79) hx hb hown (hts (.constantLong RX3 154 (79)) (List.mem_of_getElem? (i := 2) rfl)) dX3_digest_5 ?_
  refine lv_lstore_n (lv' := [(1, .long (79)), (0, .ref (a 0))]) hx hb dX3_digest_8 rfl hl (by decide) rfl (fun ls hl => ?_)
  refine z_ic hx hb dX3_digest_9 ?_
  refine lv_istore_n (lv' := [(3, .int (iI ((0 : Nat) : Int))), (1, .long (79)), (0, .ref (a 0))]) hx hb dX3_digest_10 rfl hl (by decide) rfl (fun ls hl => ?_)
  have loop11 : ∀ (n11 : Nat) (x : Nat) (H : Heap) (locs : List Loc) (ls : Array Slot), 3 - x < n11 → (x ≤ 3) → va_P D vwCl (wM a g 0 L att T hs tm pl (fun _ => 0)) H → va_D A (wM a g 0 L att T hs tm pl (fun _ => 0)) → va_S A s.heap H locs → lv_has ls 4 [(0, .ref (a 0)), (1, .long (dgU L x)), (3, .int (iI ((x : Nat) : Int)))] → W p l e ({ frames := 1, cells := 0, slots := 0, locals := 12 } : Room) s m args below meth c H locs 0 0 Q (F0 m 11 ls []) := by
    intro n11
    induction n11 with
    | zero => exact fun _ H locs ls hn => absurd hn (Nat.not_lt_zero _)
    | succ n11 ih11 =>
      intro x H locs ls hn11 hx2 hP hD hS hl
      refine lv_iload_n hx hb dX3_digest_11 rfl (lv_at hl 2 rfl) ?_
      refine z_ic hx hb dX3_digest_12 ?_
      refine z_icge (a := ((x : Nat) : Int)) (b := 3) (tgt := 36) hx hb dX3_digest_13 (by decide) (by omega) (fun c_13 => ?_) (fun c_13 => ?_)
      · obtain rfl : x = 3 := by omega
        refine lv_lload_n hx hb dX3_digest_36 rfl (lv_at hl 1 rfl) ?_
        refine lv_ldc2 (v := 31) hx hb hown (hts (.constantLong RX3 156 (31)) (List.mem_of_getElem? (i := 3) rfl)) dX3_digest_37 ?_
        refine lv_lmul hx hb dX3_digest_40 ?_
        refine lv_aload_n hx hb dX3_digest_41 rfl (lv_at hl 0 rfl) ?_
        refine va_get (D := D) (ci := 3) (v := .int (iI ((Ln L : Nat) : Int))) (C := RX3) (T := TX3) (N := 16) hx hb hts hinX3 hown hK hP 0 rfl rfl 2 (by decide) (hts (.fieldLink RX3 48 "LoopSchedulerModel" "operations" "I") (List.mem_of_getElem? (i := 5) rfl)) (fun _ h9 => h9) rfl dX3_digest_42 ?_
        refine lv_i2l (v := (iI ((Ln L : Nat) : Int)).toInt64) hx hb dX3_digest_45 rfl ?_
        refine lv_ladd hx hb dX3_digest_46 ?_
        refine lv_lstore_n (lv' := [(1, .long (((dgU L 3) * (31)) + ((iI ((Ln L : Nat) : Int)).toInt64))), (0, .ref (a 0)), (3, .int (iI ((3 : Nat) : Int)))]) hx hb dX3_digest_47 rfl hl (by decide) rfl (fun ls hl => ?_)
        refine z_ic hx hb dX3_digest_48 ?_
        refine lv_istore_n (lv' := [(3, .int (iI ((0 : Nat) : Int))), (1, .long (((dgU L 3) * (31)) + ((iI ((Ln L : Nat) : Int)).toInt64))), (0, .ref (a 0))]) hx hb dX3_digest_49 rfl hl (by decide) rfl (fun ls hl => ?_)
        have loop50 : ∀ (n50 : Nat) (x : Nat) (H : Heap) (locs : List Loc) (ls : Array Slot), Ln L - x < n50 → (x ≤ Ln L) → va_P D vwCl (wM a g 0 L att T hs tm pl (fun _ => 0)) H → va_D A (wM a g 0 L att T hs tm pl (fun _ => 0)) → va_S A s.heap H locs → lv_has ls 4 [(0, .ref (a 0)), (1, .long (dgO L x)), (3, .int (iI ((x : Nat) : Int)))] → W p l e ({ frames := 1, cells := 0, slots := 0, locals := 12 } : Room) s m args below meth c H locs 0 0 Q (F0 m 50 ls []) := by
          intro n50
          induction n50 with
          | zero => exact fun _ H locs ls hn => absurd hn (Nat.not_lt_zero _)
          | succ n50 ih50 =>
            intro x H locs ls hn50 hx2 hP hD hS hl
            refine lv_iload_n hx hb dX3_digest_50 rfl (lv_at hl 2 rfl) ?_
            refine lv_aload_n hx hb dX3_digest_51 rfl (lv_at hl 0 rfl) ?_
            refine va_get (D := D) (ci := 3) (v := .int (iI ((Ln L : Nat) : Int))) (C := RX3) (T := TX3) (N := 16) hx hb hts hinX3 hown hK hP 0 rfl rfl 2 (by decide) (hts (.fieldLink RX3 48 "LoopSchedulerModel" "operations" "I") (List.mem_of_getElem? (i := 5) rfl)) (fun _ h9 => h9) rfl dX3_digest_52 ?_
            refine z_icge (a := ((x : Nat) : Int)) (b := ((Ln L : Nat) : Int)) (tgt := 90) hx hb dX3_digest_55 (by decide) (by omega) (fun c_55 => ?_) (fun c_55 => ?_)
            · obtain rfl : x = Ln L := by omega
              refine lv_lload_n hx hb dX3_digest_90 rfl (lv_at hl 1 rfl) ?_
              refine lv_ldc2 (v := 31) hx hb hown (hts (.constantLong RX3 156 (31)) (List.mem_of_getElem? (i := 3) rfl)) dX3_digest_91 ?_
              refine lv_lmul hx hb dX3_digest_94 ?_
              refine lv_aload_n hx hb dX3_digest_95 rfl (lv_at hl 0 rfl) ?_
              refine va_get (D := D) (ci := 3) (v := .int (iI ((Lm L : Nat) : Int))) (C := RX3) (T := TX3) (N := 16) hx hb hts hinX3 hown hK hP 0 rfl rfl 5 (by decide) (hts (.fieldLink RX3 66 "LoopSchedulerModel" "dependences" "I") (List.mem_of_getElem? (i := 8) rfl)) (fun _ h9 => h9) rfl dX3_digest_96 ?_
              refine lv_i2l (v := (iI ((Lm L : Nat) : Int)).toInt64) hx hb dX3_digest_99 rfl ?_
              refine lv_ladd hx hb dX3_digest_100 ?_
              refine lv_lstore_n (lv' := [(1, .long (((dgO L (Ln L)) * (31)) + ((iI ((Lm L : Nat) : Int)).toInt64))), (0, .ref (a 0)), (3, .int (iI (((Ln L) : Nat) : Int)))]) hx hb dX3_digest_101 rfl hl (by decide) rfl (fun ls hl => ?_)
              refine z_ic hx hb dX3_digest_102 ?_
              refine lv_istore_n (lv' := [(3, .int (iI ((0 : Nat) : Int))), (1, .long (((dgO L (Ln L)) * (31)) + ((iI ((Lm L : Nat) : Int)).toInt64))), (0, .ref (a 0))]) hx hb dX3_digest_103 rfl hl (by decide) rfl (fun ls hl => ?_)
              have loop104 : ∀ (n104 : Nat) (x : Nat) (H : Heap) (locs : List Loc) (ls : Array Slot), Lm L - x < n104 → (x ≤ Lm L) → va_P D vwCl (wM a g 0 L att T hs tm pl (fun _ => 0)) H → va_D A (wM a g 0 L att T hs tm pl (fun _ => 0)) → va_S A s.heap H locs → lv_has ls 4 [(0, .ref (a 0)), (1, .long (dgD L x)), (3, .int (iI ((x : Nat) : Int)))] → W p l e ({ frames := 1, cells := 0, slots := 0, locals := 12 } : Room) s m args below meth c H locs 0 0 Q (F0 m 104 ls []) := by
                intro n104
                induction n104 with
                | zero => exact fun _ H locs ls hn => absurd hn (Nat.not_lt_zero _)
                | succ n104 ih104 =>
                  intro x H locs ls hn104 hx2 hP hD hS hl
                  refine lv_iload_n hx hb dX3_digest_104 rfl (lv_at hl 2 rfl) ?_
                  refine lv_aload_n hx hb dX3_digest_105 rfl (lv_at hl 0 rfl) ?_
                  refine va_get (D := D) (ci := 3) (v := .int (iI ((Lm L : Nat) : Int))) (C := RX3) (T := TX3) (N := 16) hx hb hts hinX3 hown hK hP 0 rfl rfl 5 (by decide) (hts (.fieldLink RX3 66 "LoopSchedulerModel" "dependences" "I") (List.mem_of_getElem? (i := 8) rfl)) (fun _ h9 => h9) rfl dX3_digest_106 ?_
                  refine z_icge (a := ((x : Nat) : Int)) (b := ((Lm L : Nat) : Int)) (tgt := 168) hx hb dX3_digest_109 (by decide) (by omega) (fun c_109 => ?_) (fun c_109 => ?_)
                  · obtain rfl : x = Lm L := by omega
                    refine lv_lload_n hx hb dX3_digest_168 rfl (lv_at hl 1 rfl) ?_
                    refine lv_ldc2 (v := 31) hx hb hown (hts (.constantLong RX3 156 (31)) (List.mem_of_getElem? (i := 3) rfl)) dX3_digest_169 ?_
                    refine lv_lmul hx hb dX3_digest_172 ?_
                    refine lv_aload_n hx hb dX3_digest_173 rfl (lv_at hl 0 rfl) ?_
                    refine va_get (D := D) (ci := 3) (v := .int (iI ((T : Nat) : Int))) (C := RX3) (T := TX3) (N := 16) hx hb hts hinX3 hown hK hP 0 rfl rfl 10 (by decide) (hts (.fieldLink RX3 59 "LoopSchedulerModel" "interval" "I") (List.mem_of_getElem? (i := 13) rfl)) (fun _ h9 => h9) rfl dX3_digest_174 ?_
                    refine lv_i2l (v := (iI ((T : Nat) : Int)).toInt64) hx hb dX3_digest_177 rfl ?_
                    refine lv_ladd hx hb dX3_digest_178 ?_
                    refine lv_lstore_n (lv' := [(1, .long (((dgD L (Lm L)) * (31)) + ((iI ((T : Nat) : Int)).toInt64))), (0, .ref (a 0)), (3, .int (iI (((Lm L) : Nat) : Int)))]) hx hb dX3_digest_179 rfl hl (by decide) rfl (fun ls hl => ?_)
                    refine z_ic hx hb dX3_digest_180 ?_
                    refine lv_istore_n (lv' := [(3, .int (iI ((0 : Nat) : Int))), (1, .long (((dgD L (Lm L)) * (31)) + ((iI ((T : Nat) : Int)).toInt64))), (0, .ref (a 0))]) hx hb dX3_digest_181 rfl hl (by decide) rfl (fun ls hl => ?_)
                    have loop182 : ∀ (n182 : Nat) (x : Nat) (H : Heap) (locs : List Loc) (ls : Array Slot), Ln L - x < n182 → (x ≤ Ln L) → (x = 0 ∨ 0 < T) → va_P D vwCl (wM a g 0 L att T hs tm pl (fun _ => 0)) H → va_D A (wM a g 0 L att T hs tm pl (fun _ => 0)) → va_S A s.heap H locs → lv_has ls 4 [(0, .ref (a 0)), (1, .long (dgT L T (nZ tm) x)), (3, .int (iI ((x : Nat) : Int)))] → W p l e ({ frames := 1, cells := 0, slots := 0, locals := 12 } : Room) s m args below meth c H locs 0 0 Q (F0 m 182 ls []) := by
                      intro n182
                      induction n182 with
                      | zero => exact fun _ H locs ls hn => absurd hn (Nat.not_lt_zero _)
                      | succ n182 ih182 =>
                        intro x H locs ls hn182 hx2 hxz hP hD hS hl
                        refine lv_iload_n hx hb dX3_digest_182 rfl (lv_at hl 2 rfl) ?_
                        refine lv_aload_n hx hb dX3_digest_183 rfl (lv_at hl 0 rfl) ?_
                        refine va_get (D := D) (ci := 3) (v := .int (iI ((Ln L : Nat) : Int))) (C := RX3) (T := TX3) (N := 16) hx hb hts hinX3 hown hK hP 0 rfl rfl 2 (by decide) (hts (.fieldLink RX3 48 "LoopSchedulerModel" "operations" "I") (List.mem_of_getElem? (i := 5) rfl)) (fun _ h9 => h9) rfl dX3_digest_184 ?_
                        refine z_icge (a := ((x : Nat) : Int)) (b := ((Ln L : Nat) : Int)) (tgt := 217) hx hb dX3_digest_187 (by decide) (by omega) (fun c_187 => ?_) (fun c_187 => ?_)
                        · refine lv_lload_n hx hb dX3_digest_217 rfl (lv_at hl 1 rfl) ?_
                          exact z_lret (w := (wM a g 0 L att T hs tm pl (fun _ => 0))) (v := (dgT L T (nZ tm) x)) hQ hx hb hr hlocks ⟨by unfold dg; rw [show x = Ln L by omega]; rcases Nat.eq_zero_or_pos T with q | q; rw [if_neg (show ¬ 0 < T by omega), show Ln L = 0 by omega]; rw [if_pos q], rfl⟩ hK hP hD hS dX3_digest_218
                        · refine lv_aload_n hx hb dX3_digest_190 rfl (lv_at hl 0 rfl) ?_
                          refine va_get (D := D) (ci := 3) (v := .int (iI ((T : Nat) : Int))) (C := RX3) (T := TX3) (N := 16) hx hb hts hinX3 hown hK hP 0 rfl rfl 10 (by decide) (hts (.fieldLink RX3 59 "LoopSchedulerModel" "interval" "I") (List.mem_of_getElem? (i := 13) rfl)) (fun _ h9 => h9) rfl dX3_digest_191 ?_
                          refine z_ifle (a := ((T : Nat) : Int)) (tgt := 217) hx hb dX3_digest_194 (by decide) (by omega) (fun c_194 => ?_) (fun c_194 => ?_)
                          · refine lv_lload_n hx hb dX3_digest_217 rfl (lv_at hl 1 rfl) ?_
                            exact z_lret (w := (wM a g 0 L att T hs tm pl (fun _ => 0))) (v := (dgT L T (nZ tm) x)) hQ hx hb hr hlocks ⟨by unfold dg; rw [if_neg (show ¬ 0 < T by omega), show x = 0 by omega], rfl⟩ hK hP hD hS dX3_digest_218
                          · refine lv_lload_n hx hb dX3_digest_197 rfl (lv_at hl 1 rfl) ?_
                            refine lv_ldc2 (v := 31) hx hb hown (hts (.constantLong RX3 156 (31)) (List.mem_of_getElem? (i := 3) rfl)) dX3_digest_198 ?_
                            refine lv_lmul hx hb dX3_digest_201 ?_
                            refine lv_aload_n hx hb dX3_digest_202 rfl (lv_at hl 0 rfl) ?_
                            refine va_get (D := D) (ci := 3) (v := .ref (a 8)) (C := RX3) (T := TX3) (N := 16) hx hb hts hinX3 hown hK hP 0 rfl rfl 11 (by decide) (hts (.fieldLink RX3 31 "LoopSchedulerModel" "times" "[I") (List.mem_of_getElem? (i := 14) rfl)) (fun _ h9 => h9) rfl dX3_digest_203 ?_
                            refine lv_iload_n hx hb dX3_digest_206 rfl (lv_at hl 2 rfl) ?_
                            refine z_ialdZ (f := tm) (z := x) hx hb hK hP 8 0 rfl rfl (by omega) (by decide) dX3_digest_207 ?_
                            refine lv_i2l (v := (iI ((tm x : Nat) : Int)).toInt64) hx hb dX3_digest_208 rfl ?_
                            refine lv_ladd hx hb dX3_digest_209 ?_
                            refine lv_lstore_n (lv' := [(1, .long (((dgT L T (nZ tm) x) * (31)) + ((iI ((tm x : Nat) : Int)).toInt64))), (0, .ref (a 0)), (3, .int (iI ((x : Nat) : Int)))]) hx hb dX3_digest_210 rfl hl (by decide) rfl (fun ls hl => ?_)
                            refine z_iinc (a := ((x : Nat) : Int)) (b := ((x + 1 : Nat) : Int)) (lv' := [(3, .int (iI ((x + 1 : Nat) : Int))), (1, .long (((dgT L T (nZ tm) x) * (31)) + ((iI ((tm x : Nat) : Int)).toInt64))), (0, .ref (a 0))]) hx hb 2 dX3_digest_211 hl rfl rfl (by decide) rfl (fun ls hl => ?_)
                            refine lv_goto (tgt := 182) hx hb dX3_digest_214 (by decide) ?_
                            exact ih182 (x + 1) _ _ _ (by omega) (by omega) (by omega) hP hD hS (lv_sub hl [2, 1, 0] rfl)
                    exact loop182 ((Ln L - 0) + 1) 0 _ _ _ (Nat.lt_succ_self _) (by omega) (by omega) hP hD hS (lv_sub hl [2, 1, 0] rfl)
                  · refine lv_lload_n hx hb dX3_digest_112 rfl (lv_at hl 1 rfl) ?_
                    refine lv_ldc2 (v := 31) hx hb hown (hts (.constantLong RX3 156 (31)) (List.mem_of_getElem? (i := 3) rfl)) dX3_digest_113 ?_
                    refine lv_lmul hx hb dX3_digest_116 ?_
                    refine lv_aload_n hx hb dX3_digest_117 rfl (lv_at hl 0 rfl) ?_
                    refine va_get (D := D) (ci := 3) (v := .ref (a 4)) (C := RX3) (T := TX3) (N := 16) hx hb hts hinX3 hown hK hP 0 rfl rfl 6 (by decide) (hts (.fieldLink RX3 19 "LoopSchedulerModel" "froms" "[I") (List.mem_of_getElem? (i := 9) rfl)) (fun _ h9 => h9) rfl dX3_digest_118 ?_
                    refine lv_iload_n hx hb dX3_digest_121 rfl (lv_at hl 2 rfl) ?_
                    refine z_ialdZ (f := Lsr L) (z := x) hx hb hK hP 4 0 rfl rfl (by omega) (by decide) dX3_digest_122 ?_
                    refine lv_i2l (v := (iI ((Lsr L x : Nat) : Int)).toInt64) hx hb dX3_digest_123 rfl ?_
                    refine lv_ladd hx hb dX3_digest_124 ?_
                    refine lv_ldc2 (v := 31) hx hb hown (hts (.constantLong RX3 156 (31)) (List.mem_of_getElem? (i := 3) rfl)) dX3_digest_125 ?_
                    refine lv_lmul hx hb dX3_digest_128 ?_
                    refine lv_aload_n hx hb dX3_digest_129 rfl (lv_at hl 0 rfl) ?_
                    refine va_get (D := D) (ci := 3) (v := .ref (a 5)) (C := RX3) (T := TX3) (N := 16) hx hb hts hinX3 hown hK hP 0 rfl rfl 7 (by decide) (hts (.fieldLink RX3 22 "LoopSchedulerModel" "tos" "[I") (List.mem_of_getElem? (i := 10) rfl)) (fun _ h9 => h9) rfl dX3_digest_130 ?_
                    refine lv_iload_n hx hb dX3_digest_133 rfl (lv_at hl 2 rfl) ?_
                    refine z_ialdZ (f := Lds L) (z := x) hx hb hK hP 5 0 rfl rfl (by omega) (by decide) dX3_digest_134 ?_
                    refine lv_i2l (v := (iI ((Lds L x : Nat) : Int)).toInt64) hx hb dX3_digest_135 rfl ?_
                    refine lv_ladd hx hb dX3_digest_136 ?_
                    refine lv_ldc2 (v := 31) hx hb hown (hts (.constantLong RX3 156 (31)) (List.mem_of_getElem? (i := 3) rfl)) dX3_digest_137 ?_
                    refine lv_lmul hx hb dX3_digest_140 ?_
                    refine lv_aload_n hx hb dX3_digest_141 rfl (lv_at hl 0 rfl) ?_
                    refine va_get (D := D) (ci := 3) (v := .ref (a 6)) (C := RX3) (T := TX3) (N := 16) hx hb hts hinX3 hown hK hP 0 rfl rfl 8 (by decide) (hts (.fieldLink RX3 25 "LoopSchedulerModel" "delays" "[I") (List.mem_of_getElem? (i := 11) rfl)) (fun _ h9 => h9) rfl dX3_digest_142 ?_
                    refine lv_iload_n hx hb dX3_digest_145 rfl (lv_at hl 2 rfl) ?_
                    refine z_ialdZ (f := Ldl L) (z := x) hx hb hK hP 6 0 rfl rfl (by omega) (by decide) dX3_digest_146 ?_
                    refine lv_i2l (v := (iI ((Ldl L x : Nat) : Int)).toInt64) hx hb dX3_digest_147 rfl ?_
                    refine lv_ladd hx hb dX3_digest_148 ?_
                    refine lv_ldc2 (v := 31) hx hb hown (hts (.constantLong RX3 156 (31)) (List.mem_of_getElem? (i := 3) rfl)) dX3_digest_149 ?_
                    refine lv_lmul hx hb dX3_digest_152 ?_
                    refine lv_aload_n hx hb dX3_digest_153 rfl (lv_at hl 0 rfl) ?_
                    refine va_get (D := D) (ci := 3) (v := .ref (a 7)) (C := RX3) (T := TX3) (N := 16) hx hb hts hinX3 hown hK hP 0 rfl rfl 9 (by decide) (hts (.fieldLink RX3 28 "LoopSchedulerModel" "distances" "[I") (List.mem_of_getElem? (i := 12) rfl)) (fun _ h9 => h9) rfl dX3_digest_154 ?_
                    refine lv_iload_n hx hb dX3_digest_157 rfl (lv_at hl 2 rfl) ?_
                    refine z_ialdZ (f := Ldi L) (z := x) hx hb hK hP 7 0 rfl rfl (by omega) (by decide) dX3_digest_158 ?_
                    refine lv_i2l (v := (iI ((Ldi L x : Nat) : Int)).toInt64) hx hb dX3_digest_159 rfl ?_
                    refine lv_ladd hx hb dX3_digest_160 ?_
                    refine lv_lstore_n (lv' := [(1, .long (((((((((dgD L x) * (31)) + ((iI ((Lsr L x : Nat) : Int)).toInt64)) * (31)) + ((iI ((Lds L x : Nat) : Int)).toInt64)) * (31)) + ((iI ((Ldl L x : Nat) : Int)).toInt64)) * (31)) + ((iI ((Ldi L x : Nat) : Int)).toInt64))), (0, .ref (a 0)), (3, .int (iI ((x : Nat) : Int)))]) hx hb dX3_digest_161 rfl hl (by decide) rfl (fun ls hl => ?_)
                    refine z_iinc (a := ((x : Nat) : Int)) (b := ((x + 1 : Nat) : Int)) (lv' := [(3, .int (iI ((x + 1 : Nat) : Int))), (1, .long (((((((((dgD L x) * (31)) + ((iI ((Lsr L x : Nat) : Int)).toInt64)) * (31)) + ((iI ((Lds L x : Nat) : Int)).toInt64)) * (31)) + ((iI ((Ldl L x : Nat) : Int)).toInt64)) * (31)) + ((iI ((Ldi L x : Nat) : Int)).toInt64))), (0, .ref (a 0))]) hx hb 2 dX3_digest_162 hl rfl rfl (by decide) rfl (fun ls hl => ?_)
                    refine lv_goto (tgt := 104) hx hb dX3_digest_165 (by decide) ?_
                    exact ih104 (x + 1) _ _ _ (by omega) (by omega) hP hD hS (lv_sub hl [2, 1, 0] rfl)
              exact loop104 ((Lm L - 0) + 1) 0 _ _ _ (Nat.lt_succ_self _) (by omega) hP hD hS (lv_sub hl [2, 1, 0] rfl)
            · refine lv_lload_n hx hb dX3_digest_58 rfl (lv_at hl 1 rfl) ?_
              refine lv_ldc2 (v := 31) hx hb hown (hts (.constantLong RX3 156 (31)) (List.mem_of_getElem? (i := 3) rfl)) dX3_digest_59 ?_
              refine lv_lmul hx hb dX3_digest_62 ?_
              refine lv_aload_n hx hb dX3_digest_63 rfl (lv_at hl 0 rfl) ?_
              refine va_get (D := D) (ci := 3) (v := .ref (a 2)) (C := RX3) (T := TX3) (N := 16) hx hb hts hinX3 hown hK hP 0 rfl rfl 3 (by decide) (hts (.fieldLink RX3 13 "LoopSchedulerModel" "kinds" "[I") (List.mem_of_getElem? (i := 6) rfl)) (fun _ h9 => h9) rfl dX3_digest_64 ?_
              refine lv_iload_n hx hb dX3_digest_67 rfl (lv_at hl 2 rfl) ?_
              refine z_ialdZ (f := Lkd L) (z := x) hx hb hK hP 2 0 rfl rfl (by omega) (by decide) dX3_digest_68 ?_
              refine lv_i2l (v := (iI ((Lkd L x : Nat) : Int)).toInt64) hx hb dX3_digest_69 rfl ?_
              refine lv_ladd hx hb dX3_digest_70 ?_
              refine lv_ldc2 (v := 31) hx hb hown (hts (.constantLong RX3 156 (31)) (List.mem_of_getElem? (i := 3) rfl)) dX3_digest_71 ?_
              refine lv_lmul hx hb dX3_digest_74 ?_
              refine lv_aload_n hx hb dX3_digest_75 rfl (lv_at hl 0 rfl) ?_
              refine va_get (D := D) (ci := 3) (v := .ref (a 3)) (C := RX3) (T := TX3) (N := 16) hx hb hts hinX3 hown hK hP 0 rfl rfl 4 (by decide) (hts (.fieldLink RX3 16 "LoopSchedulerModel" "busy" "[I") (List.mem_of_getElem? (i := 7) rfl)) (fun _ h9 => h9) rfl dX3_digest_76 ?_
              refine lv_iload_n hx hb dX3_digest_79 rfl (lv_at hl 2 rfl) ?_
              refine z_ialdZ (f := Lby L) (z := x) hx hb hK hP 3 0 rfl rfl (by omega) (by decide) dX3_digest_80 ?_
              refine lv_i2l (v := (iI ((Lby L x : Nat) : Int)).toInt64) hx hb dX3_digest_81 rfl ?_
              refine lv_ladd hx hb dX3_digest_82 ?_
              refine lv_lstore_n (lv' := [(1, .long (((((dgO L x) * (31)) + ((iI ((Lkd L x : Nat) : Int)).toInt64)) * (31)) + ((iI ((Lby L x : Nat) : Int)).toInt64))), (0, .ref (a 0)), (3, .int (iI ((x : Nat) : Int)))]) hx hb dX3_digest_83 rfl hl (by decide) rfl (fun ls hl => ?_)
              refine z_iinc (a := ((x : Nat) : Int)) (b := ((x + 1 : Nat) : Int)) (lv' := [(3, .int (iI ((x + 1 : Nat) : Int))), (1, .long (((((dgO L x) * (31)) + ((iI ((Lkd L x : Nat) : Int)).toInt64)) * (31)) + ((iI ((Lby L x : Nat) : Int)).toInt64))), (0, .ref (a 0))]) hx hb 2 dX3_digest_84 hl rfl rfl (by decide) rfl (fun ls hl => ?_)
              refine lv_goto (tgt := 50) hx hb dX3_digest_87 (by decide) ?_
              exact ih50 (x + 1) _ _ _ (by omega) (by omega) hP hD hS (lv_sub hl [2, 1, 0] rfl)
        exact loop50 ((Ln L - 0) + 1) 0 _ _ _ (Nat.lt_succ_self _) (by omega) hP hD hS (lv_sub hl [2, 1, 0] rfl)
      · refine lv_lload_n hx hb dX3_digest_16 rfl (lv_at hl 1 rfl) ?_
        refine lv_ldc2 (v := 31) hx hb hown (hts (.constantLong RX3 156 (31)) (List.mem_of_getElem? (i := 3) rfl)) dX3_digest_17 ?_
        refine lv_lmul hx hb dX3_digest_20 ?_
        refine lv_aload_n hx hb dX3_digest_21 rfl (lv_at hl 0 rfl) ?_
        refine va_get (D := D) (ci := 3) (v := .ref (a 1)) (C := RX3) (T := TX3) (N := 16) hx hb hts hinX3 hown hK hP 0 rfl rfl 1 (by decide) (hts (.fieldLink RX3 7 "LoopSchedulerModel" "units" "[I") (List.mem_of_getElem? (i := 4) rfl)) (fun _ h9 => h9) rfl dX3_digest_22 ?_
        refine lv_iload_n hx hb dX3_digest_25 rfl (lv_at hl 2 rfl) ?_
        refine z_ialdZ (f := Lu L) (z := x) hx hb hK hP 1 0 rfl rfl (by omega) (by decide) dX3_digest_26 ?_
        refine lv_i2l (v := (iI ((Lu L x : Nat) : Int)).toInt64) hx hb dX3_digest_27 rfl ?_
        refine lv_ladd hx hb dX3_digest_28 ?_
        refine lv_lstore_n (lv' := [(1, .long (((dgU L x) * (31)) + ((iI ((Lu L x : Nat) : Int)).toInt64))), (0, .ref (a 0)), (3, .int (iI ((x : Nat) : Int)))]) hx hb dX3_digest_29 rfl hl (by decide) rfl (fun ls hl => ?_)
        refine z_iinc (a := ((x : Nat) : Int)) (b := ((x + 1 : Nat) : Int)) (lv' := [(3, .int (iI ((x + 1 : Nat) : Int))), (1, .long (((dgU L x) * (31)) + ((iI ((Lu L x : Nat) : Int)).toInt64))), (0, .ref (a 0))]) hx hb 2 dX3_digest_30 hl rfl rfl (by decide) rfl (fun ls hl => ?_)
        refine lv_goto (tgt := 11) hx hb dX3_digest_33 (by decide) ?_
        exact ih11 (x + 1) _ _ _ (by omega) (by omega) hP hD hS (lv_sub hl [2, 1, 0] rfl)
  exact loop11 ((3 - 0) + 1) 0 _ _ _ (Nat.lt_succ_self _) (by omega) hP hD hS (lv_sub hl [2, 1, 0] rfl)

/-! the law's state behind its moves, and its numbers -/
def J4 (L : LD) (T : Nat) (tmX : Nat → Int) (tk : Nat → Nat → Int) (tf : Nat → Nat) : Prop := w6 L ∧ (0 < T ∧ T ≤ 200) ∧ okX L T tmX tk ∧ tB 3000 tmX ∧ eOK L T tf = true ∧ IX L T tk tf one ∧ (∀ j, j < Ln L → tmX j = ((tf j : Nat) : Int) ∧ tf j ≤ 72 * T) ∧ ∀ j, tf j ≤ 3000
theorem J4_of {L : LD} (h6 : w6 L) {T : Nat} {tmX : Nat → Int} {tk : Nat → Nat → Int} {tn tf : Nat → Nat} (h : JP L T tmX tk tn) (h1 : ∀ j, j < Ln L → tf j = tn j) (h2 : ∀ j, tf j ≤ 3000) : J4 L T tmX tk tf := by
  obtain ⟨hT, hJ, hB⟩ := JP_J h
  have hw := h6.1
  refine ⟨h6, hT, JP_ok h, hB, eOK_i.mpr (fun d hd => ?_), IX_cg hJ.2.2.1 (fun _ _ => rfl) (fun j hj _ => (h1 j hj).symm), fun j hj => ⟨by rw [h1 j hj]; exact (hJ.1 j hj).1, by rw [h1 j hj]; exact h.2.2 j hj⟩, h2⟩
  have hd2 := wf_ed hw d hd
  rw [h1 _ hd2.1, h1 _ hd2.2]
  exact eOK_i.mp hJ.2.1 d hd
theorem gT_ge {tm : Nat → Int} (n : Nat) : ∀ j, j < n → tm j ≤ gT tm n := by
  induction n with
  | zero => intro j hj; omega
  | succ n ih =>
    intro j hj
    show tm j ≤ max (gT tm n) (tm n)
    by_cases e : j = n
    · rw [e]; omega
    · have := ih j (by omega); omega
theorem gT_lub {tm : Nat → Int} {B : Int} (hB : 0 ≤ B) (n : Nat) (h : ∀ j, j < n → tm j ≤ B) : gT tm n ≤ B := by
  induction n with
  | zero => exact hB
  | succ n ih =>
    have h1 := ih (fun j hj => h j (by omega))
    have h2 := h n (by omega)
    show max (gT tm n) (tm n) ≤ B
    omega
def J5 (L : LD) (T : Nat) (tmX : Nat → Int) (tf : Nat → Nat) (G S C : Nat) : Prop := gT tmX (Ln L) = ((G : Nat) : Int) ∧ (∀ j, j < Ln L → tf j ≤ G) ∧ G ≤ 3000 ∧ S = G / T + 1 ∧ S ≤ 73 ∧ (S + 2) * T ≤ 3600 ∧ C = G + (S + 2) * T + 5 ∧ C ≤ 6700
theorem J5_ex {L : LD} {T : Nat} {tmX : Nat → Int} {tk : Nat → Nat → Int} {tf : Nat → Nat} (h : J4 L T tmX tk tf) : ∃ G S C, J5 L T tmX tf G S C := by
  obtain ⟨h6, hT, hok, hB, hE, hI, h1, h2⟩ := h
  have hb := gT_bd hB (by decide) (Ln L)
  obtain ⟨G, hG⟩ : ∃ G : Nat, gT tmX (Ln L) = ((G : Nat) : Int) := ⟨(gT tmX (Ln L)).toNat, by omega⟩
  have h72 := gT_lub (tm := tmX) (B := ((72 * T : Nat) : Int)) (Int.natCast_nonneg _) (Ln L) (fun j hj => by have := h1 j hj; omega)
  have hS : G / T ≤ 72 := Nat.div_le_of_le_mul (by rw [Nat.mul_comm]; omega)
  have hdm : G / T * T ≤ G := Nat.div_mul_le_self G T
  have he : (G / T + 1 + 2) * T = G / T * T + 3 * T := by rw [show G / T + 1 + 2 = G / T + 3 from rfl, Nat.add_mul]
  refine ⟨G, G / T + 1, G + (G / T + 1 + 2) * T + 5, hG, fun j hj => ?_, by omega, rfl, by omega, by omega, rfl, by omega⟩
  have h3 := gT_ge (tm := tmX) (Ln L) j hj
  have h4 := (h1 j hj).1
  omega
theorem J5_S {L : LD} {T : Nat} {tmX : Nat → Int} {tf : Nat → Nat} {G S C : Nat} (h6 : w6 L) (h : J5 L T tmX tf G S C) : sG L T tmX = ((S : Nat) : Int) := by
  unfold sG
  have hn := h6.2.2.1
  rw [if_neg (by omega), h.1, h.2.2.2.1]
  have e : ((G : Nat) : Int) / ((T : Nat) : Int) = ((G / T : Nat) : Int) := (Int.natCast_ediv _ _).symm
  rw [e]
  omega
theorem J5_C {L : LD} {T : Nat} {tmX : Nat → Int} {tf : Nat → Nat} {G S C : Nat} (h6 : w6 L) (h : J5 L T tmX tf G S C) : (if Ln L = 0 then 0 else gT tmX (Ln L) + (((S + 3 : Nat) : Int) - 1) * (T : Int) + 1) + 4 = ((C : Nat) : Int) := by
  have hn := h6.2.2.1
  rw [if_neg (by omega), h.1, h.2.2.2.2.2.2.1]
  have e : (((S + 3 : Nat) : Int) - 1) * (T : Int) = (((S + 2) * T : Nat) : Int) := by
    rw [Int.natCast_mul, show ((S + 3 : Nat) : Int) - 1 = ((S + 2 : Nat) : Int) by omega]
  rw [e]
  omega
theorem J5_x {T S k c G C t kd : Nat} (h1 : t ≤ G) (h2 : k < S + 3) (h3 : c < 3) (h4 : kd < 3) (h5 : C = G + (S + 2) * T + 5) : 3 * (t + k * T + c) + kd < 3 * (C + 1) := by
  have h6 : k * T ≤ (S + 2) * T := Nat.mul_le_mul_right T (by omega)
  omega
theorem J5_it {T S : Nat} : (S + 3) * T = (S + 2) * T + T := by
  rw [show S + 3 = (S + 2) + 1 from rfl, Nat.add_mul, Nat.one_mul]
theorem J5_win {L : LD} {T : Nat} {tmX : Nat → Int} {tk : Nat → Nat → Int} {tf : Nat → Nat} {G S C : Nat} (h4 : J4 L T tmX tk tf) (h : J5 L T tmX tf G S C) : sumI (fun c => isn T tmX (S + 3) ((S - 1) * T + c) (Ln L)) T = Ln L := by
  have hS := h.2.2.2.1
  refine is_win (S := S) (it := S + 3) h4.2.1.1 ⟨by rw [hS]; exact Nat.le_add_left 1 _, Nat.le_add_right S 3⟩ (Ln L) (tm := tf) (fun j hj => ⟨(h4.2.2.2.2.2.2.1 j hj).1, ?_⟩)
  rw [hS]
  exact Nat.lt_succ_of_le (Nat.div_le_div_right (h.2.1 j hj))
theorem J5_cov {L : LD} {T : Nat} {tmX : Nat → Int} {tk : Nat → Nat → Int} {tf : Nat → Nat} {G S C : Nat} (h4 : J4 L T tmX tk tf) (h : J5 L T tmX tf G S C) : ∀ j, j < Ln L → tmX j = ((tf j : Nat) : Int) ∧ tf j + (S + 3) * T + 1 ≤ C + T := fun j hj => ⟨(h4.2.2.2.2.2.2.1 j hj).1, by
  have h1 := h.2.1 j hj
  have h2 := J5_it (T := T) (S := S)
  have h3 := h.2.2.2.2.2.2.1
  omega⟩
theorem J5_all {L : LD} {T : Nat} {tmX : Nat → Int} {tk : Nat → Nat → Int} {tf : Nat → Nat} {G S C : Nat} (h4 : J4 L T tmX tk tf) (h : J5 L T tmX tf G S C) : sumI (fun c => isn T tmX (S + 3) c (Ln L)) C = Ln L * (S + 3) := is_all h4.2.1.1 (Ln L) (J5_cov h4 h)
theorem J5_none {L : LD} {T : Nat} {tmX : Nat → Int} {tk : Nat → Nat → Int} {tf : Nat → Nat} {G S C : Nat} (h4 : J4 L T tmX tk tf) (h : J5 L T tmX tf G S C) : isn T tmX (S + 3) C (Ln L) = 0 := is_none h4.2.1.1 (Ln L) (J5_cov h4 h)
theorem sum_bd {f : Nat → Nat} {x M : Nat} (h : ∀ c, f c ≤ 14) (hx : x ≤ M) : sumI f x ≤ 14 * M := Nat.le_trans (sumI_le h x) (Nat.mul_le_mul_left _ hx)

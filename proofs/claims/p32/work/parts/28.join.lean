section WJ
variable {D : va_G} {cl : List vw_C} {u v u1 v1 : va_W} {H H1 : Heap} {A0 : Nat → Prop}
theorem wj_v {k : Nat} {q : Nat × va_E} (h : v[k]? = some q) : (u ++ v)[u.length + k]? = some q := by
  rw [List.getElem?_append_right (Nat.le_add_right _ _), Nat.add_sub_cancel_left]
  exact h
theorem wj_u {k : Nat} {q : Nat × va_E} (h : u[k]? = some q) : (u ++ v)[k]? = some q := by
  rw [List.getElem?_append_left (List.getElem?_eq_some_iff.mp h).1]
  exact h
theorem wj_l (hP : va_P D cl (u ++ v) H) : va_P D cl u H := fun k q h => hP k q (wj_u h)
theorem wj_r (hP : va_P D cl (u ++ v) H) : va_P D cl v H := fun _ q h => hP _ q (wj_v h)
theorem wj_dl (hD : va_D A0 (u ++ v)) : va_D A0 u := ⟨fun i j p q h1 h2 h3 => hD.1 i j p q (wj_u h1) (wj_u h2) h3, fun k q h => hD.2 k q (wj_u h)⟩
theorem wj_dr (hD : va_D A0 (u ++ v)) : va_D A0 v := ⟨fun i j p q h1 h2 h3 => by have := hD.1 _ _ p q (wj_v h1) (wj_v h2) h3; omega, fun _ q h => hD.2 _ q (wj_v h)⟩
theorem wj_dx (hD : va_D A0 (u ++ v)) (i j : Nat) (p q : Nat × va_E) (h1 : u[i]? = some p) (h2 : v[j]? = some q) : p.1 ≠ q.1 := fun h3 => by
  have h4 := hD.1 _ _ p q (wj_u h1) (wj_v h2) h3
  have h5 := (List.getElem?_eq_some_iff.mp h1).1
  omega
theorem wj_sp (hP : va_P D cl (u ++ v) H) : va_P D cl (v ++ u) H := va_P.app (wj_r hP) (wj_l hP)
theorem wj_sd (hD : va_D A0 (u ++ v)) : va_D A0 (v ++ u) := va_D.app (wj_dr hD) (wj_dl hD) (fun i j p q h1 h2 h3 => wj_dx hD j i q p h2 h1 h3.symm)
theorem wj_join (hP : va_P D cl (u ++ v) H) (hD : va_D A0 (u ++ v)) (hk : ∀ q : Nat, q < H.size → ¬ va_A u H.size q → H1[q]? = H[q]?) (hF : ∀ q, va_A u H.size q → A0 q) (hP1 : va_P D cl u1 H1) (hD1 : va_D (va_A u H.size) u1) : va_P D cl (u1 ++ v) H1 ∧ va_D A0 (u1 ++ v) := by
  have apart : ∀ (k : Nat) (q : Nat × va_E), v[k]? = some q → q.1 < H.size ∧ ¬ va_A u H.size q.1 := by
    intro k q hq
    have hl := (wj_r hP k q hq).lt
    refine ⟨hl, fun h => ?_⟩
    rcases h with ⟨k2, x, h⟩ | h
    · exact wj_dx hD k2 k (q.1, x) q h hq rfl
    · omega
  refine ⟨va_P.app hP1 (fun k q hq => (wj_r hP k q hq).kept (hk q.1 (apart k q hq).1 (apart k q hq).2)), va_D.app (hD1.weaken (fun k q _ h => hF q.1 h)) (wj_dr hD) (fun i j x y hx hy hxy => ?_)⟩
  exact (apart j y hy).2 (hxy ▸ hD1.2 i x hx)
end WJ

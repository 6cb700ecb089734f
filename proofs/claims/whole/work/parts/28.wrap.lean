def oc (g : Nat → ClassId) (f : Nat → Int64) : va_E := .inl (g 3, 1, .inr (.inl f))
def yN (U : State) : Prop := ∀ q ∈ [(nIA, nIS), (nIA, nIX), (nIS, nIA), (nIS, nIX), (nIX, nIA), (nIX, nIS)], va_Nc q.1 q.2 U
theorem yN.moved {u U : State} (hvm : u.vm.Alike U.vm) (h : yN u) : yN U := fun q hq => va_Nc.moved hvm (h q hq)
def yPc (D : va_G) (tys : List (ClassId × FieldType)) (w0 : va_W) (av : List Value) (sz : Nat) : Array Value → State → Prop := va_Pc av (fun U => U.heap.size = sz ∧ va_P D vwCl w0 U.heap ∧ va_K D vwCl tys U ∧ va_D (fun _ => True) w0 ∧ xE (va_A w0 sz) U U.heap ∧ xV U ∧ yN U)
def yF : String → va_W → Prop := fun _ _ => False
def yMi (l : Launch) (D : va_G) (tys : List (ClassId × FieldType)) (y : MethodName) (ws : List Cond) (f lo k : Nat) (w0 : va_W) (av : List Value) (post : Int32 → va_W → Prop) : Prop := ∀ sz : Nat, vx_Met l y ws ({ frames := f, cells := k, slots := 6 * k, locals := lo }) (yPc D tys w0 av sz) (va_Qi post (zB D tys (va_A w0 sz)) (va_A w0 sz)) (xXC D tys (va_A w0 sz) yF) k (6 * k) (va_A w0 sz)
def wpost (post : Int32 → va_W → Prop) (px : String → va_W → Prop) (g : Nat → ClassId) (o : Nat) (f0 : Nat → Int64) (kf : Int32 → Int64) (hs : List (String × Int)) : Int32 → va_W → Prop := fun r w1 => (∃ r0 u1 f1, post r0 u1 ∧ r = iI 0 ∧ f1 0 = kf r0 ∧ w1 = u1 ++ [(o, oc g f1)]) ∨ (∃ E u1 n, (E, n) ∈ hs ∧ px E u1 ∧ r = iI n ∧ w1 = u1 ++ [(o, oc g f0)])
theorem y_of {l : Launch} {D : va_G} {tys : List (ClassId × FieldType)} {y : MethodName} {ws ws' : List Cond} {f lo k : Nat} {w0 : va_W} {av : List Value} {cc : ByteArray} {maxL : Nat} {hh : List (Nat × Nat × Nat × Nat)} {post : Int32 → va_W → Prop} (hy : plainName y.cls = true) (hw : ws = Cond.codeWith y cc maxL (some .int) hh :: ws') (hav : (lg_sl av).length ≤ maxL)
    (body : ∀ (p : Program) (e : Env) (s : State) (m : MethodId) (args : Array Value) (below : List Frame) (meth : Method) (c : Code) (A : Nat → Prop) (ls : Array Slot), p.tables.exec = Jvm.exec → c.code = cc → meth.sig.returnType = some .int → (∀ w ∈ ws, w.before args s = true) → s.vm.findClass y.cls = some m.cls → meth.locks = false → c.maxLocals = maxL → va_P D vwCl w0 s.heap → va_K D vwCl tys s → va_D A w0 → va_S A s.heap s.heap [] → (∀ q : Nat, s.heap.size ≤ q → A q) → lv_has ls maxL (lv_args 0 av) → xE A s s.heap → xV s → yN s → c.exceptionTable.toList = tableOf hh → ∀ Q : State → Prop, Q = vx_MQ below (va_Qi post (zB D tys A) A) (xXC D tys A yF) args s k (6 * k) A → W p l e ({ frames := f, cells := k, slots := 6 * k, locals := lo }) s m args below meth c s.heap [] 0 0 Q (F0 m 0 ls [])) : yMi l D tys y ws f lo k w0 av post := by
  intro sz
  refine vx_ofWH hy hw ?_
  intro p e s m args below meth c s₁ B hml hv
  obtain ⟨rfl, hsz, hP, hK, hD0, hE, hV, hN⟩ := hv
  subst hsz
  rw [lg_entry_eq]
  have hts := atoms_spec (ws := ws) B.pre
  have htb := vx_table (x := y) B (hts _ (by rw [hw]; exact List.mem_cons_self))
  exact body p e s m av.toArray below meth c (va_A w0 s.heap.size) _ B.exec B.bytes B.returns hts (findClass_of_methodNamed B.named) B.notSynchronized hml hP hK hD0.self va_S.rf (fun q h => Or.inr h) (lv_entry av hav) hE hV hN htb _ rfl
section WJ
variable {A0 : Nat → Prop} {D : va_G} {cl : List vw_C} {u v u1 : va_W} {H H1 : Heap}
theorem wj_v {k : Nat} {q : Nat × va_E} (h : v[k]? = some q) : (u ++ v)[u.length + k]? = some q := by
  rw [List.getElem?_append_right (Nat.le_add_right _ _), Nat.add_sub_cancel_left]
  exact h
theorem wj_u {k : Nat} {q : Nat × va_E} (h : u[k]? = some q) : (u ++ v)[k]? = some q := by
  rw [List.getElem?_append_left (List.getElem?_eq_some_iff.mp h).1]
  exact h
theorem wj_l (hP : va_P D cl (u ++ v) H) : va_P D cl u H := fun k q h => hP k q (wj_u h)
theorem wj_r (hP : va_P D cl (u ++ v) H) : va_P D cl v H := fun _ q h => hP _ q (wj_v h)
theorem wj_dl (hD : va_D A0 (u ++ v)) : va_D A0 u := ⟨fun i j p q h1 h2 h3 => hD.1 i j p q (wj_u h1) (wj_u h2) h3, fun k q h => hD.2 k q (wj_u h)⟩
theorem wj_dr (hD : va_D A0 (u ++ v)) : va_D A0 v := ⟨fun i j p q h1 h2 h3 => by have := hD.1 _ _ p q (wj_v h1) (wj_v h2) h3; omega, fun _ q h => hD.2 _ q (wj_v h)⟩
theorem wj_dx (hD : va_D A0 (u ++ v)) (i j : Nat) (p q : Nat × va_E) (h1 : u[i]? = some p) (h2 : v[j]? = some q) : p.1 ≠ q.1 := fun h3 => by
  have h4 := hD.1 _ _ p q (wj_u h1) (wj_v h2) h3
  have h5 := (List.getElem?_eq_some_iff.mp h1).1
  omega
theorem wj_sp (hP : va_P D cl (u ++ v) H) : va_P D cl (v ++ u) H := va_P.app (wj_r hP) (wj_l hP)
theorem wj_sd (hD : va_D A0 (u ++ v)) : va_D A0 (v ++ u) := va_D.app (wj_dr hD) (wj_dl hD) (fun i j p q h1 h2 h3 => wj_dx hD j i q p h2 h1 h3.symm)
theorem wj_join (hP : va_P D cl (u ++ v) H) (hD : va_D A0 (u ++ v)) (hk : ∀ q : Nat, q < H.size → ¬ va_A u H.size q → H1[q]? = H[q]?) (hF : ∀ q, va_A u H.size q → A0 q) (hP1 : va_P D cl u1 H1) (hD1 : va_D (va_A u H.size) u1) : va_P D cl (u1 ++ v) H1 ∧ va_D A0 (u1 ++ v) := by
  have apart : ∀ (k : Nat) (q : Nat × va_E), v[k]? = some q → q.1 < H.size ∧ ¬ va_A u H.size q.1 := by
    intro k q hq
    have hl := (wj_r hP k q hq).lt
    refine ⟨hl, fun h => ?_⟩
    rcases h with ⟨k2, x, h⟩ | h
    · exact wj_dx hD k2 k (q.1, x) q h hq rfl
    · omega
  refine ⟨va_P.app hP1 (fun k q hq => (wj_r hP k q hq).kept (hk q.1 (apart k q hq).1 (apart k q hq).2)), va_D.app (hD1.weaken (fun k q _ h => hF q.1 h)) (wj_dr hD) (fun i j x y hx hy hxy => ?_)⟩
  exact (apart j y hy).2 (hxy ▸ hD1.2 i x hx)
theorem wj_at {x : Nat × va_E} : (u ++ [x])[u.length]? = some x := by
  have h : ([x] : va_W)[0]? = some x := rfl
  exact wj_v (u := u) h
theorem wj_set {x y : Nat × va_E} : (u ++ [x]).set u.length y = u ++ [y] := by
  rw [List.set_append_right _ _ (Nat.le_refl _), Nat.sub_self]
  rfl
end WJ

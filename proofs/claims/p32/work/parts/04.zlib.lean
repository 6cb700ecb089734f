/-! numbers: the ints of the machine as the numbers that they stand for -/
def iI (z : Int) : Int32 := Int32.ofInt z
def bI (b : Bool) : Int := if b = true then 1 else 0
theorem iI_add (a b : Int) : iI a + iI b = iI (a + b) := (Int32.ofInt_add a b).symm
theorem iI_sub (a b : Int) : iI a - iI b = iI (a - b) := (Int32.ofInt_sub a b).symm
theorem iI_mul (a b : Int) : iI a * iI b = iI (a * b) := (Int32.ofInt_mul a b).symm
theorem iI_toInt {z : Int} (h : -2147483648 ≤ z ∧ z < 2147483648) : (iI z).toInt = z := Int32.toInt_ofInt_of_le h.1 h.2
theorem iI_lt {a b : Int} (h : (-2147483648 ≤ a ∧ a < 2147483648) ∧ (-2147483648 ≤ b ∧ b < 2147483648)) : iI a < iI b ↔ a < b := by
  rw [Int32.lt_iff_toInt_lt, iI_toInt h.1, iI_toInt h.2]
theorem iI_le {a b : Int} (h : (-2147483648 ≤ a ∧ a < 2147483648) ∧ (-2147483648 ≤ b ∧ b < 2147483648)) : iI a ≤ iI b ↔ a ≤ b := by
  rw [Int32.le_iff_toInt_le, iI_toInt h.1, iI_toInt h.2]
theorem iI_eq {a b : Int} (h : (-2147483648 ≤ a ∧ a < 2147483648) ∧ (-2147483648 ≤ b ∧ b < 2147483648)) : iI a = iI b ↔ a = b := by
  rw [← Int32.toInt_inj, iI_toInt h.1, iI_toInt h.2]
theorem iI_cl {z : Int} (h : 0 ≤ z ∧ z < 2147483648) : (iI z).toNatClampNeg = z.toNat := by
  show (iI z).toInt.toNat = _
  rw [iI_toInt ⟨by omega, h.2⟩]
theorem iI_in {z : Int} {n : Nat} (h : 0 ≤ z ∧ z < (n : Int)) (hn : n < 2147483648) : vp_in (iI z) n := by
  rw [vp_in_iff, iI_toInt ⟨by omega, by omega⟩]
  exact h
theorem iI_tdiv {a b : Int} (h : (-2147483648 < a ∧ a < 2147483648) ∧ (-2147483648 < b ∧ b < 2147483648)) : iI a / iI b = iI (a.tdiv b) := by
  have h1 : (Int32.minValue).toInt = -2147483648 := by decide
  have h2 : (Int32.maxValue).toInt = 2147483647 := by decide
  exact (Int32.ofInt_tdiv (by omega) (by omega) (by omega) (by omega)).symm
theorem iI_div {a b : Int} (h : (0 ≤ a ∧ a < 2147483648) ∧ (0 < b ∧ b < 2147483648)) : iI a / iI b = iI (a / b) := by
  rw [iI_tdiv ⟨⟨by omega, h.1.2⟩, ⟨by omega, h.2.2⟩⟩, Int.tdiv_eq_ediv_of_nonneg h.1.1]
theorem iI_rem {a b : Int} (h : (0 ≤ a ∧ a < 2147483648) ∧ (0 < b ∧ b < 2147483648)) : iI a - iI a / iI b * iI b = iI (a % b) := by
  rw [iI_div h, iI_mul, iI_sub, Int.emod_def, Int.mul_comm (a / b) b]
theorem iI_nat (k : Nat) : iI (k : Int) = nI k := rfl
theorem iI_self (x : Int32) : iI x.toInt = x := Int32.ofInt_toInt x
theorem iI_of (x : Int32) : ∃ z : Int, x = iI z ∧ -2147483648 ≤ z ∧ z < 2147483648 := ⟨x.toInt, (iI_self x).symm, Int32.le_toInt x, Int32.toInt_lt x⟩
def aI (f : Nat → Int) : Nat → Int32 := fun j => iI (f j)
def upZ (f : Nat → Int) (k : Nat) (v : Int) : Nat → Int := fun j => if j = k then v else f j
def upN (f : Nat → Nat) (k v : Nat) : Nat → Nat := fun j => if j = k then v else f j
def nZ (f : Nat → Nat) : Nat → Int := fun j => (f j : Int)
theorem upZ_s (f : Nat → Int) (k : Nat) (v : Int) : upZ f k v k = v := if_pos rfl
theorem upZ_n (f : Nat → Int) {k j : Nat} (v : Int) (h : j ≠ k) : upZ f k v j = f j := if_neg h
theorem upN_s (f : Nat → Nat) (k v : Nat) : upN f k v k = v := if_pos rfl
theorem upN_n (f : Nat → Nat) {k j : Nat} (v : Nat) (h : j ≠ k) : upN f k v j = f j := if_neg h
theorem nZ_up (f : Nat → Nat) (k v : Nat) : nZ (upN f k v) = upZ (nZ f) k (v : Int) := by
  funext j
  unfold nZ upN upZ
  by_cases h : j = k
  · rw [if_pos h, if_pos h]
  · rw [if_neg h, if_neg h]
theorem upd_aI (f : Nat → Int) (k : Nat) (v : Int) : upd (aI f) k (iI v) = aI (upZ f k v) := by
  funext j
  unfold upd aI upZ
  by_cases h : j = k
  · rw [if_pos h, if_pos h]
  · rw [if_neg h, if_neg h]
theorem upd_aI' (f : Nat → Int) {z : Int} (h : 0 ≤ z ∧ z < 2147483648) (v : Int) : upd (aI f) (iI z).toNatClampNeg (iI v) = aI (upZ f z.toNat v) := by
  rw [iI_cl h, upd_aI]
def zPc (D : va_G) (tys : List (ClassId × FieldType)) (w0 : va_W) (av : List Value) (sz : Nat) : Array Value → State → Prop := va_Pc av (fun U => U.heap.size = sz ∧ va_P D vwCl w0 U.heap ∧ va_K D vwCl tys U ∧ va_D (fun _ => True) w0)
def zB (D : va_G) (tys : List (ClassId × FieldType)) (A : Nat → Prop) : va_W → State → Prop := fun w t => va_P D vwCl w t.heap ∧ va_K D vwCl tys t ∧ va_D A w
def zMi (l : Launch) (D : va_G) (tys : List (ClassId × FieldType)) (y : MethodName) (ws : List Cond) (f lo : Nat) (w0 : va_W) (av : List Value) (post : Int32 → va_W → Prop) : Prop := ∀ sz : Nat, Met l y ws ({ frames := f, cells := 0, slots := 0, locals := lo }) (zPc D tys w0 av sz) (va_Qi post (zB D tys (va_A w0 sz)) (va_A w0 sz)) 0 0 (va_A w0 sz)
def zMl (l : Launch) (D : va_G) (tys : List (ClassId × FieldType)) (y : MethodName) (ws : List Cond) (f lo : Nat) (w0 : va_W) (av : List Value) (post : Int64 → va_W → Prop) : Prop := ∀ sz : Nat, Met l y ws ({ frames := f, cells := 0, slots := 0, locals := lo }) (zPc D tys w0 av sz) (va_Ql post (zB D tys (va_A w0 sz)) (va_A w0 sz)) 0 0 (va_A w0 sz)
def zMv (l : Launch) (D : va_G) (tys : List (ClassId × FieldType)) (y : MethodName) (ws : List Cond) (f lo : Nat) (w0 : va_W) (av : List Value) (post : va_W → Prop) : Prop := ∀ sz : Nat, Met l y ws ({ frames := f, cells := 0, slots := 0, locals := lo }) (zPc D tys w0 av sz) (va_Qv post (zB D tys (va_A w0 sz)) (va_A w0 sz)) 0 0 (va_A w0 sz)
def zBody (l : Launch) (D : va_G) (tys : List (ClassId × FieldType)) (y : MethodName) (ws : List Cond) (rm : Room) (w0 : va_W) (av : List Value) (cc : ByteArray) (maxL : Nat) (ret : Option FieldType) (Qc : (Nat → Prop) → Array Value → State → Outcome → State → Prop) : Prop :=
  ∀ (p : Program) (e : Env) (s : State) (m : MethodId) (args : Array Value) (below : List Frame) (meth : Method) (c : Code) (A : Nat → Prop) (ls : Array Slot), p.tables.exec = Jvm.exec → c.code = cc → meth.sig.returnType = ret → (∀ w ∈ ws, w.before args s = true) → s.vm.findClass y.cls = some m.cls → meth.locks = false → c.maxLocals = maxL → va_P D vwCl w0 s.heap → va_K D vwCl tys s → va_D A w0 → va_S A s.heap s.heap [] → (∀ q : Nat, s.heap.size ≤ q → A q) → lv_has ls maxL (lv_args 0 av) → ∀ Q : State → Prop, Q = MQ below (Qc A) args s 0 0 A → W p l e rm s m args below meth c s.heap [] 0 0 Q (F0 m 0 ls [])
theorem z_of {l : Launch} {D : va_G} {tys : List (ClassId × FieldType)} {y : MethodName} {ws ws' : List Cond} {f lo : Nat} {w0 : va_W} {av : List Value} {cc : ByteArray} {maxL : Nat} {ret : Option FieldType} (Qc : (Nat → Prop) → Array Value → State → Outcome → State → Prop) (hy : plainName y.cls = true) (hw : ws = Cond.code y cc maxL ret :: ws') (hav : (lg_sl av).length ≤ maxL)
    (body : zBody l D tys y ws ({ frames := f, cells := 0, slots := 0, locals := lo }) w0 av cc maxL ret Qc) (sz : Nat) : Met l y ws ({ frames := f, cells := 0, slots := 0, locals := lo }) (zPc D tys w0 av sz) (Qc (va_A w0 sz)) 0 0 (va_A w0 sz) := by
  refine Met.ofW hy hw ?_
  intro p e s m args below meth c s₁ B hml hv
  obtain ⟨rfl, hsz, hP, hK, hD0⟩ := hv
  subst hsz
  rw [lg_entry_eq]
  exact body p e s m av.toArray below meth c (va_A w0 s.heap.size) _ B.exec B.bytes B.returns (atoms_spec (ws := ws) B.pre) (findClass_of_methodNamed B.named) B.notSynchronized hml hP hK hD0.self va_S.rf (fun q h => Or.inr h) (lv_entry av hav) _ rfl
theorem z_ofI {l : Launch} {D : va_G} {tys : List (ClassId × FieldType)} {y : MethodName} {ws ws' : List Cond} {f lo : Nat} {w0 : va_W} {av : List Value} {cc : ByteArray} {maxL : Nat} {ret : Option FieldType} {post : Int32 → va_W → Prop} (hy : plainName y.cls = true) (hw : ws = Cond.code y cc maxL ret :: ws') (hav : (lg_sl av).length ≤ maxL)
    (body : zBody l D tys y ws ({ frames := f, cells := 0, slots := 0, locals := lo }) w0 av cc maxL ret (fun A => va_Qi post (zB D tys A) A)) : zMi l D tys y ws f lo w0 av post := z_of (fun A => va_Qi post (zB D tys A) A) hy hw hav body
theorem z_ofL {l : Launch} {D : va_G} {tys : List (ClassId × FieldType)} {y : MethodName} {ws ws' : List Cond} {f lo : Nat} {w0 : va_W} {av : List Value} {cc : ByteArray} {maxL : Nat} {ret : Option FieldType} {post : Int64 → va_W → Prop} (hy : plainName y.cls = true) (hw : ws = Cond.code y cc maxL ret :: ws') (hav : (lg_sl av).length ≤ maxL)
    (body : zBody l D tys y ws ({ frames := f, cells := 0, slots := 0, locals := lo }) w0 av cc maxL ret (fun A => va_Ql post (zB D tys A) A)) : zMl l D tys y ws f lo w0 av post := z_of (fun A => va_Ql post (zB D tys A) A) hy hw hav body
theorem z_ofV {l : Launch} {D : va_G} {tys : List (ClassId × FieldType)} {y : MethodName} {ws ws' : List Cond} {f lo : Nat} {w0 : va_W} {av : List Value} {cc : ByteArray} {maxL : Nat} {ret : Option FieldType} {post : va_W → Prop} (hy : plainName y.cls = true) (hw : ws = Cond.code y cc maxL ret :: ws') (hav : (lg_sl av).length ≤ maxL)
    (body : zBody l D tys y ws ({ frames := f, cells := 0, slots := 0, locals := lo }) w0 av cc maxL ret (fun A => va_Qv post (zB D tys A) A)) : zMv l D tys y ws f lo w0 av post := z_of (fun A => va_Qv post (zB D tys A) A) hy hw hav body
section ZL
variable {p : Program} {l : Launch} {e : Env} {R : Room} {s : State} {m : MethodId} {args : Array Value} {below : List Frame} {meth : Method} {c : Code} {H : Heap} {locs : List Loc} {cells slots : Nat} {Q : State → Prop}
variable {cc : ByteArray} {pc : Nat} {ls : Array Slot} {rest st0 : List Value} {D : va_G} {cl : List vw_C} {A : Nat → Prop} {tys : List (ClassId × FieldType)} {w : va_W} {H0 : Heap} {ad : Nat} {av As : List Value}
theorem z_free (hD : va_D A w) (hS : va_S A H0 H locs) (hA : ∀ q : Nat, H0.size ≤ q → A q) : ∀ q : Nat, va_A w H.size q → A q := by
  intro q h
  rcases h with ⟨k, x, h⟩ | h
  · exact hD.2 k (q, x) h
  · exact hA q (Nat.le_trans hS.1 h)
theorem z_blind {sz : Nat} : FrameBlind (zPc D tys w av sz) := fun a U g mk q => by
  obtain ⟨q0, q1, qP, qK, qD⟩ := q
  exact ⟨q0, q1, qP, va_K.moved (u := U) (U := U.calling g mk a) (Vm.Alike.refl U.vm) qK, qD⟩
theorem z_preS (hK : va_K D vwCl tys s) (hP : va_P D vwCl w H) (hD : va_D A w) : PreS s H (zPc D tys w av H.size) av :=
  ⟨z_blind, fun U hU hW => ⟨rfl, by rw [hU], by rw [hU]; exact hP, va_K.moved hW.alike hK, hD.weaken (fun _ _ _ _ => trivial)⟩⟩
theorem z_preV {C : String} {T : u_T} {N b ci : Nat} {fs : List Value} (q0 : Nat) (hK : va_K D vwCl tys s) (hP : va_P D vwCl w H) (hD : va_D A w) (hc : vwCl[ci]? = some (C, T, N)) (he : w[q0]? = some (b, .inr (ci, fs))) : PreV s H C b (zPc D tys w (.ref b :: As) H.size) As :=
  ⟨z_blind, va_recv hK hP hc he, fun U hU hW => ⟨rfl, by rw [hU], by rw [hU]; exact hP, va_K.moved hW.alike hK, hD.weaken (fun _ _ _ _ => trivial)⟩⟩
theorem z_calli {post : Int32 → va_W → Prop} {a : Array Value} (hr : va_Run p l e R s m args below meth c H locs cells slots 0 0 (F0 m pc ls st0) rest (va_Qi post (zB D tys (va_A w H.size)) (va_A w H.size) a) (va_A w H.size)) (hS : va_S A H0 H locs) (hD : va_D A w) (hA : ∀ q : Nat, H0.size ≤ q → A q)
    (kk : ∀ (r : Int32) (w1 : va_W) (H1 : Heap) (locs1 : List Loc), post r w1 → va_P D vwCl w1 H1 → va_D A w1 → va_S A H0 H1 locs1 → W p l e R s m args below meth c H1 locs1 cells slots Q (F0 m (pc + 3) ls (.int r :: rest))) : W p l e R s m args below meth c H locs cells slots Q (F0 m pc ls st0) :=
  va_calli hr hS (fun q _ h => z_free hD hS hA q h) (fun q h => z_free hD hS hA q h) (fun r u t H1 locs1 ht _ hp hB _ _ hS1 => kk r u H1 locs1 hp (ht ▸ hB.1) (hB.2.2.weaken (fun _ q _ h => z_free hD hS hA q.1 h)) hS1)
theorem z_calll {post : Int64 → va_W → Prop} {a : Array Value} (hr : va_Run p l e R s m args below meth c H locs cells slots 0 0 (F0 m pc ls st0) rest (va_Ql post (zB D tys (va_A w H.size)) (va_A w H.size) a) (va_A w H.size)) (hS : va_S A H0 H locs) (hD : va_D A w) (hA : ∀ q : Nat, H0.size ≤ q → A q)
    (kk : ∀ (r : Int64) (w1 : va_W) (H1 : Heap) (locs1 : List Loc), post r w1 → va_P D vwCl w1 H1 → va_D A w1 → va_S A H0 H1 locs1 → W p l e R s m args below meth c H1 locs1 cells slots Q (F0 m (pc + 3) ls (.long r :: rest))) : W p l e R s m args below meth c H locs cells slots Q (F0 m pc ls st0) :=
  va_calll hr hS (fun q _ h => z_free hD hS hA q h) (fun q h => z_free hD hS hA q h) (fun r u t H1 locs1 ht _ hp hB _ _ hS1 => kk r u H1 locs1 hp (ht ▸ hB.1) (hB.2.2.weaken (fun _ q _ h => z_free hD hS hA q.1 h)) hS1)
theorem z_callv {post : va_W → Prop} {a : Array Value} (hr : va_Run p l e R s m args below meth c H locs cells slots 0 0 (F0 m pc ls st0) rest (va_Qv post (zB D tys (va_A w H.size)) (va_A w H.size) a) (va_A w H.size)) (hS : va_S A H0 H locs) (hD : va_D A w) (hA : ∀ q : Nat, H0.size ≤ q → A q)
    (kk : ∀ (w1 : va_W) (H1 : Heap) (locs1 : List Loc), post w1 → va_P D vwCl w1 H1 → va_D A w1 → va_S A H0 H1 locs1 → W p l e R s m args below meth c H1 locs1 cells slots Q (F0 m (pc + 3) ls rest)) : W p l e R s m args below meth c H locs cells slots Q (F0 m pc ls st0) :=
  va_callv hr hS (fun q _ h => z_free hD hS hA q h) (fun q h => z_free hD hS hA q h) (fun u t H1 locs1 ht _ hp hB _ _ hS1 => kk u H1 locs1 hp (ht ▸ hB.1) (hB.2.2.weaken (fun _ q _ h => z_free hD hS hA q.1 h)) hS1)
theorem z_iret {post : Int32 → va_W → Prop} {v : Int32} (hQ : Q = MQ below (va_Qi post (zB D tys A) A) args s 0 0 A) (hx : p.tables.exec = Jvm.exec) (hb : c.code = cc) (hr : meth.sig.returnType = some .int) (hlocks : meth.locks = false) (hp : post v w) (hK : va_K D vwCl tys s) (hP : va_P D vwCl w H) (hD : va_D A w) (hS : va_S A s.heap H locs) (hdg : decode cc pc = .ok (.ireturn, 1)) : W p l e R s m args below meth c H locs 0 0 Q (F0 m pc ls [.int v]) :=
  hQ ▸ W.iret hx hb hr (fun t ht hW => ⟨⟨v, w, rfl, hp, by rw [ht]; exact hP, va_K.moved hW.alike hK, hD⟩, hS.F ht⟩) hS.2.2 hdg hlocks
theorem z_lret {post : Int64 → va_W → Prop} {v : Int64} (hQ : Q = MQ below (va_Ql post (zB D tys A) A) args s 0 0 A) (hx : p.tables.exec = Jvm.exec) (hb : c.code = cc) (hr : meth.sig.returnType = some .long) (hlocks : meth.locks = false) (hp : post v w) (hK : va_K D vwCl tys s) (hP : va_P D vwCl w H) (hD : va_D A w) (hS : va_S A s.heap H locs) (hdg : decode cc pc = .ok (.lreturn, 1)) : W p l e R s m args below meth c H locs 0 0 Q (F0 m pc ls [.long v]) :=
  hQ ▸ W.lret hx hb hr (fun t ht hW => ⟨⟨v, w, rfl, hp, by rw [ht]; exact hP, va_K.moved hW.alike hK, hD⟩, hS.F ht⟩) hS.2.2 hdg hlocks
theorem z_vret {post : va_W → Prop} (hQ : Q = MQ below (va_Qv post (zB D tys A) A) args s 0 0 A) (hx : p.tables.exec = Jvm.exec) (hb : c.code = cc) (hr : meth.sig.returnType = none) (hlocks : meth.locks = false) (hp : post w) (hK : va_K D vwCl tys s) (hP : va_P D vwCl w H) (hD : va_D A w) (hS : va_S A s.heap H locs) (hdg : decode cc pc = .ok (.return_, 1)) : W p l e R s m args below meth c H locs 0 0 Q (F0 m pc ls []) :=
  hQ ▸ W.vret hx hb hr (fun t ht hW => ⟨⟨w, rfl, hp, by rw [ht]; exact hP, va_K.moved hW.alike hK, hD⟩, hS.F ht⟩) hS.2.2 hdg hlocks
theorem z_nb0 : narrow .boolean (.int (iI 0)) = .int (iI 0) := by decide
theorem z_nb1 : narrow .boolean (.int (iI 1)) = .int (iI 1) := by decide
theorem z_nb (b : Bool) : narrow .boolean (.int (iI (bI b))) = .int (iI (bI b)) := by cases b <;> decide
theorem z_zret {post : Int32 → va_W → Prop} {v : Int32} (hn : narrow .boolean (.int v) = .int v) (hQ : Q = MQ below (va_Qi post (zB D tys A) A) args s 0 0 A) (hx : p.tables.exec = Jvm.exec) (hb : c.code = cc) (hr : meth.sig.returnType = some .boolean) (hlocks : meth.locks = false) (hp : post v w) (hK : va_K D vwCl tys s) (hP : va_P D vwCl w H) (hD : va_D A w) (hS : va_S A s.heap H locs) (hdg : decode cc pc = .ok (.ireturn, 1)) : W p l e R s m args below meth c H locs 0 0 Q (F0 m pc ls [.int v]) :=
  hQ ▸ W.zret hx hb hr hn (fun t ht hW => ⟨⟨v, w, rfl, hp, by rw [ht]; exact hP, va_K.moved hW.alike hK, hD⟩, hS.F ht⟩) hS.2.2 hdg hlocks
theorem z_ic (hx : p.tables.exec = Jvm.exec) (hb : c.code = cc) {n : Int} (hdg : decode cc pc = .ok (.iconst n, 1)) (k : W p l e R s m args below meth c H locs cells slots Q (F0 m (pc + 1) ls (.int (iI n) :: rest))) : W p l e R s m args below meth c H locs cells slots Q (F0 m pc ls rest) := lv_iconst (v := iI n) hx hb hdg rfl k
theorem z_bip (hx : p.tables.exec = Jvm.exec) (hb : c.code = cc) {n : Int} (hdg : decode cc pc = .ok (.bipush n, 2)) (hv : (Int8.ofInt n).toInt32 = iI n) (k : W p l e R s m args below meth c H locs cells slots Q (F0 m (pc + 2) ls (.int (iI n) :: rest))) : W p l e R s m args below meth c H locs cells slots Q (F0 m pc ls rest) := lv_bipush (v := iI n) hx hb hdg hv k
theorem z_sip (hx : p.tables.exec = Jvm.exec) (hb : c.code = cc) {n : Int} (hdg : decode cc pc = .ok (.sipush n, 3)) (hv : (Int16.ofInt n).toInt32 = iI n) (k : W p l e R s m args below meth c H locs cells slots Q (F0 m (pc + 3) ls (.int (iI n) :: rest))) : W p l e R s m args below meth c H locs cells slots Q (F0 m pc ls rest) := lv_sipush (v := iI n) hx hb hdg hv k
theorem z_eqI {x y : Int32} (h : x = y) (k : W p l e R s m args below meth c H locs cells slots Q (F0 m pc ls (.int y :: rest))) : W p l e R s m args below meth c H locs cells slots Q (F0 m pc ls (.int x :: rest)) := h ▸ k
theorem z_eqL {x y : Int64} (h : x = y) (k : W p l e R s m args below meth c H locs cells slots Q (F0 m pc ls (.long y :: rest))) : W p l e R s m args below meth c H locs cells slots Q (F0 m pc ls (.long x :: rest)) := h ▸ k
theorem z_add (hx : p.tables.exec = Jvm.exec) (hb : c.code = cc) {a b : Int} (hdg : decode cc pc = .ok (.iadd, 1)) (k : W p l e R s m args below meth c H locs cells slots Q (F0 m (pc + 1) ls (.int (iI (a + b)) :: rest))) : W p l e R s m args below meth c H locs cells slots Q (F0 m pc ls (.int (iI b) :: .int (iI a) :: rest)) := lv_iadd hx hb hdg (z_eqI (iI_add a b) k)
theorem z_sub (hx : p.tables.exec = Jvm.exec) (hb : c.code = cc) {a b : Int} (hdg : decode cc pc = .ok (.isub, 1)) (k : W p l e R s m args below meth c H locs cells slots Q (F0 m (pc + 1) ls (.int (iI (a - b)) :: rest))) : W p l e R s m args below meth c H locs cells slots Q (F0 m pc ls (.int (iI b) :: .int (iI a) :: rest)) := lv_isub hx hb hdg (z_eqI (iI_sub a b) k)
theorem z_mul (hx : p.tables.exec = Jvm.exec) (hb : c.code = cc) {a b : Int} (hdg : decode cc pc = .ok (.imul, 1)) (k : W p l e R s m args below meth c H locs cells slots Q (F0 m (pc + 1) ls (.int (iI (a * b)) :: rest))) : W p l e R s m args below meth c H locs cells slots Q (F0 m pc ls (.int (iI b) :: .int (iI a) :: rest)) := lv_imul hx hb hdg (z_eqI (iI_mul a b) k)
theorem z_ne0 {b : Int} (h : 0 < b ∧ b < 2147483648) : ¬ iI b = 0 := fun q => by
  have h0 : iI 0 = 0 := by decide
  have := (iI_eq (a := b) (b := 0) ⟨⟨by omega, h.2⟩, ⟨by decide, by decide⟩⟩).mp (q.trans h0.symm)
  omega
theorem z_div (hx : p.tables.exec = Jvm.exec) (hb : c.code = cc) {a b : Int} (h : (0 ≤ a ∧ a < 2147483648) ∧ (0 < b ∧ b < 2147483648)) (hdg : decode cc pc = .ok (.idiv, 1)) (k : W p l e R s m args below meth c H locs cells slots Q (F0 m (pc + 1) ls (.int (iI (a / b)) :: rest))) : W p l e R s m args below meth c H locs cells slots Q (F0 m pc ls (.int (iI b) :: .int (iI a) :: rest)) := lv_idiv hx hb hdg (z_ne0 h.2) (z_eqI (iI_div h) k)
theorem z_rem (hx : p.tables.exec = Jvm.exec) (hb : c.code = cc) {a b : Int} (h : (0 ≤ a ∧ a < 2147483648) ∧ (0 < b ∧ b < 2147483648)) (hdg : decode cc pc = .ok (.irem, 1)) (k : W p l e R s m args below meth c H locs cells slots Q (F0 m (pc + 1) ls (.int (iI (a % b)) :: rest))) : W p l e R s m args below meth c H locs cells slots Q (F0 m pc ls (.int (iI b) :: .int (iI a) :: rest)) := lv_irem hx hb hdg (z_ne0 h.2) (z_eqI (iI_rem h) k)
theorem z_iceq (hx : p.tables.exec = Jvm.exec) (hb : c.code = cc) {a b off : Int} {tgt : Nat} (hdg : decode cc pc = .ok (.if_icmp .eq off, 3)) (ht : (pc : Int) + off = (tgt : Int)) (h : (-2147483648 ≤ a ∧ a < 2147483648) ∧ (-2147483648 ≤ b ∧ b < 2147483648)) (kt : a = b → W p l e R s m args below meth c H locs cells slots Q (F0 m tgt ls rest)) (kf : ¬ (a = b) → W p l e R s m args below meth c H locs cells slots Q (F0 m (pc + 3) ls rest)) : W p l e R s m args below meth c H locs cells slots Q (F0 m pc ls (.int (iI b) :: .int (iI a) :: rest)) := lv_icmp_eq hx hb hdg ht (fun q => kt ((iI_eq h).mp q)) (fun q => kf (fun r => q ((iI_eq h).mpr r)))
theorem z_icne (hx : p.tables.exec = Jvm.exec) (hb : c.code = cc) {a b off : Int} {tgt : Nat} (hdg : decode cc pc = .ok (.if_icmp .ne off, 3)) (ht : (pc : Int) + off = (tgt : Int)) (h : (-2147483648 ≤ a ∧ a < 2147483648) ∧ (-2147483648 ≤ b ∧ b < 2147483648)) (kt : ¬ a = b → W p l e R s m args below meth c H locs cells slots Q (F0 m tgt ls rest)) (kf : a = b → W p l e R s m args below meth c H locs cells slots Q (F0 m (pc + 3) ls rest)) : W p l e R s m args below meth c H locs cells slots Q (F0 m pc ls (.int (iI b) :: .int (iI a) :: rest)) := lv_icmp_ne hx hb hdg ht (fun q => kt (fun r => q ((iI_eq h).mpr r))) (fun q => kf ((iI_eq h).mp q))
theorem z_iclt (hx : p.tables.exec = Jvm.exec) (hb : c.code = cc) {a b off : Int} {tgt : Nat} (hdg : decode cc pc = .ok (.if_icmp .lt off, 3)) (ht : (pc : Int) + off = (tgt : Int)) (h : (-2147483648 ≤ a ∧ a < 2147483648) ∧ (-2147483648 ≤ b ∧ b < 2147483648)) (kt : a < b → W p l e R s m args below meth c H locs cells slots Q (F0 m tgt ls rest)) (kf : ¬ (a < b) → W p l e R s m args below meth c H locs cells slots Q (F0 m (pc + 3) ls rest)) : W p l e R s m args below meth c H locs cells slots Q (F0 m pc ls (.int (iI b) :: .int (iI a) :: rest)) := lv_icmp_lt hx hb hdg ht (fun q => kt ((iI_lt h).mp q)) (fun q => kf (fun r => q ((iI_lt h).mpr r)))
theorem z_icge (hx : p.tables.exec = Jvm.exec) (hb : c.code = cc) {a b off : Int} {tgt : Nat} (hdg : decode cc pc = .ok (.if_icmp .ge off, 3)) (ht : (pc : Int) + off = (tgt : Int)) (h : (-2147483648 ≤ a ∧ a < 2147483648) ∧ (-2147483648 ≤ b ∧ b < 2147483648)) (kt : b ≤ a → W p l e R s m args below meth c H locs cells slots Q (F0 m tgt ls rest)) (kf : ¬ (b ≤ a) → W p l e R s m args below meth c H locs cells slots Q (F0 m (pc + 3) ls rest)) : W p l e R s m args below meth c H locs cells slots Q (F0 m pc ls (.int (iI b) :: .int (iI a) :: rest)) := lv_icmp_ge hx hb hdg ht (fun q => kt ((iI_le ⟨h.2, h.1⟩).mp q)) (fun q => kf (fun r => q ((iI_le ⟨h.2, h.1⟩).mpr r)))
theorem z_icgt (hx : p.tables.exec = Jvm.exec) (hb : c.code = cc) {a b off : Int} {tgt : Nat} (hdg : decode cc pc = .ok (.if_icmp .gt off, 3)) (ht : (pc : Int) + off = (tgt : Int)) (h : (-2147483648 ≤ a ∧ a < 2147483648) ∧ (-2147483648 ≤ b ∧ b < 2147483648)) (kt : b < a → W p l e R s m args below meth c H locs cells slots Q (F0 m tgt ls rest)) (kf : ¬ (b < a) → W p l e R s m args below meth c H locs cells slots Q (F0 m (pc + 3) ls rest)) : W p l e R s m args below meth c H locs cells slots Q (F0 m pc ls (.int (iI b) :: .int (iI a) :: rest)) := lv_icmp_gt hx hb hdg ht (fun q => kt ((iI_lt ⟨h.2, h.1⟩).mp q)) (fun q => kf (fun r => q ((iI_lt ⟨h.2, h.1⟩).mpr r)))
theorem z_icle (hx : p.tables.exec = Jvm.exec) (hb : c.code = cc) {a b off : Int} {tgt : Nat} (hdg : decode cc pc = .ok (.if_icmp .le off, 3)) (ht : (pc : Int) + off = (tgt : Int)) (h : (-2147483648 ≤ a ∧ a < 2147483648) ∧ (-2147483648 ≤ b ∧ b < 2147483648)) (kt : a ≤ b → W p l e R s m args below meth c H locs cells slots Q (F0 m tgt ls rest)) (kf : ¬ (a ≤ b) → W p l e R s m args below meth c H locs cells slots Q (F0 m (pc + 3) ls rest)) : W p l e R s m args below meth c H locs cells slots Q (F0 m pc ls (.int (iI b) :: .int (iI a) :: rest)) := lv_icmp_le hx hb hdg ht (fun q => kt ((iI_le h).mp q)) (fun q => kf (fun r => q ((iI_le h).mpr r)))
theorem z_ifeq (hx : p.tables.exec = Jvm.exec) (hb : c.code = cc) {a off : Int} {tgt : Nat} (hdg : decode cc pc = .ok (.ifCond .eq off, 3)) (ht : (pc : Int) + off = (tgt : Int)) (h : -2147483648 ≤ a ∧ a < 2147483648) (kt : a = 0 → W p l e R s m args below meth c H locs cells slots Q (F0 m tgt ls rest)) (kf : ¬ (a = 0) → W p l e R s m args below meth c H locs cells slots Q (F0 m (pc + 3) ls rest)) : W p l e R s m args below meth c H locs cells slots Q (F0 m pc ls (.int (iI a) :: rest)) := lv_if_eq hx hb hdg ht (fun q => kt ((iI_eq (b := 0) ⟨h, by decide, by decide⟩).mp q)) (fun q => kf (fun r => q ((iI_eq (b := 0) ⟨h, by decide, by decide⟩).mpr r)))
theorem z_ifne (hx : p.tables.exec = Jvm.exec) (hb : c.code = cc) {a off : Int} {tgt : Nat} (hdg : decode cc pc = .ok (.ifCond .ne off, 3)) (ht : (pc : Int) + off = (tgt : Int)) (h : -2147483648 ≤ a ∧ a < 2147483648) (kt : ¬ a = 0 → W p l e R s m args below meth c H locs cells slots Q (F0 m tgt ls rest)) (kf : a = 0 → W p l e R s m args below meth c H locs cells slots Q (F0 m (pc + 3) ls rest)) : W p l e R s m args below meth c H locs cells slots Q (F0 m pc ls (.int (iI a) :: rest)) := lv_if_ne hx hb hdg ht (fun q => kt (fun r => q ((iI_eq (b := 0) ⟨h, by decide, by decide⟩).mpr r))) (fun q => kf ((iI_eq (b := 0) ⟨h, by decide, by decide⟩).mp q))
theorem z_iflt (hx : p.tables.exec = Jvm.exec) (hb : c.code = cc) {a off : Int} {tgt : Nat} (hdg : decode cc pc = .ok (.ifCond .lt off, 3)) (ht : (pc : Int) + off = (tgt : Int)) (h : -2147483648 ≤ a ∧ a < 2147483648) (kt : a < 0 → W p l e R s m args below meth c H locs cells slots Q (F0 m tgt ls rest)) (kf : ¬ (a < 0) → W p l e R s m args below meth c H locs cells slots Q (F0 m (pc + 3) ls rest)) : W p l e R s m args below meth c H locs cells slots Q (F0 m pc ls (.int (iI a) :: rest)) := lv_if_lt hx hb hdg ht (fun q => kt ((iI_lt (b := 0) ⟨h, by decide, by decide⟩).mp q)) (fun q => kf (fun r => q ((iI_lt (b := 0) ⟨h, by decide, by decide⟩).mpr r)))
theorem z_ifge (hx : p.tables.exec = Jvm.exec) (hb : c.code = cc) {a off : Int} {tgt : Nat} (hdg : decode cc pc = .ok (.ifCond .ge off, 3)) (ht : (pc : Int) + off = (tgt : Int)) (h : -2147483648 ≤ a ∧ a < 2147483648) (kt : 0 ≤ a → W p l e R s m args below meth c H locs cells slots Q (F0 m tgt ls rest)) (kf : ¬ (0 ≤ a) → W p l e R s m args below meth c H locs cells slots Q (F0 m (pc + 3) ls rest)) : W p l e R s m args below meth c H locs cells slots Q (F0 m pc ls (.int (iI a) :: rest)) := lv_if_ge hx hb hdg ht (fun q => kt ((iI_le (a := 0) ⟨⟨by decide, by decide⟩, h⟩).mp q)) (fun q => kf (fun r => q ((iI_le (a := 0) ⟨⟨by decide, by decide⟩, h⟩).mpr r)))
theorem z_ifgt (hx : p.tables.exec = Jvm.exec) (hb : c.code = cc) {a off : Int} {tgt : Nat} (hdg : decode cc pc = .ok (.ifCond .gt off, 3)) (ht : (pc : Int) + off = (tgt : Int)) (h : -2147483648 ≤ a ∧ a < 2147483648) (kt : 0 < a → W p l e R s m args below meth c H locs cells slots Q (F0 m tgt ls rest)) (kf : ¬ (0 < a) → W p l e R s m args below meth c H locs cells slots Q (F0 m (pc + 3) ls rest)) : W p l e R s m args below meth c H locs cells slots Q (F0 m pc ls (.int (iI a) :: rest)) := lv_if_gt hx hb hdg ht (fun q => kt ((iI_lt (a := 0) ⟨⟨by decide, by decide⟩, h⟩).mp q)) (fun q => kf (fun r => q ((iI_lt (a := 0) ⟨⟨by decide, by decide⟩, h⟩).mpr r)))
theorem z_ifle (hx : p.tables.exec = Jvm.exec) (hb : c.code = cc) {a off : Int} {tgt : Nat} (hdg : decode cc pc = .ok (.ifCond .le off, 3)) (ht : (pc : Int) + off = (tgt : Int)) (h : -2147483648 ≤ a ∧ a < 2147483648) (kt : a ≤ 0 → W p l e R s m args below meth c H locs cells slots Q (F0 m tgt ls rest)) (kf : ¬ (a ≤ 0) → W p l e R s m args below meth c H locs cells slots Q (F0 m (pc + 3) ls rest)) : W p l e R s m args below meth c H locs cells slots Q (F0 m pc ls (.int (iI a) :: rest)) := lv_if_le hx hb hdg ht (fun q => kt ((iI_le (b := 0) ⟨h, by decide, by decide⟩).mp q)) (fun q => kf (fun r => q ((iI_le (b := 0) ⟨h, by decide, by decide⟩).mpr r)))
theorem z_iinc (hx : p.tables.exec = Jvm.exec) (hb : c.code = cc) {i nL : Nat} (k : Nat) {n a b : Int} {lv lv' : List (Nat × Value)} (hdg : decode cc pc = .ok (.iinc i n, 3)) (h : lv_has ls nL lv) (hk : lv[k]? = some (i, .int (iI a))) (hv : a + n = b) (hn : i < nL) (hl : (i, Value.int (iI b)) :: lv.filter (fun q => !(q.1 == i) && !(q.1 + 1 == i && q.2.category == 2)) = lv') (kk : ∀ ls' : Array Slot, lv_has ls' nL lv' → W p l e R s m args below meth c H locs cells slots Q (F0 m (pc + 3) ls' rest)) : W p l e R s m args below meth c H locs cells slots Q (F0 m pc ls rest) := lv_iinc hx hb hdg h hk (by subst hv; exact iI_add a n) hn hl kk
theorem z_iald (hx : p.tables.exec = Jvm.exec) (hb : c.code = cc) (hK : va_K D cl tys s) (hP : va_P D cl w H) (q0 t0 : Nat) {cA : ClassId} {n : Nat} {f : Nat → Int} (ha : w[q0]? = some (ad, .inl (cA, n, .inl (aI f)))) (ht : tys[t0]? = some (cA, .int)) {z : Int} (h : 0 ≤ z ∧ z < (n : Int)) (hn : n < 2147483648) (hdg : decode cc pc = .ok (.iaload, 1)) (k : W p l e R s m args below meth c H locs cells slots Q (F0 m (pc + 1) ls (.int (iI (f z.toNat)) :: rest))) : W p l e R s m args below meth c H locs cells slots Q (F0 m pc ls (.int (iI z) :: .ref ad :: rest)) := by
  refine va_iald hx hb hK hP q0 t0 ha ht (iI_in h hn) hdg ?_
  rw [iI_cl ⟨h.1, by omega⟩]
  exact k
theorem z_ialdN (hx : p.tables.exec = Jvm.exec) (hb : c.code = cc) (hK : va_K D cl tys s) (hP : va_P D cl w H) (q0 t0 : Nat) {cA : ClassId} {n : Nat} {f : Nat → Int} (ha : w[q0]? = some (ad, .inl (cA, n, .inl (aI f)))) (ht : tys[t0]? = some (cA, .int)) {z : Nat} (h : z < n) (hn : n < 2147483648) (hdg : decode cc pc = .ok (.iaload, 1)) (k : W p l e R s m args below meth c H locs cells slots Q (F0 m (pc + 1) ls (.int (iI (f z)) :: rest))) : W p l e R s m args below meth c H locs cells slots Q (F0 m pc ls (.int (iI (z : Int)) :: .ref ad :: rest)) := z_iald hx hb hK hP q0 t0 ha ht (z := (z : Int)) (by omega) hn hdg k
theorem z_iast (hx : p.tables.exec = Jvm.exec) (hb : c.code = cc) (hK : va_K D cl tys s) (hP : va_P D cl w H) (hD : va_D A w) (hS : va_S A H0 H locs) (q0 t0 : Nat) {cA : ClassId} {n : Nat} {f : Nat → Int} (ha : w[q0]? = some (ad, .inl (cA, n, .inl (aI f)))) (ht : tys[t0]? = some (cA, .int)) {z v : Int} (h : 0 ≤ z ∧ z < (n : Int)) (hn : n < 2147483648) (hdg : decode cc pc = .ok (.iastore, 1)) (k : ∀ (H1 : Heap) (locs1 : List Loc), va_P D cl (w.set q0 (ad, .inl (cA, n, .inl (aI (upZ f z.toNat v))))) H1 → va_D A (w.set q0 (ad, .inl (cA, n, .inl (aI (upZ f z.toNat v))))) → va_S A H0 H1 locs1 → W p l e R s m args below meth c H1 locs1 cells slots Q (F0 m (pc + 1) ls rest)) : W p l e R s m args below meth c H locs cells slots Q (F0 m pc ls (.int (iI v) :: .int (iI z) :: .ref ad :: rest)) := by
  refine va_iast hx hb hK hP hD hS q0 t0 ha ht (iI_in h hn) hdg ?_
  rw [upd_aI' f ⟨h.1, by omega⟩ v]
  exact k
theorem z_iastN (hx : p.tables.exec = Jvm.exec) (hb : c.code = cc) (hK : va_K D cl tys s) (hP : va_P D cl w H) (hD : va_D A w) (hS : va_S A H0 H locs) (q0 t0 : Nat) {cA : ClassId} {n : Nat} {f : Nat → Int} (ha : w[q0]? = some (ad, .inl (cA, n, .inl (aI f)))) (ht : tys[t0]? = some (cA, .int)) {z : Nat} {v : Int} (h : z < n) (hn : n < 2147483648) (hdg : decode cc pc = .ok (.iastore, 1)) (k : ∀ (H1 : Heap) (locs1 : List Loc), va_P D cl (w.set q0 (ad, .inl (cA, n, .inl (aI (upZ f z v))))) H1 → va_D A (w.set q0 (ad, .inl (cA, n, .inl (aI (upZ f z v))))) → va_S A H0 H1 locs1 → W p l e R s m args below meth c H1 locs1 cells slots Q (F0 m (pc + 1) ls rest)) : W p l e R s m args below meth c H locs cells slots Q (F0 m pc ls (.int (iI v) :: .int (iI (z : Int)) :: .ref ad :: rest)) := z_iast hx hb hK hP hD hS q0 t0 ha ht (z := (z : Int)) (by omega) hn hdg k
theorem z_ialdZ (hx : p.tables.exec = Jvm.exec) (hb : c.code = cc) (hK : va_K D cl tys s) (hP : va_P D cl w H) (q0 t0 : Nat) {cA : ClassId} {n : Nat} {f : Nat → Nat} (ha : w[q0]? = some (ad, .inl (cA, n, .inl (aI (nZ f))))) (ht : tys[t0]? = some (cA, .int)) {z : Nat} (h : z < n) (hn : n < 2147483648) (hdg : decode cc pc = .ok (.iaload, 1)) (k : W p l e R s m args below meth c H locs cells slots Q (F0 m (pc + 1) ls (.int (iI ((f z : Nat) : Int)) :: rest))) : W p l e R s m args below meth c H locs cells slots Q (F0 m pc ls (.int (iI (z : Int)) :: .ref ad :: rest)) := z_ialdN hx hb hK hP q0 t0 ha ht h hn hdg k
theorem z_iastZ (hx : p.tables.exec = Jvm.exec) (hb : c.code = cc) (hK : va_K D cl tys s) (hP : va_P D cl w H) (hD : va_D A w) (hS : va_S A H0 H locs) (q0 t0 : Nat) {cA : ClassId} {n : Nat} {f : Nat → Nat} (ha : w[q0]? = some (ad, .inl (cA, n, .inl (aI (nZ f))))) (ht : tys[t0]? = some (cA, .int)) {z v : Nat} (h : z < n) (hn : n < 2147483648) (hdg : decode cc pc = .ok (.iastore, 1)) (k : ∀ (H1 : Heap) (locs1 : List Loc), va_P D cl (w.set q0 (ad, .inl (cA, n, .inl (aI (nZ (upN f z v)))))) H1 → va_D A (w.set q0 (ad, .inl (cA, n, .inl (aI (nZ (upN f z v)))))) → va_S A H0 H1 locs1 → W p l e R s m args below meth c H1 locs1 cells slots Q (F0 m (pc + 1) ls rest)) : W p l e R s m args below meth c H locs cells slots Q (F0 m pc ls (.int (iI (v : Int)) :: .int (iI (z : Int)) :: .ref ad :: rest)) := by
  refine z_iastN hx hb hK hP hD hS q0 t0 ha ht (v := (v : Int)) h hn hdg ?_
  rw [← nZ_up]
  exact k
def bZ (f : Nat → Bool) : Nat → Int := fun j => bI (f j)
def upB (f : Nat → Bool) (k : Nat) (v : Bool) : Nat → Bool := fun j => if j = k then v else f j
theorem bZ_up (f : Nat → Bool) (k : Nat) (v : Bool) : bZ (upB f k v) = upZ (bZ f) k (bI v) := by
  funext j
  unfold bZ upB upZ
  by_cases h : j = k
  · rw [if_pos h, if_pos h]
  · rw [if_neg h, if_neg h]
theorem upB_s (f : Nat → Bool) (k : Nat) (v : Bool) : upB f k v k = v := if_pos rfl
theorem upB_n (f : Nat → Bool) {k j : Nat} (v : Bool) (h : j ≠ k) : upB f k v j = f j := if_neg h
theorem z_bald (hx : p.tables.exec = Jvm.exec) (hb : c.code = cc) (hK : va_K D cl tys s) (hP : va_P D cl w H) (q0 t0 : Nat) {cA : ClassId} {n : Nat} {f : Nat → Bool} (ha : w[q0]? = some (ad, .inl (cA, n, .inl (aI (bZ f))))) (ht : tys[t0]? = some (cA, .boolean)) {z : Nat} (h : z < n) (hn : n < 2147483648) (hdg : decode cc pc = .ok (.baload, 1)) (k : W p l e R s m args below meth c H locs cells slots Q (F0 m (pc + 1) ls (.int (iI (bI (f z))) :: rest))) : W p l e R s m args below meth c H locs cells slots Q (F0 m pc ls (.int (iI (z : Int)) :: .ref ad :: rest)) := by
  refine va_zald hx hb hK hP q0 t0 ha ht (iI_in (z := (z : Int)) ⟨by omega, by omega⟩ hn) hdg ?_
  rw [iI_cl ⟨by omega, by omega⟩]
  exact k
theorem z_bast (hx : p.tables.exec = Jvm.exec) (hb : c.code = cc) (hK : va_K D cl tys s) (hP : va_P D cl w H) (hD : va_D A w) (hS : va_S A H0 H locs) (q0 t0 : Nat) {cA : ClassId} {n : Nat} {f : Nat → Bool} (ha : w[q0]? = some (ad, .inl (cA, n, .inl (aI (bZ f))))) (ht : tys[t0]? = some (cA, .boolean)) {z : Nat} (v : Bool) (h : z < n) (hn : n < 2147483648) (hdg : decode cc pc = .ok (.bastore, 1)) (k : ∀ (H1 : Heap) (locs1 : List Loc), va_P D cl (w.set q0 (ad, .inl (cA, n, .inl (aI (bZ (upB f z v)))))) H1 → va_D A (w.set q0 (ad, .inl (cA, n, .inl (aI (bZ (upB f z v)))))) → va_S A H0 H1 locs1 → W p l e R s m args below meth c H1 locs1 cells slots Q (F0 m (pc + 1) ls rest)) : W p l e R s m args below meth c H locs cells slots Q (F0 m pc ls (.int (iI (bI v)) :: .int (iI (z : Int)) :: .ref ad :: rest)) := by
  refine va_zast hx hb hK hP hD hS q0 t0 ha ht (iI_in (z := (z : Int)) ⟨by omega, by omega⟩ hn) hdg ?_
  have e : vp_nar .boolean (iI (bI v)) = iI (bI v) := by cases v <;> decide
  rw [e, upd_aI' _ (z := (z : Int)) ⟨by omega, by omega⟩, Int.toNat_natCast, ← bZ_up]
  exact k
theorem z_aald (hx : p.tables.exec = Jvm.exec) (hb : c.code = cc) (hK : va_K D cl tys s) (hP : va_P D cl w H) (q0 t0 : Nat) {cA : ClassId} {n a1 : Nat} {f : Nat → Option Nat} (ha : w[q0]? = some (ad, .inl (cA, n, .inr (.inr (.inr (.inr f)))))) (ht : tys[t0]? = some (cA, .array .int)) {z : Nat} (h : z < n) (hn : n < 2147483648) (hf : f z = some a1) (hdg : decode cc pc = .ok (.aaload, 1)) (k : W p l e R s m args below meth c H locs cells slots Q (F0 m (pc + 1) ls (.ref a1 :: rest))) : W p l e R s m args below meth c H locs cells slots Q (F0 m pc ls (.int (iI (z : Int)) :: .ref ad :: rest)) := by
  have h2 : ¬ (iI (z : Int) < 0 ∨ n ≤ (iI (z : Int)).toNatClampNeg) := iI_in (z := (z : Int)) ⟨by omega, by omega⟩ hn
  refine W.aald (v := .ref a1) (ty := .array .int) hx hb (hP q0 _ ha) ((hK.2 t0 _ ht).1 n (fun j => va_rf (f j))) rfl (fun q => by cases q) (by show ¬ (_ ∨ (arrV _ _ _).slots.size ≤ _); rw [arrV_size]; exact h2) ?_ rfl rfl hdg k
  show (arrV _ _ _).slots[_]? = _
  rw [arrV_read _ _ (by rw [iI_cl ⟨by omega, by omega⟩]; exact h), iI_cl ⟨by omega, by omega⟩]
  show some (va_rf (f z)) = _
  rw [hf]
  rfl
theorem z_alen (hx : p.tables.exec = Jvm.exec) (hb : c.code = cc) (hK : va_K D cl tys s) (hP : va_P D cl w H) (q0 t0 : Nat) {cA : ClassId} {x : vp_A} (ha : w[q0]? = some (ad, .inl (cA, x))) {ty : FieldType} (ht : tys[t0]? = some (cA, ty)) {n : Nat} (hn : x.1 = n) (hdg : decode cc pc = .ok (.arraylength, 1)) (k : W p l e R s m args below meth c H locs cells slots Q (F0 m (pc + 1) ls (.int (iI (n : Int)) :: rest))) : W p l e R s m args below meth c H locs cells slots Q (F0 m pc ls (.ref ad :: rest)) := va_alen hx hb hK hP q0 t0 ha ht (v := iI (n : Int)) (by subst hn; rfl) hdg k
theorem z_cellext {cA : ClassId} {n : Nat} {f f' : Nat → Int} (h : ∀ j, j < n → f j = f' j) : vp_cell cA (n, .inl (aI f)) = vp_cell cA (n, .inl (aI f')) := by
  show arrV cA n (fun j => .int (iI (f j))) = arrV cA n (fun j => .int (iI (f' j)))
  unfold arrV
  congr 2
  funext j
  exact congrArg (fun q => Value.int (iI q)) (h j.val j.isLt)
theorem z_ext {cA : ClassId} {n q0 : Nat} {f f' : Nat → Int} (hP : va_P D cl w H) (hD : va_D A w) (ha : w[q0]? = some (ad, .inl (cA, n, .inl (aI f)))) (h : ∀ j, j < n → f j = f' j) : va_P D cl (w.set q0 (ad, .inl (cA, n, .inl (aI f')))) H := by
  refine hP.set hD ha ?_ (fun _ _ => rfl)
  show H[ad]? = some (vp_cell _ _)
  rw [← z_cellext h]
  exact hP q0 _ ha
theorem z_mmax (hx : p.tables.exec = Jvm.exec) (hb : c.code = cc) {nL : Nat} (hml : c.maxLocals = nL) (hls : ls.size = nL) {own : String} {index : Nat} (hown : s.vm.findClass own = some m.cls) (h1 : (Cond.methodLink own index Lib.Math.max.name).before args s = true) (h2 : (Cond.static Lib.Math.max.name).before args s = true) (h3 : (Cond.initialized "java/lang/Math").before args s = true) (h4 : (Cond.code Lib.Math.max.name Lib.Math.max.code 2 (some .int)).before args s = true)
    (hframes : 1 ≤ R.frames) (hlocals : (rest.map fun v => v.category).sum + 13 ≤ R.locals) (hc : cells ≤ R.cells) (hs : slots ≤ R.slots) {a b : Int} (h : (-2147483648 ≤ a ∧ a < 2147483648) ∧ (-2147483648 ≤ b ∧ b < 2147483648)) (hdg : decode cc pc = .ok (.invokestatic index, 3)) (k : W p l e R s m args below meth c H locs cells slots Q (F0 m (pc + 3) ls (.int (iI (max a b)) :: rest))) : W p l e R s m args below meth c H locs cells slots Q (F0 m pc ls (.int (iI b) :: .int (iI a) :: rest)) := by
  refine va_mmax hx hb (hml.trans hls.symm) hown h1 h2 h3 h4 hframes hlocals hc hs hdg ?_
  have e : (if iI a < iI b then iI b else iI a) = iI (max a b) := by
    by_cases q : a < b
    · rw [if_pos ((iI_lt h).mpr q), Int.max_eq_right (by omega)]
    · rw [if_neg (fun r => q ((iI_lt h).mp r)), Int.max_eq_left (by omega)]
  rw [e]
  exact k
theorem z_mmin (hx : p.tables.exec = Jvm.exec) (hb : c.code = cc) {nL : Nat} (hml : c.maxLocals = nL) (hls : ls.size = nL) {own : String} {index : Nat} (hown : s.vm.findClass own = some m.cls) (h1 : (Cond.methodLink own index Lib.Math.min.name).before args s = true) (h2 : (Cond.static Lib.Math.min.name).before args s = true) (h3 : (Cond.initialized "java/lang/Math").before args s = true) (h4 : (Cond.code Lib.Math.min.name Lib.Math.min.code 2 (some .int)).before args s = true)
    (hframes : 1 ≤ R.frames) (hlocals : (rest.map fun v => v.category).sum + 13 ≤ R.locals) (hc : cells ≤ R.cells) (hs : slots ≤ R.slots) {a b : Int} (h : (-2147483648 ≤ a ∧ a < 2147483648) ∧ (-2147483648 ≤ b ∧ b < 2147483648)) (hdg : decode cc pc = .ok (.invokestatic index, 3)) (k : W p l e R s m args below meth c H locs cells slots Q (F0 m (pc + 3) ls (.int (iI (min a b)) :: rest))) : W p l e R s m args below meth c H locs cells slots Q (F0 m pc ls (.int (iI b) :: .int (iI a) :: rest)) := by
  refine va_mmin hx hb (hml.trans hls.symm) hown h1 h2 h3 h4 hframes hlocals hc hs hdg ?_
  have e : (if iI b < iI a then iI b else iI a) = iI (min a b) := by
    by_cases q : b < a
    · rw [if_pos ((iI_lt ⟨h.2, h.1⟩).mpr q), Int.min_eq_right (by omega)]
    · rw [if_neg (fun r => q ((iI_lt ⟨h.2, h.1⟩).mp r)), Int.min_eq_left (by omega)]
  rw [e]
  exact k
end ZL
abbrev LD : Type := Nat × Nat × (Nat → Nat) × (Nat → Nat) × (Nat → Nat) × (Nat → Nat) × (Nat → Nat) × (Nat → Nat) × (Nat → Nat)
def Ln (L : LD) : Nat := L.1
def Lm (L : LD) : Nat := L.2.1
def Lu (L : LD) : Nat → Nat := L.2.2.1
def Lkd (L : LD) : Nat → Nat := L.2.2.2.1
def Lby (L : LD) : Nat → Nat := L.2.2.2.2.1
def Lsr (L : LD) : Nat → Nat := L.2.2.2.2.2.1
def Lds (L : LD) : Nat → Nat := L.2.2.2.2.2.2.1
def Ldl (L : LD) : Nat → Nat := L.2.2.2.2.2.2.2.1
def Ldi (L : LD) : Nat → Nat := L.2.2.2.2.2.2.2.2
def wf (L : LD) : Prop := Ln L ≤ 14 ∧ Lm L ≤ 40 ∧ (∀ k, k < 3 → 1 ≤ Lu L k ∧ Lu L k ≤ 3) ∧ (∀ i, Lkd L i < 3) ∧ (∀ i, Lby L i ≤ 4) ∧ (∀ i, i < Ln L → 1 ≤ Lby L i) ∧ (∀ k, k < Lm L → Lsr L k < Ln L ∧ Lds L k < Ln L) ∧ (∀ k, Lsr L k < 14 ∧ Lds L k < 14) ∧ (∀ k, Ldl L k ≤ 12) ∧ (∀ k, Ldi L k ≤ 3)
theorem wf_n {L : LD} (h : wf L) : Ln L ≤ 14 := h.1
theorem wf_m {L : LD} (h : wf L) : Lm L ≤ 40 := h.2.1
theorem wf_u {L : LD} (h : wf L) : ∀ k, k < 3 → 1 ≤ Lu L k ∧ Lu L k ≤ 3 := h.2.2.1
theorem wf_kd {L : LD} (h : wf L) : ∀ i, Lkd L i < 3 := h.2.2.2.1
theorem wf_by {L : LD} (h : wf L) : ∀ i, Lby L i ≤ 4 := h.2.2.2.2.1
theorem wf_by1 {L : LD} (h : wf L) : ∀ i, i < Ln L → 1 ≤ Lby L i := h.2.2.2.2.2.1
theorem wf_ed {L : LD} (h : wf L) : ∀ k, k < Lm L → Lsr L k < Ln L ∧ Lds L k < Ln L := h.2.2.2.2.2.2.1
theorem wf_sd {L : LD} (h : wf L) : ∀ k, Lsr L k < 14 ∧ Lds L k < 14 := h.2.2.2.2.2.2.2.1
theorem wf_dl {L : LD} (h : wf L) : ∀ k, Ldl L k ≤ 12 := h.2.2.2.2.2.2.2.2.1
theorem wf_di {L : LD} (h : wf L) : ∀ k, Ldi L k ≤ 3 := h.2.2.2.2.2.2.2.2.2
def zT (g : Nat → ClassId) : List (ClassId × FieldType) := [(g 0, .int), (g 1, .array .int)]
def wX (a : Nat → Nat) (g : Nat → ClassId) (L : LD) (att T : Nat) (hs tm : Nat → Int) (tk : Nat → Nat → Int) (lt : Nat → Int) : va_W :=
  [(a 0, .inr (2, [.ref (a 1), .ref (a 2), .int (iI (att : Int))])),
   (a 1, .inr (0, [.ref (a 3), .ref (a 4), .ref (a 5), .ref (a 6), .ref (a 7), .ref (a 8), .ref (a 9), .ref (a 10), .int (iI (Ln L : Int)), .int (iI (Lm L : Int))])),
   (a 2, .inr (1, [.ref (a 1), .ref (a 11), .ref (a 12), .ref (a 16), .int (iI (T : Int))])),
   (a 3, .inl (g 0, 3, .inl (aI (nZ (Lu L))))), (a 4, .inl (g 0, 14, .inl (aI (nZ (Lkd L))))), (a 5, .inl (g 0, 14, .inl (aI (nZ (Lby L))))),
   (a 6, .inl (g 0, 40, .inl (aI (nZ (Lsr L))))), (a 7, .inl (g 0, 40, .inl (aI (nZ (Lds L))))), (a 8, .inl (g 0, 40, .inl (aI (nZ (Ldl L))))), (a 9, .inl (g 0, 40, .inl (aI (nZ (Ldi L))))),
   (a 10, .inl (g 0, 14, .inl (aI hs))), (a 11, .inl (g 0, 14, .inl (aI tm))), (a 12, .inl (g 1, 3, .inr (.inr (.inr (.inr (fun j => if j < 3 then some (a (13 + j)) else none)))))),
   (a 13, .inl (g 0, 200, .inl (aI (tk 0)))), (a 14, .inl (g 0, 200, .inl (aI (tk 1)))), (a 15, .inl (g 0, 200, .inl (aI (tk 2)))), (a 16, .inl (g 0, 14, .inl (aI lt)))]
def up2 (tk : Nat → Nat → Int) (k r : Nat) (v : Int) : Nat → Nat → Int := fun j => if j = k then upZ (tk k) r v else tk j
theorem wX_row {a : Nat → Nat} {g : Nat → ClassId} {L : LD} {att T : Nat} {hs tm : Nat → Int} {tk : Nat → Nat → Int} {lt : Nat → Int} {k : Nat} (h : k < 3) : (wX a g L att T hs tm tk lt)[13 + k]? = some (a (13 + k), .inl (g 0, 200, .inl (aI (tk k)))) := by
  match k, h with
  | 0, _ => rfl
  | 1, _ => rfl
  | 2, _ => rfl
theorem wX_put {a : Nat → Nat} {g : Nat → ClassId} {L : LD} {att T : Nat} {hs tm : Nat → Int} {tk : Nat → Nat → Int} {lt : Nat → Int} {k : Nat} (h : k < 3) (r : Nat) (v : Int) : (wX a g L att T hs tm tk lt).set (13 + k) (a (13 + k), .inl (g 0, 200, .inl (aI (upZ (tk k) r v)))) = wX a g L att T hs tm (up2 tk k r v) lt := by
  match k, h with
  | 0, _ => rfl
  | 1, _ => rfl
  | 2, _ => rfl

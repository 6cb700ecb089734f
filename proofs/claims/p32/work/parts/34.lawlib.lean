/-! THE CLAIM OUT OF ONE WALK OF THE LAW'S BODY. Your part is whole_start (and what it stands on); all else here is the same for every law, but numbers. -/
def R_law : String := "LoopSchedulerLaw"
def lw_P (b : Addr) (xs : List Int32) (args : Array Value) (s : State) : Prop := args = #[.ref b] ∧ s.IntsAt b xs ∧ xs.length ≤ 260 ∧ (Jvm.Cond.and given_1 narrow_1).before args s = true
def lw_Q (_ : Array Value) (s : State) (o : Outcome) (t : State) : Prop := o = .returned (some (.int 1)) ∧ Framed s o t [] 600104 7301314
def lw_Z (below : List Frame) (a : Array Value) (s : State) : State → Prop := fun t => ∃ o, t.status = .running ∧ Ended t below o ∧ lw_Q a s o t
/-- the law's own end, with 1 on the stack, nothing written that was there before, its room as the claim has it -/
theorem lw_ret {p : Program} {l : Launch} {e : Env} {s : State} {m : MethodId} {below : List Frame} {meth : Method} {c : Code} {b : Nat} (hx : p.tables.exec = Jvm.exec) (hb : c.code = code) (hr : meth.sig.returnType = ret) (hlocks : meth.locks = false) {pc : Nat} {H : Heap} {ls : Array Slot} (hdg : decode code pc = .ok (.ireturn, 1)) : W p l e room_1 s m #[Value.ref b] below meth c H [] 600104 7301314 (lw_Z below #[Value.ref b] s) (F0 m pc ls [.int 1]) := by
  intro T hT X
  obtain ⟨fs, hret, hrun, hended, hW, hframe⟩ := X.leave (v := some (.int 1)) (hlocks := hlocks) (fun h => by rw [hr] at h; cases h)
  have hmeth' : T.vm.method? m = some meth := X.method'
  refine ⟨T.setFrames fs, ?_, .returned (some (.int 1)), hrun, hended, rfl, ⟨_, rfl⟩, hW, hframe⟩
  jvm_step X.here [X.here.top, hx, hb, hdg, hmeth', hr, ret, narrow_b1]
  (try refine ⟨rfl, ?_⟩); (try refine ⟨rfl, ?_⟩)
  first | (intro acts; rw [hret _ acts rfl rfl rfl]) | rw [hret _ _ rfl rfl rfl]
  exact Steps.refl _
/-- what holds at the law's entry: the machine, the code, the tables' words (any of lw_tbl by 'hts w (by decide +kernel)'), the script of L ints xs at the cell b, what the Statement gives of the start (any of its parts by flat_of_before) -/
def lw_At (p : Program) (s : State) (m : MethodId) (meth : Method) (c : Code) (b L : Nat) (xs : Nat → Int32) : Prop :=
  p.tables.exec = Jvm.exec ∧ c.code = code ∧ meth.sig.returnType = ret ∧ c.maxLocals = 16 ∧ s.vm.findClass R_law = some m.cls ∧ (∀ w ∈ lw_tbl, w.before #[Value.ref b] s = true) ∧ va_X b L xs s s.heap ∧ b < s.heap.size ∧ meth.locks = false ∧ (Jvm.Cond.and given_1 narrow_1).before #[Value.ref b] s = true
theorem wj_v0 {D : va_G} {cl : List vw_C} {w : va_W} {H : Heap} (hP : va_P D cl (w ++ []) H) : va_P D cl w H := by rw [List.append_nil] at hP; exact hP
def yF : String → va_W → Prop := fun _ _ => False
def bPc (D : va_G) (tys : List (ClassId × FieldType)) (b Lx : Nat) (xs : Nat → Int32) (w0 : va_W) (av : List Value) (sz : Nat) : Array Value → State → Prop := va_Pc av (fun U => U.heap.size = sz ∧ va_P D vwCl w0 U.heap ∧ va_K D vwCl tys U ∧ va_D (fun _ => True) w0 ∧ xE (va_A w0 sz) U U.heap ∧ xV U ∧ va_X b Lx xs U U.heap ∧ b < U.heap.size ∧ ¬ va_A w0 sz b)
/-- a contract of the law's own methods: none throws, the script lies beside the world -/
def bMi (l : Launch) (D : va_G) (tys : List (ClassId × FieldType)) (y : MethodName) (ws : List Cond) (f lo k b Lx : Nat) (xs : Nat → Int32) (w0 : va_W) (av : List Value) (post : Int32 → va_W → Prop) : Prop := ∀ sz : Nat, vx_Met l y ws ({ frames := f, cells := k, slots := 6 * k, locals := lo }) (bPc D tys b Lx xs w0 av sz) (va_Qi post (zB D tys (va_A w0 sz)) (va_A w0 sz)) (xXC D tys (va_A w0 sz) yF) k (6 * k) (va_A w0 sz)
def bBody (l : Launch) (D : va_G) (tys : List (ClassId × FieldType)) (y : MethodName) (ws : List Cond) (rm : Room) (k b Lx : Nat) (xs : Nat → Int32) (w0 : va_W) (av : List Value) (cc : ByteArray) (maxL : Nat) (ret : Option FieldType) (Qc : (Nat → Prop) → Array Value → State → Outcome → State → Prop) : Prop :=
  ∀ (p : Program) (e : Env) (s : State) (m : MethodId) (args : Array Value) (below : List Frame) (meth : Method) (c : Code) (A : Nat → Prop) (ls : Array Slot), p.tables.exec = Jvm.exec → c.code = cc → meth.sig.returnType = ret → (∀ w ∈ ws, w.before args s = true) → s.vm.findClass y.cls = some m.cls → meth.locks = false → c.maxLocals = maxL → va_P D vwCl w0 s.heap → va_K D vwCl tys s → va_D A w0 → va_S A s.heap s.heap [] → (∀ q : Nat, s.heap.size ≤ q → A q) → lv_has ls maxL (lv_args 0 av) → xE A s s.heap → xV s → va_X b Lx xs s s.heap → b < s.heap.size → ¬ A b → ∀ Q : State → Prop, Q = vx_MQ below (Qc A) (xXC D tys A yF) args s k (6 * k) A → W p l e rm s m args below meth c s.heap [] 0 0 Q (F0 m 0 ls [])
theorem b_ofI {l : Launch} {D : va_G} {tys : List (ClassId × FieldType)} {y : MethodName} {ws ws' : List Cond} {f lo k b Lx : Nat} {xs : Nat → Int32} {w0 : va_W} {av : List Value} {cc : ByteArray} {maxL : Nat} {ret : Option FieldType} {post : Int32 → va_W → Prop} (hy : plainName y.cls = true) (hw : ws = Cond.code y cc maxL ret :: ws') (hav : (lg_sl av).length ≤ maxL)
    (body : bBody l D tys y ws ({ frames := f, cells := k, slots := 6 * k, locals := lo }) k b Lx xs w0 av cc maxL ret (fun A => va_Qi post (zB D tys A) A)) : bMi l D tys y ws f lo k b Lx xs w0 av post := by
  intro sz
  refine vx_ofW hy hw ?_
  intro p e s m args below meth c s₁ B hml htb hv
  obtain ⟨rfl, hsz, hP, hK, hD0, hE, hV, hX, hbl, hbn⟩ := hv
  subst hsz
  rw [lg_entry_eq]
  exact body p e s m av.toArray below meth c (va_A w0 s.heap.size) _ B.exec B.bytes B.returns (atoms_spec (ws := ws) B.pre) (findClass_of_methodNamed B.named) B.notSynchronized hml hP hK hD0.self va_S.rf (fun q h => Or.inr h) (lv_entry av hav) hE hV hX hbl hbn _ rfl
section LAWR
variable {p : Program} {l : Launch} {e : Env} {R : Room} {s : State} {m : MethodId} {args : Array Value} {below : List Frame} {meth : Method} {c : Code} {H : Heap} {locs : List Loc} {cells slots : Nat} {Q : State → Prop}
variable {cc : ByteArray} {pc : Nat} {ls : Array Slot} {rest st0 : List Value} {D : va_G} {A : Nat → Prop} {tys : List (ClassId × FieldType)} {u v w : va_W} {k b Lx : Nat} {xs : Nat → Int32} {av : List Value} {a : Array Value}
theorem b_blind {sz : Nat} : FrameBlind (bPc D tys b Lx xs w av sz) := fun a U g mk q => by
  obtain ⟨q0, q1, qP, qK, qD, qE, qV, qX, qb, qn⟩ := q
  exact ⟨q0, q1, qP, va_K.moved (u := U) (U := U.calling g mk a) (Vm.Alike.refl U.vm) qK, qD, xE.moved (u := U) (U := U.calling g mk a) (Vm.Alike.refl U.vm) qE, xV.same rfl qV, va_X.moved (u := U) (U := U.calling g mk a) (Vm.Alike.refl U.vm) qX, qb, qn⟩
theorem b_preS (hK : va_K D vwCl tys s) (hP : va_P D vwCl w H) (hD : va_D A w) (hS : va_S A s.heap H locs) (hA : ∀ q : Nat, s.heap.size ≤ q → A q) (hE : xE A s s.heap) (hV : xV s) (hX : va_X b Lx xs s s.heap) (hbl : b < s.heap.size) (hbA : ¬ A b) : PreS s H (bPc D tys b Lx xs w av H.size) av := ⟨b_blind, fun U hU hW => by
  obtain ⟨q1, qP, qK, qD, qE, qV⟩ := x_at hK hP hD hS hA hE hV hU hW
  exact ⟨rfl, q1, qP, qK, qD, qE, qV, by rw [hU]; exact (hX.kept (hS.2.1 b hbl hbA)).moved hW.alike, by rw [hU]; exact Nat.lt_of_lt_of_le hbl hS.1, fun q => hbA (z_free hD hS hA b q)⟩⟩
/-- a call that can't throw: the callee's world on the left -/
theorem j_callp {post : Int32 → va_W → Prop} {px : String → va_W → Prop} (hpx : ∀ (E : String) (u : va_W), px E u → False) (hr : vx_Run p l e R s m args below meth c H locs cells slots k (6 * k) (F0 m pc ls st0) rest (va_Qi post (zB D tys (va_A u H.size)) (va_A u H.size) a) (xXC D tys (va_A u H.size) px) (va_A u H.size)) (hS : va_S A s.heap H locs) (hP : va_P D vwCl (u ++ v) H) (hD : va_D A (u ++ v)) (hA : ∀ q : Nat, s.heap.size ≤ q → A q)
    (kk : ∀ (r : Int32) (u1 : va_W) (H1 : Heap) (locs1 : List Loc), post r u1 → va_P D vwCl (u1 ++ v) H1 → va_D A (u1 ++ v) → va_S A s.heap H1 locs1 → W p l e R s m args below meth c H1 locs1 (cells + k) (slots + 6 * k) Q (F0 m (pc + 3) ls (.int r :: rest))) : W p l e R s m args below meth c H locs cells slots Q (F0 m pc ls st0) := by
  refine vx_calli hr hS (fun q _ h => z_free (wj_dl hD) hS hA q h) (fun q h => z_free (wj_dl hD) hS hA q h) (fun q _ h => z_free (wj_dl hD) hS hA q h) (fun E ce q9 u1 t H1 locs1 _ _ _ hB _ _ _ _ _ _ => False.elim (hpx _ _ hB.1)) (fun r u1 t H1 locs1 ht _ hp hB _ hk hS1 => ?_)
  obtain ⟨hP1, _, hD1⟩ := hB
  rw [ht] at hP1
  obtain ⟨h1, h2⟩ := wj_join hP hD hk (fun q h => z_free (wj_dl hD) hS hA q h) hP1 hD1
  exact kk r u1 H1 locs1 hp h1 h2 hS1
/-- .. on the right -/
theorem j_callR {post : Int32 → va_W → Prop} (hr : vx_Run p l e R s m args below meth c H locs cells slots k (6 * k) (F0 m pc ls st0) rest (va_Qi post (zB D tys (va_A v H.size)) (va_A v H.size) a) (xXC D tys (va_A v H.size) yF) (va_A v H.size)) (hS : va_S A s.heap H locs) (hP : va_P D vwCl (u ++ v) H) (hD : va_D A (u ++ v)) (hA : ∀ q : Nat, s.heap.size ≤ q → A q)
    (kk : ∀ (r : Int32) (v1 : va_W) (H1 : Heap) (locs1 : List Loc), post r v1 → va_P D vwCl (u ++ v1) H1 → va_D A (u ++ v1) → va_S A s.heap H1 locs1 → W p l e R s m args below meth c H1 locs1 (cells + k) (slots + 6 * k) Q (F0 m (pc + 3) ls (.int r :: rest))) : W p l e R s m args below meth c H locs cells slots Q (F0 m pc ls st0) := by
  refine vx_calli hr hS (fun q _ h => z_free (wj_dr hD) hS hA q h) (fun q h => z_free (wj_dr hD) hS hA q h) (fun q _ h => z_free (wj_dr hD) hS hA q h) (fun E ce q9 u1 t H1 locs1 _ _ _ hB _ _ _ _ _ _ => False.elim hB.1) (fun r v1 t H1 locs1 ht _ hp hB _ hk hS1 => ?_)
  obtain ⟨hP1, _, hD1⟩ := hB
  rw [ht] at hP1
  obtain ⟨h1, h2⟩ := wj_join (wj_sp hP) (wj_sd hD) hk (fun q h => z_free (wj_dr hD) hS hA q h) hP1 hD1
  exact kk r v1 H1 locs1 hp (wj_sp h1) (wj_sd h2) hS1
/-- .. on the right, a method that can throw but does not here -/
theorem j_callQ {post : Int32 → va_W → Prop} {px : String → va_W → Prop} (hpx : ∀ (E : String) (u : va_W), px E u → False) (hr : vx_Run p l e R s m args below meth c H locs cells slots k (6 * k) (F0 m pc ls st0) rest (va_Qi post (zB D tys (va_A v H.size)) (va_A v H.size) a) (xXC D tys (va_A v H.size) px) (va_A v H.size)) (hS : va_S A s.heap H locs) (hP : va_P D vwCl (u ++ v) H) (hD : va_D A (u ++ v)) (hA : ∀ q : Nat, s.heap.size ≤ q → A q)
    (kk : ∀ (r : Int32) (v1 : va_W) (H1 : Heap) (locs1 : List Loc), post r v1 → va_P D vwCl (u ++ v1) H1 → va_D A (u ++ v1) → va_S A s.heap H1 locs1 → W p l e R s m args below meth c H1 locs1 (cells + k) (slots + 6 * k) Q (F0 m (pc + 3) ls (.int r :: rest))) : W p l e R s m args below meth c H locs cells slots Q (F0 m pc ls st0) := by
  refine vx_calli hr hS (fun q _ h => z_free (wj_dr hD) hS hA q h) (fun q h => z_free (wj_dr hD) hS hA q h) (fun q _ h => z_free (wj_dr hD) hS hA q h) (fun E ce q9 u1 t H1 locs1 _ _ _ hB _ _ _ _ _ _ => False.elim (hpx _ _ hB.1)) (fun r v1 t H1 locs1 ht _ hp hB _ hk hS1 => ?_)
  obtain ⟨hP1, _, hD1⟩ := hB
  rw [ht] at hP1
  obtain ⟨h1, h2⟩ := wj_join (wj_sp hP) (wj_sd hD) hk (fun q h => z_free (wj_dr hD) hS hA q h) hP1 hD1
  exact kk r v1 H1 locs1 hp (wj_sp h1) (wj_sd h2) hS1
/-- .. on the whole world -/
theorem j_callA {post : Int32 → va_W → Prop} (hr : vx_Run p l e R s m args below meth c H locs cells slots k (6 * k) (F0 m pc ls st0) rest (va_Qi post (zB D tys (va_A w H.size)) (va_A w H.size) a) (xXC D tys (va_A w H.size) yF) (va_A w H.size)) (hS : va_S A s.heap H locs) (hD : va_D A w) (hA : ∀ q : Nat, s.heap.size ≤ q → A q)
    (kk : ∀ (r : Int32) (w1 : va_W) (H1 : Heap) (locs1 : List Loc), post r w1 → va_P D vwCl w1 H1 → va_D A w1 → va_S A s.heap H1 locs1 → W p l e R s m args below meth c H1 locs1 (cells + k) (slots + 6 * k) Q (F0 m (pc + 3) ls (.int r :: rest))) : W p l e R s m args below meth c H locs cells slots Q (F0 m pc ls st0) := by
  refine vx_calli hr hS (fun q _ h => z_free hD hS hA q h) (fun q h => z_free hD hS hA q h) (fun q _ h => z_free hD hS hA q h) (fun E ce q9 u1 t H1 locs1 _ _ _ hB _ _ _ _ _ _ => False.elim hB.1) (fun r w1 t H1 locs1 ht _ hp hB _ _ hS1 => ?_)
  exact kk r w1 H1 locs1 hp (ht ▸ hB.1) (hB.2.2.weaken (fun _ q _ h => z_free hD hS hA q.1 h)) hS1
/-- 'cell' and its like: no world of its own -/
theorem j_call0 {post : Int32 → va_W → Prop} (hr : vx_Run p l e R s m args below meth c H locs cells slots 0 (6 * 0) (F0 m pc ls st0) rest (va_Qi post (zB D tys (va_A [] H.size)) (va_A [] H.size) a) (xXC D tys (va_A [] H.size) yF) (va_A [] H.size)) (hS : va_S A s.heap H locs) (hP : va_P D vwCl w H) (hD : va_D A w) (hA : ∀ q : Nat, s.heap.size ≤ q → A q) (hp0 : ∀ r u1, post r u1 → u1 = [])
    (kk : ∀ (r : Int32) (H1 : Heap) (locs1 : List Loc), post r [] → va_P D vwCl w H1 → va_D A w → va_S A s.heap H1 locs1 → W p l e R s m args below meth c H1 locs1 cells slots Q (F0 m (pc + 3) ls (.int r :: rest))) : W p l e R s m args below meth c H locs cells slots Q (F0 m pc ls st0) := by
  refine j_callp (u := []) (v := w) (px := yF) (fun _ _ h => h) hr hS hP hD hA (fun r u1 H1 locs1 hp hP hD hS => ?_)
  have e := hp0 r u1 hp
  subst e
  exact kk r H1 locs1 hp hP hD hS
theorem b_nil {A : Nat → Prop} : va_D A [] := ⟨fun i j p q h => by simp at h, fun k q h => by simp at h⟩
theorem b_nilP : va_P D vwCl [] H := fun k q h => by simp at h
theorem b_iret {post : Int32 → va_W → Prop} {v : Int32} (hQ : Q = vx_MQ below (va_Qi post (zB D tys A) A) (xXC D tys A yF) args s k (6 * k) A) (hx : p.tables.exec = Jvm.exec) (hb : c.code = cc) (hr : meth.sig.returnType = some .int) (hlocks : meth.locks = false) (hp : post v w) (hK : va_K D vwCl tys s) (hP : va_P D vwCl w H) (hD : va_D A w) (hS : va_S A s.heap H locs) (hc : cells ≤ k) (hs : slots ≤ 6 * k) (hdg : decode cc pc = .ok (.ireturn, 1)) : W p l e R s m args below meth c H locs cells slots Q (F0 m pc ls [.int v]) := x_iret hQ hx hb hr hlocks hp hK hP hD hS hc hs hdg
end LAWR
/-! cells of the script, and what is taken of them -/
def bel (v : Int32) (n : Nat) : Nat := (v &&& 2147483647).toInt.toNat % n
theorem and_nn (v : Int32) : 0 ≤ (v &&& 2147483647).toInt := by
  have h : (v &&& 2147483647).toBitVec.msb = false := by
    rw [Int32.toBitVec_and, BitVec.msb_and]
    have h2 : (2147483647 : Int32).toBitVec.msb = false := by decide
    rw [h2, Bool.and_false]
  rw [← Int32.toInt_toBitVec]
  rw [BitVec.msb_eq_toInt] at h
  have h3 := of_decide_eq_false h
  omega
theorem bel_lt (v : Int32) {n : Nat} (hn : 0 < n) : bel v n < n := Nat.mod_lt _ hn
theorem bel_e (v : Int32) {n : Nat} (hn : 0 < n ∧ n ≤ 1000) : (v &&& 2147483647) - (v &&& 2147483647) / iI ((n : Nat) : Int) * iI ((n : Nat) : Int) = iI ((bel v n : Nat) : Int) := by
  have h1 := and_nn v
  have h2 := Int32.toInt_lt (v &&& 2147483647)
  have e : v &&& 2147483647 = iI ((v &&& 2147483647).toInt) := (iI_self _).symm
  have h3 : (v &&& 2147483647).toInt % ((n : Nat) : Int) = ((bel v n : Nat) : Int) := by
    unfold bel
    rw [Int.natCast_emod, Int.toNat_of_nonneg h1]
  rw [← h3, ← iI_rem (a := (v &&& 2147483647).toInt) (b := ((n : Nat) : Int)) ⟨⟨h1, by omega⟩, by omega, by omega⟩, ← e]
def cellF (Lx : Nat) (xs : Nat → Int32) (k : Nat) : Int32 := if k < Lx then xs k else iI (790386105 * (((k : Nat) : Int) + 3))

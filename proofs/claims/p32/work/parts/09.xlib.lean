def nIA : String := "java/lang/IllegalArgumentException"
def nIS : String := "java/lang/IllegalStateException"
def nIX : String := "java/lang/IndexOutOfBoundsException"
abbrev nms : List String := ["java/lang/RuntimeException", "java/lang/Exception"]
def xStr : List (Nat × String) := [(47, "kind is not 0 to 2"), (212, "delay is not 0 to 12"), (220, "there is no schedule"), (104, "greatest is not 1 to 200"), (214, "n is not 1 to 1000"), (31, "units is not 1 to 3"), (218, "no such operation"), (126, "time is not 0 to 1000"), (70, "distance is not 0 to 3"), (49, "busy is not 1 to 4"), (75, "there are 40 dependences"), (57, "there are 14 operations"), (216, "cycle is negative")]
def xV (U : State) : Prop := (va_Nw (.declares (Bundle.initS "java/lang/RuntimeException")) U ∧ va_Nw (.declares (Bundle.initS "java/lang/Exception")) U ∧ va_Nw (.declares (Bundle.initS Bundle.tN)) U ∧ va_Nw (.castable nIA nIA) U ∧ va_Nw (.castable nIS nIS) U ∧ va_Nw (.castable nIX nIX) U) ∧ ∀ q ∈ xStr, ∃ sa : Nat, vk_R RX2 q.1 q.2 sa U
theorem xV.warm {s U : State} (hW : s.WarmedH U.vm) (h : xV s) : xV U :=
  ⟨⟨h.1.1.warmD hW, h.1.2.1.warmD hW, h.1.2.2.1.warmD hW, h.1.2.2.2.1.warmC hW, h.1.2.2.2.2.1.warmC hW, h.1.2.2.2.2.2.warmC hW⟩, fun q hq => by obtain ⟨sa, h9⟩ := h.2 q hq; exact ⟨sa, h9.warm hW⟩⟩
theorem xV.same {u U : State} (hv : U.vm = u.vm) (h : xV u) : xV U :=
  ⟨⟨va_Nw.same rfl hv.symm h.1.1, va_Nw.same rfl hv.symm h.1.2.1, va_Nw.same rfl hv.symm h.1.2.2.1, va_Nw.same rfl hv.symm h.1.2.2.2.1, va_Nw.same rfl hv.symm h.1.2.2.2.2.1, va_Nw.same rfl hv.symm h.1.2.2.2.2.2⟩, fun q hq => by obtain ⟨sa, h9⟩ := h.2 q hq; exact ⟨sa, h9.same hv⟩⟩
def xE (A : Nat → Prop) (U : State) (H : Heap) : Prop := vx_Zq Bundle.tN "UNASSIGNED_STACK" Bundle.steD A U H ∧ vx_Zq Bundle.tN "SUPPRESSED_SENTINEL" Bundle.listD A U H
theorem xE.moved {A : Nat → Prop} {u U : State} {H : Heap} (hvm : u.vm.Alike U.vm) (h : xE A u H) : xE A U H := ⟨h.1.moved hvm, h.2.moved hvm⟩
theorem xE.kept {A : Nat → Prop} {U : State} {H H1 : Heap} (h : xE A U H) (hq : ∀ a : Nat, a < H.size → ¬ A a → H1[a]? = H[a]?) : xE A U H1 := ⟨h.1.kept hq, h.2.kept hq⟩
theorem xE.narrow {A B : Nat → Prop} {U : State} {H : Heap} (h : xE A U H) (hAB : ∀ q, B q → A q) : xE B U H := ⟨h.1.narrow hAB, h.2.narrow hAB⟩
def xPc (D : va_G) (tys : List (ClassId × FieldType)) (w0 : va_W) (av : List Value) (sz : Nat) : Array Value → State → Prop := va_Pc av (fun U => U.heap.size = sz ∧ va_P D vwCl w0 U.heap ∧ va_K D vwCl tys U ∧ va_D (fun _ => True) w0 ∧ xE (va_A w0 sz) U U.heap ∧ xV U)
def xXC (D : va_G) (tys : List (ClassId × FieldType)) (A : Nat → Prop) (px : String → va_W → Prop) : String → State → State → Prop := vx_X (fun _ : va_W => True) (fun E u t => px E u ∧ zB D tys A u t) A
def xMi (l : Launch) (D : va_G) (tys : List (ClassId × FieldType)) (y : MethodName) (ws : List Cond) (f lo k : Nat) (w0 : va_W) (av : List Value) (post : Int32 → va_W → Prop) (px : String → va_W → Prop) : Prop := ∀ sz : Nat, vx_Met l y ws ({ frames := f, cells := k, slots := 6 * k, locals := lo }) (xPc D tys w0 av sz) (va_Qi post (zB D tys (va_A w0 sz)) (va_A w0 sz)) (xXC D tys (va_A w0 sz) px) k (6 * k) (va_A w0 sz)
def xMv (l : Launch) (D : va_G) (tys : List (ClassId × FieldType)) (y : MethodName) (ws : List Cond) (f lo k : Nat) (w0 : va_W) (av : List Value) (post : va_W → Prop) (px : String → va_W → Prop) : Prop := ∀ sz : Nat, vx_Met l y ws ({ frames := f, cells := k, slots := 6 * k, locals := lo }) (xPc D tys w0 av sz) (va_Qv post (zB D tys (va_A w0 sz)) (va_A w0 sz)) (xXC D tys (va_A w0 sz) px) k (6 * k) (va_A w0 sz)
def xBody (l : Launch) (D : va_G) (tys : List (ClassId × FieldType)) (y : MethodName) (ws : List Cond) (rm : Room) (k : Nat) (w0 : va_W) (av : List Value) (cc : ByteArray) (maxL : Nat) (ret : Option FieldType) (Qc : (Nat → Prop) → Array Value → State → Outcome → State → Prop) (px : String → va_W → Prop) : Prop :=
  ∀ (p : Program) (e : Env) (s : State) (m : MethodId) (args : Array Value) (below : List Frame) (meth : Method) (c : Code) (A : Nat → Prop) (ls : Array Slot), p.tables.exec = Jvm.exec → c.code = cc → meth.sig.returnType = ret → (∀ w ∈ ws, w.before args s = true) → s.vm.findClass y.cls = some m.cls → meth.locks = false → c.maxLocals = maxL → va_P D vwCl w0 s.heap → va_K D vwCl tys s → va_D A w0 → va_S A s.heap s.heap [] → (∀ q : Nat, s.heap.size ≤ q → A q) → lv_has ls maxL (lv_args 0 av) → xE A s s.heap → xV s → (∀ x ∈ c.exceptionTable.toList, False) → ∀ Q : State → Prop, Q = vx_MQ below (Qc A) (xXC D tys A px) args s k (6 * k) A → W p l e rm s m args below meth c s.heap [] 0 0 Q (F0 m 0 ls [])
theorem x_of {l : Launch} {D : va_G} {tys : List (ClassId × FieldType)} {y : MethodName} {ws ws' : List Cond} {f lo k : Nat} {w0 : va_W} {av : List Value} {cc : ByteArray} {maxL : Nat} {ret : Option FieldType} {px : String → va_W → Prop} (Qc : (Nat → Prop) → Array Value → State → Outcome → State → Prop) (hy : plainName y.cls = true) (hw : ws = Cond.code y cc maxL ret :: ws') (hav : (lg_sl av).length ≤ maxL)
    (body : xBody l D tys y ws ({ frames := f, cells := k, slots := 6 * k, locals := lo }) k w0 av cc maxL ret Qc px) (sz : Nat) : vx_Met l y ws ({ frames := f, cells := k, slots := 6 * k, locals := lo }) (xPc D tys w0 av sz) (Qc (va_A w0 sz)) (xXC D tys (va_A w0 sz) px) k (6 * k) (va_A w0 sz) := by
  refine vx_ofW hy hw ?_
  intro p e s m args below meth c s₁ B hml htb hv
  obtain ⟨rfl, hsz, hP, hK, hD0, hE, hV⟩ := hv
  subst hsz
  rw [lg_entry_eq]
  exact body p e s m av.toArray below meth c (va_A w0 s.heap.size) _ B.exec B.bytes B.returns (atoms_spec (ws := ws) B.pre) (findClass_of_methodNamed B.named) B.notSynchronized hml hP hK hD0.self va_S.rf (fun q h => Or.inr h) (lv_entry av hav) hE hV htb _ rfl
theorem x_ofI {l : Launch} {D : va_G} {tys : List (ClassId × FieldType)} {y : MethodName} {ws ws' : List Cond} {f lo k : Nat} {w0 : va_W} {av : List Value} {cc : ByteArray} {maxL : Nat} {ret : Option FieldType} {post : Int32 → va_W → Prop} {px : String → va_W → Prop} (hy : plainName y.cls = true) (hw : ws = Cond.code y cc maxL ret :: ws') (hav : (lg_sl av).length ≤ maxL)
    (body : xBody l D tys y ws ({ frames := f, cells := k, slots := 6 * k, locals := lo }) k w0 av cc maxL ret (fun A => va_Qi post (zB D tys A) A) px) : xMi l D tys y ws f lo k w0 av post px := x_of (fun A => va_Qi post (zB D tys A) A) hy hw hav body
theorem x_ofV {l : Launch} {D : va_G} {tys : List (ClassId × FieldType)} {y : MethodName} {ws ws' : List Cond} {f lo k : Nat} {w0 : va_W} {av : List Value} {cc : ByteArray} {maxL : Nat} {ret : Option FieldType} {post : va_W → Prop} {px : String → va_W → Prop} (hy : plainName y.cls = true) (hw : ws = Cond.code y cc maxL ret :: ws') (hav : (lg_sl av).length ≤ maxL)
    (body : xBody l D tys y ws ({ frames := f, cells := k, slots := 6 * k, locals := lo }) k w0 av cc maxL ret (fun A => va_Qv post (zB D tys A) A) px) : xMv l D tys y ws f lo k w0 av post px := x_of (fun A => va_Qv post (zB D tys A) A) hy hw hav body
theorem xg_IA : ∀ w ∈ Cond.classLink RX2 29 nIA :: Cond.initialized nIA :: vx_atS RX2 33 nIA nms, vx_ot w = true := by decide +kernel
theorem xg_IS : ∀ w ∈ Cond.classLink RX2 55 nIS :: Cond.initialized nIS :: vx_atS RX2 59 nIS nms, vx_ot w = true := by decide +kernel
theorem xg_IX : ∀ w ∈ Cond.classLink RX2 81 nIX :: Cond.initialized nIX :: vx_atS RX2 85 nIX nms, vx_ot w = true := by decide +kernel
def xBl (X : String) : List Cond := [.declares (Bundle.initS "java/lang/RuntimeException"), .declares (Bundle.initS "java/lang/Exception"), .declares (Bundle.initS Bundle.tN), .castable X X]
theorem xb_IA : ∀ w ∈ (vx_atS RX2 33 nIA nms).filter (fun w => !goodWord w), w ∈ xBl nIA := by decide +kernel
theorem xb_IS : ∀ w ∈ (vx_atS RX2 59 nIS nms).filter (fun w => !goodWord w), w ∈ xBl nIS := by decide +kernel
theorem xb_IX : ∀ w ∈ (vx_atS RX2 85 nIX nms).filter (fun w => !goodWord w), w ∈ xBl nIX := by decide +kernel
theorem xBl_of {s : State} {args : Array Value} {X : String} (hV : xV s) (h : va_Nw (.castable X X) s) : ∀ w ∈ xBl X, w.before args s = true := by
  intro w hw
  unfold xBl at hw
  simp only [List.mem_cons, List.not_mem_nil, or_false] at hw
  rcases hw with rfl | rfl | rfl | rfl
  · exact va_Nw.use rfl hV.1.1
  · exact va_Nw.use rfl hV.1.2.1
  · exact va_Nw.use rfl hV.1.2.2.1
  · exact va_Nw.use rfl h
section XL
variable {p : Program} {l : Launch} {e : Env} {R : Room} {s : State} {m : MethodId} {args : Array Value} {below : List Frame} {meth : Method} {c : Code} {H : Heap} {locs : List Loc} {cells slots : Nat} {Q : State → Prop}
variable {cc : ByteArray} {pc : Nat} {ls : Array Slot} {rest st0 : List Value} {D : va_G} {A : Nat → Prop} {tys : List (ClassId × FieldType)} {w : va_W} {ad k nL : Nat} {av As : List Value} {px : String → va_W → Prop} {Qc : Array Value → State → Outcome → State → Prop}
theorem x_blind {sz : Nat} : FrameBlind (xPc D tys w av sz) := fun a U g mk q => by
  obtain ⟨q0, q1, qP, qK, qD, qE, qV⟩ := q
  exact ⟨q0, q1, qP, va_K.moved (u := U) (U := U.calling g mk a) (Vm.Alike.refl U.vm) qK, qD, xE.moved (u := U) (U := U.calling g mk a) (Vm.Alike.refl U.vm) qE, xV.same rfl qV⟩
theorem x_at {U : State} (hK : va_K D vwCl tys s) (hP : va_P D vwCl w H) (hD : va_D A w) (hS : va_S A s.heap H locs) (hA : ∀ q : Nat, s.heap.size ≤ q → A q) (hE : xE A s s.heap) (hV : xV s) (hU : U.heap = H) (hW : s.WarmedH U.vm) : U.heap.size = H.size ∧ va_P D vwCl w U.heap ∧ va_K D vwCl tys U ∧ va_D (fun _ => True) w ∧ xE (va_A w H.size) U U.heap ∧ xV U :=
  ⟨by rw [hU], by rw [hU]; exact hP, va_K.moved hW.alike hK, hD.weaken (fun _ _ _ _ => trivial), by rw [hU]; exact xE.moved hW.alike ((hE.kept hS.2.1).narrow (z_free hD hS hA)), hV.warm hW⟩
theorem x_preS (hK : va_K D vwCl tys s) (hP : va_P D vwCl w H) (hD : va_D A w) (hS : va_S A s.heap H locs) (hA : ∀ q : Nat, s.heap.size ≤ q → A q) (hE : xE A s s.heap) (hV : xV s) : PreS s H (xPc D tys w av H.size) av :=
  ⟨x_blind, fun _ hU hW => ⟨rfl, x_at hK hP hD hS hA hE hV hU hW⟩⟩
theorem x_preV {C : String} {T : u_T} {N b ci : Nat} {fs : List Value} (q0 : Nat) (hK : va_K D vwCl tys s) (hP : va_P D vwCl w H) (hD : va_D A w) (hS : va_S A s.heap H locs) (hA : ∀ q : Nat, s.heap.size ≤ q → A q) (hE : xE A s s.heap) (hV : xV s) (hc : vwCl[ci]? = some (C, T, N)) (he : w[q0]? = some (b, .inr (ci, fs))) : PreV s H C b (xPc D tys w (.ref b :: As) H.size) As :=
  ⟨x_blind, va_recv hK hP hc he, fun _ hU hW => ⟨rfl, x_at hK hP hD hS hA hE hV hU hW⟩⟩
theorem x_iret {post : Int32 → va_W → Prop} {v : Int32} (hQ : Q = vx_MQ below (va_Qi post (zB D tys A) A) (xXC D tys A px) args s k (6 * k) A) (hx : p.tables.exec = Jvm.exec) (hb : c.code = cc) (hr : meth.sig.returnType = some .int) (hlocks : meth.locks = false) (hp : post v w) (hK : va_K D vwCl tys s) (hP : va_P D vwCl w H) (hD : va_D A w) (hS : va_S A s.heap H locs) (hc : cells ≤ k) (hs : slots ≤ 6 * k) (hdg : decode cc pc = .ok (.ireturn, 1)) : W p l e R s m args below meth c H locs cells slots Q (F0 m pc ls [.int v]) := by
  subst hQ
  refine vx_ret (W.widen hc hs ?_)
  exact W.iret hx hb hr (fun t ht hW => ⟨⟨v, w, rfl, hp, by rw [ht]; exact hP, va_K.moved hW.alike hK, hD⟩, hS.F ht⟩) hS.2.2 hdg hlocks
theorem x_zret {post : Int32 → va_W → Prop} {v : Int32} (hn : narrow .boolean (.int v) = .int v) (hQ : Q = vx_MQ below (va_Qi post (zB D tys A) A) (xXC D tys A px) args s k (6 * k) A) (hx : p.tables.exec = Jvm.exec) (hb : c.code = cc) (hr : meth.sig.returnType = some .boolean) (hlocks : meth.locks = false) (hp : post v w) (hK : va_K D vwCl tys s) (hP : va_P D vwCl w H) (hD : va_D A w) (hS : va_S A s.heap H locs) (hc : cells ≤ k) (hs : slots ≤ 6 * k) (hdg : decode cc pc = .ok (.ireturn, 1)) : W p l e R s m args below meth c H locs cells slots Q (F0 m pc ls [.int v]) := by
  subst hQ
  refine vx_ret (W.widen hc hs ?_)
  exact W.zret hx hb hr hn (fun t ht hW => ⟨⟨v, w, rfl, hp, by rw [ht]; exact hP, va_K.moved hW.alike hK, hD⟩, hS.F ht⟩) hS.2.2 hdg hlocks
theorem x_vret {post : va_W → Prop} (hQ : Q = vx_MQ below (va_Qv post (zB D tys A) A) (xXC D tys A px) args s k (6 * k) A) (hx : p.tables.exec = Jvm.exec) (hb : c.code = cc) (hr : meth.sig.returnType = none) (hlocks : meth.locks = false) (hp : post w) (hK : va_K D vwCl tys s) (hP : va_P D vwCl w H) (hD : va_D A w) (hS : va_S A s.heap H locs) (hc : cells ≤ k) (hs : slots ≤ 6 * k) (hdg : decode cc pc = .ok (.return_, 1)) : W p l e R s m args below meth c H locs cells slots Q (F0 m pc ls []) := by
  subst hQ
  refine vx_ret (W.widen hc hs ?_)
  exact W.vret hx hb hr (fun t ht hW => ⟨⟨w, rfl, hp, by rw [ht]; exact hP, va_K.moved hW.alike hK, hD⟩, hS.F ht⟩) hS.2.2 hdg hlocks
theorem x_callv {post : va_W → Prop} {pxc : String → va_W → Prop} {a : Array Value} {mc : Nat} (hQ : Q = vx_MQ below Qc (xXC D tys A px) args s k (6 * k) A) (hpx : ∀ (E : String) (u : va_W), pxc E u → px E u) (htb : ∀ x ∈ c.exceptionTable.toList, False) (hlocks : meth.locks = false) (hc : cells + mc ≤ k) (hs : slots + 6 * mc ≤ 6 * k)
    (hr : vx_Run p l e R s m args below meth c H locs cells slots mc (6 * mc) (F0 m pc ls st0) rest (va_Qv post (zB D tys (va_A w H.size)) (va_A w H.size) a) (xXC D tys (va_A w H.size) pxc) (va_A w H.size)) (hS : va_S A s.heap H locs) (hD : va_D A w) (hA : ∀ q : Nat, s.heap.size ≤ q → A q)
    (kk : ∀ (w1 : va_W) (H1 : Heap) (locs1 : List Loc), post w1 → va_P D vwCl w1 H1 → va_D A w1 → va_S A s.heap H1 locs1 → W p l e R s m args below meth c H1 locs1 (cells + mc) (slots + 6 * mc) Q (F0 m (pc + 3) ls rest)) : W p l e R s m args below meth c H locs cells slots Q (F0 m pc ls st0) := by
  subst hQ
  refine vx_callv hr hS (fun q _ h => z_free hD hS hA q h) (fun q h => z_free hD hS hA q h) (fun q _ h => z_free hD hS hA q h) ?_ ?_
  · intro E ce q9 u t H1 locs1 ht hvm _ hB hz hkeep hS1 hcell hv hcl
    obtain ⟨hpu, hP1, hK1, hD1⟩ := hB
    refine vx_out (fun x hx => (htb x hx).elim) hlocks hcell hv hcl ?_ hS1.2.2 hc hs
    intro t2 ht2 hvm2
    exact ⟨u, trivial, ⟨hpx E u hpu, by rw [ht2, ← ht]; exact hP1, va_K.moved (hvm.symm.trans hvm2) hK1, hD1.weaken (fun _ q _ h => z_free hD hS hA q.1 h)⟩, hS1.F ht2⟩
  · intro u t H1 locs1 ht _ hp hB _ _ hS1
    exact kk u H1 locs1 hp (ht ▸ hB.1) (hB.2.2.weaken (fun _ q _ h => z_free hD hS hA q.1 h)) hS1
theorem x_throw {cls text : String} {ik is ic : Nat} (hl : l.stackTraces = false) (hQ : Q = vx_MQ below Qc (xXC D tys A px) args s k (6 * k) A) (hpx : px cls w) (htb : ∀ x ∈ c.exceptionTable.toList, False) (hlocks : meth.locks = false) (hx : p.tables.exec = Jvm.exec) (hb : c.code = cc) (hown : s.vm.findClass RX2 = some m.cls) (hml : c.maxLocals = nL) (hls : ls.size = nL) (hcls : Bundle.fit cls = true) (hk : (Cond.classLink RX2 ik cls).before args s = true) (hini : (Cond.initialized cls).before args s = true) (hat1 : ∀ w ∈ (vx_atS RX2 ic cls nms).filter goodWord, w.before args s = true) (hat2 : ∀ w ∈ (vx_atS RX2 ic cls nms).filter (fun w => !goodWord w), w ∈ xBl cls) (hcast : va_Nw (.castable cls cls) s)
    (hgood : ∀ w ∈ Cond.classLink RX2 ik cls :: Cond.initialized cls :: vx_atS RX2 ic cls nms, vx_ot w = true) (hE : xE A s s.heap) (hV : xV s) (hstr : (is, text) ∈ xStr) (hK : va_K D vwCl tys s) (hP : va_P D vwCl w H) (hD : va_D A w) (hS : va_S A s.heap H locs)
    (d0 : decode cc pc = .ok (.new ik, 3)) (d3 : decode cc (pc + 3) = .ok (.dup, 1)) (d4 : decode cc (pc + 4) = .ok (.ldc is, 2)) (d6 : decode cc (pc + 6) = .ok (.invokespecial ic, 3)) (d9 : decode cc (pc + 9) = .ok (.athrow, 1)) (hRf : 5 < R.frames) (hRl : 82 ≤ R.locals) (hRc : cells + 1 ≤ R.cells) (hRs : slots + 6 ≤ R.slots) (hc : cells + 1 ≤ k) (hs : slots + 6 ≤ 6 * k) : W p l e R s m args below meth c H locs cells slots Q (F0 m pc ls []) := by
  subst hQ
  obtain ⟨sa, hsa⟩ := hV.2 _ hstr
  refine vx_throwS (names := nms) (ik := ik) (is := is) (ic := ic) (text := text) (A := A) hx hb hl hown hcls (by decide) hk hini hsa (vx_hat hat1 hat2 (xBl_of hV hcast)) hgood hE.1 hE.2 hS (hls.trans hml.symm) d0 d3 d4 d6 d9 (fun x hx => (htb x hx).elim) (by show 2 + 3 < _; exact hRf) (by show 0 + (13 * (2 + 1) + 43) ≤ _; omega) hRc hRs hlocks ?_ hS.2.2 hc hs
  intro t hvm hz hkeep
  refine ⟨w, trivial, ⟨hpx, hP.kept (fun k9 q hq => hkeep q.1 (hP k9 q hq).lt), va_K.moved hvm hK, hD⟩, Nat.le_trans hS.1 hz, fun q h1 h2 => ?_⟩
  rw [hkeep q (Nat.lt_of_lt_of_le h1 hS.1)]
  exact hS.2.1 q h1 h2
end XL

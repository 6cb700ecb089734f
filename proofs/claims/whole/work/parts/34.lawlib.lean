/-! THE CLAIM OUT OF ONE WALK OF THE LAW'S BODY. Your part is whole_start (and what it stands on); all else here is the same for every law, but numbers. -/
def R_law : String := "LoopSchedulerLaw"
def lw_P (b : Addr) (xs : List Int32) (args : Array Value) (s : State) : Prop := args = #[.ref b] ∧ s.IntsAt b xs ∧ xs.length ≤ 2560 ∧ (Jvm.Cond.and given_1 narrow_1).before args s = true
def lw_Q (_ : Array Value) (s : State) (o : Outcome) (t : State) : Prop := o = .returned (some (.int 1)) ∧ Framed s o t [] 601024 7293034
def lw_Z (below : List Frame) (a : Array Value) (s : State) : State → Prop := fun t => ∃ o, t.status = .running ∧ Ended t below o ∧ lw_Q a s o t
/-- the law's own end, with 1 on the stack, nothing written that was there before, its room as the claim has it -/
theorem lw_ret {p : Program} {l : Launch} {e : Env} {s : State} {m : MethodId} {below : List Frame} {meth : Method} {c : Code} {b : Nat} (hx : p.tables.exec = Jvm.exec) (hb : c.code = code) (hr : meth.sig.returnType = ret) (hlocks : meth.locks = false) {pc : Nat} {H : Heap} {ls : Array Slot} (hdg : decode code pc = .ok (.ireturn, 1)) : W p l e room_1 s m #[Value.ref b] below meth c H [] 601024 7293034 (lw_Z below #[Value.ref b] s) (F0 m pc ls [.int 1]) := by
  intro T hT X
  obtain ⟨fs, hret, hrun, hended, hW, hframe⟩ := X.leave (v := some (.int 1)) (hlocks := hlocks) (fun h => by rw [hr] at h; cases h)
  have hmeth' : T.vm.method? m = some meth := X.method'
  refine ⟨T.setFrames fs, ?_, .returned (some (.int 1)), hrun, hended, rfl, ⟨_, rfl⟩, hW, hframe⟩
  jvm_step X.here [X.here.top, hx, hb, hdg, hmeth', hr, ret, narrow_b1]
  (try refine ⟨rfl, ?_⟩); (try refine ⟨rfl, ?_⟩)
  first | (intro acts; rw [hret _ acts rfl rfl rfl]) | rw [hret _ _ rfl rfl rfl]
  exact Steps.refl _
/-- what holds at the law's entry: the machine, the code, the tables' words (any of lw_tbl by 'hts w (by decide +kernel)'), the script of L ints xs at the cell b, what the Statement gives of the start (any of its parts by flat_of_before) -/
def lw_At (p : Program) (s : State) (m : MethodId) (meth : Method) (c : Code) (b L : Nat) (xs : Nat → Int32) : Prop :=
  p.tables.exec = Jvm.exec ∧ c.code = code ∧ meth.sig.returnType = ret ∧ c.maxLocals = 7 ∧ s.vm.findClass R_law = some m.cls ∧ (∀ w ∈ lw_tbl, w.before #[Value.ref b] s = true) ∧ va_X b L xs s s.heap ∧ b < s.heap.size ∧ meth.locks = false ∧ (Jvm.Cond.and given_1 narrow_1).before #[Value.ref b] s = true

section LAWR
variable {p : Program} {l : Launch} {e : Env} {R : Room} {s : State} {m : MethodId} {args : Array Value} {below : List Frame} {meth : Method} {c : Code} {H : Heap} {locs : List Loc} {cells slots : Nat} {Q : State → Prop}
variable {cc : ByteArray} {pc : Nat} {ls : Array Slot} {rest st0 : List Value} {D : va_G} {A : Nat → Prop} {tys : List (ClassId × FieldType)} {u v w : va_W} {k : Nat} {av : List Value} {a : Array Value}
theorem y_blind {sz : Nat} : FrameBlind (yPc D tys w av sz) := fun a U g mk q => by
  obtain ⟨q0, q1, qP, qK, qD, qE, qV, qN⟩ := q
  exact ⟨q0, q1, qP, va_K.moved (u := U) (U := U.calling g mk a) (Vm.Alike.refl U.vm) qK, qD, xE.moved (u := U) (U := U.calling g mk a) (Vm.Alike.refl U.vm) qE, xV.same rfl qV, yN.moved (u := U) (U := U.calling g mk a) (Vm.Alike.refl U.vm) qN⟩
theorem y_preS (hK : va_K D vwCl tys s) (hP : va_P D vwCl u H) (hD : va_D A u) (hS : va_S A s.heap H locs) (hA : ∀ q : Nat, s.heap.size ≤ q → A q) (hE : xE A s s.heap) (hV : xV s) (hN : yN s) : PreS s H (yPc D tys u av H.size) av := ⟨y_blind, fun U hU hW => by
  obtain ⟨q1, qP, qK, qD, qE, qV⟩ := x_at hK hP hD hS hA hE hV hU hW
  exact ⟨rfl, q1, qP, qK, qD, qE, qV, hN.moved hW.alike⟩⟩
theorem j_calli {post : Int32 → va_W → Prop} (hr : va_Run p l e R s m args below meth c H locs cells slots 0 0 (F0 m pc ls st0) rest (va_Qi post (zB D tys (va_A v H.size)) (va_A v H.size) a) (va_A v H.size)) (hS : va_S A s.heap H locs) (hP : va_P D vwCl (u ++ v) H) (hD : va_D A (u ++ v)) (hA : ∀ q : Nat, s.heap.size ≤ q → A q)
    (kk : ∀ (r : Int32) (v1 : va_W) (H1 : Heap) (locs1 : List Loc), post r v1 → va_P D vwCl (u ++ v1) H1 → va_D A (u ++ v1) → va_S A s.heap H1 locs1 → W p l e R s m args below meth c H1 locs1 cells slots Q (F0 m (pc + 3) ls (.int r :: rest))) : W p l e R s m args below meth c H locs cells slots Q (F0 m pc ls st0) := by
  refine va_calli hr hS (fun q _ h => z_free (wj_dr hD) hS hA q h) (fun q h => z_free (wj_dr hD) hS hA q h) (fun r v1 t H1 locs1 ht _ hp hB _ hk hS1 => ?_)
  obtain ⟨hP1, _, hD1⟩ := hB
  rw [ht] at hP1
  obtain ⟨h1, h2⟩ := wj_join (wj_sp hP) (wj_sd hD) hk (fun q h => z_free (wj_dr hD) hS hA q h) hP1 hD1
  exact kk r v1 H1 locs1 hp (wj_sp h1) (wj_sd h2) hS1
theorem j_calll {post : Int64 → va_W → Prop} (hr : va_Run p l e R s m args below meth c H locs cells slots 0 0 (F0 m pc ls st0) rest (va_Ql post (zB D tys (va_A v H.size)) (va_A v H.size) a) (va_A v H.size)) (hS : va_S A s.heap H locs) (hP : va_P D vwCl (u ++ v) H) (hD : va_D A (u ++ v)) (hA : ∀ q : Nat, s.heap.size ≤ q → A q)
    (kk : ∀ (r : Int64) (v1 : va_W) (H1 : Heap) (locs1 : List Loc), post r v1 → va_P D vwCl (u ++ v1) H1 → va_D A (u ++ v1) → va_S A s.heap H1 locs1 → W p l e R s m args below meth c H1 locs1 cells slots Q (F0 m (pc + 3) ls (.long r :: rest))) : W p l e R s m args below meth c H locs cells slots Q (F0 m pc ls st0) := by
  refine va_calll hr hS (fun q _ h => z_free (wj_dr hD) hS hA q h) (fun q h => z_free (wj_dr hD) hS hA q h) (fun r v1 t H1 locs1 ht _ hp hB _ hk hS1 => ?_)
  obtain ⟨hP1, _, hD1⟩ := hB
  rw [ht] at hP1
  obtain ⟨h1, h2⟩ := wj_join (wj_sp hP) (wj_sd hD) hk (fun q h => z_free (wj_dr hD) hS hA q h) hP1 hD1
  exact kk r v1 H1 locs1 hp (wj_sp h1) (wj_sd h2) hS1
theorem j_callL {post : Int32 → va_W → Prop} (hr : va_Run p l e R s m args below meth c H locs cells slots 0 0 (F0 m pc ls st0) rest (va_Qi post (zB D tys (va_A u H.size)) (va_A u H.size) a) (va_A u H.size)) (hS : va_S A s.heap H locs) (hP : va_P D vwCl (u ++ v) H) (hD : va_D A (u ++ v)) (hA : ∀ q : Nat, s.heap.size ≤ q → A q)
    (kk : ∀ (r : Int32) (u1 : va_W) (H1 : Heap) (locs1 : List Loc), post r u1 → va_P D vwCl (u1 ++ v) H1 → va_D A (u1 ++ v) → va_S A s.heap H1 locs1 → W p l e R s m args below meth c H1 locs1 cells slots Q (F0 m (pc + 3) ls (.int r :: rest))) : W p l e R s m args below meth c H locs cells slots Q (F0 m pc ls st0) := by
  refine va_calli hr hS (fun q _ h => z_free (wj_dl hD) hS hA q h) (fun q h => z_free (wj_dl hD) hS hA q h) (fun r v1 t H1 locs1 ht _ hp hB _ hk hS1 => ?_)
  obtain ⟨hP1, _, hD1⟩ := hB
  rw [ht] at hP1
  obtain ⟨h1, h2⟩ := wj_join hP hD hk (fun q h => z_free (wj_dl hD) hS hA q h) hP1 hD1
  exact kk r v1 H1 locs1 hp h1 h2 hS1
theorem j_calllL {post : Int64 → va_W → Prop} (hr : va_Run p l e R s m args below meth c H locs cells slots 0 0 (F0 m pc ls st0) rest (va_Ql post (zB D tys (va_A u H.size)) (va_A u H.size) a) (va_A u H.size)) (hS : va_S A s.heap H locs) (hP : va_P D vwCl (u ++ v) H) (hD : va_D A (u ++ v)) (hA : ∀ q : Nat, s.heap.size ≤ q → A q)
    (kk : ∀ (r : Int64) (u1 : va_W) (H1 : Heap) (locs1 : List Loc), post r u1 → va_P D vwCl (u1 ++ v) H1 → va_D A (u1 ++ v) → va_S A s.heap H1 locs1 → W p l e R s m args below meth c H1 locs1 cells slots Q (F0 m (pc + 3) ls (.long r :: rest))) : W p l e R s m args below meth c H locs cells slots Q (F0 m pc ls st0) := by
  refine va_calll hr hS (fun q _ h => z_free (wj_dl hD) hS hA q h) (fun q h => z_free (wj_dl hD) hS hA q h) (fun r v1 t H1 locs1 ht _ hp hB _ hk hS1 => ?_)
  obtain ⟨hP1, _, hD1⟩ := hB
  rw [ht] at hP1
  obtain ⟨h1, h2⟩ := wj_join hP hD hk (fun q h => z_free (wj_dl hD) hS hA q h) hP1 hD1
  exact kk r v1 H1 locs1 hp h1 h2 hS1
theorem j_callx {post : Int32 → va_W → Prop} (hr : vx_Run p l e R s m args below meth c H locs cells slots k (6 * k) (F0 m pc ls st0) rest (va_Qi post (zB D tys (va_A u H.size)) (va_A u H.size) a) (xXC D tys (va_A u H.size) yF) (va_A u H.size)) (hS : va_S A s.heap H locs) (hP : va_P D vwCl (u ++ v) H) (hD : va_D A (u ++ v)) (hA : ∀ q : Nat, s.heap.size ≤ q → A q)
    (kk : ∀ (r : Int32) (u1 : va_W) (H1 : Heap) (locs1 : List Loc), post r u1 → va_P D vwCl (u1 ++ v) H1 → va_D A (u1 ++ v) → va_S A s.heap H1 locs1 → W p l e R s m args below meth c H1 locs1 (cells + k) (slots + 6 * k) Q (F0 m (pc + 3) ls (.int r :: rest))) : W p l e R s m args below meth c H locs cells slots Q (F0 m pc ls st0) := by
  refine vx_calli hr hS (fun q _ h => z_free (wj_dl hD) hS hA q h) (fun q h => z_free (wj_dl hD) hS hA q h) (fun q _ h => z_free (wj_dl hD) hS hA q h) (fun E ce q9 u1 t H1 locs1 _ _ _ hB _ _ _ _ _ _ => False.elim hB.1) (fun r u1 t H1 locs1 ht _ hp hB _ hk hS1 => ?_)
  obtain ⟨hP1, _, hD1⟩ := hB
  rw [ht] at hP1
  obtain ⟨h1, h2⟩ := wj_join hP hD hk (fun q h => z_free (wj_dl hD) hS hA q h) hP1 hD1
  exact kk r u1 H1 locs1 hp h1 h2 hS1
theorem l_lald {g : Nat → ClassId} (hx : p.tables.exec = Jvm.exec) (hb : c.code = cc) (hK : va_K D vwCl (zT g) s) (hP : va_P D vwCl w H) (q0 : Nat) {o : Nat} {f : Nat → Int64} (ha : w[q0]? = some (o, oc g f)) (hdg : decode cc pc = .ok (.laload, 1)) (k : W p l e R s m args below meth c H locs cells slots Q (F0 m (pc + 1) ls (.long (f 0) :: rest))) : W p l e R s m args below meth c H locs cells slots Q (F0 m pc ls (.int (iI 0) :: .ref o :: rest)) := by
  refine va_lald hx hb hK hP q0 3 ha rfl vin0 hdg ?_
  have h9 : (iI 0).toNatClampNeg = 0 := by decide
  rw [h9]
  exact k
theorem l_sld {b Lx : Nat} {xs : Nat → Int32} (hx : p.tables.exec = Jvm.exec) (hb : c.code = cc) (hX : va_X b Lx xs s s.heap) (hbl : b < s.heap.size) (hbA : ¬ A b) (hS : va_S A s.heap H locs) {iv j : Nat} {jz z : Int} (hj : iv + j < Lx) (hLx : Lx ≤ 2560) (hjz : jz = ((j : Nat) : Int)) (hz : xs (iv + j) = iI z) (hdg : decode cc pc = .ok (.iaload, 1)) (k : W p l e R s m args below meth c H locs cells slots Q (F0 m (pc + 1) ls (.int (iI z) :: rest))) : W p l e R s m args below meth c H locs cells slots Q (F0 m pc ls (.int (iI (((iv : Nat) : Int) + jz)) :: .ref b :: rest)) := by
  subst hjz
  have e1 : (iI (((iv : Nat) : Int) + ((j : Nat) : Int))).toNatClampNeg = iv + j := by
    rw [iI_cl ⟨by omega, by omega⟩]
    omega
  refine va_sld hx hb hX hbl hbA hS (iI_in (z := ((iv : Nat) : Int) + ((j : Nat) : Int)) ⟨by omega, by omega⟩ (by omega)) hdg ?_
  rw [e1, hz]
  exact k
theorem iI_0 {n : Int} (h : 0 ≤ n ∧ n ≤ 3) : iI n = 0 ↔ n = 0 := by
  have h1 : ∀ k : Nat, k ≤ 3 → (iI ((k : Nat) : Int) = 0 ↔ ((k : Nat) : Int) = 0) := by decide
  have h2 := h1 n.toNat (by omega)
  rw [Int.toNat_of_nonneg h.1] at h2
  exact h2
theorem cmp_s (x : Int64) : lg_cmp x x = 0 := by simp [lg_cmp]
end LAWR
def LC (p : Program) (l : Launch) (s : State) (m : MethodId) (meth : Method) (c : Code) (b Lx : Nat) (xs : Nat → Int32) (D : va_G) (g : Nat → ClassId) : Prop := lw_At p s m meth c b Lx xs ∧ Lx ≤ 2560 ∧ l.stackTraces = false ∧ va_K D vwCl (zT g) s ∧ xE (fun q : Nat => s.heap.size ≤ q) s s.heap ∧ xV s ∧ yN s
def KQ (p : Program) (l : Launch) (e : Env) (s : State) (m : MethodId) (below : List Frame) (meth : Method) (c : Code) (b o : Nat) (a b' : Nat → Nat) (g : Nat → ClassId) (D : va_G) (iv cells slots : Nat) (Q : State → Prop) : Prop := ∀ (L : LD) (att T : Nat) (hs tm : Nat → Int) (tk : Nat → Nat → Int) (lt : Nat → Int) (f : Nat → Int64) (th : Int) (hm : Nat → Int) (tn : Nat → Nat) (pl : Nat → Bool), JJ L T tm tk hm tn → ∀ (H : Heap) (locs : List Loc) (ls : Array Slot), va_P D vwCl (uw a g o L att T hs tm tk lt f ++ wM b' g th L att T hm tn pl (fun _ => 0)) H → va_D (fun q : Nat => s.heap.size ≤ q) (uw a g o L att T hs tm tk lt f ++ wM b' g th L att T hm tn pl (fun _ => 0)) → va_S (fun q : Nat => s.heap.size ≤ q) s.heap H locs → lv_has ls 7 [(0, .ref b), (1, .ref (a 0)), (2, .ref (b' 0)), (3, .ref o), (4, .int (iI ((iv : Nat) : Int)))] → W p l e room_1 s m #[Value.ref b] below meth c H locs cells slots Q (F0 m 1571 ls [])

/-! Z: a walk over a world; the heap, what was written and the array of the locals are hidden. Cx: what a method's walk knows of its frame. -/
section ZL
variable {p : Program} {l : Launch} {e : Env} {R : Room} {s : State} {m : MethodId} {args : Array Value} {below : List Frame} {meth : Method} {c : Code} {Q : State → Prop} {D : va_G} {cl : List vw_C} {ty : List (ClassId × FieldType)} {A : Nat → Prop} {N0 : Nat} {cc : ByteArray} {Ts : List Cond} {own : String} {ret : Option FieldType} {NS : List Cond}
def z_isN : Cond → Bool
  | .fieldLinkNest .. => true
  | .methodLinkNest .. => true
  | .castable .. => true
  | .declares .. => true
  | _ => false
theorem z_isT {w : Cond} (h : z_isN w = true) : w.onTables = true := by cases w <;> first | rfl | (simp [z_isN] at h)
theorem z_nW {s U : State} {w : Cond} (hw : z_isN w = true) (hW : s.WarmedH U.vm) (h : va_Nw w s) : va_Nw w U := by
  cases w <;> first | exact va_Nw.warmF hW h | exact va_Nw.warmM hW h | exact va_Nw.warmC hW h | exact va_Nw.warmD hW h | (simp [z_isN] at hw)
def Z (p : Program) (l : Launch) (e : Env) (R : Room) (s : State) (m : MethodId) (args : Array Value) (below : List Frame) (meth : Method) (c : Code) (Q : State → Prop) (D : va_G) (cl : List vw_C) (A : Nat → Prop) (N0 : Nat) (pc : Nat) (lv : List (Nat × Value)) (st : List Value) (ws : va_W) (cells slots : Nat) : Prop :=
  ∀ (H : Heap) (locs : List Loc) (ls : Array Slot), va_P D cl ws H → va_D A ws → va_S A s.heap H locs → lv_has ls N0 lv → W p l e R s m args below meth c H locs cells slots Q (F0 m pc ls st)
def Cx (p : Program) (s : State) (m : MethodId) (args : Array Value) (meth : Method) (c : Code) (D : va_G) (cl : List vw_C) (ty : List (ClassId × FieldType)) (A : Nat → Prop) (N0 : Nat) (cc : ByteArray) (Ts : List Cond) (own : String) (ret : Option FieldType) (NS : List Cond) : Prop :=
  p.tables.exec = Jvm.exec ∧ c.code = cc ∧ c.maxLocals = N0 ∧ s.vm.findClass own = some m.cls ∧ (∀ w ∈ Ts, w.before args s = true) ∧ va_K D cl ty s ∧ (∀ q, s.heap.size ≤ q → A q) ∧ meth.sig.returnType = ret ∧ meth.locks = false ∧ (∀ w ∈ NS, va_Nw w s) ∧ NS.all z_isN = true
def zPre (D : va_G) (cl : List vw_C) (ty : List (ClassId × FieldType)) (NS : List Cond) (ws : va_W) (sz : Nat) : State → Prop := fun U => U.heap.size = sz ∧ va_P D cl ws U.heap ∧ (va_K D cl ty U ∧ ∀ w ∈ NS, va_Nw w U) ∧ va_D (fun _ => True) ws
def zPost (D : va_G) (cl : List vw_C) (A : Nat → Prop) (ws : va_W) : State → Prop := fun t => va_P D cl ws t.heap ∧ va_D A ws
theorem zBlind (hNS : NS.all z_isN = true) {av : List Value} {ws : va_W} {sz : Nat} : FrameBlind (va_Pc av (zPre D cl ty NS ws sz)) := fun a U g mk q => by
  obtain ⟨q0, q1, qP, qK, qD⟩ := q
  exact ⟨q0, q1, qP, ⟨va_K.moved (u := U) (U := U.calling g mk a) (Vm.Alike.refl U.vm) qK.1, fun w hw => va_Nw.same (z_isT (List.all_eq_true.mp hNS w hw)) (u := U) (U := U.calling g mk a) rfl (qK.2 w hw)⟩, qD⟩
theorem z_pick {is : List Nat} {ws wc : va_W} (h : is.map (fun i => ws[i]?) = wc.map some) : is.filterMap (fun i => ws[i]?) = wc := by
  have h1 : is.filterMap (fun i => ws[i]?) = (is.map (fun i => ws[i]?)).filterMap id := by rw [List.filterMap_map]; rfl
  rw [h1, h, List.filterMap_map]
  exact List.filterMap_some
theorem zOk {av : List Value} {ws wc : va_W} {H : Heap} {A' : Nat → Prop} (hP : va_P D cl ws H) (hD : va_D A' ws) (X : Cx p s m args meth c D cl ty A N0 cc Ts own ret NS) (is : List Nat) (hn : va_nd is = true) (hC : is.map (fun i => ws[i]?) = wc.map some) :
    ∀ U : State, U.heap = H → s.WarmedH U.vm → va_Pc av (zPre D cl ty NS wc H.size) av.toArray U := fun U hU hW =>
  ⟨rfl, by rw [hU], by rw [hU]; exact hP.sub is (z_pick hC), ⟨va_K.moved hW.alike X.2.2.2.2.2.1, fun w hw => z_nW (List.all_eq_true.mp X.2.2.2.2.2.2.2.2.2.2 w hw) hW (X.2.2.2.2.2.2.2.2.2.1 w hw)⟩, (hD.sub is hn hC).weaken (fun _ _ _ _ => trivial)⟩
/-- the walk of a method's body gives its contract -/
theorem zMet {y : MethodName} {rm : Room} {av : List Value} {ws : va_W} {sz mc ms maxL : Nat} {Qf : (Nat → Prop) → Array Value → State → Outcome → State → Prop} {lv : List (Nat × Value)}
    (hNS : NS.all z_isN = true) (hy : plainName y.cls = true) (ho : y.cls = own) (hlen : (lg_sl av).length ≤ maxL) (hlv : lv_args 0 av = lv)
    (body : ∀ (p : Program) (e : Env) (s : State) (m : MethodId) (args : Array Value) (below : List Frame) (meth : Method) (c : Code) (A : Nat → Prop), Cx p s m args meth c D cl ty A maxL cc Ts own ret NS → meth.name = y.name → A = va_A ws sz →
      Z p l e rm s m args below meth c (MQ below (Qf A) args s mc ms A) D cl A maxL 0 lv [] ws 0 0) :
    Met l y (Cond.code y cc maxL ret :: Ts) rm (va_Pc av (zPre D cl ty NS ws sz)) (Qf (va_A ws sz)) mc ms (va_A ws sz) := by
  refine Met.ofW (cc := cc) (maxL := maxL) (ret := ret) hy rfl ?_
  intro p e s m args below meth c s₁ B hml hv
  obtain ⟨ha, hsz, hP, ⟨hK, hN⟩, hD0⟩ := hv
  subst hsz
  have hA : ∀ q : Nat, s.heap.size ≤ q → va_A ws s.heap.size q := fun q h => Or.inr h
  have hl := lv_entry av (n := maxL) hlen
  subst ha
  rw [lg_entry_eq]
  exact body p e s m _ below meth c _ ⟨B.exec, B.bytes, hml, ho ▸ findClass_of_methodNamed B.named, fun w hw => atoms_spec (ws := Cond.code y cc maxL ret :: Ts) B.pre w (List.mem_cons_of_mem _ hw), hK, hA, B.returns, B.notSynchronized, hN, hNS⟩ (name_of_methodNamed B.named B.method).1 rfl s.heap [] _ hP (hD0.self (sz := s.heap.size)) va_S.rf (by rw [← hlv]; exact hl)
theorem zMetI {S : Type} {post : Int32 → S → Prop} {w2 : S → va_W} {y : MethodName} {rm : Room} {av : List Value} {ws : va_W} {sz mc ms maxL : Nat} {lv : List (Nat × Value)}
    (hNS : NS.all z_isN = true) (hy : plainName y.cls = true) (ho : y.cls = own) (hlen : (lg_sl av).length ≤ maxL) (hlv : lv_args 0 av = lv)
    (body : ∀ (p : Program) (e : Env) (s : State) (m : MethodId) (args : Array Value) (below : List Frame) (meth : Method) (c : Code) (A : Nat → Prop), Cx p s m args meth c D cl ty A maxL cc Ts own ret NS → meth.name = y.name → A = va_A ws sz →
      Z p l e rm s m args below meth c (MQ below (va_Qi post (fun u => zPost D cl A (w2 u)) A) args s mc ms A) D cl A maxL 0 lv [] ws 0 0) :
    Met l y (Cond.code y cc maxL ret :: Ts) rm (va_Pc av (zPre D cl ty NS ws sz)) (va_Qi post (fun u => zPost D cl (va_A ws sz) (w2 u)) (va_A ws sz)) mc ms (va_A ws sz) :=
  zMet (Qf := fun A => va_Qi post (fun u => zPost D cl A (w2 u)) A) hNS hy ho hlen hlv body
theorem zMetL {S : Type} {post : Int64 → S → Prop} {w2 : S → va_W} {y : MethodName} {rm : Room} {av : List Value} {ws : va_W} {sz mc ms maxL : Nat} {lv : List (Nat × Value)}
    (hNS : NS.all z_isN = true) (hy : plainName y.cls = true) (ho : y.cls = own) (hlen : (lg_sl av).length ≤ maxL) (hlv : lv_args 0 av = lv)
    (body : ∀ (p : Program) (e : Env) (s : State) (m : MethodId) (args : Array Value) (below : List Frame) (meth : Method) (c : Code) (A : Nat → Prop), Cx p s m args meth c D cl ty A maxL cc Ts own ret NS → meth.name = y.name → A = va_A ws sz →
      Z p l e rm s m args below meth c (MQ below (va_Ql post (fun u => zPost D cl A (w2 u)) A) args s mc ms A) D cl A maxL 0 lv [] ws 0 0) :
    Met l y (Cond.code y cc maxL ret :: Ts) rm (va_Pc av (zPre D cl ty NS ws sz)) (va_Ql post (fun u => zPost D cl (va_A ws sz) (w2 u)) (va_A ws sz)) mc ms (va_A ws sz) :=
  zMet (Qf := fun A => va_Ql post (fun u => zPost D cl A (w2 u)) A) hNS hy ho hlen hlv body
theorem zMetV {S : Type} {post : S → Prop} {w2 : S → va_W} {y : MethodName} {rm : Room} {av : List Value} {ws : va_W} {sz mc ms maxL : Nat} {lv : List (Nat × Value)}
    (hNS : NS.all z_isN = true) (hy : plainName y.cls = true) (ho : y.cls = own) (hlen : (lg_sl av).length ≤ maxL) (hlv : lv_args 0 av = lv)
    (body : ∀ (p : Program) (e : Env) (s : State) (m : MethodId) (args : Array Value) (below : List Frame) (meth : Method) (c : Code) (A : Nat → Prop), Cx p s m args meth c D cl ty A maxL cc Ts own ret NS → meth.name = y.name → A = va_A ws sz →
      Z p l e rm s m args below meth c (MQ below (va_Qv post (fun u => zPost D cl A (w2 u)) A) args s mc ms A) D cl A maxL 0 lv [] ws 0 0) :
    Met l y (Cond.code y cc maxL ret :: Ts) rm (va_Pc av (zPre D cl ty NS ws sz)) (va_Qv post (fun u => zPost D cl (va_A ws sz) (w2 u)) (va_A ws sz)) mc ms (va_A ws sz) :=
  zMet (Qf := fun A => va_Qv post (fun u => zPost D cl A (w2 u)) A) hNS hy ho hlen hlv body
theorem z_topi {pc cells slots : Nat} {lv : List (Nat × Value)} {rest : List Value} {ws : va_W} {x y : Int32} (h : x = y) (kk : Z p l e R s m args below meth c Q D cl A N0 pc lv (.int y :: rest) ws cells slots) : Z p l e R s m args below meth c Q D cl A N0 pc lv (.int x :: rest) ws cells slots := by rw [h]; exact kk
theorem z_topl {pc cells slots : Nat} {lv : List (Nat × Value)} {rest : List Value} {ws : va_W} {x y : Int64} (h : x = y) (kk : Z p l e R s m args below meth c Q D cl A N0 pc lv (.long y :: rest) ws cells slots) : Z p l e R s m args below meth c Q D cl A N0 pc lv (.long x :: rest) ws cells slots := by rw [h]; exact kk
/-- other words for the same stack, locals, world -/
theorem z_st {pc cells slots : Nat} {lv : List (Nat × Value)} {st st' : List Value} {ws : va_W} (h : st = st') (kk : Z p l e R s m args below meth c Q D cl A N0 pc lv st' ws cells slots) : Z p l e R s m args below meth c Q D cl A N0 pc lv st ws cells slots := by rw [h]; exact kk
theorem z_lve {pc cells slots : Nat} {lv lv' : List (Nat × Value)} {st : List Value} {ws : va_W} (h : lv = lv') (kk : Z p l e R s m args below meth c Q D cl A N0 pc lv' st ws cells slots) : Z p l e R s m args below meth c Q D cl A N0 pc lv st ws cells slots := by rw [h]; exact kk
theorem z_wse {pc cells slots : Nat} {lv : List (Nat × Value)} {st : List Value} {ws ws' : va_W} (h : ws = ws') (kk : Z p l e R s m args below meth c Q D cl A N0 pc lv st ws' cells slots) : Z p l e R s m args below meth c Q D cl A N0 pc lv st ws cells slots := by rw [h]; exact kk
/-- fewer locals, a world's cells in another order -/
theorem z_lv {pc cells slots : Nat} {lv lv' : List (Nat × Value)} {st : List Value} {ws : va_W} (ks : List Nat) (h : lv_pick lv ks = lv') (kk : Z p l e R s m args below meth c Q D cl A N0 pc lv' st ws cells slots) : Z p l e R s m args below meth c Q D cl A N0 pc lv st ws cells slots :=
  fun H locs ls hP hD hS hL => kk H locs ls hP hD hS (lv_sub hL ks h)
theorem z_ws {pc cells slots : Nat} {lv : List (Nat × Value)} {st : List Value} {ws ws' : va_W} (is : List Nat) (hn : va_nd is = true) (h : is.map (fun i => ws[i]?) = ws'.map some) (kk : Z p l e R s m args below meth c Q D cl A N0 pc lv st ws' cells slots) : Z p l e R s m args below meth c Q D cl A N0 pc lv st ws cells slots :=
  fun H locs ls hP hD hS hL => kk H locs ls (hP.sub is (z_pick h)) (hD.sub is hn h) hS hL
theorem z_widen {pc cells slots k n : Nat} {lv : List (Nat × Value)} {st : List Value} {ws : va_W} (h1 : cells ≤ k) (h2 : slots ≤ n) (kk : Z p l e R s m args below meth c Q D cl A N0 pc lv st ws k n) : Z p l e R s m args below meth c Q D cl A N0 pc lv st ws cells slots :=
  fun H locs ls hP hD hS hL => W.widen h1 h2 (kk H locs ls hP hD hS hL)
/-- two cells of a world lie apart -/
theorem z_apart {pc cells slots : Nat} {lv : List (Nat × Value)} {st : List Value} {ws : va_W} (i j : Nat) {x y : Nat × va_E} (hi : ws[i]? = some x) (hj : ws[j]? = some y) (hne : i ≠ j) (kk : x.1 ≠ y.1 → Z p l e R s m args below meth c Q D cl A N0 pc lv st ws cells slots) : Z p l e R s m args below meth c Q D cl A N0 pc lv st ws cells slots :=
  fun H locs ls hP hD hS hL => kk (fun h => hne (hD.1 i j x y hi hj h)) H locs ls hP hD hS hL
theorem z_iconst (X : Cx p s m args meth c D cl ty A N0 cc Ts own ret NS) {pc pc' cells slots : Nat} {lv : List (Nat × Value)} {rest : List Value} {ws : va_W} {n : Int} {v : Int32} (hdg : decode cc pc = .ok (.iconst n, 1)) (hv : Int32.ofInt n = v) (hp : pc + 1 = pc') (kk : Z p l e R s m args below meth c Q D cl A N0 pc' lv ((.int v :: rest)) ws cells slots) : Z p l e R s m args below meth c Q D cl A N0 pc lv ((rest)) ws cells slots := by
  subst hp
  intro H locs ls hP hD hS hL
  exact lv_iconst X.1 X.2.1 hdg hv (kk H locs ls hP hD hS hL)
theorem z_bipush (X : Cx p s m args meth c D cl ty A N0 cc Ts own ret NS) {pc pc' cells slots : Nat} {lv : List (Nat × Value)} {rest : List Value} {ws : va_W} {n : Int} {v : Int32} (hdg : decode cc pc = .ok (.bipush n, 2)) (hv : (Int8.ofInt n).toInt32 = v) (hp : pc + 2 = pc') (kk : Z p l e R s m args below meth c Q D cl A N0 pc' lv ((.int v :: rest)) ws cells slots) : Z p l e R s m args below meth c Q D cl A N0 pc lv ((rest)) ws cells slots := by
  subst hp
  intro H locs ls hP hD hS hL
  exact lv_bipush X.1 X.2.1 hdg hv (kk H locs ls hP hD hS hL)
theorem z_sipush (X : Cx p s m args meth c D cl ty A N0 cc Ts own ret NS) {pc pc' cells slots : Nat} {lv : List (Nat × Value)} {rest : List Value} {ws : va_W} {n : Int} {v : Int32} (hdg : decode cc pc = .ok (.sipush n, 3)) (hv : (Int16.ofInt n).toInt32 = v) (hp : pc + 3 = pc') (kk : Z p l e R s m args below meth c Q D cl A N0 pc' lv ((.int v :: rest)) ws cells slots) : Z p l e R s m args below meth c Q D cl A N0 pc lv ((rest)) ws cells slots := by
  subst hp
  intro H locs ls hP hD hS hL
  exact lv_sipush X.1 X.2.1 hdg hv (kk H locs ls hP hD hS hL)
theorem z_lconst (X : Cx p s m args meth c D cl ty A N0 cc Ts own ret NS) {pc pc' cells slots : Nat} {lv : List (Nat × Value)} {rest : List Value} {ws : va_W} {n : Fin 2} {v : Int64} (hdg : decode cc pc = .ok (.lconst n, 1)) (hv : Int64.ofNat (n : Nat) = v) (hp : pc + 1 = pc') (kk : Z p l e R s m args below meth c Q D cl A N0 pc' lv ((.long v :: rest)) ws cells slots) : Z p l e R s m args below meth c Q D cl A N0 pc lv ((rest)) ws cells slots := by
  subst hp
  intro H locs ls hP hD hS hL
  exact lv_lconst X.1 X.2.1 hdg hv (kk H locs ls hP hD hS hL)
theorem z_iload_n (X : Cx p s m args meth c D cl ty A N0 cc Ts own ret NS) {pc pc' cells slots : Nat} {lv : List (Nat × Value)} {rest : List Value} {ws : va_W} {k : Fin 4} {i : Nat} {x : Int32} (hdg : decode cc pc = .ok (.iload_n k, 1)) (hi : (k : Nat) = i) (j : Nat) (hj : lv[j]? = some (i, (.int x))) (hp : pc + 1 = pc') (kk : Z p l e R s m args below meth c Q D cl A N0 pc' lv ((.int x :: rest)) ws cells slots) : Z p l e R s m args below meth c Q D cl A N0 pc lv ((rest)) ws cells slots := by
  subst hp
  intro H locs ls hP hD hS hL
  exact lv_iload_n X.1 X.2.1 hdg hi (lv_at hL j hj) (kk H locs ls hP hD hS hL)
theorem z_iload (X : Cx p s m args meth c D cl ty A N0 cc Ts own ret NS) {pc pc' cells slots : Nat} {lv : List (Nat × Value)} {rest : List Value} {ws : va_W} {i : Nat} {x : Int32} (hdg : decode cc pc = .ok (.iload i, 2)) (j : Nat) (hj : lv[j]? = some (i, (.int x))) (hp : pc + 2 = pc') (kk : Z p l e R s m args below meth c Q D cl A N0 pc' lv ((.int x :: rest)) ws cells slots) : Z p l e R s m args below meth c Q D cl A N0 pc lv ((rest)) ws cells slots := by
  subst hp
  intro H locs ls hP hD hS hL
  exact lv_iload X.1 X.2.1 hdg (lv_at hL j hj) (kk H locs ls hP hD hS hL)
theorem z_lload_n (X : Cx p s m args meth c D cl ty A N0 cc Ts own ret NS) {pc pc' cells slots : Nat} {lv : List (Nat × Value)} {rest : List Value} {ws : va_W} {k : Fin 4} {i : Nat} {x : Int64} (hdg : decode cc pc = .ok (.lload_n k, 1)) (hi : (k : Nat) = i) (j : Nat) (hj : lv[j]? = some (i, (.long x))) (hp : pc + 1 = pc') (kk : Z p l e R s m args below meth c Q D cl A N0 pc' lv ((.long x :: rest)) ws cells slots) : Z p l e R s m args below meth c Q D cl A N0 pc lv ((rest)) ws cells slots := by
  subst hp
  intro H locs ls hP hD hS hL
  exact lv_lload_n X.1 X.2.1 hdg hi (lv_at hL j hj) (kk H locs ls hP hD hS hL)
theorem z_lload (X : Cx p s m args meth c D cl ty A N0 cc Ts own ret NS) {pc pc' cells slots : Nat} {lv : List (Nat × Value)} {rest : List Value} {ws : va_W} {i : Nat} {x : Int64} (hdg : decode cc pc = .ok (.lload i, 2)) (j : Nat) (hj : lv[j]? = some (i, (.long x))) (hp : pc + 2 = pc') (kk : Z p l e R s m args below meth c Q D cl A N0 pc' lv ((.long x :: rest)) ws cells slots) : Z p l e R s m args below meth c Q D cl A N0 pc lv ((rest)) ws cells slots := by
  subst hp
  intro H locs ls hP hD hS hL
  exact lv_lload X.1 X.2.1 hdg (lv_at hL j hj) (kk H locs ls hP hD hS hL)
theorem z_aload_n (X : Cx p s m args meth c D cl ty A N0 cc Ts own ret NS) {pc pc' cells slots : Nat} {lv : List (Nat × Value)} {rest : List Value} {ws : va_W} {k : Fin 4} {i : Nat} {x : Nat} (hdg : decode cc pc = .ok (.aload_n k, 1)) (hi : (k : Nat) = i) (j : Nat) (hj : lv[j]? = some (i, (.ref x))) (hp : pc + 1 = pc') (kk : Z p l e R s m args below meth c Q D cl A N0 pc' lv ((.ref x :: rest)) ws cells slots) : Z p l e R s m args below meth c Q D cl A N0 pc lv ((rest)) ws cells slots := by
  subst hp
  intro H locs ls hP hD hS hL
  exact lv_aload_n X.1 X.2.1 hdg hi (lv_at hL j hj) (kk H locs ls hP hD hS hL)
theorem z_aload (X : Cx p s m args meth c D cl ty A N0 cc Ts own ret NS) {pc pc' cells slots : Nat} {lv : List (Nat × Value)} {rest : List Value} {ws : va_W} {i : Nat} {x : Nat} (hdg : decode cc pc = .ok (.aload i, 2)) (j : Nat) (hj : lv[j]? = some (i, (.ref x))) (hp : pc + 2 = pc') (kk : Z p l e R s m args below meth c Q D cl A N0 pc' lv ((.ref x :: rest)) ws cells slots) : Z p l e R s m args below meth c Q D cl A N0 pc lv ((rest)) ws cells slots := by
  subst hp
  intro H locs ls hP hD hS hL
  exact lv_aload X.1 X.2.1 hdg (lv_at hL j hj) (kk H locs ls hP hD hS hL)
theorem z_istore_n (X : Cx p s m args meth c D cl ty A N0 cc Ts own ret NS) {pc pc' cells slots : Nat} {lv : List (Nat × Value)} {rest : List Value} {ws : va_W} {k : Fin 4} {i : Nat} {x : Int32} {lv' : List (Nat × Value)} (hdg : decode cc pc = .ok (.istore_n k, 1)) (hi : (k : Nat) = i) (hn : i < N0) (hl : (i, Value.int x) :: lv.filter (fun q => !(q.1 == i) && !(q.1 + 1 == i && q.2.category == 2)) = lv') (hp : pc + 1 = pc') (kk : Z p l e R s m args below meth c Q D cl A N0 pc' lv' (rest) ws cells slots) : Z p l e R s m args below meth c Q D cl A N0 pc lv ((.int x :: rest)) ws cells slots := by
  subst hp
  intro H locs ls hP hD hS hL
  exact lv_istore_n X.1 X.2.1 hdg hi hL hn hl (fun ls' hl' => kk H locs ls' hP hD hS hl')
theorem z_istore (X : Cx p s m args meth c D cl ty A N0 cc Ts own ret NS) {pc pc' cells slots : Nat} {lv : List (Nat × Value)} {rest : List Value} {ws : va_W} {i : Nat} {x : Int32} {lv' : List (Nat × Value)} (hdg : decode cc pc = .ok (.istore i, 2)) (hn : i < N0) (hl : (i, Value.int x) :: lv.filter (fun q => !(q.1 == i) && !(q.1 + 1 == i && q.2.category == 2)) = lv') (hp : pc + 2 = pc') (kk : Z p l e R s m args below meth c Q D cl A N0 pc' lv' (rest) ws cells slots) : Z p l e R s m args below meth c Q D cl A N0 pc lv ((.int x :: rest)) ws cells slots := by
  subst hp
  intro H locs ls hP hD hS hL
  exact lv_istore X.1 X.2.1 hdg hL hn hl (fun ls' hl' => kk H locs ls' hP hD hS hl')
theorem z_lstore_n (X : Cx p s m args meth c D cl ty A N0 cc Ts own ret NS) {pc pc' cells slots : Nat} {lv : List (Nat × Value)} {rest : List Value} {ws : va_W} {k : Fin 4} {i : Nat} {x : Int64} {lv' : List (Nat × Value)} (hdg : decode cc pc = .ok (.lstore_n k, 1)) (hi : (k : Nat) = i) (hn : i + 1 < N0) (hl : (i, Value.long x) :: lv.filter (fun q => !(q.1 == i) && (!(q.1 == i + 1) && !(q.1 + 1 == i && q.2.category == 2))) = lv') (hp : pc + 1 = pc') (kk : Z p l e R s m args below meth c Q D cl A N0 pc' lv' (rest) ws cells slots) : Z p l e R s m args below meth c Q D cl A N0 pc lv ((.long x :: rest)) ws cells slots := by
  subst hp
  intro H locs ls hP hD hS hL
  exact lv_lstore_n X.1 X.2.1 hdg hi hL hn hl (fun ls' hl' => kk H locs ls' hP hD hS hl')
theorem z_lstore (X : Cx p s m args meth c D cl ty A N0 cc Ts own ret NS) {pc pc' cells slots : Nat} {lv : List (Nat × Value)} {rest : List Value} {ws : va_W} {i : Nat} {x : Int64} {lv' : List (Nat × Value)} (hdg : decode cc pc = .ok (.lstore i, 2)) (hn : i + 1 < N0) (hl : (i, Value.long x) :: lv.filter (fun q => !(q.1 == i) && (!(q.1 == i + 1) && !(q.1 + 1 == i && q.2.category == 2))) = lv') (hp : pc + 2 = pc') (kk : Z p l e R s m args below meth c Q D cl A N0 pc' lv' (rest) ws cells slots) : Z p l e R s m args below meth c Q D cl A N0 pc lv ((.long x :: rest)) ws cells slots := by
  subst hp
  intro H locs ls hP hD hS hL
  exact lv_lstore X.1 X.2.1 hdg hL hn hl (fun ls' hl' => kk H locs ls' hP hD hS hl')
theorem z_astore_n (X : Cx p s m args meth c D cl ty A N0 cc Ts own ret NS) {pc pc' cells slots : Nat} {lv : List (Nat × Value)} {rest : List Value} {ws : va_W} {k : Fin 4} {i : Nat} {x : Nat} {lv' : List (Nat × Value)} (hdg : decode cc pc = .ok (.astore_n k, 1)) (hi : (k : Nat) = i) (hn : i < N0) (hl : (i, Value.ref x) :: lv.filter (fun q => !(q.1 == i) && !(q.1 + 1 == i && q.2.category == 2)) = lv') (hp : pc + 1 = pc') (kk : Z p l e R s m args below meth c Q D cl A N0 pc' lv' (rest) ws cells slots) : Z p l e R s m args below meth c Q D cl A N0 pc lv ((.ref x :: rest)) ws cells slots := by
  subst hp
  intro H locs ls hP hD hS hL
  exact lv_astore_n X.1 X.2.1 hdg hi hL hn hl (fun ls' hl' => kk H locs ls' hP hD hS hl')
theorem z_astore (X : Cx p s m args meth c D cl ty A N0 cc Ts own ret NS) {pc pc' cells slots : Nat} {lv : List (Nat × Value)} {rest : List Value} {ws : va_W} {i : Nat} {x : Nat} {lv' : List (Nat × Value)} (hdg : decode cc pc = .ok (.astore i, 2)) (hn : i < N0) (hl : (i, Value.ref x) :: lv.filter (fun q => !(q.1 == i) && !(q.1 + 1 == i && q.2.category == 2)) = lv') (hp : pc + 2 = pc') (kk : Z p l e R s m args below meth c Q D cl A N0 pc' lv' (rest) ws cells slots) : Z p l e R s m args below meth c Q D cl A N0 pc lv ((.ref x :: rest)) ws cells slots := by
  subst hp
  intro H locs ls hP hD hS hL
  exact lv_astore X.1 X.2.1 hdg hL hn hl (fun ls' hl' => kk H locs ls' hP hD hS hl')
theorem z_iinc (X : Cx p s m args meth c D cl ty A N0 cc Ts own ret NS) {pc pc' cells slots : Nat} {lv : List (Nat × Value)} {rest : List Value} {ws : va_W} {i k : Nat} {n : Int} {x v : Int32} {lv' : List (Nat × Value)} (hdg : decode cc pc = .ok (.iinc i n, 3)) (hk : lv[k]? = some (i, .int x)) (hv : x + Int32.ofInt n = v) (hn : i < N0) (hl : (i, Value.int v) :: lv.filter (fun q => !(q.1 == i) && !(q.1 + 1 == i && q.2.category == 2)) = lv') (hp : pc + 3 = pc') (kk : Z p l e R s m args below meth c Q D cl A N0 pc' lv' (rest) ws cells slots) : Z p l e R s m args below meth c Q D cl A N0 pc lv (rest) ws cells slots := by
  subst hp
  intro H locs ls hP hD hS hL
  exact lv_iinc X.1 X.2.1 hdg hL hk hv hn hl (fun ls' hl' => kk H locs ls' hP hD hS hl')
theorem z_iadd (X : Cx p s m args meth c D cl ty A N0 cc Ts own ret NS) {pc pc' cells slots : Nat} {lv : List (Nat × Value)} {rest : List Value} {ws : va_W} {x y : Int32} (hdg : decode cc pc = .ok (.iadd, 1)) (hp : pc + 1 = pc') (kk : Z p l e R s m args below meth c Q D cl A N0 pc' lv ((.int (x + y) :: rest)) ws cells slots) : Z p l e R s m args below meth c Q D cl A N0 pc lv ((.int y :: .int x :: rest)) ws cells slots := by
  subst hp
  intro H locs ls hP hD hS hL
  exact lv_iadd X.1 X.2.1 hdg (kk H locs ls hP hD hS hL)
theorem z_isub (X : Cx p s m args meth c D cl ty A N0 cc Ts own ret NS) {pc pc' cells slots : Nat} {lv : List (Nat × Value)} {rest : List Value} {ws : va_W} {x y : Int32} (hdg : decode cc pc = .ok (.isub, 1)) (hp : pc + 1 = pc') (kk : Z p l e R s m args below meth c Q D cl A N0 pc' lv ((.int (x - y) :: rest)) ws cells slots) : Z p l e R s m args below meth c Q D cl A N0 pc lv ((.int y :: .int x :: rest)) ws cells slots := by
  subst hp
  intro H locs ls hP hD hS hL
  exact lv_isub X.1 X.2.1 hdg (kk H locs ls hP hD hS hL)
theorem z_imul (X : Cx p s m args meth c D cl ty A N0 cc Ts own ret NS) {pc pc' cells slots : Nat} {lv : List (Nat × Value)} {rest : List Value} {ws : va_W} {x y : Int32} (hdg : decode cc pc = .ok (.imul, 1)) (hp : pc + 1 = pc') (kk : Z p l e R s m args below meth c Q D cl A N0 pc' lv ((.int (x * y) :: rest)) ws cells slots) : Z p l e R s m args below meth c Q D cl A N0 pc lv ((.int y :: .int x :: rest)) ws cells slots := by
  subst hp
  intro H locs ls hP hD hS hL
  exact lv_imul X.1 X.2.1 hdg (kk H locs ls hP hD hS hL)
theorem z_iand (X : Cx p s m args meth c D cl ty A N0 cc Ts own ret NS) {pc pc' cells slots : Nat} {lv : List (Nat × Value)} {rest : List Value} {ws : va_W} {x y : Int32} (hdg : decode cc pc = .ok (.iand, 1)) (hp : pc + 1 = pc') (kk : Z p l e R s m args below meth c Q D cl A N0 pc' lv ((.int (x &&& y) :: rest)) ws cells slots) : Z p l e R s m args below meth c Q D cl A N0 pc lv ((.int y :: .int x :: rest)) ws cells slots := by
  subst hp
  intro H locs ls hP hD hS hL
  exact lv_iand X.1 X.2.1 hdg (kk H locs ls hP hD hS hL)
theorem z_ior (X : Cx p s m args meth c D cl ty A N0 cc Ts own ret NS) {pc pc' cells slots : Nat} {lv : List (Nat × Value)} {rest : List Value} {ws : va_W} {x y : Int32} (hdg : decode cc pc = .ok (.ior, 1)) (hp : pc + 1 = pc') (kk : Z p l e R s m args below meth c Q D cl A N0 pc' lv ((.int (x ||| y) :: rest)) ws cells slots) : Z p l e R s m args below meth c Q D cl A N0 pc lv ((.int y :: .int x :: rest)) ws cells slots := by
  subst hp
  intro H locs ls hP hD hS hL
  exact lv_ior X.1 X.2.1 hdg (kk H locs ls hP hD hS hL)
theorem z_ixor (X : Cx p s m args meth c D cl ty A N0 cc Ts own ret NS) {pc pc' cells slots : Nat} {lv : List (Nat × Value)} {rest : List Value} {ws : va_W} {x y : Int32} (hdg : decode cc pc = .ok (.ixor, 1)) (hp : pc + 1 = pc') (kk : Z p l e R s m args below meth c Q D cl A N0 pc' lv ((.int (x ^^^ y) :: rest)) ws cells slots) : Z p l e R s m args below meth c Q D cl A N0 pc lv ((.int y :: .int x :: rest)) ws cells slots := by
  subst hp
  intro H locs ls hP hD hS hL
  exact lv_ixor X.1 X.2.1 hdg (kk H locs ls hP hD hS hL)
theorem z_idiv (X : Cx p s m args meth c D cl ty A N0 cc Ts own ret NS) {pc pc' cells slots : Nat} {lv : List (Nat × Value)} {rest : List Value} {ws : va_W} {x y : Int32} (hdg : decode cc pc = .ok (.idiv, 1)) (hne : ¬ y = 0) (hp : pc + 1 = pc') (kk : Z p l e R s m args below meth c Q D cl A N0 pc' lv ((.int (x / y) :: rest)) ws cells slots) : Z p l e R s m args below meth c Q D cl A N0 pc lv ((.int y :: .int x :: rest)) ws cells slots := by
  subst hp
  intro H locs ls hP hD hS hL
  exact lv_idiv X.1 X.2.1 hdg hne (kk H locs ls hP hD hS hL)
theorem z_irem (X : Cx p s m args meth c D cl ty A N0 cc Ts own ret NS) {pc pc' cells slots : Nat} {lv : List (Nat × Value)} {rest : List Value} {ws : va_W} {x y : Int32} (hdg : decode cc pc = .ok (.irem, 1)) (hne : ¬ y = 0) (hp : pc + 1 = pc') (kk : Z p l e R s m args below meth c Q D cl A N0 pc' lv ((.int (x - x / y * y) :: rest)) ws cells slots) : Z p l e R s m args below meth c Q D cl A N0 pc lv ((.int y :: .int x :: rest)) ws cells slots := by
  subst hp
  intro H locs ls hP hD hS hL
  exact lv_irem X.1 X.2.1 hdg hne (kk H locs ls hP hD hS hL)
theorem z_ineg (X : Cx p s m args meth c D cl ty A N0 cc Ts own ret NS) {pc pc' cells slots : Nat} {lv : List (Nat × Value)} {rest : List Value} {ws : va_W} {x : Int32} (hdg : decode cc pc = .ok (.ineg, 1)) (hp : pc + 1 = pc') (kk : Z p l e R s m args below meth c Q D cl A N0 pc' lv ((.int (-x) :: rest)) ws cells slots) : Z p l e R s m args below meth c Q D cl A N0 pc lv ((.int x :: rest)) ws cells slots := by
  subst hp
  intro H locs ls hP hD hS hL
  exact lv_ineg X.1 X.2.1 hdg (kk H locs ls hP hD hS hL)
theorem z_ladd (X : Cx p s m args meth c D cl ty A N0 cc Ts own ret NS) {pc pc' cells slots : Nat} {lv : List (Nat × Value)} {rest : List Value} {ws : va_W} {x y : Int64} (hdg : decode cc pc = .ok (.ladd, 1)) (hp : pc + 1 = pc') (kk : Z p l e R s m args below meth c Q D cl A N0 pc' lv ((.long (x + y) :: rest)) ws cells slots) : Z p l e R s m args below meth c Q D cl A N0 pc lv ((.long y :: .long x :: rest)) ws cells slots := by
  subst hp
  intro H locs ls hP hD hS hL
  exact lv_ladd X.1 X.2.1 hdg (kk H locs ls hP hD hS hL)
theorem z_lsub (X : Cx p s m args meth c D cl ty A N0 cc Ts own ret NS) {pc pc' cells slots : Nat} {lv : List (Nat × Value)} {rest : List Value} {ws : va_W} {x y : Int64} (hdg : decode cc pc = .ok (.lsub, 1)) (hp : pc + 1 = pc') (kk : Z p l e R s m args below meth c Q D cl A N0 pc' lv ((.long (x - y) :: rest)) ws cells slots) : Z p l e R s m args below meth c Q D cl A N0 pc lv ((.long y :: .long x :: rest)) ws cells slots := by
  subst hp
  intro H locs ls hP hD hS hL
  exact lv_lsub X.1 X.2.1 hdg (kk H locs ls hP hD hS hL)
theorem z_lmul (X : Cx p s m args meth c D cl ty A N0 cc Ts own ret NS) {pc pc' cells slots : Nat} {lv : List (Nat × Value)} {rest : List Value} {ws : va_W} {x y : Int64} (hdg : decode cc pc = .ok (.lmul, 1)) (hp : pc + 1 = pc') (kk : Z p l e R s m args below meth c Q D cl A N0 pc' lv ((.long (x * y) :: rest)) ws cells slots) : Z p l e R s m args below meth c Q D cl A N0 pc lv ((.long y :: .long x :: rest)) ws cells slots := by
  subst hp
  intro H locs ls hP hD hS hL
  exact lv_lmul X.1 X.2.1 hdg (kk H locs ls hP hD hS hL)
theorem z_land (X : Cx p s m args meth c D cl ty A N0 cc Ts own ret NS) {pc pc' cells slots : Nat} {lv : List (Nat × Value)} {rest : List Value} {ws : va_W} {x y : Int64} (hdg : decode cc pc = .ok (.land, 1)) (hp : pc + 1 = pc') (kk : Z p l e R s m args below meth c Q D cl A N0 pc' lv ((.long (x &&& y) :: rest)) ws cells slots) : Z p l e R s m args below meth c Q D cl A N0 pc lv ((.long y :: .long x :: rest)) ws cells slots := by
  subst hp
  intro H locs ls hP hD hS hL
  exact lv_land X.1 X.2.1 hdg (kk H locs ls hP hD hS hL)
theorem z_lor (X : Cx p s m args meth c D cl ty A N0 cc Ts own ret NS) {pc pc' cells slots : Nat} {lv : List (Nat × Value)} {rest : List Value} {ws : va_W} {x y : Int64} (hdg : decode cc pc = .ok (.lor, 1)) (hp : pc + 1 = pc') (kk : Z p l e R s m args below meth c Q D cl A N0 pc' lv ((.long (x ||| y) :: rest)) ws cells slots) : Z p l e R s m args below meth c Q D cl A N0 pc lv ((.long y :: .long x :: rest)) ws cells slots := by
  subst hp
  intro H locs ls hP hD hS hL
  exact lv_lor X.1 X.2.1 hdg (kk H locs ls hP hD hS hL)
theorem z_lxor (X : Cx p s m args meth c D cl ty A N0 cc Ts own ret NS) {pc pc' cells slots : Nat} {lv : List (Nat × Value)} {rest : List Value} {ws : va_W} {x y : Int64} (hdg : decode cc pc = .ok (.lxor, 1)) (hp : pc + 1 = pc') (kk : Z p l e R s m args below meth c Q D cl A N0 pc' lv ((.long (x ^^^ y) :: rest)) ws cells slots) : Z p l e R s m args below meth c Q D cl A N0 pc lv ((.long y :: .long x :: rest)) ws cells slots := by
  subst hp
  intro H locs ls hP hD hS hL
  exact lv_lxor X.1 X.2.1 hdg (kk H locs ls hP hD hS hL)
theorem z_ishl (X : Cx p s m args meth c D cl ty A N0 cc Ts own ret NS) {pc pc' cells slots : Nat} {lv : List (Nat × Value)} {rest : List Value} {ws : va_W} {x y : Int32} (hdg : decode cc pc = .ok (.ishl, 1)) (hp : pc + 1 = pc') (kk : Z p l e R s m args below meth c Q D cl A N0 pc' lv ((.int (x <<< (y &&& 31)) :: rest)) ws cells slots) : Z p l e R s m args below meth c Q D cl A N0 pc lv ((.int y :: .int x :: rest)) ws cells slots := by
  subst hp
  intro H locs ls hP hD hS hL
  exact lv_ishl X.1 X.2.1 hdg (kk H locs ls hP hD hS hL)
theorem z_ishr (X : Cx p s m args meth c D cl ty A N0 cc Ts own ret NS) {pc pc' cells slots : Nat} {lv : List (Nat × Value)} {rest : List Value} {ws : va_W} {x y : Int32} (hdg : decode cc pc = .ok (.ishr, 1)) (hp : pc + 1 = pc') (kk : Z p l e R s m args below meth c Q D cl A N0 pc' lv ((.int (x >>> (y &&& 31)) :: rest)) ws cells slots) : Z p l e R s m args below meth c Q D cl A N0 pc lv ((.int y :: .int x :: rest)) ws cells slots := by
  subst hp
  intro H locs ls hP hD hS hL
  exact lv_ishr X.1 X.2.1 hdg (kk H locs ls hP hD hS hL)
theorem z_i2l (X : Cx p s m args meth c D cl ty A N0 cc Ts own ret NS) {pc pc' cells slots : Nat} {lv : List (Nat × Value)} {rest : List Value} {ws : va_W} {x : Int32} {v : Int64} (hdg : decode cc pc = .ok (.i2l, 1)) (hv : x.toInt64 = v) (hp : pc + 1 = pc') (kk : Z p l e R s m args below meth c Q D cl A N0 pc' lv ((.long v :: rest)) ws cells slots) : Z p l e R s m args below meth c Q D cl A N0 pc lv ((.int x :: rest)) ws cells slots := by
  subst hp
  intro H locs ls hP hD hS hL
  exact lv_i2l X.1 X.2.1 hdg hv (kk H locs ls hP hD hS hL)
theorem z_l2i (X : Cx p s m args meth c D cl ty A N0 cc Ts own ret NS) {pc pc' cells slots : Nat} {lv : List (Nat × Value)} {rest : List Value} {ws : va_W} {x : Int64} {v : Int32} (hdg : decode cc pc = .ok (.l2i, 1)) (hv : x.toInt32 = v) (hp : pc + 1 = pc') (kk : Z p l e R s m args below meth c Q D cl A N0 pc' lv ((.int v :: rest)) ws cells slots) : Z p l e R s m args below meth c Q D cl A N0 pc lv ((.long x :: rest)) ws cells slots := by
  subst hp
  intro H locs ls hP hD hS hL
  exact lv_l2i X.1 X.2.1 hdg hv (kk H locs ls hP hD hS hL)
theorem z_i2b (X : Cx p s m args meth c D cl ty A N0 cc Ts own ret NS) {pc pc' cells slots : Nat} {lv : List (Nat × Value)} {rest : List Value} {ws : va_W} {x : Int32} {v : Int32} (hdg : decode cc pc = .ok (.i2b, 1)) (hv : x.toInt8.toInt32 = v) (hp : pc + 1 = pc') (kk : Z p l e R s m args below meth c Q D cl A N0 pc' lv ((.int v :: rest)) ws cells slots) : Z p l e R s m args below meth c Q D cl A N0 pc lv ((.int x :: rest)) ws cells slots := by
  subst hp
  intro H locs ls hP hD hS hL
  exact lv_i2b X.1 X.2.1 hdg hv (kk H locs ls hP hD hS hL)
theorem z_i2s (X : Cx p s m args meth c D cl ty A N0 cc Ts own ret NS) {pc pc' cells slots : Nat} {lv : List (Nat × Value)} {rest : List Value} {ws : va_W} {x : Int32} {v : Int32} (hdg : decode cc pc = .ok (.i2s, 1)) (hv : x.toInt16.toInt32 = v) (hp : pc + 1 = pc') (kk : Z p l e R s m args below meth c Q D cl A N0 pc' lv ((.int v :: rest)) ws cells slots) : Z p l e R s m args below meth c Q D cl A N0 pc lv ((.int x :: rest)) ws cells slots := by
  subst hp
  intro H locs ls hP hD hS hL
  exact lv_i2s X.1 X.2.1 hdg hv (kk H locs ls hP hD hS hL)
theorem z_i2c (X : Cx p s m args meth c D cl ty A N0 cc Ts own ret NS) {pc pc' cells slots : Nat} {lv : List (Nat × Value)} {rest : List Value} {ws : va_W} {x : Int32} {v : Int32} (hdg : decode cc pc = .ok (.i2c, 1)) (hv : (x.toUInt32 % 65536).toInt32 = v) (hp : pc + 1 = pc') (kk : Z p l e R s m args below meth c Q D cl A N0 pc' lv ((.int v :: rest)) ws cells slots) : Z p l e R s m args below meth c Q D cl A N0 pc lv ((.int x :: rest)) ws cells slots := by
  subst hp
  intro H locs ls hP hD hS hL
  exact lv_i2c X.1 X.2.1 hdg hv (kk H locs ls hP hD hS hL)
theorem z_iushr (X : Cx p s m args meth c D cl ty A N0 cc Ts own ret NS) {pc pc' cells slots : Nat} {lv : List (Nat × Value)} {rest : List Value} {ws : va_W} {x y v : Int32} (hdg : decode cc pc = .ok (.iushr, 1)) (hv : (x.toUInt32 >>> (y.toUInt32 &&& Int32.toUInt32 31)).toInt32 = v) (hp : pc + 1 = pc') (kk : Z p l e R s m args below meth c Q D cl A N0 pc' lv ((.int v :: rest)) ws cells slots) : Z p l e R s m args below meth c Q D cl A N0 pc lv ((.int y :: .int x :: rest)) ws cells slots := by
  subst hp
  intro H locs ls hP hD hS hL
  exact lv_iushr X.1 X.2.1 hdg hv (kk H locs ls hP hD hS hL)
theorem z_lushr (X : Cx p s m args meth c D cl ty A N0 cc Ts own ret NS) {pc pc' cells slots : Nat} {lv : List (Nat × Value)} {rest : List Value} {ws : va_W} {x v : Int64} {y : Int32} (hdg : decode cc pc = .ok (.lushr, 1)) (hv : (x.toUInt64 >>> (y.toInt64.toUInt64 &&& Int64.toUInt64 63)).toInt64 = v) (hp : pc + 1 = pc') (kk : Z p l e R s m args below meth c Q D cl A N0 pc' lv ((.long v :: rest)) ws cells slots) : Z p l e R s m args below meth c Q D cl A N0 pc lv ((.int y :: .long x :: rest)) ws cells slots := by
  subst hp
  intro H locs ls hP hD hS hL
  exact lv_lushr X.1 X.2.1 hdg hv (kk H locs ls hP hD hS hL)
theorem z_lshl (X : Cx p s m args meth c D cl ty A N0 cc Ts own ret NS) {pc pc' cells slots : Nat} {lv : List (Nat × Value)} {rest : List Value} {ws : va_W} {x v : Int64} {y : Int32} (hdg : decode cc pc = .ok (.lshl, 1)) (hv : x <<< (y.toInt64 &&& 63) = v) (hp : pc + 1 = pc') (kk : Z p l e R s m args below meth c Q D cl A N0 pc' lv ((.long v :: rest)) ws cells slots) : Z p l e R s m args below meth c Q D cl A N0 pc lv ((.int y :: .long x :: rest)) ws cells slots := by
  subst hp
  intro H locs ls hP hD hS hL
  exact lv_lshl X.1 X.2.1 hdg hv (kk H locs ls hP hD hS hL)
theorem z_lshr (X : Cx p s m args meth c D cl ty A N0 cc Ts own ret NS) {pc pc' cells slots : Nat} {lv : List (Nat × Value)} {rest : List Value} {ws : va_W} {x v : Int64} {y : Int32} (hdg : decode cc pc = .ok (.lshr, 1)) (hv : x >>> (y.toInt64 &&& 63) = v) (hp : pc + 1 = pc') (kk : Z p l e R s m args below meth c Q D cl A N0 pc' lv ((.long v :: rest)) ws cells slots) : Z p l e R s m args below meth c Q D cl A N0 pc lv ((.int y :: .long x :: rest)) ws cells slots := by
  subst hp
  intro H locs ls hP hD hS hL
  exact lv_lshr X.1 X.2.1 hdg hv (kk H locs ls hP hD hS hL)
theorem z_dup (X : Cx p s m args meth c D cl ty A N0 cc Ts own ret NS) {pc pc' cells slots : Nat} {lv : List (Nat × Value)} {rest : List Value} {ws : va_W} {va : Value} (hdg : decode cc pc = .ok (.dup, 1)) (hva : va.category = 1) (hp : pc + 1 = pc') (kk : Z p l e R s m args below meth c Q D cl A N0 pc' lv ((va :: va :: rest)) ws cells slots) : Z p l e R s m args below meth c Q D cl A N0 pc lv ((va :: rest)) ws cells slots := by
  subst hp
  intro H locs ls hP hD hS hL
  exact lv_dup X.1 X.2.1 hdg hva (kk H locs ls hP hD hS hL)
theorem z_pop (X : Cx p s m args meth c D cl ty A N0 cc Ts own ret NS) {pc pc' cells slots : Nat} {lv : List (Nat × Value)} {rest : List Value} {ws : va_W} {va : Value} (hdg : decode cc pc = .ok (.pop, 1)) (hva : va.category = 1) (hp : pc + 1 = pc') (kk : Z p l e R s m args below meth c Q D cl A N0 pc' lv ((rest)) ws cells slots) : Z p l e R s m args below meth c Q D cl A N0 pc lv ((va :: rest)) ws cells slots := by
  subst hp
  intro H locs ls hP hD hS hL
  exact lv_pop X.1 X.2.1 hdg hva (kk H locs ls hP hD hS hL)
theorem z_dup_x1 (X : Cx p s m args meth c D cl ty A N0 cc Ts own ret NS) {pc pc' cells slots : Nat} {lv : List (Nat × Value)} {rest : List Value} {ws : va_W} {va vb : Value} (hdg : decode cc pc = .ok (.dup_x1, 1)) (hva : va.category = 1) (hvb : vb.category = 1) (hp : pc + 1 = pc') (kk : Z p l e R s m args below meth c Q D cl A N0 pc' lv ((va :: vb :: va :: rest)) ws cells slots) : Z p l e R s m args below meth c Q D cl A N0 pc lv ((va :: vb :: rest)) ws cells slots := by
  subst hp
  intro H locs ls hP hD hS hL
  exact lv_dup_x1 X.1 X.2.1 hdg hva hvb (kk H locs ls hP hD hS hL)
theorem z_dup2_11 (X : Cx p s m args meth c D cl ty A N0 cc Ts own ret NS) {pc pc' cells slots : Nat} {lv : List (Nat × Value)} {rest : List Value} {ws : va_W} {va vb : Value} (hdg : decode cc pc = .ok (.dup2, 1)) (hva : va.category = 1) (hvb : vb.category = 1) (hp : pc + 1 = pc') (kk : Z p l e R s m args below meth c Q D cl A N0 pc' lv ((va :: vb :: va :: vb :: rest)) ws cells slots) : Z p l e R s m args below meth c Q D cl A N0 pc lv ((va :: vb :: rest)) ws cells slots := by
  subst hp
  intro H locs ls hP hD hS hL
  exact lv_dup2_11 X.1 X.2.1 hdg hva hvb (kk H locs ls hP hD hS hL)
theorem z_dup2_2 (X : Cx p s m args meth c D cl ty A N0 cc Ts own ret NS) {pc pc' cells slots : Nat} {lv : List (Nat × Value)} {rest : List Value} {ws : va_W} {va : Value} (hdg : decode cc pc = .ok (.dup2, 1)) (hva : va.category = 2) (hp : pc + 1 = pc') (kk : Z p l e R s m args below meth c Q D cl A N0 pc' lv ((va :: va :: rest)) ws cells slots) : Z p l e R s m args below meth c Q D cl A N0 pc lv ((va :: rest)) ws cells slots := by
  subst hp
  intro H locs ls hP hD hS hL
  exact lv_dup2_2 X.1 X.2.1 hdg hva (kk H locs ls hP hD hS hL)
theorem z_pop2_2 (X : Cx p s m args meth c D cl ty A N0 cc Ts own ret NS) {pc pc' cells slots : Nat} {lv : List (Nat × Value)} {rest : List Value} {ws : va_W} {va : Value} (hdg : decode cc pc = .ok (.pop2, 1)) (hva : va.category = 2) (hp : pc + 1 = pc') (kk : Z p l e R s m args below meth c Q D cl A N0 pc' lv ((rest)) ws cells slots) : Z p l e R s m args below meth c Q D cl A N0 pc lv ((va :: rest)) ws cells slots := by
  subst hp
  intro H locs ls hP hD hS hL
  exact lv_pop2_2 X.1 X.2.1 hdg hva (kk H locs ls hP hD hS hL)
theorem z_if_eq (X : Cx p s m args meth c D cl ty A N0 cc Ts own ret NS) {pc pc' cells slots : Nat} {lv : List (Nat × Value)} {rest : List Value} {ws : va_W} {x : Int32} {off : Int} {tgt : Nat} (hdg : decode cc pc = .ok (.ifCond .eq off, 3)) (ht : (pc : Int) + off = (tgt : Int)) (hp : pc + 3 = pc') (kt : x = 0 → Z p l e R s m args below meth c Q D cl A N0 tgt lv (rest) ws cells slots) (kf : ¬ x = 0 → Z p l e R s m args below meth c Q D cl A N0 pc' lv (rest) ws cells slots) : Z p l e R s m args below meth c Q D cl A N0 pc lv ((.int x :: rest)) ws cells slots := by
  subst hp
  intro H locs ls hP hD hS hL
  exact lv_if_eq X.1 X.2.1 hdg ht (fun h => kt h H locs ls hP hD hS hL) (fun h => kf h H locs ls hP hD hS hL)
theorem z_if_ne (X : Cx p s m args meth c D cl ty A N0 cc Ts own ret NS) {pc pc' cells slots : Nat} {lv : List (Nat × Value)} {rest : List Value} {ws : va_W} {x : Int32} {off : Int} {tgt : Nat} (hdg : decode cc pc = .ok (.ifCond .ne off, 3)) (ht : (pc : Int) + off = (tgt : Int)) (hp : pc + 3 = pc') (kt : ¬ x = 0 → Z p l e R s m args below meth c Q D cl A N0 tgt lv (rest) ws cells slots) (kf : x = 0 → Z p l e R s m args below meth c Q D cl A N0 pc' lv (rest) ws cells slots) : Z p l e R s m args below meth c Q D cl A N0 pc lv ((.int x :: rest)) ws cells slots := by
  subst hp
  intro H locs ls hP hD hS hL
  exact lv_if_ne X.1 X.2.1 hdg ht (fun h => kt h H locs ls hP hD hS hL) (fun h => kf h H locs ls hP hD hS hL)
theorem z_if_lt (X : Cx p s m args meth c D cl ty A N0 cc Ts own ret NS) {pc pc' cells slots : Nat} {lv : List (Nat × Value)} {rest : List Value} {ws : va_W} {x : Int32} {off : Int} {tgt : Nat} (hdg : decode cc pc = .ok (.ifCond .lt off, 3)) (ht : (pc : Int) + off = (tgt : Int)) (hp : pc + 3 = pc') (kt : x < 0 → Z p l e R s m args below meth c Q D cl A N0 tgt lv (rest) ws cells slots) (kf : ¬ x < 0 → Z p l e R s m args below meth c Q D cl A N0 pc' lv (rest) ws cells slots) : Z p l e R s m args below meth c Q D cl A N0 pc lv ((.int x :: rest)) ws cells slots := by
  subst hp
  intro H locs ls hP hD hS hL
  exact lv_if_lt X.1 X.2.1 hdg ht (fun h => kt h H locs ls hP hD hS hL) (fun h => kf h H locs ls hP hD hS hL)
theorem z_if_ge (X : Cx p s m args meth c D cl ty A N0 cc Ts own ret NS) {pc pc' cells slots : Nat} {lv : List (Nat × Value)} {rest : List Value} {ws : va_W} {x : Int32} {off : Int} {tgt : Nat} (hdg : decode cc pc = .ok (.ifCond .ge off, 3)) (ht : (pc : Int) + off = (tgt : Int)) (hp : pc + 3 = pc') (kt : 0 ≤ x → Z p l e R s m args below meth c Q D cl A N0 tgt lv (rest) ws cells slots) (kf : ¬ 0 ≤ x → Z p l e R s m args below meth c Q D cl A N0 pc' lv (rest) ws cells slots) : Z p l e R s m args below meth c Q D cl A N0 pc lv ((.int x :: rest)) ws cells slots := by
  subst hp
  intro H locs ls hP hD hS hL
  exact lv_if_ge X.1 X.2.1 hdg ht (fun h => kt h H locs ls hP hD hS hL) (fun h => kf h H locs ls hP hD hS hL)
theorem z_if_gt (X : Cx p s m args meth c D cl ty A N0 cc Ts own ret NS) {pc pc' cells slots : Nat} {lv : List (Nat × Value)} {rest : List Value} {ws : va_W} {x : Int32} {off : Int} {tgt : Nat} (hdg : decode cc pc = .ok (.ifCond .gt off, 3)) (ht : (pc : Int) + off = (tgt : Int)) (hp : pc + 3 = pc') (kt : 0 < x → Z p l e R s m args below meth c Q D cl A N0 tgt lv (rest) ws cells slots) (kf : ¬ 0 < x → Z p l e R s m args below meth c Q D cl A N0 pc' lv (rest) ws cells slots) : Z p l e R s m args below meth c Q D cl A N0 pc lv ((.int x :: rest)) ws cells slots := by
  subst hp
  intro H locs ls hP hD hS hL
  exact lv_if_gt X.1 X.2.1 hdg ht (fun h => kt h H locs ls hP hD hS hL) (fun h => kf h H locs ls hP hD hS hL)
theorem z_if_le (X : Cx p s m args meth c D cl ty A N0 cc Ts own ret NS) {pc pc' cells slots : Nat} {lv : List (Nat × Value)} {rest : List Value} {ws : va_W} {x : Int32} {off : Int} {tgt : Nat} (hdg : decode cc pc = .ok (.ifCond .le off, 3)) (ht : (pc : Int) + off = (tgt : Int)) (hp : pc + 3 = pc') (kt : x ≤ 0 → Z p l e R s m args below meth c Q D cl A N0 tgt lv (rest) ws cells slots) (kf : ¬ x ≤ 0 → Z p l e R s m args below meth c Q D cl A N0 pc' lv (rest) ws cells slots) : Z p l e R s m args below meth c Q D cl A N0 pc lv ((.int x :: rest)) ws cells slots := by
  subst hp
  intro H locs ls hP hD hS hL
  exact lv_if_le X.1 X.2.1 hdg ht (fun h => kt h H locs ls hP hD hS hL) (fun h => kf h H locs ls hP hD hS hL)
theorem z_icmp_eq (X : Cx p s m args meth c D cl ty A N0 cc Ts own ret NS) {pc pc' cells slots : Nat} {lv : List (Nat × Value)} {rest : List Value} {ws : va_W} {x y : Int32} {off : Int} {tgt : Nat} (hdg : decode cc pc = .ok (.if_icmp .eq off, 3)) (ht : (pc : Int) + off = (tgt : Int)) (hp : pc + 3 = pc') (kt : x = y → Z p l e R s m args below meth c Q D cl A N0 tgt lv (rest) ws cells slots) (kf : ¬ x = y → Z p l e R s m args below meth c Q D cl A N0 pc' lv (rest) ws cells slots) : Z p l e R s m args below meth c Q D cl A N0 pc lv ((.int y :: .int x :: rest)) ws cells slots := by
  subst hp
  intro H locs ls hP hD hS hL
  exact lv_icmp_eq X.1 X.2.1 hdg ht (fun h => kt h H locs ls hP hD hS hL) (fun h => kf h H locs ls hP hD hS hL)
theorem z_icmp_ne (X : Cx p s m args meth c D cl ty A N0 cc Ts own ret NS) {pc pc' cells slots : Nat} {lv : List (Nat × Value)} {rest : List Value} {ws : va_W} {x y : Int32} {off : Int} {tgt : Nat} (hdg : decode cc pc = .ok (.if_icmp .ne off, 3)) (ht : (pc : Int) + off = (tgt : Int)) (hp : pc + 3 = pc') (kt : ¬ x = y → Z p l e R s m args below meth c Q D cl A N0 tgt lv (rest) ws cells slots) (kf : x = y → Z p l e R s m args below meth c Q D cl A N0 pc' lv (rest) ws cells slots) : Z p l e R s m args below meth c Q D cl A N0 pc lv ((.int y :: .int x :: rest)) ws cells slots := by
  subst hp
  intro H locs ls hP hD hS hL
  exact lv_icmp_ne X.1 X.2.1 hdg ht (fun h => kt h H locs ls hP hD hS hL) (fun h => kf h H locs ls hP hD hS hL)
theorem z_icmp_lt (X : Cx p s m args meth c D cl ty A N0 cc Ts own ret NS) {pc pc' cells slots : Nat} {lv : List (Nat × Value)} {rest : List Value} {ws : va_W} {x y : Int32} {off : Int} {tgt : Nat} (hdg : decode cc pc = .ok (.if_icmp .lt off, 3)) (ht : (pc : Int) + off = (tgt : Int)) (hp : pc + 3 = pc') (kt : x < y → Z p l e R s m args below meth c Q D cl A N0 tgt lv (rest) ws cells slots) (kf : ¬ x < y → Z p l e R s m args below meth c Q D cl A N0 pc' lv (rest) ws cells slots) : Z p l e R s m args below meth c Q D cl A N0 pc lv ((.int y :: .int x :: rest)) ws cells slots := by
  subst hp
  intro H locs ls hP hD hS hL
  exact lv_icmp_lt X.1 X.2.1 hdg ht (fun h => kt h H locs ls hP hD hS hL) (fun h => kf h H locs ls hP hD hS hL)
theorem z_icmp_ge (X : Cx p s m args meth c D cl ty A N0 cc Ts own ret NS) {pc pc' cells slots : Nat} {lv : List (Nat × Value)} {rest : List Value} {ws : va_W} {x y : Int32} {off : Int} {tgt : Nat} (hdg : decode cc pc = .ok (.if_icmp .ge off, 3)) (ht : (pc : Int) + off = (tgt : Int)) (hp : pc + 3 = pc') (kt : y ≤ x → Z p l e R s m args below meth c Q D cl A N0 tgt lv (rest) ws cells slots) (kf : ¬ y ≤ x → Z p l e R s m args below meth c Q D cl A N0 pc' lv (rest) ws cells slots) : Z p l e R s m args below meth c Q D cl A N0 pc lv ((.int y :: .int x :: rest)) ws cells slots := by
  subst hp
  intro H locs ls hP hD hS hL
  exact lv_icmp_ge X.1 X.2.1 hdg ht (fun h => kt h H locs ls hP hD hS hL) (fun h => kf h H locs ls hP hD hS hL)
theorem z_icmp_gt (X : Cx p s m args meth c D cl ty A N0 cc Ts own ret NS) {pc pc' cells slots : Nat} {lv : List (Nat × Value)} {rest : List Value} {ws : va_W} {x y : Int32} {off : Int} {tgt : Nat} (hdg : decode cc pc = .ok (.if_icmp .gt off, 3)) (ht : (pc : Int) + off = (tgt : Int)) (hp : pc + 3 = pc') (kt : y < x → Z p l e R s m args below meth c Q D cl A N0 tgt lv (rest) ws cells slots) (kf : ¬ y < x → Z p l e R s m args below meth c Q D cl A N0 pc' lv (rest) ws cells slots) : Z p l e R s m args below meth c Q D cl A N0 pc lv ((.int y :: .int x :: rest)) ws cells slots := by
  subst hp
  intro H locs ls hP hD hS hL
  exact lv_icmp_gt X.1 X.2.1 hdg ht (fun h => kt h H locs ls hP hD hS hL) (fun h => kf h H locs ls hP hD hS hL)
theorem z_icmp_le (X : Cx p s m args meth c D cl ty A N0 cc Ts own ret NS) {pc pc' cells slots : Nat} {lv : List (Nat × Value)} {rest : List Value} {ws : va_W} {x y : Int32} {off : Int} {tgt : Nat} (hdg : decode cc pc = .ok (.if_icmp .le off, 3)) (ht : (pc : Int) + off = (tgt : Int)) (hp : pc + 3 = pc') (kt : x ≤ y → Z p l e R s m args below meth c Q D cl A N0 tgt lv (rest) ws cells slots) (kf : ¬ x ≤ y → Z p l e R s m args below meth c Q D cl A N0 pc' lv (rest) ws cells slots) : Z p l e R s m args below meth c Q D cl A N0 pc lv ((.int y :: .int x :: rest)) ws cells slots := by
  subst hp
  intro H locs ls hP hD hS hL
  exact lv_icmp_le X.1 X.2.1 hdg ht (fun h => kt h H locs ls hP hD hS hL) (fun h => kf h H locs ls hP hD hS hL)
theorem z_goto (X : Cx p s m args meth c D cl ty A N0 cc Ts own ret NS) {pc cells slots : Nat} {lv : List (Nat × Value)} {rest : List Value} {ws : va_W} {off : Int} {tgt : Nat} (hdg : decode cc pc = .ok (.goto off, 3)) (ht : (pc : Int) + off = (tgt : Int)) (kk : Z p l e R s m args below meth c Q D cl A N0 tgt lv (rest) ws cells slots) : Z p l e R s m args below meth c Q D cl A N0 pc lv (rest) ws cells slots := by
  intro H locs ls hP hD hS hL
  exact lv_goto X.1 X.2.1 hdg ht (kk H locs ls hP hD hS hL)
theorem z_tableOut (X : Cx p s m args meth c D cl ty A N0 cc Ts own ret NS) {pc cells slots : Nat} {lv : List (Nat × Value)} {rest : List Value} {ws : va_W} {dflt lo hi : Int} {offs : Array Int} {len : Nat} {x : Int32} {tgt : Nat} (hdg : decode cc pc = .ok (.tableswitch dflt lo hi offs, len)) (h : x.toInt < lo ∨ hi < x.toInt) (ht : (pc : Int) + dflt = (tgt : Int)) (kk : Z p l e R s m args below meth c Q D cl A N0 tgt lv (rest) ws cells slots) : Z p l e R s m args below meth c Q D cl A N0 pc lv ((.int x :: rest)) ws cells slots := by
  intro H locs ls hP hD hS hL
  exact lv_tableOut X.1 X.2.1 hdg h ht (kk H locs ls hP hD hS hL)
theorem z_tableIn (X : Cx p s m args meth c D cl ty A N0 cc Ts own ret NS) {pc cells slots : Nat} {lv : List (Nat × Value)} {rest : List Value} {ws : va_W} {dflt lo hi : Int} {offs : Array Int} {len : Nat} {x : Int32} {off : Int} {tgt : Nat} (hdg : decode cc pc = .ok (.tableswitch dflt lo hi offs, len)) (h1 : ¬ x.toInt < lo) (h2 : ¬ hi < x.toInt) (ho : offs[(x.toInt - lo).toNat]? = some off) (ht : (pc : Int) + off = (tgt : Int)) (kk : Z p l e R s m args below meth c Q D cl A N0 tgt lv (rest) ws cells slots) : Z p l e R s m args below meth c Q D cl A N0 pc lv ((.int x :: rest)) ws cells slots := by
  intro H locs ls hP hD hS hL
  exact lv_tableIn X.1 X.2.1 hdg h1 h2 ho ht (kk H locs ls hP hD hS hL)
theorem z_lookup (X : Cx p s m args meth c D cl ty A N0 cc Ts own ret NS) {pc cells slots : Nat} {lv : List (Nat × Value)} {rest : List Value} {ws : va_W} {dflt : Int} {ps : Array (Int × Int)} {len : Nat} {x : Int32} {off : Int} {tgt : Nat} (hdg : decode cc pc = .ok (.lookupswitch dflt ps, len)) (hp : (ps.toList.zip (ps.toList.drop 1)).all (fun (a, next) => a.1 < next.1) = true) (ho : Op.lookupswitch.offset ps.toList dflt x.toInt = off) (ht : (pc : Int) + off = (tgt : Int)) (kk : Z p l e R s m args below meth c Q D cl A N0 tgt lv (rest) ws cells slots) : Z p l e R s m args below meth c Q D cl A N0 pc lv ((.int x :: rest)) ws cells slots := by
  intro H locs ls hP hD hS hL
  exact lv_lookup X.1 X.2.1 hdg hp ho ht (kk H locs ls hP hD hS hL)
theorem z_lcmp (X : Cx p s m args meth c D cl ty A N0 cc Ts own ret NS) {pc pc' cells slots : Nat} {lv : List (Nat × Value)} {rest : List Value} {ws : va_W} {x y : Int64} (hdg : decode cc pc = .ok (.lcmp, 1)) (hp : pc + 1 = pc') (kk : Z p l e R s m args below meth c Q D cl A N0 pc' lv (.int (lg_cmp x y) :: rest) ws cells slots) : Z p l e R s m args below meth c Q D cl A N0 pc lv (.long y :: .long x :: rest) ws cells slots := by
  subst hp
  intro H locs ls hP hD hS hL
  exact W.lcmp X.1 X.2.1 hdg (kk H locs ls hP hD hS hL)
theorem z_ldc2 (X : Cx p s m args meth c D cl ty A N0 cc Ts own ret NS) {pc pc' cells slots : Nat} {lv : List (Nat × Value)} {rest : List Value} {ws : va_W} {index : Nat} {v : Int64} (hc : Jvm.Cond.constantLong own index v ∈ Ts) (hdg : decode cc pc = .ok (.ldc2_w index, 3)) (hp : pc + 3 = pc') (kk : Z p l e R s m args below meth c Q D cl A N0 pc' lv (.long v :: rest) ws cells slots) : Z p l e R s m args below meth c Q D cl A N0 pc lv rest ws cells slots := by
  subst hp
  intro H locs ls hP hD hS hL
  exact lv_ldc2 X.1 X.2.1 X.2.2.2.1 (X.2.2.2.2.1 _ hc) hdg (kk H locs ls hP hD hS hL)
theorem z_ldc (X : Cx p s m args meth c D cl ty A N0 cc Ts own ret NS) {pc pc' cells slots : Nat} {lv : List (Nat × Value)} {rest : List Value} {ws : va_W} {index : Nat} {v : Int32} (hc : Jvm.Cond.constant own index v ∈ Ts) (hdg : decode cc pc = .ok (.ldc index, 2)) (hp : pc + 2 = pc') (kk : Z p l e R s m args below meth c Q D cl A N0 pc' lv (.int v :: rest) ws cells slots) : Z p l e R s m args below meth c Q D cl A N0 pc lv rest ws cells slots := by
  subst hp
  intro H locs ls hP hD hS hL
  exact lv_ldc X.1 X.2.1 X.2.2.2.1 (X.2.2.2.2.1 _ hc) hdg (kk H locs ls hP hD hS hL)
theorem z_get (X : Cx p s m args meth c D cl ty A N0 cc Ts own ret NS) {pc pc' cells slots : Nat} {lv : List (Nat × Value)} {rest : List Value} {ws : va_W} {a ci index N : Nat} {C : String} {T : u_T} {fs : List Value} {v : Value} (q0 : Nat) (he : ws[q0]? = some (a, .inr (ci, fs))) (hc : cl[ci]? = some (C, T, N)) (hin : ∀ w ∈ u_ws C T N, w ∈ Ts) (k : Nat) (hk : k < N) (hlink : Cond.fieldLink own index (T k).1 (T k).2.1 (T k).2.2.1 ∈ Ts) (hv : fs[k]? = some v) (hdg : decode cc pc = .ok (.getfield index, 3)) (hp : pc + 3 = pc')
    (kk : Z p l e R s m args below meth c Q D cl A N0 pc' lv (v :: rest) ws cells slots) : Z p l e R s m args below meth c Q D cl A N0 pc lv (.ref a :: rest) ws cells slots := by
  subst hp
  intro H locs ls hP hD hS hL
  exact va_get X.1 X.2.1 X.2.2.2.2.1 hin X.2.2.2.1 X.2.2.2.2.2.1 hP q0 he hc k hk (X.2.2.2.2.1 _ hlink) (fun _ h => h) hv hdg (kk H locs ls hP hD hS hL)
theorem z_put (X : Cx p s m args meth c D cl ty A N0 cc Ts own ret NS) {pc pc' cells slots : Nat} {lv : List (Nat × Value)} {rest : List Value} {ws ws' : va_W} {a ci index N : Nat} {C : String} {T : u_T} {fs : List Value} {v : Value} {t1 : FieldType} (q0 : Nat) (he : ws[q0]? = some (a, .inr (ci, fs))) (hc : cl[ci]? = some (C, T, N)) (hin : ∀ w ∈ u_ws C T N, w ∈ Ts) (t0 : Nat → FieldType) (hty : ∀ k, k < N → parseFieldDescriptor (T k).2.2.1 = some (t0 k)) (hnm : ∀ a, a < N → ∀ b, b < N → a ≠ b → (T a).2.1 ≠ (T b).2.1) (k : Nat) (hk : k < N) (hlink : Cond.fieldLink own index (T k).1 (T k).2.1 (T k).2.2.1 ∈ Ts) (hfin : (T k).2.2.2 = false) (hd : parseFieldDescriptor (T k).2.2.1 = some t1) (hn : narrow t1 v = v) (hfit : fits t1 v = true) (hl : k < fs.length) (hdg : decode cc pc = .ok (.putfield index, 3)) (hp : pc + 3 = pc') (hw : ws.set q0 (a, .inr (ci, fs.set k v)) = ws')
    (kk : Z p l e R s m args below meth c Q D cl A N0 pc' lv rest ws' cells slots) : Z p l e R s m args below meth c Q D cl A N0 pc lv (v :: .ref a :: rest) ws cells slots := by
  subst hp
  subst hw
  intro H locs ls hP hD hS hL
  exact va_put X.1 X.2.1 X.2.2.2.2.1 hin t0 hty hnm X.2.2.2.1 X.2.2.2.2.2.1 hP hD hS q0 he hc k hk (X.2.2.2.2.1 _ hlink) (fun _ h => h) hfin hd hn hfit hl hdg (fun H1 locs1 hP1 hD1 hS1 => kk H1 locs1 ls hP1 hD1 hS1 hL)
theorem z_putF (X : Cx p s m args meth c D cl ty A N0 cc Ts own ret NS) (hin2 : meth.name = "<init>") {pc pc' cells slots : Nat} {lv : List (Nat × Value)} {rest : List Value} {ws ws' : va_W} {a ci index N : Nat} {C : String} {T : u_T} {fs : List Value} {v : Value} {t1 : FieldType} (q0 : Nat) (he : ws[q0]? = some (a, .inr (ci, fs))) (hc : cl[ci]? = some (C, T, N)) (hin : ∀ w ∈ u_ws C T N, w ∈ Ts) (t0 : Nat → FieldType) (hty : ∀ k, k < N → parseFieldDescriptor (T k).2.2.1 = some (t0 k)) (hnm : ∀ a, a < N → ∀ b, b < N → a ≠ b → (T a).2.1 ≠ (T b).2.1) (k : Nat) (hk : k < N) (hlink : Cond.fieldLink own index (T k).1 (T k).2.1 (T k).2.2.1 ∈ Ts) (hfin : (T k).2.2.2 = true) (hdecl : (T k).1 = own) (hd : parseFieldDescriptor (T k).2.2.1 = some t1) (hn : narrow t1 v = v) (hfit : fits t1 v = true) (hl : k < fs.length) (hdg : decode cc pc = .ok (.putfield index, 3)) (hp : pc + 3 = pc') (hw : ws.set q0 (a, .inr (ci, fs.set k v)) = ws')
    (kk : Z p l e R s m args below meth c Q D cl A N0 pc' lv rest ws' cells slots) : Z p l e R s m args below meth c Q D cl A N0 pc lv (v :: .ref a :: rest) ws cells slots := by
  subst hp
  subst hw
  intro H locs ls hP hD hS hL
  exact va_putF X.1 X.2.1 X.2.2.2.2.1 hin t0 hty hnm X.2.2.2.1 X.2.2.2.2.2.1 hP hD hS q0 he hc k hk (X.2.2.2.2.1 _ hlink) (fun _ h => h) hfin hin2 hdecl hd hn hfit hl hdg (fun H1 locs1 hP1 hD1 hS1 => kk H1 locs1 ls hP1 hD1 hS1 hL)
theorem z_iald (X : Cx p s m args meth c D cl ty A N0 cc Ts own ret NS) {pc pc' cells slots : Nat} {lv : List (Nat × Value)} {rest : List Value} {ws : va_W} {a : Nat} {cA : ClassId} {n j : Nat} {f : Nat → Int32} (q0 t0 : Nat) (ha : ws[q0]? = some (a, .inl (cA, n, .inl f))) (ht : ty[t0]? = some (cA, .int)) (hj : j < n) (hn : j < 2 ^ 31) (hdg : decode cc pc = .ok (.iaload, 1)) (hp : pc + 1 = pc')
    (kk : Z p l e R s m args below meth c Q D cl A N0 pc' lv (.int (f j) :: rest) ws cells slots) : Z p l e R s m args below meth c Q D cl A N0 pc lv (.int (nI j) :: .ref a :: rest) ws cells slots := by
  subst hp
  intro H locs ls hP hD hS hL
  have e := nI_clamp hn
  refine va_iald X.1 X.2.1 X.2.2.2.2.2.1 hP q0 t0 ha ht (i := nI j) ?_ hdg ?_
  · intro q
    rcases q with q | q
    · exact nI_pos hn q
    · rw [e] at q; omega
  · rw [e]; exact kk H locs ls hP hD hS hL
theorem z_lald (X : Cx p s m args meth c D cl ty A N0 cc Ts own ret NS) {pc pc' cells slots : Nat} {lv : List (Nat × Value)} {rest : List Value} {ws : va_W} {a : Nat} {cA : ClassId} {n j : Nat} {f : Nat → Int64} (q0 t0 : Nat) (ha : ws[q0]? = some (a, .inl (cA, n, .inr (.inl f)))) (ht : ty[t0]? = some (cA, .long)) (hj : j < n) (hn : j < 2 ^ 31) (hdg : decode cc pc = .ok (.laload, 1)) (hp : pc + 1 = pc')
    (kk : Z p l e R s m args below meth c Q D cl A N0 pc' lv (.long (f j) :: rest) ws cells slots) : Z p l e R s m args below meth c Q D cl A N0 pc lv (.int (nI j) :: .ref a :: rest) ws cells slots := by
  subst hp
  intro H locs ls hP hD hS hL
  have e := nI_clamp hn
  refine va_lald X.1 X.2.1 X.2.2.2.2.2.1 hP q0 t0 ha ht (i := nI j) ?_ hdg ?_
  · intro q
    rcases q with q | q
    · exact nI_pos hn q
    · rw [e] at q; omega
  · rw [e]; exact kk H locs ls hP hD hS hL
theorem z_iast (X : Cx p s m args meth c D cl ty A N0 cc Ts own ret NS) {pc pc' cells slots : Nat} {lv : List (Nat × Value)} {rest : List Value} {ws ws' : va_W} {a : Nat} {cA : ClassId} {n j : Nat} {f : Nat → Int32} {x : Int32} (q0 t0 : Nat) (ha : ws[q0]? = some (a, .inl (cA, n, .inl f))) (ht : ty[t0]? = some (cA, .int)) (hj : j < n) (hn : j < 2 ^ 31) (hdg : decode cc pc = .ok (.iastore, 1)) (hp : pc + 1 = pc') (hw : ws.set q0 (a, .inl (cA, n, .inl (upd f j x))) = ws')
    (kk : Z p l e R s m args below meth c Q D cl A N0 pc' lv rest ws' cells slots) : Z p l e R s m args below meth c Q D cl A N0 pc lv (.int x :: .int (nI j) :: .ref a :: rest) ws cells slots := by
  subst hp
  subst hw
  intro H locs ls hP hD hS hL
  have e := nI_clamp hn
  refine va_iast X.1 X.2.1 X.2.2.2.2.2.1 hP hD hS q0 t0 ha ht (i := nI j) ?_ hdg (fun H1 locs1 hP1 hD1 hS1 => ?_)
  · intro q
    rcases q with q | q
    · exact nI_pos hn q
    · rw [e] at q; omega
  · rw [e] at hP1 hD1; exact kk H1 locs1 ls hP1 hD1 hS1 hL
theorem z_last (X : Cx p s m args meth c D cl ty A N0 cc Ts own ret NS) {pc pc' cells slots : Nat} {lv : List (Nat × Value)} {rest : List Value} {ws ws' : va_W} {a : Nat} {cA : ClassId} {n j : Nat} {f : Nat → Int64} {x : Int64} (q0 t0 : Nat) (ha : ws[q0]? = some (a, .inl (cA, n, .inr (.inl f)))) (ht : ty[t0]? = some (cA, .long)) (hj : j < n) (hn : j < 2 ^ 31) (hdg : decode cc pc = .ok (.lastore, 1)) (hp : pc + 1 = pc') (hw : ws.set q0 (a, .inl (cA, n, .inr (.inl (vp_updL f j x)))) = ws')
    (kk : Z p l e R s m args below meth c Q D cl A N0 pc' lv rest ws' cells slots) : Z p l e R s m args below meth c Q D cl A N0 pc lv (.long x :: .int (nI j) :: .ref a :: rest) ws cells slots := by
  subst hp
  subst hw
  intro H locs ls hP hD hS hL
  have e := nI_clamp hn
  refine va_last X.1 X.2.1 X.2.2.2.2.2.1 hP hD hS q0 t0 ha ht (i := nI j) ?_ hdg (fun H1 locs1 hP1 hD1 hS1 => ?_)
  · intro q
    rcases q with q | q
    · exact nI_pos hn q
    · rw [e] at q; omega
  · rw [e] at hP1 hD1; exact kk H1 locs1 ls hP1 hD1 hS1 hL
theorem z_alen (X : Cx p s m args meth c D cl ty A N0 cc Ts own ret NS) {pc pc' cells slots : Nat} {lv : List (Nat × Value)} {rest : List Value} {ws : va_W} {a : Nat} {cA : ClassId} {x : vp_A} {t1 : FieldType} (q0 t0 : Nat) (ha : ws[q0]? = some (a, .inl (cA, x))) (ht : ty[t0]? = some (cA, t1)) (hdg : decode cc pc = .ok (.arraylength, 1)) (hp : pc + 1 = pc')
    (kk : Z p l e R s m args below meth c Q D cl A N0 pc' lv (.int (nI x.1) :: rest) ws cells slots) : Z p l e R s m args below meth c Q D cl A N0 pc lv (.ref a :: rest) ws cells slots := by
  subst hp
  intro H locs ls hP hD hS hL
  exact va_alen X.1 X.2.1 X.2.2.2.2.2.1 hP q0 t0 ha ht rfl hdg (kk H locs ls hP hD hS hL)
/-- what a contract's end asks: the answer's words, the world -/
theorem z_iret {S : Type} {post : Int32 → S → Prop} {w2 : S → va_W} (X : Cx p s m args meth c D cl ty A N0 cc Ts own ret NS) {pc cells slots mc ms : Nat} {lv : List (Nat × Value)} {ws : va_W} {v : Int32} {t1 : FieldType} (hr : ret = some t1) (hn : narrow t1 (.int v) = .int v) (u : S) (hp : post v u) (hw : ws = w2 u) (h1 : cells ≤ mc) (h2 : slots ≤ ms) (hdg : decode cc pc = .ok (.ireturn, 1)) :
    Z p l e R s m args below meth c (MQ below (va_Qi post (fun u => zPost D cl A (w2 u)) A) args s mc ms A) D cl A N0 pc lv [.int v] ws cells slots := by
  subst hw
  intro H locs ls hP hD hS hL
  refine W.widen h1 h2 ?_
  exact W.zret X.1 X.2.1 (X.2.2.2.2.2.2.2.1.trans hr) hn (fun t ht hW => ⟨⟨v, u, rfl, hp, by rw [ht]; exact hP, hD⟩, hS.F ht⟩) hS.2.2 hdg X.2.2.2.2.2.2.2.2.1
theorem z_lret {S : Type} {post : Int64 → S → Prop} {w2 : S → va_W} (X : Cx p s m args meth c D cl ty A N0 cc Ts own (some .long) NS) {pc cells slots mc ms : Nat} {lv : List (Nat × Value)} {ws : va_W} {v : Int64} (u : S) (hp : post v u) (hw : ws = w2 u) (h1 : cells ≤ mc) (h2 : slots ≤ ms) (hdg : decode cc pc = .ok (.lreturn, 1)) :
    Z p l e R s m args below meth c (MQ below (va_Ql post (fun u => zPost D cl A (w2 u)) A) args s mc ms A) D cl A N0 pc lv [.long v] ws cells slots := by
  subst hw
  intro H locs ls hP hD hS hL
  refine W.widen h1 h2 ?_
  exact W.lret X.1 X.2.1 X.2.2.2.2.2.2.2.1 (fun t ht hW => ⟨⟨v, u, rfl, hp, by rw [ht]; exact hP, hD⟩, hS.F ht⟩) hS.2.2 hdg X.2.2.2.2.2.2.2.2.1
theorem z_vret {S : Type} {post : S → Prop} {w2 : S → va_W} (X : Cx p s m args meth c D cl ty A N0 cc Ts own none NS) {pc cells slots mc ms : Nat} {lv : List (Nat × Value)} {ws : va_W} (u : S) (hp : post u) (hw : ws = w2 u) (h1 : cells ≤ mc) (h2 : slots ≤ ms) (hdg : decode cc pc = .ok (.return_, 1)) :
    Z p l e R s m args below meth c (MQ below (va_Qv post (fun u => zPost D cl A (w2 u)) A) args s mc ms A) D cl A N0 pc lv [] ws cells slots := by
  subst hw
  intro H locs ls hP hD hS hL
  refine W.widen h1 h2 ?_
  exact W.vret X.1 X.2.1 X.2.2.2.2.2.2.2.1 (fun t ht hW => ⟨⟨u, rfl, hp, by rw [ht]; exact hP, hD⟩, hS.F ht⟩) hS.2.2 hdg X.2.2.2.2.2.2.2.2.1
/-- behind a call: what came back beside the rest -/
theorem z_backi {S : Type} {post : Int32 → S → Prop} {w2 : S → va_W} (X : Cx p s m args meth c D cl ty A N0 cc Ts own ret NS) {pc pc' cells slots mc ms : Nat} {lv : List (Nat × Value)} {st rest : List Value} {ws wc wr : va_W} {a : Array Value} (isC isR : List Nat) (hC : isC.map (fun i => ws[i]?) = wc.map some) (hR : isR.map (fun i => ws[i]?) = wr.map some) (hn : va_nd isR = true) (hdis : ∀ i ∈ isR, i ∉ isC)
    (run : ∀ (H : Heap) (locs : List Loc) (ls : Array Slot), va_P D cl ws H → va_D A ws → lv_has ls N0 lv → va_Run p l e R s m args below meth c H locs cells slots mc ms (F0 m pc ls st) rest (va_Qi post (fun u => zPost D cl (va_A wc H.size) (w2 u)) (va_A wc H.size) a) (va_A wc H.size)) (hp : pc + 3 = pc')
    (kk : ∀ (r : Int32) (u : S), post r u → Z p l e R s m args below meth c Q D cl A N0 pc' lv (.int r :: rest) (wr ++ w2 u) (cells + mc) (slots + ms)) : Z p l e R s m args below meth c Q D cl A N0 pc lv st ws cells slots := by
  subst hp
  intro H locs ls hP hD hS hL
  have hFc := va_free (wc := wc) hD hS X.2.2.2.2.2.2.1 isC hC
  refine va_calli (run H locs ls hP hD hL) hS (fun q _ h => hFc q h) hFc (fun r u t H1 locs1 ht hvm hw hB hz1 hk1 hS1 => ?_)
  obtain ⟨hP1, hD1⟩ := hB
  rw [ht] at hP1
  obtain ⟨hP2, hD2⟩ := va_join (wr := wr) (w1 := w2 u) hP hD isC isR hC hR hn hdis hk1 hFc hP1 hD1
  exact kk r u hw H1 locs1 ls hP2 hD2 hS1 hL
theorem z_backl {S : Type} {post : Int64 → S → Prop} {w2 : S → va_W} (X : Cx p s m args meth c D cl ty A N0 cc Ts own ret NS) {pc pc' cells slots mc ms : Nat} {lv : List (Nat × Value)} {st rest : List Value} {ws wc wr : va_W} {a : Array Value} (isC isR : List Nat) (hC : isC.map (fun i => ws[i]?) = wc.map some) (hR : isR.map (fun i => ws[i]?) = wr.map some) (hn : va_nd isR = true) (hdis : ∀ i ∈ isR, i ∉ isC)
    (run : ∀ (H : Heap) (locs : List Loc) (ls : Array Slot), va_P D cl ws H → va_D A ws → lv_has ls N0 lv → va_Run p l e R s m args below meth c H locs cells slots mc ms (F0 m pc ls st) rest (va_Ql post (fun u => zPost D cl (va_A wc H.size) (w2 u)) (va_A wc H.size) a) (va_A wc H.size)) (hp : pc + 3 = pc')
    (kk : ∀ (r : Int64) (u : S), post r u → Z p l e R s m args below meth c Q D cl A N0 pc' lv (.long r :: rest) (wr ++ w2 u) (cells + mc) (slots + ms)) : Z p l e R s m args below meth c Q D cl A N0 pc lv st ws cells slots := by
  subst hp
  intro H locs ls hP hD hS hL
  have hFc := va_free (wc := wc) hD hS X.2.2.2.2.2.2.1 isC hC
  refine va_calll (run H locs ls hP hD hL) hS (fun q _ h => hFc q h) hFc (fun r u t H1 locs1 ht hvm hw hB hz1 hk1 hS1 => ?_)
  obtain ⟨hP1, hD1⟩ := hB
  rw [ht] at hP1
  obtain ⟨hP2, hD2⟩ := va_join (wr := wr) (w1 := w2 u) hP hD isC isR hC hR hn hdis hk1 hFc hP1 hD1
  exact kk r u hw H1 locs1 ls hP2 hD2 hS1 hL
theorem z_backv {S : Type} {post : S → Prop} {w2 : S → va_W} (X : Cx p s m args meth c D cl ty A N0 cc Ts own ret NS) {pc pc' cells slots mc ms : Nat} {lv : List (Nat × Value)} {st rest : List Value} {ws wc wr : va_W} {a : Array Value} (isC isR : List Nat) (hC : isC.map (fun i => ws[i]?) = wc.map some) (hR : isR.map (fun i => ws[i]?) = wr.map some) (hn : va_nd isR = true) (hdis : ∀ i ∈ isR, i ∉ isC)
    (run : ∀ (H : Heap) (locs : List Loc) (ls : Array Slot), va_P D cl ws H → va_D A ws → lv_has ls N0 lv → va_Run p l e R s m args below meth c H locs cells slots mc ms (F0 m pc ls st) rest (va_Qv post (fun u => zPost D cl (va_A wc H.size) (w2 u)) (va_A wc H.size) a) (va_A wc H.size)) (hp : pc + 3 = pc')
    (kk : ∀ (u : S), post u → Z p l e R s m args below meth c Q D cl A N0 pc' lv rest (wr ++ w2 u) (cells + mc) (slots + ms)) : Z p l e R s m args below meth c Q D cl A N0 pc lv st ws cells slots := by
  subst hp
  intro H locs ls hP hD hS hL
  have hFc := va_free (wc := wc) hD hS X.2.2.2.2.2.2.1 isC hC
  refine va_callv (run H locs ls hP hD hL) hS (fun q _ h => hFc q h) hFc (fun u t H1 locs1 ht hvm hw hB hz1 hk1 hS1 => ?_)
  obtain ⟨hP1, hD1⟩ := hB
  rw [ht] at hP1
  obtain ⟨hP2, hD2⟩ := va_join (wr := wr) (w1 := w2 u) hP hD isC isR hC hR hn hdis hk1 hFc hP1 hD1
  exact kk u hw H1 locs1 ls hP2 hD2 hS1 hL
theorem z_callVi {S : Type} {post : Int32 → S → Prop} {w2 : S → va_W} (X : Cx p s m args meth c D cl ty A N0 cc Ts own ret NS) {pc pc' cells slots mc ms maxL index n : Nat} {lv : List (Nat × Value)} {st As rest : List Value} {ws wc wr : va_W} {y : MethodName} {wd : List Cond} {rm : Room} {bytes : ByteArray} {cret : Option FieldType} {C : String} {b : Nat}
    (hM : ∀ sz, Met l y wd rm (va_Pc (.ref b :: As) (zPre D cl ty NS wc sz)) (va_Qi post (fun u => zPost D cl (va_A wc sz) (w2 u)) (va_A wc sz)) mc ms (va_A wc sz)) (cw : CallW R s args own C index y bytes maxL cret wd rm mc ms n)
    (isC isR : List Nat) (hC : isC.map (fun i => ws[i]?) = wc.map some) (hR : isR.map (fun i => ws[i]?) = wr.map some) (hnC : va_nd isC = true) (hn : va_nd isR = true) (hdis : ∀ i ∈ isR, i ∉ isC) (ci q0 : Nat) {q : vw_C} {fs : List Value} (hc : cl[ci]? = some q) (he : ws[q0]? = some (b, .inr (ci, fs))) (hq : q.1 = C) (hst : st = As.reverse ++ .ref b :: rest) (hAn : As.length = n) (hrm : (rest.map fun v => v.category).sum ≤ 8) (hdg : decode cc pc = .ok (.invokevirtual index, 3)) (hf : cells + mc ≤ R.cells ∧ slots + ms ≤ R.slots) (hp : pc + 3 = pc')
    (kk : ∀ (r : Int32) (u : S), post r u → Z p l e R s m args below meth c Q D cl A N0 pc' lv (.int r :: rest) (wr ++ w2 u) (cells + mc) (slots + ms)) : Z p l e R s m args below meth c Q D cl A N0 pc lv st ws cells slots :=
  z_backi X isC isR hC hR hn hdis (fun H locs ls hP hD hL => va_runV ⟨X.1, X.2.1, X.2.2.1, X.2.2.2.1, X.2.2.2.2.1⟩ (hM H.size) cw ⟨zBlind X.2.2.2.2.2.2.2.2.2.2, by rw [← hq]; exact va_recv X.2.2.2.2.2.1 hP hc he, zOk hP hD X isC hnC hC⟩ rfl hAn hL.1 hst (lv_room hrm) hdg hf) hp kk
theorem z_callVl {S : Type} {post : Int64 → S → Prop} {w2 : S → va_W} (X : Cx p s m args meth c D cl ty A N0 cc Ts own ret NS) {pc pc' cells slots mc ms maxL index n : Nat} {lv : List (Nat × Value)} {st As rest : List Value} {ws wc wr : va_W} {y : MethodName} {wd : List Cond} {rm : Room} {bytes : ByteArray} {cret : Option FieldType} {C : String} {b : Nat}
    (hM : ∀ sz, Met l y wd rm (va_Pc (.ref b :: As) (zPre D cl ty NS wc sz)) (va_Ql post (fun u => zPost D cl (va_A wc sz) (w2 u)) (va_A wc sz)) mc ms (va_A wc sz)) (cw : CallW R s args own C index y bytes maxL cret wd rm mc ms n)
    (isC isR : List Nat) (hC : isC.map (fun i => ws[i]?) = wc.map some) (hR : isR.map (fun i => ws[i]?) = wr.map some) (hnC : va_nd isC = true) (hn : va_nd isR = true) (hdis : ∀ i ∈ isR, i ∉ isC) (ci q0 : Nat) {q : vw_C} {fs : List Value} (hc : cl[ci]? = some q) (he : ws[q0]? = some (b, .inr (ci, fs))) (hq : q.1 = C) (hst : st = As.reverse ++ .ref b :: rest) (hAn : As.length = n) (hrm : (rest.map fun v => v.category).sum ≤ 8) (hdg : decode cc pc = .ok (.invokevirtual index, 3)) (hf : cells + mc ≤ R.cells ∧ slots + ms ≤ R.slots) (hp : pc + 3 = pc')
    (kk : ∀ (r : Int64) (u : S), post r u → Z p l e R s m args below meth c Q D cl A N0 pc' lv (.long r :: rest) (wr ++ w2 u) (cells + mc) (slots + ms)) : Z p l e R s m args below meth c Q D cl A N0 pc lv st ws cells slots :=
  z_backl X isC isR hC hR hn hdis (fun H locs ls hP hD hL => va_runV ⟨X.1, X.2.1, X.2.2.1, X.2.2.2.1, X.2.2.2.2.1⟩ (hM H.size) cw ⟨zBlind X.2.2.2.2.2.2.2.2.2.2, by rw [← hq]; exact va_recv X.2.2.2.2.2.1 hP hc he, zOk hP hD X isC hnC hC⟩ rfl hAn hL.1 hst (lv_room hrm) hdg hf) hp kk
theorem z_callVv {S : Type} {post : S → Prop} {w2 : S → va_W} (X : Cx p s m args meth c D cl ty A N0 cc Ts own ret NS) {pc pc' cells slots mc ms maxL index n : Nat} {lv : List (Nat × Value)} {st As rest : List Value} {ws wc wr : va_W} {y : MethodName} {wd : List Cond} {rm : Room} {bytes : ByteArray} {cret : Option FieldType} {C : String} {b : Nat}
    (hM : ∀ sz, Met l y wd rm (va_Pc (.ref b :: As) (zPre D cl ty NS wc sz)) (va_Qv post (fun u => zPost D cl (va_A wc sz) (w2 u)) (va_A wc sz)) mc ms (va_A wc sz)) (cw : CallW R s args own C index y bytes maxL cret wd rm mc ms n)
    (isC isR : List Nat) (hC : isC.map (fun i => ws[i]?) = wc.map some) (hR : isR.map (fun i => ws[i]?) = wr.map some) (hnC : va_nd isC = true) (hn : va_nd isR = true) (hdis : ∀ i ∈ isR, i ∉ isC) (ci q0 : Nat) {q : vw_C} {fs : List Value} (hc : cl[ci]? = some q) (he : ws[q0]? = some (b, .inr (ci, fs))) (hq : q.1 = C) (hst : st = As.reverse ++ .ref b :: rest) (hAn : As.length = n) (hrm : (rest.map fun v => v.category).sum ≤ 8) (hdg : decode cc pc = .ok (.invokevirtual index, 3)) (hf : cells + mc ≤ R.cells ∧ slots + ms ≤ R.slots) (hp : pc + 3 = pc')
    (kk : ∀ (u : S), post u → Z p l e R s m args below meth c Q D cl A N0 pc' lv rest (wr ++ w2 u) (cells + mc) (slots + ms)) : Z p l e R s m args below meth c Q D cl A N0 pc lv st ws cells slots :=
  z_backv X isC isR hC hR hn hdis (fun H locs ls hP hD hL => va_runV ⟨X.1, X.2.1, X.2.2.1, X.2.2.2.1, X.2.2.2.2.1⟩ (hM H.size) cw ⟨zBlind X.2.2.2.2.2.2.2.2.2.2, by rw [← hq]; exact va_recv X.2.2.2.2.2.1 hP hc he, zOk hP hD X isC hnC hC⟩ rfl hAn hL.1 hst (lv_room hrm) hdg hf) hp kk
theorem z_callVNi {S : Type} {post : Int32 → S → Prop} {w2 : S → va_W} (X : Cx p s m args meth c D cl ty A N0 cc Ts own ret NS) {pc pc' cells slots mc ms maxL index n : Nat} {lv : List (Nat × Value)} {st As rest : List Value} {ws wc wr : va_W} {y : MethodName} {wd : List Cond} {rm : Room} {bytes : ByteArray} {cret : Option FieldType} {C host : String} {b : Nat}
    (hM : ∀ sz, Met l y wd rm (va_Pc (.ref b :: As) (zPre D cl ty NS wc sz)) (va_Qi post (fun u => zPost D cl (va_A wc sz) (w2 u)) (va_A wc sz)) mc ms (va_A wc sz)) (cw : va_CN R s args own index y host bytes maxL cret wd rm mc ms n ∧ (Cond.instanceMethod y).before args s = true ∧ (Cond.selects C y y).before args s = true)
    (isC isR : List Nat) (hC : isC.map (fun i => ws[i]?) = wc.map some) (hR : isR.map (fun i => ws[i]?) = wr.map some) (hnC : va_nd isC = true) (hn : va_nd isR = true) (hdis : ∀ i ∈ isR, i ∉ isC) (ci q0 : Nat) {q : vw_C} {fs : List Value} (hc : cl[ci]? = some q) (he : ws[q0]? = some (b, .inr (ci, fs))) (hq : q.1 = C) (hst : st = As.reverse ++ .ref b :: rest) (hAn : As.length = n) (hrm : (rest.map fun v => v.category).sum ≤ 8) (hdg : decode cc pc = .ok (.invokevirtual index, 3)) (hf : cells + mc ≤ R.cells ∧ slots + ms ≤ R.slots) (hp : pc + 3 = pc')
    (kk : ∀ (r : Int32) (u : S), post r u → Z p l e R s m args below meth c Q D cl A N0 pc' lv (.int r :: rest) (wr ++ w2 u) (cells + mc) (slots + ms)) : Z p l e R s m args below meth c Q D cl A N0 pc lv st ws cells slots :=
  z_backi X isC isR hC hR hn hdis (fun H locs ls hP hD hL => va_runVN ⟨X.1, X.2.1, X.2.2.1, X.2.2.2.1, X.2.2.2.2.1⟩ (hM H.size) cw ⟨zBlind X.2.2.2.2.2.2.2.2.2.2, by rw [← hq]; exact va_recv X.2.2.2.2.2.1 hP hc he, zOk hP hD X isC hnC hC⟩ rfl hAn hL.1 hst (lv_room hrm) hdg hf) hp kk
theorem z_callVNl {S : Type} {post : Int64 → S → Prop} {w2 : S → va_W} (X : Cx p s m args meth c D cl ty A N0 cc Ts own ret NS) {pc pc' cells slots mc ms maxL index n : Nat} {lv : List (Nat × Value)} {st As rest : List Value} {ws wc wr : va_W} {y : MethodName} {wd : List Cond} {rm : Room} {bytes : ByteArray} {cret : Option FieldType} {C host : String} {b : Nat}
    (hM : ∀ sz, Met l y wd rm (va_Pc (.ref b :: As) (zPre D cl ty NS wc sz)) (va_Ql post (fun u => zPost D cl (va_A wc sz) (w2 u)) (va_A wc sz)) mc ms (va_A wc sz)) (cw : va_CN R s args own index y host bytes maxL cret wd rm mc ms n ∧ (Cond.instanceMethod y).before args s = true ∧ (Cond.selects C y y).before args s = true)
    (isC isR : List Nat) (hC : isC.map (fun i => ws[i]?) = wc.map some) (hR : isR.map (fun i => ws[i]?) = wr.map some) (hnC : va_nd isC = true) (hn : va_nd isR = true) (hdis : ∀ i ∈ isR, i ∉ isC) (ci q0 : Nat) {q : vw_C} {fs : List Value} (hc : cl[ci]? = some q) (he : ws[q0]? = some (b, .inr (ci, fs))) (hq : q.1 = C) (hst : st = As.reverse ++ .ref b :: rest) (hAn : As.length = n) (hrm : (rest.map fun v => v.category).sum ≤ 8) (hdg : decode cc pc = .ok (.invokevirtual index, 3)) (hf : cells + mc ≤ R.cells ∧ slots + ms ≤ R.slots) (hp : pc + 3 = pc')
    (kk : ∀ (r : Int64) (u : S), post r u → Z p l e R s m args below meth c Q D cl A N0 pc' lv (.long r :: rest) (wr ++ w2 u) (cells + mc) (slots + ms)) : Z p l e R s m args below meth c Q D cl A N0 pc lv st ws cells slots :=
  z_backl X isC isR hC hR hn hdis (fun H locs ls hP hD hL => va_runVN ⟨X.1, X.2.1, X.2.2.1, X.2.2.2.1, X.2.2.2.2.1⟩ (hM H.size) cw ⟨zBlind X.2.2.2.2.2.2.2.2.2.2, by rw [← hq]; exact va_recv X.2.2.2.2.2.1 hP hc he, zOk hP hD X isC hnC hC⟩ rfl hAn hL.1 hst (lv_room hrm) hdg hf) hp kk
theorem z_callVNv {S : Type} {post : S → Prop} {w2 : S → va_W} (X : Cx p s m args meth c D cl ty A N0 cc Ts own ret NS) {pc pc' cells slots mc ms maxL index n : Nat} {lv : List (Nat × Value)} {st As rest : List Value} {ws wc wr : va_W} {y : MethodName} {wd : List Cond} {rm : Room} {bytes : ByteArray} {cret : Option FieldType} {C host : String} {b : Nat}
    (hM : ∀ sz, Met l y wd rm (va_Pc (.ref b :: As) (zPre D cl ty NS wc sz)) (va_Qv post (fun u => zPost D cl (va_A wc sz) (w2 u)) (va_A wc sz)) mc ms (va_A wc sz)) (cw : va_CN R s args own index y host bytes maxL cret wd rm mc ms n ∧ (Cond.instanceMethod y).before args s = true ∧ (Cond.selects C y y).before args s = true)
    (isC isR : List Nat) (hC : isC.map (fun i => ws[i]?) = wc.map some) (hR : isR.map (fun i => ws[i]?) = wr.map some) (hnC : va_nd isC = true) (hn : va_nd isR = true) (hdis : ∀ i ∈ isR, i ∉ isC) (ci q0 : Nat) {q : vw_C} {fs : List Value} (hc : cl[ci]? = some q) (he : ws[q0]? = some (b, .inr (ci, fs))) (hq : q.1 = C) (hst : st = As.reverse ++ .ref b :: rest) (hAn : As.length = n) (hrm : (rest.map fun v => v.category).sum ≤ 8) (hdg : decode cc pc = .ok (.invokevirtual index, 3)) (hf : cells + mc ≤ R.cells ∧ slots + ms ≤ R.slots) (hp : pc + 3 = pc')
    (kk : ∀ (u : S), post u → Z p l e R s m args below meth c Q D cl A N0 pc' lv rest (wr ++ w2 u) (cells + mc) (slots + ms)) : Z p l e R s m args below meth c Q D cl A N0 pc lv st ws cells slots :=
  z_backv X isC isR hC hR hn hdis (fun H locs ls hP hD hL => va_runVN ⟨X.1, X.2.1, X.2.2.1, X.2.2.2.1, X.2.2.2.2.1⟩ (hM H.size) cw ⟨zBlind X.2.2.2.2.2.2.2.2.2.2, by rw [← hq]; exact va_recv X.2.2.2.2.2.1 hP hc he, zOk hP hD X isC hnC hC⟩ rfl hAn hL.1 hst (lv_room hrm) hdg hf) hp kk
theorem z_callSi {S : Type} {post : Int32 → S → Prop} {w2 : S → va_W} (X : Cx p s m args meth c D cl ty A N0 cc Ts own ret NS) {pc pc' cells slots mc ms maxL index n : Nat} {lv : List (Nat × Value)} {st As rest : List Value} {ws wc wr : va_W} {y : MethodName} {wd : List Cond} {rm : Room} {bytes : ByteArray} {cret : Option FieldType} 
    (hM : ∀ sz, Met l y wd rm (va_Pc As (zPre D cl ty NS wc sz)) (va_Qi post (fun u => zPost D cl (va_A wc sz) (w2 u)) (va_A wc sz)) mc ms (va_A wc sz)) (cw : CallB R s args own index y bytes maxL cret wd rm mc ms n ∧ (Cond.static y).before args s = true)
    (isC isR : List Nat) (hC : isC.map (fun i => ws[i]?) = wc.map some) (hR : isR.map (fun i => ws[i]?) = wr.map some) (hnC : va_nd isC = true) (hn : va_nd isR = true) (hdis : ∀ i ∈ isR, i ∉ isC) (hst : st = As.reverse ++ rest) (hAn : As.length = n) (hrm : (rest.map fun v => v.category).sum ≤ 8) (hdg : decode cc pc = .ok (.invokestatic index, 3)) (hf : cells + mc ≤ R.cells ∧ slots + ms ≤ R.slots) (hp : pc + 3 = pc')
    (kk : ∀ (r : Int32) (u : S), post r u → Z p l e R s m args below meth c Q D cl A N0 pc' lv (.int r :: rest) (wr ++ w2 u) (cells + mc) (slots + ms)) : Z p l e R s m args below meth c Q D cl A N0 pc lv st ws cells slots :=
  z_backi X isC isR hC hR hn hdis (fun H locs ls hP hD hL => va_runS ⟨X.1, X.2.1, X.2.2.1, X.2.2.2.1, X.2.2.2.2.1⟩ (hM H.size) cw ⟨zBlind X.2.2.2.2.2.2.2.2.2.2, zOk hP hD X isC hnC hC⟩ rfl hAn hL.1 hst (lv_room hrm) hdg hf) hp kk
theorem z_callSl {S : Type} {post : Int64 → S → Prop} {w2 : S → va_W} (X : Cx p s m args meth c D cl ty A N0 cc Ts own ret NS) {pc pc' cells slots mc ms maxL index n : Nat} {lv : List (Nat × Value)} {st As rest : List Value} {ws wc wr : va_W} {y : MethodName} {wd : List Cond} {rm : Room} {bytes : ByteArray} {cret : Option FieldType} 
    (hM : ∀ sz, Met l y wd rm (va_Pc As (zPre D cl ty NS wc sz)) (va_Ql post (fun u => zPost D cl (va_A wc sz) (w2 u)) (va_A wc sz)) mc ms (va_A wc sz)) (cw : CallB R s args own index y bytes maxL cret wd rm mc ms n ∧ (Cond.static y).before args s = true)
    (isC isR : List Nat) (hC : isC.map (fun i => ws[i]?) = wc.map some) (hR : isR.map (fun i => ws[i]?) = wr.map some) (hnC : va_nd isC = true) (hn : va_nd isR = true) (hdis : ∀ i ∈ isR, i ∉ isC) (hst : st = As.reverse ++ rest) (hAn : As.length = n) (hrm : (rest.map fun v => v.category).sum ≤ 8) (hdg : decode cc pc = .ok (.invokestatic index, 3)) (hf : cells + mc ≤ R.cells ∧ slots + ms ≤ R.slots) (hp : pc + 3 = pc')
    (kk : ∀ (r : Int64) (u : S), post r u → Z p l e R s m args below meth c Q D cl A N0 pc' lv (.long r :: rest) (wr ++ w2 u) (cells + mc) (slots + ms)) : Z p l e R s m args below meth c Q D cl A N0 pc lv st ws cells slots :=
  z_backl X isC isR hC hR hn hdis (fun H locs ls hP hD hL => va_runS ⟨X.1, X.2.1, X.2.2.1, X.2.2.2.1, X.2.2.2.2.1⟩ (hM H.size) cw ⟨zBlind X.2.2.2.2.2.2.2.2.2.2, zOk hP hD X isC hnC hC⟩ rfl hAn hL.1 hst (lv_room hrm) hdg hf) hp kk
theorem z_callSv {S : Type} {post : S → Prop} {w2 : S → va_W} (X : Cx p s m args meth c D cl ty A N0 cc Ts own ret NS) {pc pc' cells slots mc ms maxL index n : Nat} {lv : List (Nat × Value)} {st As rest : List Value} {ws wc wr : va_W} {y : MethodName} {wd : List Cond} {rm : Room} {bytes : ByteArray} {cret : Option FieldType} 
    (hM : ∀ sz, Met l y wd rm (va_Pc As (zPre D cl ty NS wc sz)) (va_Qv post (fun u => zPost D cl (va_A wc sz) (w2 u)) (va_A wc sz)) mc ms (va_A wc sz)) (cw : CallB R s args own index y bytes maxL cret wd rm mc ms n ∧ (Cond.static y).before args s = true)
    (isC isR : List Nat) (hC : isC.map (fun i => ws[i]?) = wc.map some) (hR : isR.map (fun i => ws[i]?) = wr.map some) (hnC : va_nd isC = true) (hn : va_nd isR = true) (hdis : ∀ i ∈ isR, i ∉ isC) (hst : st = As.reverse ++ rest) (hAn : As.length = n) (hrm : (rest.map fun v => v.category).sum ≤ 8) (hdg : decode cc pc = .ok (.invokestatic index, 3)) (hf : cells + mc ≤ R.cells ∧ slots + ms ≤ R.slots) (hp : pc + 3 = pc')
    (kk : ∀ (u : S), post u → Z p l e R s m args below meth c Q D cl A N0 pc' lv rest (wr ++ w2 u) (cells + mc) (slots + ms)) : Z p l e R s m args below meth c Q D cl A N0 pc lv st ws cells slots :=
  z_backv X isC isR hC hR hn hdis (fun H locs ls hP hD hL => va_runS ⟨X.1, X.2.1, X.2.2.1, X.2.2.2.1, X.2.2.2.2.1⟩ (hM H.size) cw ⟨zBlind X.2.2.2.2.2.2.2.2.2.2, zOk hP hD X isC hnC hC⟩ rfl hAn hL.1 hst (lv_room hrm) hdg hf) hp kk
theorem z_callSNi {S : Type} {post : Int32 → S → Prop} {w2 : S → va_W} (X : Cx p s m args meth c D cl ty A N0 cc Ts own ret NS) {pc pc' cells slots mc ms maxL index n : Nat} {lv : List (Nat × Value)} {st As rest : List Value} {ws wc wr : va_W} {y : MethodName} {wd : List Cond} {rm : Room} {bytes : ByteArray} {cret : Option FieldType} {host : String}
    (hM : ∀ sz, Met l y wd rm (va_Pc As (zPre D cl ty NS wc sz)) (va_Qi post (fun u => zPost D cl (va_A wc sz) (w2 u)) (va_A wc sz)) mc ms (va_A wc sz)) (cw : va_CN R s args own index y host bytes maxL cret wd rm mc ms n ∧ (Cond.static y).before args s = true ∧ True)
    (isC isR : List Nat) (hC : isC.map (fun i => ws[i]?) = wc.map some) (hR : isR.map (fun i => ws[i]?) = wr.map some) (hnC : va_nd isC = true) (hn : va_nd isR = true) (hdis : ∀ i ∈ isR, i ∉ isC) (hst : st = As.reverse ++ rest) (hAn : As.length = n) (hrm : (rest.map fun v => v.category).sum ≤ 8) (hdg : decode cc pc = .ok (.invokestatic index, 3)) (hf : cells + mc ≤ R.cells ∧ slots + ms ≤ R.slots) (hp : pc + 3 = pc')
    (kk : ∀ (r : Int32) (u : S), post r u → Z p l e R s m args below meth c Q D cl A N0 pc' lv (.int r :: rest) (wr ++ w2 u) (cells + mc) (slots + ms)) : Z p l e R s m args below meth c Q D cl A N0 pc lv st ws cells slots :=
  z_backi X isC isR hC hR hn hdis (fun H locs ls hP hD hL => va_runSN ⟨X.1, X.2.1, X.2.2.1, X.2.2.2.1, X.2.2.2.2.1⟩ (hM H.size) cw ⟨zBlind X.2.2.2.2.2.2.2.2.2.2, zOk hP hD X isC hnC hC⟩ rfl hAn hL.1 hst (lv_room hrm) hdg hf) hp kk
theorem z_callSNl {S : Type} {post : Int64 → S → Prop} {w2 : S → va_W} (X : Cx p s m args meth c D cl ty A N0 cc Ts own ret NS) {pc pc' cells slots mc ms maxL index n : Nat} {lv : List (Nat × Value)} {st As rest : List Value} {ws wc wr : va_W} {y : MethodName} {wd : List Cond} {rm : Room} {bytes : ByteArray} {cret : Option FieldType} {host : String}
    (hM : ∀ sz, Met l y wd rm (va_Pc As (zPre D cl ty NS wc sz)) (va_Ql post (fun u => zPost D cl (va_A wc sz) (w2 u)) (va_A wc sz)) mc ms (va_A wc sz)) (cw : va_CN R s args own index y host bytes maxL cret wd rm mc ms n ∧ (Cond.static y).before args s = true ∧ True)
    (isC isR : List Nat) (hC : isC.map (fun i => ws[i]?) = wc.map some) (hR : isR.map (fun i => ws[i]?) = wr.map some) (hnC : va_nd isC = true) (hn : va_nd isR = true) (hdis : ∀ i ∈ isR, i ∉ isC) (hst : st = As.reverse ++ rest) (hAn : As.length = n) (hrm : (rest.map fun v => v.category).sum ≤ 8) (hdg : decode cc pc = .ok (.invokestatic index, 3)) (hf : cells + mc ≤ R.cells ∧ slots + ms ≤ R.slots) (hp : pc + 3 = pc')
    (kk : ∀ (r : Int64) (u : S), post r u → Z p l e R s m args below meth c Q D cl A N0 pc' lv (.long r :: rest) (wr ++ w2 u) (cells + mc) (slots + ms)) : Z p l e R s m args below meth c Q D cl A N0 pc lv st ws cells slots :=
  z_backl X isC isR hC hR hn hdis (fun H locs ls hP hD hL => va_runSN ⟨X.1, X.2.1, X.2.2.1, X.2.2.2.1, X.2.2.2.2.1⟩ (hM H.size) cw ⟨zBlind X.2.2.2.2.2.2.2.2.2.2, zOk hP hD X isC hnC hC⟩ rfl hAn hL.1 hst (lv_room hrm) hdg hf) hp kk
theorem z_callSNv {S : Type} {post : S → Prop} {w2 : S → va_W} (X : Cx p s m args meth c D cl ty A N0 cc Ts own ret NS) {pc pc' cells slots mc ms maxL index n : Nat} {lv : List (Nat × Value)} {st As rest : List Value} {ws wc wr : va_W} {y : MethodName} {wd : List Cond} {rm : Room} {bytes : ByteArray} {cret : Option FieldType} {host : String}
    (hM : ∀ sz, Met l y wd rm (va_Pc As (zPre D cl ty NS wc sz)) (va_Qv post (fun u => zPost D cl (va_A wc sz) (w2 u)) (va_A wc sz)) mc ms (va_A wc sz)) (cw : va_CN R s args own index y host bytes maxL cret wd rm mc ms n ∧ (Cond.static y).before args s = true ∧ True)
    (isC isR : List Nat) (hC : isC.map (fun i => ws[i]?) = wc.map some) (hR : isR.map (fun i => ws[i]?) = wr.map some) (hnC : va_nd isC = true) (hn : va_nd isR = true) (hdis : ∀ i ∈ isR, i ∉ isC) (hst : st = As.reverse ++ rest) (hAn : As.length = n) (hrm : (rest.map fun v => v.category).sum ≤ 8) (hdg : decode cc pc = .ok (.invokestatic index, 3)) (hf : cells + mc ≤ R.cells ∧ slots + ms ≤ R.slots) (hp : pc + 3 = pc')
    (kk : ∀ (u : S), post u → Z p l e R s m args below meth c Q D cl A N0 pc' lv rest (wr ++ w2 u) (cells + mc) (slots + ms)) : Z p l e R s m args below meth c Q D cl A N0 pc lv st ws cells slots :=
  z_backv X isC isR hC hR hn hdis (fun H locs ls hP hD hL => va_runSN ⟨X.1, X.2.1, X.2.2.1, X.2.2.2.1, X.2.2.2.2.1⟩ (hM H.size) cw ⟨zBlind X.2.2.2.2.2.2.2.2.2.2, zOk hP hD X isC hnC hC⟩ rfl hAn hL.1 hst (lv_room hrm) hdg hf) hp kk
theorem z_callIv {S : Type} {post : S → Prop} {w2 : S → va_W} (X : Cx p s m args meth c D cl ty A N0 cc Ts own ret NS) {pc pc' cells slots mc ms maxL index n : Nat} {lv : List (Nat × Value)} {st As rest : List Value} {ws wc wr : va_W} {y : MethodName} {wd : List Cond} {rm : Room} {bytes : ByteArray} {b : Nat}
    (hM : ∀ sz, Met l y wd rm (va_Pc (.ref b :: As) (zPre D cl ty NS wc sz)) (va_Qv post (fun u => zPost D cl (va_A wc sz) (w2 u)) (va_A wc sz)) mc ms (va_A wc sz)) (cw : CallB R s args own index y bytes maxL none wd rm mc ms n ∧ y.name = "<init>" ∧ (Cond.instanceMethod y).before args s = true)
    (isC isR : List Nat) (hC : isC.map (fun i => ws[i]?) = wc.map some) (hR : isR.map (fun i => ws[i]?) = wr.map some) (hnC : va_nd isC = true) (hn : va_nd isR = true) (hdis : ∀ i ∈ isR, i ∉ isC) (hst : st = As.reverse ++ .ref b :: rest) (hAn : As.length = n) (hrm : (rest.map fun v => v.category).sum ≤ 8) (hdg : decode cc pc = .ok (.invokespecial index, 3)) (hf : cells + mc ≤ R.cells ∧ slots + ms ≤ R.slots) (hp : pc + 3 = pc')
    (kk : ∀ (u : S), post u → Z p l e R s m args below meth c Q D cl A N0 pc' lv rest (wr ++ w2 u) (cells + mc) (slots + ms)) : Z p l e R s m args below meth c Q D cl A N0 pc lv st ws cells slots :=
  z_backv X isC isR hC hR hn hdis (fun H locs ls hP hD hL => va_runI ⟨X.1, X.2.1, X.2.2.1, X.2.2.2.1, X.2.2.2.2.1⟩ (hM H.size) cw ⟨zBlind X.2.2.2.2.2.2.2.2.2.2, zOk hP hD X isC hnC hC⟩ rfl hAn hL.1 hst (lv_room hrm) hdg hf) hp kk
theorem z_callINv {S : Type} {post : S → Prop} {w2 : S → va_W} (X : Cx p s m args meth c D cl ty A N0 cc Ts own ret NS) {pc pc' cells slots mc ms maxL index n : Nat} {lv : List (Nat × Value)} {st As rest : List Value} {ws wc wr : va_W} {y : MethodName} {wd : List Cond} {rm : Room} {bytes : ByteArray} {host : String} {b : Nat}
    (hM : ∀ sz, Met l y wd rm (va_Pc (.ref b :: As) (zPre D cl ty NS wc sz)) (va_Qv post (fun u => zPost D cl (va_A wc sz) (w2 u)) (va_A wc sz)) mc ms (va_A wc sz)) (cw : va_CN R s args own index y host bytes maxL none wd rm mc ms n ∧ y.name = "<init>" ∧ (Cond.instanceMethod y).before args s = true)
    (isC isR : List Nat) (hC : isC.map (fun i => ws[i]?) = wc.map some) (hR : isR.map (fun i => ws[i]?) = wr.map some) (hnC : va_nd isC = true) (hn : va_nd isR = true) (hdis : ∀ i ∈ isR, i ∉ isC) (hst : st = As.reverse ++ .ref b :: rest) (hAn : As.length = n) (hrm : (rest.map fun v => v.category).sum ≤ 8) (hdg : decode cc pc = .ok (.invokespecial index, 3)) (hf : cells + mc ≤ R.cells ∧ slots + ms ≤ R.slots) (hp : pc + 3 = pc')
    (kk : ∀ (u : S), post u → Z p l e R s m args below meth c Q D cl A N0 pc' lv rest (wr ++ w2 u) (cells + mc) (slots + ms)) : Z p l e R s m args below meth c Q D cl A N0 pc lv st ws cells slots :=
  z_backv X isC isR hC hR hn hdis (fun H locs ls hP hD hL => va_runIN ⟨X.1, X.2.1, X.2.2.1, X.2.2.2.1, X.2.2.2.2.1⟩ (hM H.size) cw ⟨zBlind X.2.2.2.2.2.2.2.2.2.2, zOk hP hD X isC hnC hC⟩ rfl hAn hL.1 hst (lv_room hrm) hdg hf) hp kk
theorem z_newi (X : Cx p s m args meth c D cl ty A N0 cc Ts own ret NS) {pc pc' cells slots n : Nat} {lv : List (Nat × Value)} {rest : List Value} {ws : va_W} {cA : ClassId} (t0 : Nat) (ht : ty[t0]? = some (cA, .int)) (harr : Cond.arrayClass .int ∈ Ts) (hn : n < 2 ^ 27) (hcells : cells + 1 ≤ R.cells) (hslots : slots + n ≤ R.slots) (hdg : decode cc pc = .ok (.newarray .int, 2)) (hp : pc + 2 = pc')
    (kk : ∀ q : Nat, Z p l e R s m args below meth c Q D cl A N0 pc' lv (.ref q :: rest) (ws ++ [(q, .inl (cA, n, .inl (fun _ => 0)))]) (cells + 1) (slots + n)) : Z p l e R s m args below meth c Q D cl A N0 pc lv (.int (nI n) :: rest) ws cells slots := by
  subst hp
  intro H locs ls hP hD hS hL
  have e := nI_clamp (show n < 2 ^ 31 by omega)
  refine va_newa (atype := .int) X.1 X.2.1 (X.2.2.2.2.1 _ harr) (ty := .int) rfl X.2.2.2.2.2.1 hP hD hS X.2.2.2.2.2.2.1 (a0 := (n, .inl (fun _ => 0))) (N' := n) (fun _ => rfl) (nI_pos (by omega)) e (by show n * 4 ≤ _; omega) hcells hslots hdg (fun q c1 H1 hK1 hP1 hD1 hS1 => ?_)
  have k0 : s.vm.findClass ("[" ++ FieldType.int.toString) = some cA := (X.2.2.2.2.2.1.2 t0 _ ht).2
  have k1 : s.vm.findClass ("[" ++ FieldType.int.toString) = some c1 := (hK1.2 ty.length (c1, .int) (by simp)).2
  have k2 : c1 = cA := Option.some.inj (k1.symm.trans k0)
  subst k2
  exact kk q H1 locs ls hP1 hD1 hS1 hL
theorem z_newl (X : Cx p s m args meth c D cl ty A N0 cc Ts own ret NS) {pc pc' cells slots n : Nat} {lv : List (Nat × Value)} {rest : List Value} {ws : va_W} {cA : ClassId} (t0 : Nat) (ht : ty[t0]? = some (cA, .long)) (harr : Cond.arrayClass .long ∈ Ts) (hn : n < 2 ^ 26) (hcells : cells + 1 ≤ R.cells) (hslots : slots + n ≤ R.slots) (hdg : decode cc pc = .ok (.newarray .long, 2)) (hp : pc + 2 = pc')
    (kk : ∀ q : Nat, Z p l e R s m args below meth c Q D cl A N0 pc' lv (.ref q :: rest) (ws ++ [(q, .inl (cA, n, .inr (.inl (fun _ => 0))))]) (cells + 1) (slots + n)) : Z p l e R s m args below meth c Q D cl A N0 pc lv (.int (nI n) :: rest) ws cells slots := by
  subst hp
  intro H locs ls hP hD hS hL
  have e := nI_clamp (show n < 2 ^ 31 by omega)
  refine va_newa (atype := .long) X.1 X.2.1 (X.2.2.2.2.1 _ harr) (ty := .long) rfl X.2.2.2.2.2.1 hP hD hS X.2.2.2.2.2.2.1 (a0 := (n, .inr (.inl (fun _ => 0)))) (N' := n) (fun _ => rfl) (nI_pos (by omega)) e (by show n * 8 ≤ _; omega) hcells hslots hdg (fun q c1 H1 hK1 hP1 hD1 hS1 => ?_)
  have k0 : s.vm.findClass ("[" ++ FieldType.long.toString) = some cA := (X.2.2.2.2.2.1.2 t0 _ ht).2
  have k1 : s.vm.findClass ("[" ++ FieldType.long.toString) = some c1 := (hK1.2 ty.length (c1, .long) (by simp)).2
  have k2 : c1 = cA := Option.some.inj (k1.symm.trans k0)
  subst k2
  exact kk q H1 locs ls hP1 hD1 hS1 hL
theorem z_new (X : Cx p s m args meth c D cl ty A N0 cc Ts own ret NS) {pc pc' cells slots index N : Nat} {lv : List (Nat × Value)} {rest : List Value} {ws : va_W} {C : String} {T : u_T} {fs : List Value} (ci : Nat) (hc : cl[ci]? = some (C, T, N)) (hin : ∀ w ∈ u_ws C T N, w ∈ Ts) (t0 : Nat → FieldType) (hty : ∀ k, k < N → parseFieldDescriptor (T k).2.2.1 = some (t0 k)) (hcl : Cond.classLink own index C ∈ Ts) (hinst : Cond.instantiable C N ∈ Ts) (hini : Cond.initialized C ∈ Ts) (hfs : ∀ j, j < N → defaultValue (t0 j) = vp_V fs j) (hcells : cells + 1 ≤ R.cells) (hslots : slots + N ≤ R.slots) (hdg : decode cc pc = .ok (.new index, 3)) (hp : pc + 3 = pc')
    (kk : ∀ q : Nat, Z p l e R s m args below meth c Q D cl A N0 pc' lv (.ref q :: rest) (ws ++ [(q, .inr (ci, fs))]) (cells + 1) (slots + N)) : Z p l e R s m args below meth c Q D cl A N0 pc lv rest ws cells slots := by
  subst hp
  intro H locs ls hP hD hS hL
  exact va_new X.1 X.2.1 X.2.2.2.2.1 hin t0 hty X.2.2.2.1 (X.2.2.2.2.1 _ hcl) (X.2.2.2.2.1 _ hinst) (X.2.2.2.2.1 _ hini) X.2.2.2.2.2.1 hP hD hS X.2.2.2.2.2.2.1 hc hfs hcells hslots hdg (fun q H1 hP1 hD1 hS1 => kk q H1 locs ls hP1 hD1 hS1 hL)
theorem z_objInit (X : Cx p s m args meth c D cl ty A N0 cc Ts own ret NS) {pc pc' cells slots idx a : Nat} {lv : List (Nat × Value)} {rest : List Value} {ws : va_W} (hlink : Cond.methodLink own idx Lib.objectInit ∈ Ts) (hinst : Cond.instanceMethod Lib.objectInit ∈ Ts) (hcode : Cond.code Lib.objectInit ⟨#[0xb1]⟩ 1 none ∈ Ts) (hdg : decode cc pc = .ok (.invokespecial idx, 3)) (hframes : 1 ≤ R.frames) (hlocals : (rest.map fun v => v.category).sum + 12 ≤ R.locals) (hp : pc + 3 = pc')
    (kk : Z p l e R s m args below meth c Q D cl A N0 pc' lv rest ws cells slots) : Z p l e R s m args below meth c Q D cl A N0 pc lv (.ref a :: rest) ws cells slots := by
  subst hp
  intro H locs ls hP hD hS hL
  exact W.objInit X.1 X.2.1 X.2.2.2.1 (X.2.2.2.2.1 _ hlink) (X.2.2.2.2.1 _ hinst) (X.2.2.2.2.1 _ hcode) (g := F0 m pc ls (.ref a :: rest)) rfl (by rw [X.2.2.1]; exact hL.1) rfl hdg hframes (by show 2 * 0 + _ + 12 ≤ _; omega) (kk H locs ls hP hD hS hL)
theorem z_mmin (X : Cx p s m args meth c D cl ty A N0 cc Ts own ret NS) {pc pc' cells slots idx : Nat} {lv : List (Nat × Value)} {rest : List Value} {ws : va_W} {x y : Nat} (hlink : Cond.methodLink own idx Lib.Math.min.name ∈ Ts) (hstat : Cond.static Lib.Math.min.name ∈ Ts) (hini : Cond.initialized "java/lang/Math" ∈ Ts) (hcode : Cond.code Lib.Math.min.name Lib.Math.min.code 2 (some .int) ∈ Ts) (hx : x < 2 ^ 31) (hy : y < 2 ^ 31) (hdg : decode cc pc = .ok (.invokestatic idx, 3)) (hframes : 1 ≤ R.frames) (hlocals : (rest.map fun v => v.category).sum + 13 ≤ R.locals) (hc : cells ≤ R.cells) (hs : slots ≤ R.slots) (hp : pc + 3 = pc')
    (kk : Z p l e R s m args below meth c Q D cl A N0 pc' lv (.int (nI (min x y)) :: rest) ws cells slots) : Z p l e R s m args below meth c Q D cl A N0 pc lv (.int (nI y) :: .int (nI x) :: rest) ws cells slots := by
  subst hp
  intro H locs ls hP hD hS hL
  refine va_mmin X.1 X.2.1 (by rw [X.2.2.1]; exact hL.1.symm) X.2.2.2.1 (X.2.2.2.2.1 _ hlink) (X.2.2.2.2.1 _ hstat) (X.2.2.2.2.1 _ hini) (X.2.2.2.2.1 _ hcode) hframes hlocals hc hs hdg ?_
  have e : (if nI y < nI x then nI y else nI x) = nI (min x y) := by
    by_cases h : y < x
    · rw [if_pos (nI_lt h hx), Nat.min_eq_right (by omega)]
    · rw [if_neg (nI_nlt (by omega) hy), Nat.min_eq_left (by omega)]
  rw [e]
  exact kk H locs ls hP hD hS hL
/-- the words of a call: the callee's words are its code and mine -/
theorem zGood (hg : ∀ w ∈ Ts, goodWord w = true) {w : Cond} (h : w ∈ Ts) : GoodIn Ts (w :: Ts) := fun v hv => by
  rcases List.mem_cons.mp hv with q | q
  · rw [q]; exact ⟨h, good_of_word (hg w h)⟩
  · exact ⟨q, good_of_word (hg v q)⟩
theorem zcwV (X : Cx p s m args meth c D cl ty A N0 cc Ts own ret NS) (hg : ∀ w ∈ Ts, goodWord w = true) {index maxL mc ms : Nat} {y : MethodName} {bytes : ByteArray} {cret : Option FieldType} {rm : Room} {C : String} (n : Nat) (hl : Cond.methodLink own index y ∈ Ts) (him : Cond.instanceMethod y ∈ Ts) (hse : Cond.selects C y y ∈ Ts) (hini : Cond.initialized y.cls ∈ Ts) (hk : Cond.code y bytes maxL cret ∈ Ts) (hrc : rm.cells = mc) (hrs : rm.slots = ms) (hd : y.cls ≠ "java/lang/invoke/MethodHandle" ∧ y.cls ≠ "java/lang/invoke/VarHandle" ∧ (parseMethodDescriptor y.desc).map (fun d => d.parameters.length) = some n) (hR : rm.frames + 1 ≤ R.frames ∧ 8 + (maxL + 11) + rm.locals ≤ R.locals) : CallW R s args own C index y bytes maxL cret (Cond.code y bytes maxL cret :: Ts) rm mc ms n :=
  ⟨callB_of n X.2.2.2.2.1 (zGood hg hk) rfl hrc hrs (X.2.2.2.2.1 _ hini) (X.2.2.2.2.1 _ hl) hd hR, X.2.2.2.2.1 _ him, X.2.2.2.2.1 _ hse⟩
theorem zcwS (X : Cx p s m args meth c D cl ty A N0 cc Ts own ret NS) (hg : ∀ w ∈ Ts, goodWord w = true) {index maxL mc ms : Nat} {y : MethodName} {bytes : ByteArray} {cret : Option FieldType} {rm : Room} (n : Nat) (hl : Cond.methodLink own index y ∈ Ts) (hst : Cond.static y ∈ Ts) (hini : Cond.initialized y.cls ∈ Ts) (hk : Cond.code y bytes maxL cret ∈ Ts) (hrc : rm.cells = mc) (hrs : rm.slots = ms) (hd : y.cls ≠ "java/lang/invoke/MethodHandle" ∧ y.cls ≠ "java/lang/invoke/VarHandle" ∧ (parseMethodDescriptor y.desc).map (fun d => d.parameters.length) = some n) (hR : rm.frames + 1 ≤ R.frames ∧ 8 + (maxL + 11) + rm.locals ≤ R.locals) : CallB R s args own index y bytes maxL cret (Cond.code y bytes maxL cret :: Ts) rm mc ms n ∧ (Cond.static y).before args s = true :=
  ⟨callB_of n X.2.2.2.2.1 (zGood hg hk) rfl hrc hrs (X.2.2.2.2.1 _ hini) (X.2.2.2.2.1 _ hl) hd hR, X.2.2.2.2.1 _ hst⟩
theorem zcwSN (X : Cx p s m args meth c D cl ty A N0 cc Ts own ret NS) (hg : ∀ w ∈ Ts, goodWord w = true) {index maxL mc ms : Nat} {y : MethodName} {bytes : ByteArray} {cret : Option FieldType} {rm : Room} {host : String} (n : Nat) (hl : Cond.methodLinkNest own index y host ∈ NS) (hst : Cond.static y ∈ Ts) (hini : Cond.initialized y.cls ∈ Ts) (hk : Cond.code y bytes maxL cret ∈ Ts) (hrc : rm.cells = mc) (hrs : rm.slots = ms) (hd : y.cls ≠ "java/lang/invoke/MethodHandle" ∧ y.cls ≠ "java/lang/invoke/VarHandle" ∧ (parseMethodDescriptor y.desc).map (fun d => d.parameters.length) = some n) (hR : rm.frames + 1 ≤ R.frames ∧ 8 + (maxL + 11) + rm.locals ≤ R.locals) : va_CN R s args own index y host bytes maxL cret (Cond.code y bytes maxL cret :: Ts) rm mc ms n ∧ (Cond.static y).before args s = true ∧ True :=
  ⟨va_cnB n X.2.2.2.2.1 (zGood hg hk) rfl hrc hrs (X.2.2.2.2.2.2.2.2.2.1 _ hl) (X.2.2.2.2.1 _ hini) hd hR, X.2.2.2.2.1 _ hst, trivial⟩
theorem zcwIN (X : Cx p s m args meth c D cl ty A N0 cc Ts own ret NS) (hg : ∀ w ∈ Ts, goodWord w = true) {index maxL mc ms : Nat} {y : MethodName} {bytes : ByteArray} {rm : Room} {host : String} (n : Nat) (hl : Cond.methodLinkNest own index y host ∈ NS) (him : Cond.instanceMethod y ∈ Ts) (hini : Cond.initialized y.cls ∈ Ts) (hk : Cond.code y bytes maxL none ∈ Ts) (hy1 : y.name = "<init>") (hrc : rm.cells = mc) (hrs : rm.slots = ms) (hd : y.cls ≠ "java/lang/invoke/MethodHandle" ∧ y.cls ≠ "java/lang/invoke/VarHandle" ∧ (parseMethodDescriptor y.desc).map (fun d => d.parameters.length) = some n) (hR : rm.frames + 1 ≤ R.frames ∧ 8 + (maxL + 11) + rm.locals ≤ R.locals) : va_CN R s args own index y host bytes maxL none (Cond.code y bytes maxL none :: Ts) rm mc ms n ∧ y.name = "<init>" ∧ (Cond.instanceMethod y).before args s = true :=
  ⟨va_cnB n X.2.2.2.2.1 (zGood hg hk) rfl hrc hrs (X.2.2.2.2.2.2.2.2.2.1 _ hl) (X.2.2.2.2.1 _ hini) hd hR, hy1, X.2.2.2.2.1 _ him⟩
theorem zcwI (X : Cx p s m args meth c D cl ty A N0 cc Ts own ret NS) (hg : ∀ w ∈ Ts, goodWord w = true) {index maxL mc ms : Nat} {y : MethodName} {bytes : ByteArray} {rm : Room} (n : Nat) (hl : Cond.methodLink own index y ∈ Ts) (him : Cond.instanceMethod y ∈ Ts) (hini : Cond.initialized y.cls ∈ Ts) (hk : Cond.code y bytes maxL none ∈ Ts) (hy1 : y.name = "<init>") (hrc : rm.cells = mc) (hrs : rm.slots = ms) (hd : y.cls ≠ "java/lang/invoke/MethodHandle" ∧ y.cls ≠ "java/lang/invoke/VarHandle" ∧ (parseMethodDescriptor y.desc).map (fun d => d.parameters.length) = some n) (hR : rm.frames + 1 ≤ R.frames ∧ 8 + (maxL + 11) + rm.locals ≤ R.locals) : CallB R s args own index y bytes maxL none (Cond.code y bytes maxL none :: Ts) rm mc ms n ∧ y.name = "<init>" ∧ (Cond.instanceMethod y).before args s = true :=
  cwI n X.2.2.2.2.1 (zGood hg hk) rfl hrc hrs (X.2.2.2.2.1 _ hini) (X.2.2.2.2.1 _ hl) (X.2.2.2.2.1 _ him) hy1 hd hR
theorem z_icmp_eqN (X : Cx p s m args meth c D cl ty A N0 cc Ts own ret NS) {pc pc' cells slots : Nat} {lv : List (Nat × Value)} {rest : List Value} {ws : va_W} {x y : Nat} {off : Int} {tgt : Nat} (hx : x < 2 ^ 31) (hy : y < 2 ^ 31) (hdg : decode cc pc = .ok (.if_icmp .eq off, 3)) (ht : (pc : Int) + off = (tgt : Int)) (hp : pc + 3 = pc') (kt : x = y → Z p l e R s m args below meth c Q D cl A N0 tgt lv rest ws cells slots) (kf : ¬ x = y → Z p l e R s m args below meth c Q D cl A N0 pc' lv rest ws cells slots) : Z p l e R s m args below meth c Q D cl A N0 pc lv (.int (nI y) :: .int (nI x) :: rest) ws cells slots :=
  z_icmp_eq X hdg ht hp (fun h => kt ((nI_eq hx hy).mp h)) (fun h => kf (fun h2 => h ((nI_eq hx hy).mpr h2)))
theorem z_icmp_neN (X : Cx p s m args meth c D cl ty A N0 cc Ts own ret NS) {pc pc' cells slots : Nat} {lv : List (Nat × Value)} {rest : List Value} {ws : va_W} {x y : Nat} {off : Int} {tgt : Nat} (hx : x < 2 ^ 31) (hy : y < 2 ^ 31) (hdg : decode cc pc = .ok (.if_icmp .ne off, 3)) (ht : (pc : Int) + off = (tgt : Int)) (hp : pc + 3 = pc') (kt : ¬ x = y → Z p l e R s m args below meth c Q D cl A N0 tgt lv rest ws cells slots) (kf : x = y → Z p l e R s m args below meth c Q D cl A N0 pc' lv rest ws cells slots) : Z p l e R s m args below meth c Q D cl A N0 pc lv (.int (nI y) :: .int (nI x) :: rest) ws cells slots :=
  z_icmp_ne X hdg ht hp (fun h => kt (fun h2 => h ((nI_eq hx hy).mpr h2))) (fun h => kf ((nI_eq hx hy).mp h))
theorem z_icmp_ltN (X : Cx p s m args meth c D cl ty A N0 cc Ts own ret NS) {pc pc' cells slots : Nat} {lv : List (Nat × Value)} {rest : List Value} {ws : va_W} {x y : Nat} {off : Int} {tgt : Nat} (hx : x < 2 ^ 31) (hy : y < 2 ^ 31) (hdg : decode cc pc = .ok (.if_icmp .lt off, 3)) (ht : (pc : Int) + off = (tgt : Int)) (hp : pc + 3 = pc') (kt : x < y → Z p l e R s m args below meth c Q D cl A N0 tgt lv rest ws cells slots) (kf : ¬ x < y → Z p l e R s m args below meth c Q D cl A N0 pc' lv rest ws cells slots) : Z p l e R s m args below meth c Q D cl A N0 pc lv (.int (nI y) :: .int (nI x) :: rest) ws cells slots :=
  z_icmp_lt X hdg ht hp (fun h => kt ((nI_ltI hx hy).mp h)) (fun h => kf (fun h2 => h ((nI_ltI hx hy).mpr h2)))
theorem z_icmp_geN (X : Cx p s m args meth c D cl ty A N0 cc Ts own ret NS) {pc pc' cells slots : Nat} {lv : List (Nat × Value)} {rest : List Value} {ws : va_W} {x y : Nat} {off : Int} {tgt : Nat} (hx : x < 2 ^ 31) (hy : y < 2 ^ 31) (hdg : decode cc pc = .ok (.if_icmp .ge off, 3)) (ht : (pc : Int) + off = (tgt : Int)) (hp : pc + 3 = pc') (kt : y ≤ x → Z p l e R s m args below meth c Q D cl A N0 tgt lv rest ws cells slots) (kf : ¬ y ≤ x → Z p l e R s m args below meth c Q D cl A N0 pc' lv rest ws cells slots) : Z p l e R s m args below meth c Q D cl A N0 pc lv (.int (nI y) :: .int (nI x) :: rest) ws cells slots :=
  z_icmp_ge X hdg ht hp (fun h => kt ((nI_leI hy hx).mp h)) (fun h => kf (fun h2 => h ((nI_leI hy hx).mpr h2)))
theorem z_icmp_gtN (X : Cx p s m args meth c D cl ty A N0 cc Ts own ret NS) {pc pc' cells slots : Nat} {lv : List (Nat × Value)} {rest : List Value} {ws : va_W} {x y : Nat} {off : Int} {tgt : Nat} (hx : x < 2 ^ 31) (hy : y < 2 ^ 31) (hdg : decode cc pc = .ok (.if_icmp .gt off, 3)) (ht : (pc : Int) + off = (tgt : Int)) (hp : pc + 3 = pc') (kt : y < x → Z p l e R s m args below meth c Q D cl A N0 tgt lv rest ws cells slots) (kf : ¬ y < x → Z p l e R s m args below meth c Q D cl A N0 pc' lv rest ws cells slots) : Z p l e R s m args below meth c Q D cl A N0 pc lv (.int (nI y) :: .int (nI x) :: rest) ws cells slots :=
  z_icmp_gt X hdg ht hp (fun h => kt ((nI_ltI hy hx).mp h)) (fun h => kf (fun h2 => h ((nI_ltI hy hx).mpr h2)))
theorem z_icmp_leN (X : Cx p s m args meth c D cl ty A N0 cc Ts own ret NS) {pc pc' cells slots : Nat} {lv : List (Nat × Value)} {rest : List Value} {ws : va_W} {x y : Nat} {off : Int} {tgt : Nat} (hx : x < 2 ^ 31) (hy : y < 2 ^ 31) (hdg : decode cc pc = .ok (.if_icmp .le off, 3)) (ht : (pc : Int) + off = (tgt : Int)) (hp : pc + 3 = pc') (kt : x ≤ y → Z p l e R s m args below meth c Q D cl A N0 tgt lv rest ws cells slots) (kf : ¬ x ≤ y → Z p l e R s m args below meth c Q D cl A N0 pc' lv rest ws cells slots) : Z p l e R s m args below meth c Q D cl A N0 pc lv (.int (nI y) :: .int (nI x) :: rest) ws cells slots :=
  z_icmp_le X hdg ht hp (fun h => kt ((nI_leI hx hy).mp h)) (fun h => kf (fun h2 => h ((nI_leI hx hy).mpr h2)))
theorem nI_z {n : Nat} (hn : n < 2 ^ 31) : nI n = 0 ↔ n = 0 := nI_eq (b := 0) hn (by decide)
theorem nI_gz {n : Nat} (hn : n < 2 ^ 31) : 0 < nI n ↔ 0 < n := nI_ltI (a := 0) (by decide) hn
theorem nI_lz {n : Nat} (hn : n < 2 ^ 31) : nI n ≤ 0 ↔ n ≤ 0 := nI_leI (b := 0) hn (by decide)
theorem z_if_eqN (X : Cx p s m args meth c D cl ty A N0 cc Ts own ret NS) {pc pc' cells slots : Nat} {lv : List (Nat × Value)} {rest : List Value} {ws : va_W} {x : Nat} {off : Int} {tgt : Nat} (hx : x < 2 ^ 31) (hdg : decode cc pc = .ok (.ifCond .eq off, 3)) (ht : (pc : Int) + off = (tgt : Int)) (hp : pc + 3 = pc') (kt : x = 0 → Z p l e R s m args below meth c Q D cl A N0 tgt lv rest ws cells slots) (kf : ¬ x = 0 → Z p l e R s m args below meth c Q D cl A N0 pc' lv rest ws cells slots) : Z p l e R s m args below meth c Q D cl A N0 pc lv (.int (nI x) :: rest) ws cells slots :=
  z_if_eq X hdg ht hp (fun h => kt ((nI_z hx).mp h)) (fun h => kf (fun h2 => h ((nI_z hx).mpr h2)))
theorem z_if_neN (X : Cx p s m args meth c D cl ty A N0 cc Ts own ret NS) {pc pc' cells slots : Nat} {lv : List (Nat × Value)} {rest : List Value} {ws : va_W} {x : Nat} {off : Int} {tgt : Nat} (hx : x < 2 ^ 31) (hdg : decode cc pc = .ok (.ifCond .ne off, 3)) (ht : (pc : Int) + off = (tgt : Int)) (hp : pc + 3 = pc') (kt : ¬ x = 0 → Z p l e R s m args below meth c Q D cl A N0 tgt lv rest ws cells slots) (kf : x = 0 → Z p l e R s m args below meth c Q D cl A N0 pc' lv rest ws cells slots) : Z p l e R s m args below meth c Q D cl A N0 pc lv (.int (nI x) :: rest) ws cells slots :=
  z_if_ne X hdg ht hp (fun h => kt (fun h2 => h ((nI_z hx).mpr h2))) (fun h => kf ((nI_z hx).mp h))
theorem z_if_gtN (X : Cx p s m args meth c D cl ty A N0 cc Ts own ret NS) {pc pc' cells slots : Nat} {lv : List (Nat × Value)} {rest : List Value} {ws : va_W} {x : Nat} {off : Int} {tgt : Nat} (hx : x < 2 ^ 31) (hdg : decode cc pc = .ok (.ifCond .gt off, 3)) (ht : (pc : Int) + off = (tgt : Int)) (hp : pc + 3 = pc') (kt : 0 < x → Z p l e R s m args below meth c Q D cl A N0 tgt lv rest ws cells slots) (kf : ¬ 0 < x → Z p l e R s m args below meth c Q D cl A N0 pc' lv rest ws cells slots) : Z p l e R s m args below meth c Q D cl A N0 pc lv (.int (nI x) :: rest) ws cells slots :=
  z_if_gt X hdg ht hp (fun h => kt ((nI_gz hx).mp h)) (fun h => kf (fun h2 => h ((nI_gz hx).mpr h2)))
theorem z_if_leN (X : Cx p s m args meth c D cl ty A N0 cc Ts own ret NS) {pc pc' cells slots : Nat} {lv : List (Nat × Value)} {rest : List Value} {ws : va_W} {x : Nat} {off : Int} {tgt : Nat} (hx : x < 2 ^ 31) (hdg : decode cc pc = .ok (.ifCond .le off, 3)) (ht : (pc : Int) + off = (tgt : Int)) (hp : pc + 3 = pc') (kt : x ≤ 0 → Z p l e R s m args below meth c Q D cl A N0 tgt lv rest ws cells slots) (kf : ¬ x ≤ 0 → Z p l e R s m args below meth c Q D cl A N0 pc' lv rest ws cells slots) : Z p l e R s m args below meth c Q D cl A N0 pc lv (.int (nI x) :: rest) ws cells slots :=
  z_if_le X hdg ht hp (fun h => kt ((nI_lz hx).mp h)) (fun h => kf (fun h2 => h ((nI_lz hx).mpr h2)))
theorem z_if_ltN (X : Cx p s m args meth c D cl ty A N0 cc Ts own ret NS) {pc pc' cells slots : Nat} {lv : List (Nat × Value)} {rest : List Value} {ws : va_W} {x : Nat} {off : Int} {tgt : Nat} (hx : x < 2 ^ 31) (hdg : decode cc pc = .ok (.ifCond .lt off, 3)) (ht : (pc : Int) + off = (tgt : Int)) (hp : pc + 3 = pc') (kf : Z p l e R s m args below meth c Q D cl A N0 pc' lv rest ws cells slots) : Z p l e R s m args below meth c Q D cl A N0 pc lv (.int (nI x) :: rest) ws cells slots :=
  z_if_lt X hdg ht hp (fun h => absurd h (nI_pos hx)) (fun _ => kf)
theorem z_if_geN (X : Cx p s m args meth c D cl ty A N0 cc Ts own ret NS) {pc pc' cells slots : Nat} {lv : List (Nat × Value)} {rest : List Value} {ws : va_W} {x : Nat} {off : Int} {tgt : Nat} (hx : x < 2 ^ 31) (hdg : decode cc pc = .ok (.ifCond .ge off, 3)) (ht : (pc : Int) + off = (tgt : Int)) (hp : pc + 3 = pc') (kt : Z p l e R s m args below meth c Q D cl A N0 tgt lv rest ws cells slots) : Z p l e R s m args below meth c Q D cl A N0 pc lv (.int (nI x) :: rest) ws cells slots :=
  z_if_ge X hdg ht hp (fun _ => kt) (fun h => absurd (nI_pos' hx) h)
/-- a loop: at its head a state x with the invariant I; each round comes back with less of μ -/
theorem z_loop {σ : Type} {pc : Nat} (I : σ → Prop) (μ : σ → Nat) (lf : σ → List (Nat × Value)) (wf : σ → va_W) (cf sf : σ → Nat) (x0 : σ) (h0 : I x0)
    (step : ∀ x, I x → (∀ y, I y → μ y < μ x → Z p l e R s m args below meth c Q D cl A N0 pc (lf y) [] (wf y) (cf y) (sf y)) → Z p l e R s m args below meth c Q D cl A N0 pc (lf x) [] (wf x) (cf x) (sf x)) : Z p l e R s m args below meth c Q D cl A N0 pc (lf x0) [] (wf x0) (cf x0) (sf x0) := by
  have key : ∀ k x, μ x < k → I x → Z p l e R s m args below meth c Q D cl A N0 pc (lf x) [] (wf x) (cf x) (sf x) := by
    intro k
    induction k with
    | zero => intro x h; exact absurd h (Nat.not_lt_zero _)
    | succ k ih => intro x h hx; exact step x hx fun y hy hlt => ih y (by omega) hy
  exact key (μ x0 + 1) x0 (Nat.lt_succ_self _) h0
theorem z_cmp0 {x y : Int64} : lg_cmp x y = 0 ↔ x = y := by
  unfold lg_cmp
  split
  · rename_i h
    exact ⟨fun q => absurd q (by decide), fun q => absurd h (by rw [q]; exact Int64.lt_irrefl)⟩
  · split
    · rename_i h; exact ⟨fun _ => h, fun _ => rfl⟩
    · rename_i h; exact ⟨fun q => absurd q (by decide), fun q => absurd q h⟩
end ZL

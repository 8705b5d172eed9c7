/-! methods that return or throw: what is given of the start, the contract, the throw -/
section ZX
variable {p : Program} {l : Launch} {e : Env} {R : Room} {s : State} {m : MethodId} {args : Array Value} {below : List Frame} {meth : Method} {c : Code} {Q : State → Prop} {D : va_G} {cl : List vw_C} {ty : List (ClassId × FieldType)} {A : Nat → Prop} {N0 : Nat} {cc : ByteArray} {Ts : List Cond} {own : String} {ret : Option FieldType} {NS : List Cond}
/-- the texts of the throws: their places in the pool -/
def xTx : List (Nat × String) := [(53, "no such model"), (68, "more than 20000 states"), (91, "no such outcome, or nothing such of it"), (102, "no such outcome, or no such move")]
def xK (A : Nat → Prop) (U : State) (H : Heap) : Prop := vx_Zq Bundle.tN "UNASSIGNED_STACK" Bundle.steD A U H ∧ vx_Zq Bundle.tN "SUPPRESSED_SENTINEL" Bundle.listD A U H ∧ ∀ q ∈ xTx, ∃ a, vk_R RX3 q.1 q.2 a U
theorem xK.to {A B : Nat → Prop} {s U : State} {H0 H : Heap} {locs : List Loc} (h : xK A s H0) (hS : va_S A H0 H locs) (hB : ∀ q, B q → A q) (hW : s.WarmedH U.vm) : xK B U H :=
  ⟨((h.1.kept fun a h1 h2 => hS.2.1 a h1 h2).narrow hB).moved hW.alike, ((h.2.1.kept fun a h1 h2 => hS.2.1 a h1 h2).narrow hB).moved hW.alike, fun q hq => by obtain ⟨a, ha⟩ := h.2.2 q hq; exact ⟨a, vk_R.warm hW ha⟩⟩
def zPreX (D : va_G) (cl : List vw_C) (ty : List (ClassId × FieldType)) (NS : List Cond) (ws : va_W) (sz : Nat) : State → Prop := fun U => zPre D cl ty NS ws sz U ∧ xK (va_A ws sz) U U.heap
theorem zxBlind (hNS : NS.all z_isN = true) {av : List Value} {ws : va_W} {sz : Nat} : FrameBlind (va_Pc av (zPreX D cl ty NS ws sz)) := fun a U g mk q => by
  obtain ⟨q0, q1, qx⟩ := q
  have h1 := zBlind (av := av) (ws := ws) (sz := sz) (D := D) (cl := cl) (ty := ty) hNS a U g mk ⟨q0, q1⟩
  refine ⟨h1.1, h1.2, qx.1.moved (u := U) (U := U.calling g mk a) (Vm.Alike.refl U.vm), qx.2.1.moved (u := U) (U := U.calling g mk a) (Vm.Alike.refl U.vm), fun q hq => ?_⟩
  obtain ⟨a2, ha⟩ := qx.2.2 q hq
  exact ⟨a2, vk_R.same (u := U) (U := U.calling g mk a) rfl ha⟩
theorem zxOk {av : List Value} {ws wc : va_W} {H : Heap} {locs : List Loc} (hP : va_P D cl ws H) (hD : va_D A ws) (hS : va_S A s.heap H locs) (hX : xK A s s.heap) (X : Cx p s m args meth c D cl ty A N0 cc Ts own ret NS) (is : List Nat) (hn : va_nd is = true) (hC : is.map (fun i => ws[i]?) = wc.map some) :
    ∀ U : State, U.heap = H → s.WarmedH U.vm → va_Pc av (zPreX D cl ty NS wc H.size) av.toArray U := fun U hU hW => by
  have h1 := zOk (av := av) hP hD X is hn hC U hU hW
  refine ⟨h1.1, h1.2, ?_⟩
  rw [hU]
  exact hX.to hS (va_free hD hS X.2.2.2.2.2.2.1 is hC) hW
/-- a contract of a method that returns an int, or throws E: pe E u, the world wx u -/
abbrev zX {SX : Type} (D : va_G) (cl : List vw_C) (A : Nat → Prop) (pe : String → SX → Prop) (wx : SX → va_W) : String → State → State → Prop := vx_X (fun _ : SX => True) (fun E u t => pe E u ∧ zPost D cl A (wx u) t) A
theorem zxMetI {S SX : Type} {post : Int32 → S → Prop} {w2 : S → va_W} {pe : String → SX → Prop} {wx : SX → va_W} {y : MethodName} {rm : Room} {av : List Value} {ws : va_W} {sz mc ms maxL : Nat} {lv : List (Nat × Value)}
    (hNS : NS.all z_isN = true) (hy : plainName y.cls = true) (ho : y.cls = own) (hlen : (lg_sl av).length ≤ maxL) (hlv : lv_args 0 av = lv)
    (body : ∀ (p : Program) (e : Env) (s : State) (m : MethodId) (args : Array Value) (below : List Frame) (meth : Method) (c : Code) (A : Nat → Prop), Cx p s m args meth c D cl ty A maxL cc Ts own ret NS → xK A s s.heap → (∀ x ∈ c.exceptionTable.toList, False) → A = va_A ws sz →
      Z p l e rm s m args below meth c (vx_MQ below (va_Qi post (fun u => zPost D cl A (w2 u)) A) (zX D cl A pe wx) args s mc ms A) D cl A maxL 0 lv [] ws 0 0) :
    vx_Met l y (Cond.code y cc maxL ret :: Ts) rm (va_Pc av (zPreX D cl ty NS ws sz)) (va_Qi post (fun u => zPost D cl (va_A ws sz) (w2 u)) (va_A ws sz)) (zX D cl (va_A ws sz) pe wx) mc ms (va_A ws sz) := by
  refine vx_ofW (cc := cc) (maxL := maxL) (ret := ret) hy rfl ?_
  intro p e s m args below meth c s₁ B hml hex hv
  obtain ⟨ha, ⟨hsz, hP, ⟨hK, hN⟩, hD0⟩, hX⟩ := hv
  subst hsz
  have hA : ∀ q : Nat, s.heap.size ≤ q → va_A ws s.heap.size q := fun q h => Or.inr h
  have hl := lv_entry av (n := maxL) hlen
  subst ha
  rw [lg_entry_eq]
  exact body p e s m _ below meth c _ ⟨B.exec, B.bytes, hml, ho ▸ findClass_of_methodNamed B.named, fun w hw => atoms_spec (ws := Cond.code y cc maxL ret :: Ts) B.pre w (List.mem_cons_of_mem _ hw), hK, hA, B.returns, B.notSynchronized, hN, hNS⟩ hX hex rfl s.heap [] _ hP (hD0.self (sz := s.heap.size)) va_S.rf (by rw [← hlv]; exact hl)
theorem zx_iret {S SX : Type} {post : Int32 → S → Prop} {w2 : S → va_W} {XC : String → State → State → Prop} (X : Cx p s m args meth c D cl ty A N0 cc Ts own ret NS) {pc cells slots mc ms : Nat} {lv : List (Nat × Value)} {ws : va_W} {v : Int32} {t1 : FieldType} (hr : ret = some t1) (hn : narrow t1 (.int v) = .int v) (u : S) (hp : post v u) (hw : ws = w2 u) (h1 : cells ≤ mc) (h2 : slots ≤ ms) (hdg : decode cc pc = .ok (.ireturn, 1)) :
    Z p l e R s m args below meth c (vx_MQ below (va_Qi post (fun u => zPost D cl A (w2 u)) A) XC args s mc ms A) D cl A N0 pc lv [.int v] ws cells slots :=
  fun H locs ls hP hD hS hL => vx_ret (z_iret X hr hn u hp hw h1 h2 hdg H locs ls hP hD hS hL)
theorem zx_throw {SX : Type} {Qc : Array Value → State → Outcome → State → Prop} {pe : String → SX → Prop} {wx : SX → va_W} (X : Cx p s m args meth c D cl ty A N0 cc Ts RX3 ret NS) (hX : xK A s s.heap) (hex : ∀ x ∈ c.exceptionTable.toList, False) (hl : l.stackTraces = false) {pc cells slots mc ms ik is ic : Nat} {cls text : String} (names : List String) {lv : List (Nat × Value)} {rest : List Value} {ws : va_W} (u : SX) (hpe : pe cls u) (hw : ws = wx u)
    (hcls : Bundle.fit cls = true) (hnames : ∀ n ∈ names, Bundle.fit n = true) (hk : Cond.classLink RX3 ik cls ∈ Ts) (hini : Cond.initialized cls ∈ Ts) (htx : (is, text) ∈ xTx)
    (h1 : ∀ w ∈ (vx_atS RX3 ic cls names).filter goodWord, w ∈ Ts) (h2 : ∀ w ∈ (vx_atS RX3 ic cls names).filter (fun w => !goodWord w), w ∈ NS) (hgood : ∀ w ∈ Cond.classLink RX3 ik cls :: Cond.initialized cls :: vx_atS RX3 ic cls names, vx_ot w = true)
    (d0 : decode cc pc = .ok (.new ik, 3)) (d3 : decode cc (pc + 3) = .ok (.dup, 1)) (d4 : decode cc (pc + 4) = .ok (.ldc is, 2)) (d6 : decode cc (pc + 6) = .ok (.invokespecial ic, 3)) (d9 : decode cc (pc + 9) = .ok (.athrow, 1))
    (hRf : names.length + 3 < R.frames) (hRl : (rest.map fun v => v.category).sum + (13 * (names.length + 1) + 43) ≤ R.locals) (hRc : cells + 1 ≤ R.cells) (hRs : slots + 6 ≤ R.slots) (hc : cells + 1 ≤ mc) (hs : slots + 6 ≤ ms) :
    Z p l e R s m args below meth c (vx_MQ below Qc (zX D cl A pe wx) args s mc ms A) D cl A N0 pc lv rest ws cells slots := by
  subst hw
  intro H locs ls hP hD hS hL
  obtain ⟨sa, hsa⟩ := hX.2.2 _ htx
  refine vx_throwS X.1 X.2.1 hl X.2.2.2.1 hcls hnames (X.2.2.2.2.1 _ hk) (X.2.2.2.2.1 _ hini) hsa (vx_hat (B := NS) (fun w hw => X.2.2.2.2.1 _ (h1 w hw)) h2 (fun w hw => va_Nw.use (z_isT (List.all_eq_true.mp X.2.2.2.2.2.2.2.2.2.2 w hw)) (X.2.2.2.2.2.2.2.2.2.1 w hw))) hgood hX.1 hX.2.1 hS (by rw [X.2.2.1]; exact hL.1) d0 d3 d4 d6 d9 (fun x hx => (hex x hx).elim) hRf hRl hRc hRs X.2.2.2.2.2.2.2.2.1 (fun t _ h3 h4 => ?_) hS.2.2 hc hs
  refine ⟨u, trivial, ⟨hpe, hP.kept fun k q hk => h4 q.1 (hP k q hk).lt, hD⟩, Nat.le_trans hS.1 h3, fun q h5 h6 => ?_⟩
  rw [h4 q (Nat.lt_of_lt_of_le h5 hS.1)]
  exact hS.2.1 q h5 h6
theorem zxn_throw {SX : Type} {Qc : Array Value → State → Outcome → State → Prop} {pe : String → SX → Prop} {wx : SX → va_W} (X : Cx p s m args meth c D cl ty A N0 cc Ts RX3 ret NS) (hX : xK A s s.heap) (hex : ∀ x ∈ c.exceptionTable.toList, False) (hl : l.stackTraces = false) {pc cells slots mc ms ik is ic : Nat} {cls text : String} (names : List String) {ix : Nat} {rx : ByteArray} (x0 : decode rx 0 = .ok (.aload_n 0, 1)) (x1 : decode rx 1 = .ok (.aload_n 1, 1)) (x2 : decode rx 2 = .ok (.invokespecial ix, 3)) (x5 : decode rx 5 = .ok (.return_, 1)) {lv : List (Nat × Value)} {rest : List Value} {ws : va_W} (u : SX) (hpe : pe cls u) (hw : ws = wx u)
    (hcls : Bundle.fit cls = true) (hnames : ∀ n ∈ names, Bundle.fit n = true) (hk : Cond.classLink RX3 ik cls ∈ Ts) (hini : Cond.initialized cls ∈ Ts) (htx : (is, text) ∈ xTx)
    (h1 : ∀ w ∈ (vxn_at RX3 ic cls ix rx names).filter goodWord, w ∈ Ts) (h2 : ∀ w ∈ (vxn_at RX3 ic cls ix rx names).filter (fun w => !goodWord w), w ∈ NS) (hgood : ∀ w ∈ Cond.classLink RX3 ik cls :: Cond.initialized cls :: vxn_at RX3 ic cls ix rx names, vx_ot w = true)
    (d0 : decode cc pc = .ok (.new ik, 3)) (d3 : decode cc (pc + 3) = .ok (.dup, 1)) (d4 : decode cc (pc + 4) = .ok (.ldc is, 2)) (d6 : decode cc (pc + 6) = .ok (.invokespecial ic, 3)) (d9 : decode cc (pc + 9) = .ok (.athrow, 1))
    (hRf : names.length + 3 < R.frames) (hRl : (rest.map fun v => v.category).sum + (13 * (names.length + 1) + 43) ≤ R.locals) (hRc : cells + 1 ≤ R.cells) (hRs : slots + 6 ≤ R.slots) (hc : cells + 1 ≤ mc) (hs : slots + 6 ≤ ms) :
    Z p l e R s m args below meth c (vx_MQ below Qc (zX D cl A pe wx) args s mc ms A) D cl A N0 pc lv rest ws cells slots := by
  subst hw
  intro H locs ls hP hD hS hL
  obtain ⟨sa, hsa⟩ := hX.2.2 _ htx
  refine vxn_throw X.1 X.2.1 hl x0 x1 x2 x5 X.2.2.2.1 hcls hnames (X.2.2.2.2.1 _ hk) (X.2.2.2.2.1 _ hini) hsa (vx_hat (B := NS) (fun w hw => X.2.2.2.2.1 _ (h1 w hw)) h2 (fun w hw => va_Nw.use (z_isT (List.all_eq_true.mp X.2.2.2.2.2.2.2.2.2.2 w hw)) (X.2.2.2.2.2.2.2.2.2.1 w hw))) hgood hX.1 hX.2.1 hS (by rw [X.2.2.1]; exact hL.1) d0 d3 d4 d6 d9 (fun x hx => (hex x hx).elim) hRf hRl hRc hRs X.2.2.2.2.2.2.2.2.1 (fun t _ h3 h4 => ?_) hS.2.2 hc hs
  refine ⟨u, trivial, ⟨hpe, hP.kept fun k q hk => h4 q.1 (hP k q hk).lt, hD⟩, Nat.le_trans hS.1 h3, fun q h5 h6 => ?_⟩
  rw [h4 q (Nat.lt_of_lt_of_le h5 hS.1)]
  exact hS.2.1 q h5 h6
end ZX

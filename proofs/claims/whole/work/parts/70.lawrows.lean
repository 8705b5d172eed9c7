/-! the law's own rows: a call that may throw, the catching of it, the script, the end -/
section ZH
variable {p : Program} {l : Launch} {e : Env} {R : Room} {s : State} {m : MethodId} {args : Array Value} {below : List Frame} {meth : Method} {c : Code} {Q : State → Prop} {D : va_G} {cl : List vw_C} {ty : List (ClassId × FieldType)} {A : Nat → Prop} {N0 : Nat} {cc : ByteArray} {Ts : List Cond} {own : String} {ret : Option FieldType} {NS : List Cond}
/-- a throw of E on its way out of a call in a walk -/
def ZT (p : Program) (l : Launch) (e : Env) (R : Room) (s : State) (m : MethodId) (args : Array Value) (below : List Frame) (meth : Method) (c : Code) (Q : State → Prop) (D : va_G) (cl : List vw_C) (A : Nat → Prop) (N0 : Nat) (pc : Nat) (lv : List (Nat × Value)) (rest : List Value) (ws : va_W) (cells slots : Nat) (E : String) : Prop :=
  ∀ (H : Heap) (locs : List Loc) (ls : Array Slot) (q : Addr) (ce : Cell), va_P D cl ws H → va_D A ws → va_S A s.heap H locs → lv_has ls N0 lv → H[q]? = some ce → ce.vm = .none → s.vm.findClass E = some ce.cls → vx_W p l e R s m args below meth c H locs cells slots Q (F0 m pc ls rest) q
theorem zt_catch (X : Cx p s m args meth c D cl ty A N0 cc Ts own ret NS) {name E : String} {pc pc' cells slots : Nat} {lv : List (Nat × Value)} {rest : List Value} {ws : va_W} (pre : List ExceptionTableEntry) (x : ExceptionTableEntry) (suf : List ExceptionTableEntry) (hsplit : c.exceptionTable.toList = pre ++ x :: suf)
    (hpass : ∀ z ∈ pre, covers z pc = false ∨ (z.catchType ≠ 0 ∧ ∃ nm : String, Cond.classLink own z.catchType nm ∈ Ts ∧ va_Nc E nm s)) (hx : covers x pc = true) (h0 : x.catchType ≠ 0) (hlink : Cond.classLink own x.catchType name ∈ Ts) (hcast : Cond.castable E name ∈ NS) (hpc : x.handlerPc = pc')
    (kk : ∀ q : Nat, Z p l e R s m args below meth c Q D cl A N0 pc' lv [.ref q] ws cells slots) : ZT p l e R s m args below meth c Q D cl A N0 pc lv rest ws cells slots E := by
  subst hpc
  intro H locs ls q ce hP hD hS hL hq hv hcl
  exact vx_catch X.2.2.2.1 pre x suf hsplit (fun z hz => (hpass z hz).imp (fun h => h) (fun h => ⟨h.1, h.2.imp fun nm h2 => ⟨X.2.2.2.2.1 _ h2.1, h2.2⟩⟩)) hx h0 (X.2.2.2.2.1 _ hlink) (va_Nw.use rfl (X.2.2.2.2.2.2.2.2.2.1 _ hcast)) hq hv hcl (kk q H locs ls hP hD hS hL)
theorem z_callX {S SX : Type} {post : Int32 → S → Prop} {w2 : S → va_W} {pe : String → SX → Prop} {wx : SX → va_W} (X : Cx p s m args meth c D cl ty A N0 cc Ts own ret NS) (hX : xK A s s.heap) {pc pc' cells slots mc ms maxL index n : Nat} {lv : List (Nat × Value)} {st As rest : List Value} {ws wc wr : va_W} {y : MethodName} {wd : List Cond} {rm : Room} {bytes : ByteArray} {cret : Option FieldType} {C : String} {b : Nat}
    (hM : ∀ sz, vx_Met l y wd rm (va_Pc (.ref b :: As) (zPreX D cl ty NS wc sz)) (va_Qi post (fun u => zPost D cl (va_A wc sz) (w2 u)) (va_A wc sz)) (zX D cl (va_A wc sz) pe wx) mc ms (va_A wc sz)) (cw : CallW R s args own C index y bytes maxL cret wd rm mc ms n)
    (isC isR : List Nat) (hC : isC.map (fun i => ws[i]?) = wc.map some) (hR : isR.map (fun i => ws[i]?) = wr.map some) (hnC : va_nd isC = true) (hn : va_nd isR = true) (hdis : ∀ i ∈ isR, i ∉ isC) (ci q0 : Nat) {q : vw_C} {fs : List Value} (hc : cl[ci]? = some q) (he : ws[q0]? = some (b, .inr (ci, fs))) (hq : q.1 = C) (hst : st = As.reverse ++ .ref b :: rest) (hAn : As.length = n) (hrm : (rest.map fun v => v.category).sum ≤ 8) (hdg : decode cc pc = .ok (.invokevirtual index, 3)) (hf : cells + mc ≤ R.cells ∧ slots + ms ≤ R.slots) (hp : pc + 3 = pc')
    (kk : ∀ (r : Int32) (u : S), post r u → Z p l e R s m args below meth c Q D cl A N0 pc' lv (.int r :: rest) (wr ++ w2 u) (cells + mc) (slots + ms))
    (kx : ∀ (E : String) (u : SX), pe E u → ZT p l e R s m args below meth c Q D cl A N0 pc lv rest (wr ++ wx u) (cells + mc) (slots + ms) E) : Z p l e R s m args below meth c Q D cl A N0 pc lv st ws cells slots := by
  subst hp
  intro H locs ls hP hD hS hL
  have hFc := va_free (wc := wc) hD hS X.2.2.2.2.2.2.1 isC hC
  refine vx_calli (vx_runV ⟨X.1, X.2.1, X.2.2.1, X.2.2.2.1, X.2.2.2.2.1⟩ (hM H.size) cw ⟨zxBlind X.2.2.2.2.2.2.2.2.2.2, by rw [← hq]; exact va_recv X.2.2.2.2.2.1 hP hc he, zxOk hP hD hS hX X isC hnC hC⟩ rfl hAn hL.1 hst (lv_room hrm) hdg hf) hS (fun q _ h => hFc q h) hFc (fun q _ h => hFc q h) (fun E ce q9 u t H1 locs1 ht hvm _ hB hz1 hk1 hS1 hce hcv hcl => ?_) (fun r u t H1 locs1 ht hvm hw hB hz1 hk1 hS1 => ?_)
  · obtain ⟨hpe, hP1, hD1⟩ := hB
    rw [ht] at hP1
    obtain ⟨hP2, hD2⟩ := va_join (wr := wr) (w1 := wx u) hP hD isC isR hC hR hn hdis hk1 hFc hP1 hD1
    exact kx E u hpe H1 locs1 ls q9 ce hP2 hD2 hS1 hL hce hcv hcl
  · obtain ⟨hP1, hD1⟩ := hB
    rw [ht] at hP1
    obtain ⟨hP2, hD2⟩ := va_join (wr := wr) (w1 := w2 u) hP hD isC isR hC hR hn hdis hk1 hFc hP1 hD1
    exact kk r u hw H1 locs1 ls hP2 hD2 hS1 hL
/-- what a helper of the law finds: also, that the one exception isn't the other -/
def xISE : String := "java/lang/IllegalStateException"
def xIAE : String := "java/lang/IllegalArgumentException"
def zPreH (D : va_G) (cl : List vw_C) (ty : List (ClassId × FieldType)) (NS : List Cond) (ws : va_W) (sz : Nat) : State → Prop := fun U => zPreX D cl ty NS ws sz U ∧ va_Nc xISE xIAE U
theorem zhBlind (hNS : NS.all z_isN = true) {av : List Value} {ws : va_W} {sz : Nat} : FrameBlind (va_Pc av (zPreH D cl ty NS ws sz)) := fun a U g mk q => by
  obtain ⟨q0, q1, qx⟩ := q
  have h1 := zxBlind (av := av) (ws := ws) (sz := sz) (D := D) (cl := cl) (ty := ty) hNS a U g mk ⟨q0, q1⟩
  exact ⟨h1.1, h1.2, va_Nc.moved (u := U) (U := U.calling g mk a) (Vm.Alike.refl U.vm) qx⟩
theorem zhOk {av : List Value} {ws wc : va_W} {H : Heap} {locs : List Loc} (hP : va_P D cl ws H) (hD : va_D A ws) (hS : va_S A s.heap H locs) (hX : xK A s s.heap) (hNc : va_Nc xISE xIAE s) (X : Cx p s m args meth c D cl ty A N0 cc Ts own ret NS) (is : List Nat) (hn : va_nd is = true) (hC : is.map (fun i => ws[i]?) = wc.map some) :
    ∀ U : State, U.heap = H → s.WarmedH U.vm → va_Pc av (zPreH D cl ty NS wc H.size) av.toArray U := fun U hU hW => by
  have h1 := zxOk (av := av) hP hD hS hX X is hn hC U hU hW
  exact ⟨h1.1, h1.2, va_Nc.moved hW.alike hNc⟩
theorem zxMetH {S SX : Type} {post : Int32 → S → Prop} {w2 : S → va_W} {pe : String → SX → Prop} {wx : SX → va_W} {y : MethodName} {rm : Room} {av : List Value} {ws : va_W} {sz mc ms maxL : Nat} {lv : List (Nat × Value)} {hh : List (Nat × Nat × Nat × Nat)}
    (hNS : NS.all z_isN = true) (hy : plainName y.cls = true) (ho : y.cls = own) (hlen : (lg_sl av).length ≤ maxL) (hlv : lv_args 0 av = lv)
    (body : ∀ (p : Program) (e : Env) (s : State) (m : MethodId) (args : Array Value) (below : List Frame) (meth : Method) (c : Code) (A : Nat → Prop), Cx p s m args meth c D cl ty A maxL cc Ts own ret NS → xK A s s.heap → va_Nc xISE xIAE s → c.exceptionTable.toList = tableOf hh → A = va_A ws sz →
      Z p l e rm s m args below meth c (vx_MQ below (va_Qi post (fun u => zPost D cl A (w2 u)) A) (zX D cl A pe wx) args s mc ms A) D cl A maxL 0 lv [] ws 0 0) :
    vx_Met l y (Cond.codeWith y cc maxL ret hh :: Ts) rm (va_Pc av (zPreH D cl ty NS ws sz)) (va_Qi post (fun u => zPost D cl (va_A ws sz) (w2 u)) (va_A ws sz)) (zX D cl (va_A ws sz) pe wx) mc ms (va_A ws sz) := by
  refine vx_ofWH (cc := cc) (maxL := maxL) (ret := ret) (hh := hh) hy rfl ?_
  intro p e s m args below meth c s₁ B hml hv
  obtain ⟨ha, ⟨⟨hsz, hP, ⟨hK, hN⟩, hD0⟩, hX⟩, hNc⟩ := hv
  subst hsz
  have hA : ∀ q : Nat, s.heap.size ≤ q → va_A ws s.heap.size q := fun q h => Or.inr h
  have hl := lv_entry av (n := maxL) hlen
  have htb : c.exceptionTable.toList = tableOf hh := vx_table (x := y) B (atoms_spec (ws := Cond.codeWith y cc maxL ret hh :: Ts) B.pre _ List.mem_cons_self)
  subst ha
  rw [lg_entry_eq]
  exact body p e s m _ below meth c _ ⟨B.exec, B.bytes, hml, ho ▸ findClass_of_methodNamed B.named, fun w hw => atoms_spec (ws := Cond.codeWith y cc maxL ret hh :: Ts) B.pre w (List.mem_cons_of_mem _ hw), hK, hA, B.returns, B.notSynchronized, hN, hNS⟩ hX hNc htb rfl s.heap [] _ hP (hD0.self (sz := s.heap.size)) va_S.rf (by rw [← hlv]; exact hl)
theorem zcwH (X : Cx p s m args meth c D cl ty A N0 cc Ts own ret NS) (hg : ∀ w ∈ Ts, goodWord w = true) {index maxL mc ms : Nat} {y : MethodName} {bytes : ByteArray} {cret : Option FieldType} {hh : List (Nat × Nat × Nat × Nat)} {rm : Room} (n : Nat) (hl : Cond.methodLink own index y ∈ Ts) (hst : Cond.static y ∈ Ts) (hini : Cond.initialized y.cls ∈ Ts) (hk : Cond.codeWith y bytes maxL cret hh ∈ Ts) (hrc : rm.cells = mc) (hrs : rm.slots = ms)
    (hd : y.cls ≠ "java/lang/invoke/MethodHandle" ∧ y.cls ≠ "java/lang/invoke/VarHandle" ∧ (parseMethodDescriptor y.desc).map (fun d => d.parameters.length) = some n) (hR : rm.frames + 1 ≤ R.frames ∧ 8 + (maxL + 11) + rm.locals ≤ R.locals) : vx_CSW R s args own index y bytes maxL cret hh (Cond.codeWith y bytes maxL cret hh :: Ts) rm mc ms n := by
  refine vx_cwSW (Ts := Ts) n X.2.2.2.2.1 (fun w hw => ?_) rfl hrc hrs hd hR
  unfold va_wsS at hw
  have key : ∀ v : Cond, v ∈ Ts → v ∈ Ts ∧ _ := fun v hv => ⟨hv, good_of_word (hg v hv)⟩
  rcases List.mem_append.mp hw with h | h
  · simp only [List.mem_cons, List.not_mem_nil, or_false] at h
    rcases h with rfl | rfl | rfl
    · exact key _ hl
    · exact key _ hst
    · exact key _ hini
  · rcases List.mem_cons.mp h with rfl | h
    · exact key _ hk
    · exact key _ h
theorem z_callH {S SX : Type} {post : Int32 → S → Prop} {w2 : S → va_W} {pe : String → SX → Prop} {wx : SX → va_W} (hno : ∀ E u, ¬ pe E u) (X : Cx p s m args meth c D cl ty A N0 cc Ts own ret NS) (hX : xK A s s.heap) (hNc : va_Nc xISE xIAE s) {pc pc' cells slots mc ms maxL index n : Nat} {lv : List (Nat × Value)} {st As rest : List Value} {ws wc wr : va_W} {y : MethodName} {wd : List Cond} {rm : Room} {bytes : ByteArray} {cret : Option FieldType} {hh : List (Nat × Nat × Nat × Nat)}
    (hM : ∀ sz, vx_Met l y wd rm (va_Pc As (zPreH D cl ty NS wc sz)) (va_Qi post (fun u => zPost D cl (va_A wc sz) (w2 u)) (va_A wc sz)) (zX D cl (va_A wc sz) pe wx) mc ms (va_A wc sz)) (cw : vx_CSW R s args own index y bytes maxL cret hh wd rm mc ms n)
    (isC isR : List Nat) (hC : isC.map (fun i => ws[i]?) = wc.map some) (hR : isR.map (fun i => ws[i]?) = wr.map some) (hnC : va_nd isC = true) (hn : va_nd isR = true) (hdis : ∀ i ∈ isR, i ∉ isC) (hst : st = As.reverse ++ rest) (hAn : As.length = n) (hrm : (rest.map fun v => v.category).sum ≤ 8) (hdg : decode cc pc = .ok (.invokestatic index, 3)) (hf : cells + mc ≤ R.cells ∧ slots + ms ≤ R.slots) (hp : pc + 3 = pc')
    (kk : ∀ (r : Int32) (u : S), post r u → Z p l e R s m args below meth c Q D cl A N0 pc' lv (.int r :: rest) (wr ++ w2 u) (cells + mc) (slots + ms)) : Z p l e R s m args below meth c Q D cl A N0 pc lv st ws cells slots := by
  subst hp
  intro H locs ls hP hD hS hL
  have hFc := va_free (wc := wc) hD hS X.2.2.2.2.2.2.1 isC hC
  refine vx_calli (vx_runSX ⟨X.1, X.2.1, X.2.2.1, X.2.2.2.1, X.2.2.2.2.1⟩ (hM H.size) cw ⟨zhBlind X.2.2.2.2.2.2.2.2.2.2, zhOk hP hD hS hX hNc X isC hnC hC⟩ rfl hAn hL.1 hst (lv_room hrm) hdg hf) hS (fun q _ h => hFc q h) hFc (fun q _ h => hFc q h) (fun E ce q9 u t H1 locs1 ht hvm _ hB hz1 hk1 hS1 hce hcv hcl => absurd hB.1 (hno E u)) (fun r u t H1 locs1 ht hvm hw hB hz1 hk1 hS1 => ?_)
  obtain ⟨hP1, hD1⟩ := hB
  rw [ht] at hP1
  obtain ⟨hP2, hD2⟩ := va_join (wr := wr) (w1 := w2 u) hP hD isC isR hC hR hn hdis hk1 hFc hP1 hD1
  exact kk r u hw H1 locs1 ls hP2 hD2 hS1 hL
/-- the script -/
theorem z_sld (X : Cx p s m args meth c D cl ty A N0 cc Ts own ret NS) {b L j pc pc' cells slots : Nat} {lv : List (Nat × Value)} {rest : List Value} {ws : va_W} {xs : Nat → Int32} (hV : va_X b L xs s s.heap) (hbl : b < s.heap.size) (hbA : ¬ A b) (hj : j < L) (hL31 : L < 2 ^ 31) (hdg : decode cc pc = .ok (.iaload, 1)) (hp : pc + 1 = pc')
    (kk : Z p l e R s m args below meth c Q D cl A N0 pc' lv (.int (xs j) :: rest) ws cells slots) : Z p l e R s m args below meth c Q D cl A N0 pc lv (.int (nI j) :: .ref b :: rest) ws cells slots := by
  subst hp
  intro H locs ls hP hD hS hL
  refine va_sld X.1 X.2.1 hV hbl hbA hS (pk_in j L hj rfl hL31) hdg ?_
  rw [nI_clamp (by omega)]
  exact kk H locs ls hP hD hS hL
theorem z_slen (X : Cx p s m args meth c D cl ty A N0 cc Ts own ret NS) {b L pc pc' cells slots : Nat} {lv : List (Nat × Value)} {rest : List Value} {ws : va_W} {xs : Nat → Int32} (hV : va_X b L xs s s.heap) (hbl : b < s.heap.size) (hbA : ¬ A b) (hdg : decode cc pc = .ok (.arraylength, 1)) (hp : pc + 1 = pc')
    (kk : Z p l e R s m args below meth c Q D cl A N0 pc' lv (.int (nI L) :: rest) ws cells slots) : Z p l e R s m args below meth c Q D cl A N0 pc lv (.ref b :: rest) ws cells slots := by
  subst hp
  intro H locs ls hP hD hS hL
  exact va_slen X.1 X.2.1 hV hbl hbA hS hdg (kk H locs ls hP hD hS hL)
end ZH
/-- a contract of a helper of the law: it returns an int -/
abbrev KW (l : Launch) (D : va_G) (cI cJ : ClassId) (y : MethodName) (cc : ByteArray) (ml : Nat) (ret : Option FieldType) (hh : List (Nat × Nat × Nat × Nat)) (fr lo mc ms : Nat) (av : List Value) (ws : va_W) (sz : Nat) {S : Type} (post : Int32 → S → Prop) (w2 : S → va_W) : Prop :=
  vx_Met l y (Cond.codeWith y cc ml ret hh :: TT) { frames := fr, cells := mc, slots := ms, locals := lo } (va_Pc av (zPreH D vwCl [(cI, .int), (cJ, .long)] NS0 ws sz)) (va_Qi post (fun u => zPost D vwCl (va_A ws sz) (w2 u)) (va_A ws sz)) (zX (SX := Unit) D vwCl (va_A ws sz) (fun _ _ => False) (fun _ => [])) mc ms (va_A ws sz)

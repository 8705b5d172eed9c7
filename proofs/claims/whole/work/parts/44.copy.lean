section ZR
variable {p : Program} {l : Launch} {e : Env} {R : Room} {s : State} {m : MethodId} {args : Array Value} {below : List Frame} {meth : Method} {c : Code} {Q : State → Prop} {D : va_G} {cl : List vw_C} {ty : List (ClassId × FieldType)} {A : Nat → Prop} {N0 : Nat} {cc : ByteArray} {Ts : List Cond} {own : String} {ret : Option FieldType} {NS : List Cond}
theorem z_copyi (X : Cx p s m args meth c D cl ty A N0 cc Ts own ret NS) {pc pc' cells slots idx k n0 n1 a0 a1 : Nat} {lv : List (Nat × Value)} {rest : List Value} {ws ws' : va_W} {cA : ClassId} {f g : Nat → Int32} (q0 q1 t0 : Nat) (hlink : Cond.methodLink own idx arraycopyName ∈ Ts) (hnat : Cond.native arraycopyName ∈ Ts) (hstat : Cond.static arraycopyName ∈ Ts) (hini : Cond.initialized "java/lang/System" ∈ Ts) (ha0 : ws[q0]? = some (a0, .inl (cA, n0, .inl f))) (ha1 : ws[q1]? = some (a1, .inl (cA, n1, .inl g))) (ht : ty[t0]? = some (cA, .int)) (hk : k < 2 ^ 31) (hk0 : k ≤ n0) (hk1 : k ≤ n1) (hframes : 1 ≤ R.frames) (hlocals : (rest.map fun v => v.category).sum + (nativeFrameWords "java/lang/System" "arraycopy" 5 + 11) ≤ R.locals) (hdg : decode cc pc = .ok (.invokestatic idx, 3)) (hp : pc + 3 = pc') (hw : ws.set q1 (a1, .inl (cA, n1, .inl (va_cpy f g 0 0 k))) = ws')
    (kk : Z p l e R s m args below meth c Q D cl A N0 pc' lv rest ws' cells slots) : Z p l e R s m args below meth c Q D cl A N0 pc lv (.int (nI k) :: .int (nI 0) :: .ref a1 :: .int (nI 0) :: .ref a0 :: rest) ws cells slots := by
  subst hp
  subst hw
  intro H locs ls hP hD hS hL
  have e := nI_clamp hk
  have e0 := nI_clamp (n := 0) (by decide)
  refine va_copyi X.1 X.2.1 (by rw [X.2.2.1]; exact hL.1.symm) X.2.2.2.1 (X.2.2.2.2.1 _ hlink) (X.2.2.2.2.1 _ hnat) (X.2.2.2.2.1 _ hstat) (X.2.2.2.2.1 _ hini) X.2.2.2.2.2.1 hP hD hS q0 q1 t0 t0 ha0 ha1 ht ht rfl (nI_pos (by decide)) (nI_pos (by decide)) (nI_pos hk) (by rw [e, e0]; omega) (by rw [e, e0]; omega) (fun _ _ => rfl) hframes hlocals hdg (fun H1 locs1 hP1 hD1 hS1 => ?_)
  rw [e, e0] at hP1 hD1
  exact kk H1 locs1 ls hP1 hD1 hS1 hL
theorem z_copyl (X : Cx p s m args meth c D cl ty A N0 cc Ts own ret NS) {pc pc' cells slots idx k n0 n1 a0 a1 : Nat} {lv : List (Nat × Value)} {rest : List Value} {ws ws' : va_W} {cA : ClassId} {f g : Nat → Int64} (q0 q1 t0 : Nat) (hlink : Cond.methodLink own idx arraycopyName ∈ Ts) (hnat : Cond.native arraycopyName ∈ Ts) (hstat : Cond.static arraycopyName ∈ Ts) (hini : Cond.initialized "java/lang/System" ∈ Ts) (ha0 : ws[q0]? = some (a0, .inl (cA, n0, .inr (.inl f)))) (ha1 : ws[q1]? = some (a1, .inl (cA, n1, .inr (.inl g)))) (ht : ty[t0]? = some (cA, .long)) (hk : k < 2 ^ 31) (hk0 : k ≤ n0) (hk1 : k ≤ n1) (hframes : 1 ≤ R.frames) (hlocals : (rest.map fun v => v.category).sum + (nativeFrameWords "java/lang/System" "arraycopy" 5 + 11) ≤ R.locals) (hdg : decode cc pc = .ok (.invokestatic idx, 3)) (hp : pc + 3 = pc') (hw : ws.set q1 (a1, .inl (cA, n1, .inr (.inl (va_cpy f g 0 0 k)))) = ws')
    (kk : Z p l e R s m args below meth c Q D cl A N0 pc' lv rest ws' cells slots) : Z p l e R s m args below meth c Q D cl A N0 pc lv (.int (nI k) :: .int (nI 0) :: .ref a1 :: .int (nI 0) :: .ref a0 :: rest) ws cells slots := by
  subst hp
  subst hw
  intro H locs ls hP hD hS hL
  have e := nI_clamp hk
  have e0 := nI_clamp (n := 0) (by decide)
  refine va_copyl X.1 X.2.1 (by rw [X.2.2.1]; exact hL.1.symm) X.2.2.2.1 (X.2.2.2.2.1 _ hlink) (X.2.2.2.2.1 _ hnat) (X.2.2.2.2.1 _ hstat) (X.2.2.2.2.1 _ hini) X.2.2.2.2.2.1 hP hD hS q0 q1 t0 t0 ha0 ha1 ht ht rfl (nI_pos (by decide)) (nI_pos (by decide)) (nI_pos hk) (by rw [e, e0]; omega) (by rw [e, e0]; omega) (fun _ _ => rfl) hframes hlocals hdg (fun H1 locs1 hP1 hD1 hS1 => ?_)
  rw [e, e0] at hP1 hD1
  exact kk H1 locs1 ls hP1 hD1 hS1 hL
/-- a reference comes back -/
theorem zMetR {S : Type} {post : S → Prop} {w2 : S → Nat → va_W} {y : MethodName} {rm : Room} {av : List Value} {ws : va_W} {sz mc ms maxL : Nat} {lv : List (Nat × Value)}
    (hNS : NS.all z_isN = true) (hy : plainName y.cls = true) (ho : y.cls = own) (hlen : (lg_sl av).length ≤ maxL) (hlv : lv_args 0 av = lv)
    (body : ∀ (p : Program) (e : Env) (s : State) (m : MethodId) (args : Array Value) (below : List Frame) (meth : Method) (c : Code) (A : Nat → Prop), Cx p s m args meth c D cl ty A maxL cc Ts own ret NS → meth.name = y.name → A = va_A ws sz →
      Z p l e rm s m args below meth c (MQ below (va_Qr post (fun u a => zPost D cl A (w2 u a)) A) args s mc ms A) D cl A maxL 0 lv [] ws 0 0) :
    Met l y (Cond.code y cc maxL ret :: Ts) rm (va_Pc av (zPre D cl ty NS ws sz)) (va_Qr post (fun u a => zPost D cl (va_A ws sz) (w2 u a)) (va_A ws sz)) mc ms (va_A ws sz) :=
  zMet (Qf := fun A => va_Qr post (fun u a => zPost D cl A (w2 u a)) A) hNS hy ho hlen hlv body
theorem z_aret {S : Type} {post : S → Prop} {w2 : S → Nat → va_W} (X : Cx p s m args meth c D cl ty A N0 cc Ts own ret NS) {pc cells slots mc ms a : Nat} {lv : List (Nat × Value)} {ws : va_W} {t1 : FieldType} (hr : ret = some (.array t1)) (u : S) (hp : post u) (hw : ws = w2 u a) (h1 : cells ≤ mc) (h2 : slots ≤ ms) (hdg : decode cc pc = .ok (.areturn, 1)) :
    Z p l e R s m args below meth c (MQ below (va_Qr post (fun u a => zPost D cl A (w2 u a)) A) args s mc ms A) D cl A N0 pc lv [.ref a] ws cells slots := by
  subst hw
  intro H locs ls hP hD hS hL
  refine W.widen h1 h2 ?_
  exact W.aret X.1 X.2.1 (X.2.2.2.2.2.2.2.1.trans hr) (Or.inr ⟨t1, rfl⟩) (Or.inr ⟨a, rfl⟩) (fun t ht hW => ⟨⟨u, a, rfl, hp, by rw [ht]; exact hP, hD⟩, hS.F ht⟩) hS.2.2 hdg X.2.2.2.2.2.2.2.2.1
theorem z_backr {S : Type} {post : S → Prop} {w2 : S → Nat → va_W} (X : Cx p s m args meth c D cl ty A N0 cc Ts own ret NS) {pc pc' cells slots mc ms : Nat} {lv : List (Nat × Value)} {st rest : List Value} {ws wc wr : va_W} {a : Array Value} (isC isR : List Nat) (hC : isC.map (fun i => ws[i]?) = wc.map some) (hR : isR.map (fun i => ws[i]?) = wr.map some) (hn : va_nd isR = true) (hdis : ∀ i ∈ isR, i ∉ isC)
    (run : ∀ (H : Heap) (locs : List Loc) (ls : Array Slot), va_P D cl ws H → va_D A ws → lv_has ls N0 lv → va_Run p l e R s m args below meth c H locs cells slots mc ms (F0 m pc ls st) rest (va_Qr post (fun u a => zPost D cl (va_A wc H.size) (w2 u a)) (va_A wc H.size) a) (va_A wc H.size)) (hp : pc + 3 = pc')
    (kk : ∀ (u : S) (q : Nat), post u → Z p l e R s m args below meth c Q D cl A N0 pc' lv (.ref q :: rest) (wr ++ w2 u q) (cells + mc) (slots + ms)) : Z p l e R s m args below meth c Q D cl A N0 pc lv st ws cells slots := by
  subst hp
  intro H locs ls hP hD hS hL
  have hFc := va_free (wc := wc) hD hS X.2.2.2.2.2.2.1 isC hC
  refine va_callr (run H locs ls hP hD hL) hS (fun q _ h => hFc q h) hFc (fun u ra t H1 locs1 ht hvm hw hB hz1 hk1 hS1 => ?_)
  obtain ⟨hP1, hD1⟩ := hB
  rw [ht] at hP1
  obtain ⟨hP2, hD2⟩ := va_join (wr := wr) (w1 := w2 u ra) hP hD isC isR hC hR hn hdis hk1 hFc hP1 hD1
  exact kk u ra hw H1 locs1 ls hP2 hD2 hS1 hL
theorem z_callSr {S : Type} {post : S → Prop} {w2 : S → Nat → va_W} (X : Cx p s m args meth c D cl ty A N0 cc Ts own ret NS) {pc pc' cells slots mc ms maxL index n : Nat} {lv : List (Nat × Value)} {st As rest : List Value} {ws wc wr : va_W} {y : MethodName} {wd : List Cond} {rm : Room} {bytes : ByteArray} {cret : Option FieldType}
    (hM : ∀ sz, Met l y wd rm (va_Pc As (zPre D cl ty NS wc sz)) (va_Qr post (fun u a => zPost D cl (va_A wc sz) (w2 u a)) (va_A wc sz)) mc ms (va_A wc sz)) (cw : CallB R s args own index y bytes maxL cret wd rm mc ms n ∧ (Cond.static y).before args s = true)
    (isC isR : List Nat) (hC : isC.map (fun i => ws[i]?) = wc.map some) (hR : isR.map (fun i => ws[i]?) = wr.map some) (hnC : va_nd isC = true) (hn : va_nd isR = true) (hdis : ∀ i ∈ isR, i ∉ isC) (hst : st = As.reverse ++ rest) (hAn : As.length = n) (hrm : (rest.map fun v => v.category).sum ≤ 8) (hdg : decode cc pc = .ok (.invokestatic index, 3)) (hf : cells + mc ≤ R.cells ∧ slots + ms ≤ R.slots) (hp : pc + 3 = pc')
    (kk : ∀ (u : S) (q : Nat), post u → Z p l e R s m args below meth c Q D cl A N0 pc' lv (.ref q :: rest) (wr ++ w2 u q) (cells + mc) (slots + ms)) : Z p l e R s m args below meth c Q D cl A N0 pc lv st ws cells slots :=
  z_backr X isC isR hC hR hn hdis (fun H locs ls hP hD hL => va_runS ⟨X.1, X.2.1, X.2.2.1, X.2.2.2.1, X.2.2.2.2.1⟩ (hM H.size) cw ⟨zBlind X.2.2.2.2.2.2.2.2.2.2, zOk hP hD X isC hnC hC⟩ rfl hAn hL.1 hst (lv_room hrm) hdg hf) hp kk
end ZR
abbrev KR (l : Launch) (D : va_G) (cI cJ : ClassId) (y : MethodName) (cc : ByteArray) (ml : Nat) (ret : Option FieldType) (fr lo mc ms : Nat) (av : List Value) (ws : va_W) (sz : Nat) {S : Type} (post : S → Prop) (w2 : S → Nat → va_W) : Prop :=
  Met l y (Cond.code y cc ml ret :: TT) { frames := fr, cells := mc, slots := ms, locals := lo } (va_Pc av (zPre D vwCl [(cI, .int), (cJ, .long)] NS0 ws sz)) (va_Qr post (fun u a => zPost D vwCl (va_A ws sz) (w2 u a)) (va_A ws sz)) mc ms (va_A ws sz)
abbrev cA_copyi : ByteArray := prog_16_method_123_code
def yA_copyi : MethodName := ⟨"java/util/Arrays", "copyOf", "([II)[I"⟩
theorem mK_A_copyi : Cond.code yA_copyi cA_copyi 3 (some (.array .int)) ∈ TT := zmem 294 (by decide +kernel) (by decide +kernel)
theorem dA_copyi_0 : decode cA_copyi 0 = .ok (.iload_n 1, 1) := by decide +kernel
theorem dA_copyi_1 : decode cA_copyi 1 = .ok (.aload_n 0, 1) := by decide +kernel
theorem dA_copyi_2 : decode cA_copyi 2 = .ok (.arraylength, 1) := by decide +kernel
theorem dA_copyi_3 : decode cA_copyi 3 = .ok (.if_icmp .ne 11, 3) := by decide +kernel
theorem dA_copyi_14 : decode cA_copyi 14 = .ok (.iload_n 1, 1) := by decide +kernel
theorem dA_copyi_15 : decode cA_copyi 15 = .ok (.newarray .int, 2) := by decide +kernel
theorem dA_copyi_17 : decode cA_copyi 17 = .ok (.astore_n 2, 1) := by decide +kernel
theorem dA_copyi_18 : decode cA_copyi 18 = .ok (.aload_n 0, 1) := by decide +kernel
theorem dA_copyi_19 : decode cA_copyi 19 = .ok (.iconst 0, 1) := by decide +kernel
theorem dA_copyi_20 : decode cA_copyi 20 = .ok (.aload_n 2, 1) := by decide +kernel
theorem dA_copyi_21 : decode cA_copyi 21 = .ok (.iconst 0, 1) := by decide +kernel
theorem dA_copyi_22 : decode cA_copyi 22 = .ok (.aload_n 0, 1) := by decide +kernel
theorem dA_copyi_23 : decode cA_copyi 23 = .ok (.arraylength, 1) := by decide +kernel
theorem dA_copyi_24 : decode cA_copyi 24 = .ok (.iload_n 1, 1) := by decide +kernel
theorem dA_copyi_25 : decode cA_copyi 25 = .ok (.invokestatic 304, 3) := by decide +kernel
theorem dA_copyi_28 : decode cA_copyi 28 = .ok (.invokestatic 150, 3) := by decide +kernel
theorem dA_copyi_31 : decode cA_copyi 31 = .ok (.aload_n 2, 1) := by decide +kernel
theorem dA_copyi_32 : decode cA_copyi 32 = .ok (.areturn, 1) := by decide +kernel
set_option maxHeartbeats 4000000 in
set_option maxRecDepth 100000 in
/-- a longer copy of a row -/
theorem c_copyi (l : Launch) (D : va_G) (cI cJ : ClassId) (sz : Nat) (a0 n k : Nat) (f : Nat → Int32) (hn : n < k) (hk : k ≤ 20480) : KR l D cI cJ yA_copyi cA_copyi 3 (some (.array .int)) 1 18 1 k [.ref a0, .int (nI k)] [(a0, .inl (cI, n, .inl f))] sz (S := Unit) (fun _ => True) (fun _ q => [(a0, .inl (cI, n, .inl f)), (q, .inl (cI, k, .inl (va_cpy f (fun _ => 0) 0 0 n)))]) := by
  refine zMetR (lv := [(0, .ref a0), (1, .int (nI k))]) NS0_ok (by decide) rfl (Nat.le_of_ble_eq_true rfl) rfl ?_
  intro p e s m args below meth c A X hin hA
  refine z_iload_n X (pc' := 1) dA_copyi_0 rfl 1 rfl rfl ?_
  refine z_aload_n X (pc' := 2) dA_copyi_1 rfl 0 rfl rfl ?_
  refine z_alen X (pc' := 3) 0 0 rfl rfl dA_copyi_2 rfl ?_
  refine z_icmp_neN X (tgt := 14) (pc' := 6) (by omega) (by omega) dA_copyi_3 (by decide) rfl (fun h1 => ?_) (fun h1 => ?_)
  · clear h1
    refine z_iload_n X (pc' := 15) dA_copyi_14 rfl 1 rfl rfl ?_
    refine z_newi X (pc' := 17) 0 rfl mR_int (by omega) (Nat.le_refl _) (by show 0 + k ≤ k; omega) dA_copyi_15 rfl (fun q15 => ?_)
    refine z_wse (ws' := [(a0, .inl (cI, n, .inl f)), (q15, .inl (cI, k, .inl (fun _ => 0)))]) rfl ?_
    refine z_astore_n X (lv' := [(2, .ref q15), (0, .ref a0), (1, .int (nI k))]) (pc' := 18) dA_copyi_17 rfl (by decide) rfl rfl ?_
    refine z_aload_n X (pc' := 19) dA_copyi_18 rfl 1 rfl rfl ?_
    refine z_iconst X (v := nI 0) (pc' := 20) dA_copyi_19 (by decide) rfl ?_
    refine z_aload_n X (pc' := 21) dA_copyi_20 rfl 0 rfl rfl ?_
    refine z_iconst X (v := nI 0) (pc' := 22) dA_copyi_21 (by decide) rfl ?_
    refine z_aload_n X (pc' := 23) dA_copyi_22 rfl 1 rfl rfl ?_
    refine z_alen X (pc' := 24) 0 0 rfl rfl dA_copyi_23 rfl ?_
    refine z_iload_n X (pc' := 25) dA_copyi_24 rfl 2 rfl rfl ?_
    refine z_mmin X (pc' := 28) mL_JA_304 mT_Math_min mN_Math mK_Math_min (by omega) (by omega) dA_copyi_25 (Nat.le_of_ble_eq_true rfl) (Nat.le_of_ble_eq_true rfl) (Nat.le_of_ble_eq_true rfl) (by show 0 + k ≤ k; omega) rfl ?_
    refine z_topi (y := nI n) (by rw [Nat.min_eq_left (by omega)]) ?_
    refine z_copyi X (pc' := 31) (ws' := [(a0, .inl (cI, n, .inl f)), (q15, .inl (cI, k, .inl (va_cpy f (fun _ => 0) 0 0 n)))]) 0 1 0 mL_JA_150 mV_arraycopy mT_System_arraycopy mN_System rfl rfl rfl (by omega) (Nat.le_refl _) (by omega) (Nat.le_of_ble_eq_true rfl) (Nat.le_of_ble_eq_true rfl) dA_copyi_28 rfl rfl ?_
    refine z_aload_n X (pc' := 32) dA_copyi_31 rfl 0 rfl rfl ?_
    exact z_aret X (t1 := .int) rfl () trivial rfl (Nat.le_refl _) (by show 0 + k ≤ k; omega) dA_copyi_32
  · exact absurd h1 (by omega)
abbrev cA_copyl : ByteArray := prog_16_method_124_code
def yA_copyl : MethodName := ⟨"java/util/Arrays", "copyOf", "([JI)[J"⟩
theorem mK_A_copyl : Cond.code yA_copyl cA_copyl 3 (some (.array .long)) ∈ TT := zmem 278 (by decide +kernel) (by decide +kernel)
theorem dA_copyl_0 : decode cA_copyl 0 = .ok (.iload_n 1, 1) := by decide +kernel
theorem dA_copyl_1 : decode cA_copyl 1 = .ok (.aload_n 0, 1) := by decide +kernel
theorem dA_copyl_2 : decode cA_copyl 2 = .ok (.arraylength, 1) := by decide +kernel
theorem dA_copyl_3 : decode cA_copyl 3 = .ok (.if_icmp .ne 11, 3) := by decide +kernel
theorem dA_copyl_14 : decode cA_copyl 14 = .ok (.iload_n 1, 1) := by decide +kernel
theorem dA_copyl_15 : decode cA_copyl 15 = .ok (.newarray .long, 2) := by decide +kernel
theorem dA_copyl_17 : decode cA_copyl 17 = .ok (.astore_n 2, 1) := by decide +kernel
theorem dA_copyl_18 : decode cA_copyl 18 = .ok (.aload_n 0, 1) := by decide +kernel
theorem dA_copyl_19 : decode cA_copyl 19 = .ok (.iconst 0, 1) := by decide +kernel
theorem dA_copyl_20 : decode cA_copyl 20 = .ok (.aload_n 2, 1) := by decide +kernel
theorem dA_copyl_21 : decode cA_copyl 21 = .ok (.iconst 0, 1) := by decide +kernel
theorem dA_copyl_22 : decode cA_copyl 22 = .ok (.aload_n 0, 1) := by decide +kernel
theorem dA_copyl_23 : decode cA_copyl 23 = .ok (.arraylength, 1) := by decide +kernel
theorem dA_copyl_24 : decode cA_copyl 24 = .ok (.iload_n 1, 1) := by decide +kernel
theorem dA_copyl_25 : decode cA_copyl 25 = .ok (.invokestatic 304, 3) := by decide +kernel
theorem dA_copyl_28 : decode cA_copyl 28 = .ok (.invokestatic 150, 3) := by decide +kernel
theorem dA_copyl_31 : decode cA_copyl 31 = .ok (.aload_n 2, 1) := by decide +kernel
theorem dA_copyl_32 : decode cA_copyl 32 = .ok (.areturn, 1) := by decide +kernel
set_option maxHeartbeats 4000000 in
set_option maxRecDepth 100000 in
/-- a longer copy of a row -/
theorem c_copyl (l : Launch) (D : va_G) (cI cJ : ClassId) (sz : Nat) (a0 n k : Nat) (f : Nat → Int64) (hn : n < k) (hk : k ≤ 20480) : KR l D cI cJ yA_copyl cA_copyl 3 (some (.array .long)) 1 18 1 k [.ref a0, .int (nI k)] [(a0, .inl (cJ, n, .inr (.inl f)))] sz (S := Unit) (fun _ => True) (fun _ q => [(a0, .inl (cJ, n, .inr (.inl f))), (q, .inl (cJ, k, .inr (.inl (va_cpy f (fun _ => 0) 0 0 n))))]) := by
  refine zMetR (lv := [(0, .ref a0), (1, .int (nI k))]) NS0_ok (by decide) rfl (Nat.le_of_ble_eq_true rfl) rfl ?_
  intro p e s m args below meth c A X hin hA
  refine z_iload_n X (pc' := 1) dA_copyl_0 rfl 1 rfl rfl ?_
  refine z_aload_n X (pc' := 2) dA_copyl_1 rfl 0 rfl rfl ?_
  refine z_alen X (pc' := 3) 0 1 rfl rfl dA_copyl_2 rfl ?_
  refine z_icmp_neN X (tgt := 14) (pc' := 6) (by omega) (by omega) dA_copyl_3 (by decide) rfl (fun h1 => ?_) (fun h1 => ?_)
  · clear h1
    refine z_iload_n X (pc' := 15) dA_copyl_14 rfl 1 rfl rfl ?_
    refine z_newl X (pc' := 17) 1 rfl mR_long (by omega) (Nat.le_refl _) (by show 0 + k ≤ k; omega) dA_copyl_15 rfl (fun q15 => ?_)
    refine z_wse (ws' := [(a0, .inl (cJ, n, .inr (.inl f))), (q15, .inl (cJ, k, .inr (.inl (fun _ => 0))))]) rfl ?_
    refine z_astore_n X (lv' := [(2, .ref q15), (0, .ref a0), (1, .int (nI k))]) (pc' := 18) dA_copyl_17 rfl (by decide) rfl rfl ?_
    refine z_aload_n X (pc' := 19) dA_copyl_18 rfl 1 rfl rfl ?_
    refine z_iconst X (v := nI 0) (pc' := 20) dA_copyl_19 (by decide) rfl ?_
    refine z_aload_n X (pc' := 21) dA_copyl_20 rfl 0 rfl rfl ?_
    refine z_iconst X (v := nI 0) (pc' := 22) dA_copyl_21 (by decide) rfl ?_
    refine z_aload_n X (pc' := 23) dA_copyl_22 rfl 1 rfl rfl ?_
    refine z_alen X (pc' := 24) 0 1 rfl rfl dA_copyl_23 rfl ?_
    refine z_iload_n X (pc' := 25) dA_copyl_24 rfl 2 rfl rfl ?_
    refine z_mmin X (pc' := 28) mL_JA_304 mT_Math_min mN_Math mK_Math_min (by omega) (by omega) dA_copyl_25 (Nat.le_of_ble_eq_true rfl) (Nat.le_of_ble_eq_true rfl) (Nat.le_of_ble_eq_true rfl) (by show 0 + k ≤ k; omega) rfl ?_
    refine z_topi (y := nI n) (by rw [Nat.min_eq_left (by omega)]) ?_
    refine z_copyl X (pc' := 31) (ws' := [(a0, .inl (cJ, n, .inr (.inl f))), (q15, .inl (cJ, k, .inr (.inl (va_cpy f (fun _ => 0) 0 0 n))))]) 0 1 1 mL_JA_150 mV_arraycopy mT_System_arraycopy mN_System rfl rfl rfl (by omega) (Nat.le_refl _) (by omega) (Nat.le_of_ble_eq_true rfl) (Nat.le_of_ble_eq_true rfl) dA_copyl_28 rfl rfl ?_
    refine z_aload_n X (pc' := 32) dA_copyl_31 rfl 0 rfl rfl ?_
    exact z_aret X (t1 := .long) rfl () trivial rfl (Nat.le_refl _) (by show 0 + k ≤ k; omega) dA_copyl_32
  · exact absurd h1 (by omega)


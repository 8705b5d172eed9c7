abbrev KX (l : Launch) (D : va_G) (cI cJ : ClassId) (y : MethodName) (cc : ByteArray) (ml : Nat) (ret : Option FieldType) (fr lo mc ms : Nat) (av : List Value) (ws : va_W) (sz : Nat) {S SX : Type} (post : Int32 → S → Prop) (w2 : S → va_W) (pe : String → SX → Prop) (wx : SX → va_W) : Prop :=
  vx_Met l y (Cond.code y cc ml ret :: TT) { frames := fr, cells := mc, slots := ms, locals := lo } (va_Pc av (zPreX D vwCl [(cI, .int), (cJ, .long)] NS0 ws sz)) (va_Qi post (fun u => zPost D vwCl (va_A ws sz) (w2 u)) (va_A ws sz)) (zX D vwCl (va_A ws sz) pe wx) mc ms (va_A ws sz)
/-- the constructor that NoSuchElementException has -/
def cNSE : ByteArray := ⟨#[42, 43, 183, 0, 13, 177]⟩
theorem xIA_1 : ∀ w ∈ (vx_atS RX3 55 "java/lang/IllegalArgumentException" ["java/lang/RuntimeException", "java/lang/Exception"]).filter goodWord, w ∈ TT := by decide +kernel
theorem xIA_2 : ∀ w ∈ (vx_atS RX3 55 "java/lang/IllegalArgumentException" ["java/lang/RuntimeException", "java/lang/Exception"]).filter (fun w => !goodWord w), w ∈ NS0 := by decide +kernel
theorem xIA_3 : ∀ w ∈ Cond.classLink RX3 51 "java/lang/IllegalArgumentException" :: Cond.initialized "java/lang/IllegalArgumentException" :: vx_atS RX3 55 "java/lang/IllegalArgumentException" ["java/lang/RuntimeException", "java/lang/Exception"], vx_ot w = true := by decide +kernel
theorem xIA_4 : ∀ n ∈ ["java/lang/RuntimeException", "java/lang/Exception"], Bundle.fit n = true := by decide +kernel
theorem xIS_1 : ∀ w ∈ (vx_atS RX3 70 "java/lang/IllegalStateException" ["java/lang/RuntimeException", "java/lang/Exception"]).filter goodWord, w ∈ TT := by decide +kernel
theorem xIS_2 : ∀ w ∈ (vx_atS RX3 70 "java/lang/IllegalStateException" ["java/lang/RuntimeException", "java/lang/Exception"]).filter (fun w => !goodWord w), w ∈ NS0 := by decide +kernel
theorem xIS_3 : ∀ w ∈ Cond.classLink RX3 66 "java/lang/IllegalStateException" :: Cond.initialized "java/lang/IllegalStateException" :: vx_atS RX3 70 "java/lang/IllegalStateException" ["java/lang/RuntimeException", "java/lang/Exception"], vx_ot w = true := by decide +kernel
theorem xIS_4 : ∀ n ∈ ["java/lang/RuntimeException", "java/lang/Exception"], Bundle.fit n = true := by decide +kernel
theorem xNS_1 : ∀ w ∈ (vxn_at RX3 93 "java/util/NoSuchElementException" 13 cNSE ["java/lang/RuntimeException", "java/lang/Exception"]).filter goodWord, w ∈ TT := by decide +kernel
theorem xNS_2 : ∀ w ∈ (vxn_at RX3 93 "java/util/NoSuchElementException" 13 cNSE ["java/lang/RuntimeException", "java/lang/Exception"]).filter (fun w => !goodWord w), w ∈ NS0 := by decide +kernel
theorem xNS_3 : ∀ w ∈ Cond.classLink RX3 89 "java/util/NoSuchElementException" :: Cond.initialized "java/util/NoSuchElementException" :: vxn_at RX3 93 "java/util/NoSuchElementException" 13 cNSE ["java/lang/RuntimeException", "java/lang/Exception"], vx_ot w = true := by decide +kernel
theorem xNS_4 : ∀ n ∈ ["java/lang/RuntimeException", "java/lang/Exception"], Bundle.fit n = true := by decide +kernel
/-- what outcome answers, and when it does -/
def outOk (R : BG) (x y : Int32) (k w : Nat) : Prop := k < R.2.1.length ∧ x = nI k ∧ w ≤ 20 ∧ y = nI w
def outV (R : BG) (T : Nat → Nat) (k w : Nat) : Nat := if w = 20 then dep (fun i => R.1.2.1.getD i 0) 24 (T k) else mi (R.1.1.getD (T k) (0, 0)).1 w
def movOk (R : BG) (T : Nat → Nat) (x y : Int32) (k i : Nat) : Prop := k < R.2.1.length ∧ x = nI k ∧ i < dep (fun i => R.1.2.1.getD i 0) 24 (T k) ∧ y = nI i
def movV (R : BG) (T : Nat → Nat) (k i : Nat) : Nat := R.1.2.1.getD (anc (fun i => R.1.2.1.getD i 0) (dep (fun i => R.1.2.1.getD i 0) 24 (T k) - 1 - i) (T k)) 0 % 20
theorem dep_le (F : Nat → Nat) : ∀ k i, dep F k i ≤ k := by
  intro k
  induction k with
  | zero => intro i; exact Nat.le_refl _
  | succ k ih =>
    intro i
    show (if i = 0 then 0 else dep F k (F i / 20) + 1) ≤ k + 1
    split
    · omega
    · have := ih (F i / 20); omega
set_option maxHeartbeats 4000000 in
set_option maxRecDepth 100000 in
/-- outcome -/
theorem c_outcome (l : Launch) (hst : l.stackTraces = false) (D : va_G) (cI cJ : ClassId) (sz : Nat) (d0 pr a s1 s2 ah al af ae ta cap tl rm ns : Nat) (fH fL : Nat → Int64) (fF fE : Nat → Int32) (x y : Int32) (R : BG) (T : Nat → Nat) (hT : toldI R T cap tl fH fL fF fE) (hr : rOk R) (hcap : cap ≤ 20480) : KX l D cI cJ yX3_outcome cX3_outcome 4 (some .int) 6 90 1 6 [.ref d0, .int x, .int y] [(d0, .inr (3, [.ref pr, .ref a, .ref s1, .ref s2])), (s1, .inr (2, [.ref ah, .ref al, .ref af, .ref ae, .ref ta, .int (nI rm), .int (nI ns), .int (nI R.1.1.length), .int (nI R.2.1.length), .int (nI R.2.2)])), (ah, .inl (cJ, cap, .inr (.inl fH))), (af, .inl (cI, cap, .inl fF)), (ae, .inl (cI, cap, .inl fE))] sz (S := Unit) (SX := Unit) (fun r _ => ∃ k w, outOk R x y k w ∧ r = nI (outV R T k w)) (fun _ => [(d0, .inr (3, [.ref pr, .ref a, .ref s1, .ref s2])), (s1, .inr (2, [.ref ah, .ref al, .ref af, .ref ae, .ref ta, .int (nI rm), .int (nI ns), .int (nI R.1.1.length), .int (nI R.2.1.length), .int (nI R.2.2)])), (ah, .inl (cJ, cap, .inr (.inl fH))), (af, .inl (cI, cap, .inl fF)), (ae, .inl (cI, cap, .inl fE))]) (fun E _ => E = "java/util/NoSuchElementException" ∧ ¬ ∃ k w, outOk R x y k w) (fun _ => [(d0, .inr (3, [.ref pr, .ref a, .ref s1, .ref s2])), (s1, .inr (2, [.ref ah, .ref al, .ref af, .ref ae, .ref ta, .int (nI rm), .int (nI ns), .int (nI R.1.1.length), .int (nI R.2.1.length), .int (nI R.2.2)])), (ah, .inl (cJ, cap, .inr (.inl fH))), (af, .inl (cI, cap, .inl fF)), (ae, .inl (cI, cap, .inl fE))]) := by
  refine zxMetI (lv := [(0, .ref d0), (1, .int x), (2, .int y)]) NS0_ok (by decide) rfl (Nat.le_of_ble_eq_true rfl) rfl ?_
  intro p e s m args below meth c A X hX hex hA
  have hr0 := hr
  refine z_aload_n X (pc' := 1) dX3_outcome_0 rfl 0 rfl rfl ?_
  refine z_get X (v := .ref s1) (pc' := 4) 0 rfl rfl inX3 2 (by decide) mF_X3_28 rfl dX3_outcome_1 rfl ?_
  refine z_iload_n X (pc' := 5) dX3_outcome_4 rfl 1 rfl rfl ?_
  refine z_callVi X (pc' := 8) (fun sz => c_endAt l D cI cJ sz s1 ah al af ae ta cap rm ns R.1.1.length R.2.1.length R.2.2 fE x (by have := hT.1; have := hT.2.1; omega) (by omega)) (zcwV X TTg 1 mL_X3_86 mI_X2_endAt mS_X2_endAt mN_X2 mK_X2_endAt rfl rfl (by decide +kernel) ⟨(Nat.le_of_ble_eq_true rfl), (Nat.le_of_ble_eq_true rfl)⟩) (wr := [(d0, .inr (3, [.ref pr, .ref a, .ref s1, .ref s2])), (ah, .inl (cJ, cap, .inr (.inl fH))), (af, .inl (cI, cap, .inl fF))]) [1, 4] [0, 2, 3] rfl rfl rfl rfl (by decide) 2 1 rfl rfl rfl rfl rfl (Nat.le_of_ble_eq_true rfl) dX3_outcome_5 ⟨Nat.le_of_ble_eq_true rfl, Nat.le_of_ble_eq_true rfl⟩ rfl (fun r u hu => ?_)
  refine z_wse (ws' := [(d0, .inr (3, [.ref pr, .ref a, .ref s1, .ref s2])), (ah, .inl (cJ, cap, .inr (.inl fH))), (af, .inl (cI, cap, .inl fF)), (s1, .inr (2, [.ref ah, .ref al, .ref af, .ref ae, .ref ta, .int (nI rm), .int (nI ns), .int (nI R.1.1.length), .int (nI R.2.1.length), .int (nI R.2.2)])), (ae, .inl (cI, cap, .inl fE))]) rfl ?_
  rcases hu with ⟨k, hk, hx, hr⟩ | ⟨hno, hr⟩
  · have hr : r = nI (T k) := by rw [hr]; exact hT.2.2.2.2.2.2.1 k hk
    subst hr
    subst hx
    have hTl : T k < R.1.1.length := sKeep_lt hT.2.2.2.2.2.2.2.1 (Nat.le_refl _) hT.2.2.2.2.2.2.2.2.2 k hk
    have hlc := hT.1
    have hrl := hr0.1
    refine z_istore_n X (lv' := [(3, .int (nI (T k))), (0, .ref d0), (1, .int (nI k)), (2, .int y)]) (pc' := 9) dX3_outcome_8 rfl (by decide) rfl rfl ?_
    refine z_iload_n X (pc' := 10) dX3_outcome_9 rfl 0 rfl rfl ?_
    refine z_if_ltN X (tgt := 23) (pc' := 13) (by omega) dX3_outcome_10 (by decide) rfl ?_
    rcases i_cases y with hy | ⟨w, hw, hy⟩
    · have hno2 : ¬ ∃ k2 w, outOk R (nI k) y k2 w := fun ⟨k2, w, q⟩ => i_negne hy w (by have := q.2.2.1; omega) q.2.2.2
      refine z_iload_n X (pc' := 14) dX3_outcome_13 rfl 3 rfl rfl ?_
      refine z_if_lt X (tgt := 23) (pc' := 17) dX3_outcome_14 (by decide) rfl (fun h1 => ?_) (fun h1 => ?_)
      · refine z_ws (ws' := [(d0, .inr (3, [.ref pr, .ref a, .ref s1, .ref s2])), (s1, .inr (2, [.ref ah, .ref al, .ref af, .ref ae, .ref ta, .int (nI rm), .int (nI ns), .int (nI R.1.1.length), .int (nI R.2.1.length), .int (nI R.2.2)])), (ah, .inl (cJ, cap, .inr (.inl fH))), (af, .inl (cI, cap, .inl fF)), (ae, .inl (cI, cap, .inl fE))]) [0, 3, 1, 2, 4] (by decide) rfl ?_
        exact zxn_throw X hX hex hst ["java/lang/RuntimeException", "java/lang/Exception"] (rx := cNSE) (by decide +kernel) (by decide +kernel) (by decide +kernel) (by decide +kernel) () ⟨rfl, hno2⟩ rfl (by decide +kernel) xNS_4 mC_X3_89 mN_NoSuchElementException (List.mem_of_getElem? (i := 2) rfl) xNS_1 xNS_2 xNS_3 dX3_outcome_23 dX3_outcome_26 dX3_outcome_27 dX3_outcome_29 dX3_outcome_32 (Nat.le_of_ble_eq_true rfl) (Nat.le_of_ble_eq_true rfl) (Nat.le_of_ble_eq_true rfl) (Nat.le_of_ble_eq_true rfl) (Nat.le_of_ble_eq_true rfl) (Nat.le_of_ble_eq_true rfl)
      · exact absurd hy h1
    · subst hy
      refine z_iload_n X (pc' := 14) dX3_outcome_13 rfl 3 rfl rfl ?_
      refine z_if_ltN X (tgt := 23) (pc' := 17) (by omega) dX3_outcome_14 (by decide) rfl ?_
      refine z_iload_n X (pc' := 18) dX3_outcome_17 rfl 3 rfl rfl ?_
      refine z_bipush X (v := nI 20) (pc' := 20) dX3_outcome_18 (by decide) rfl ?_
      refine z_icmp_leN X (tgt := 33) (pc' := 23) hw (by decide) dX3_outcome_20 (by decide) rfl (fun h2 => ?_) (fun h2 => ?_)
      · have hw20 : w ≤ 20 := h2
        refine z_iload_n X (pc' := 34) dX3_outcome_33 rfl 3 rfl rfl ?_
        refine z_bipush X (v := nI 20) (pc' := 36) dX3_outcome_34 (by decide) rfl ?_
        refine z_icmp_neN X (tgt := 50) (pc' := 39) hw (by decide) dX3_outcome_36 (by decide) rfl (fun h3 => ?_) (fun h3 => ?_)
        · have he : ¬ w = 20 := h3
          refine z_aload_n X (pc' := 51) dX3_outcome_50 rfl 1 rfl rfl ?_
          refine z_get X (v := .ref s1) (pc' := 54) 0 rfl rfl inX3 2 (by decide) mF_X3_28 rfl dX3_outcome_51 rfl ?_
          refine z_get X (v := .ref ah) (pc' := 57) 3 rfl rfl inX2 0 (by decide) mF_X3_94 rfl dX3_outcome_54 rfl ?_
          refine z_iload_n X (pc' := 58) dX3_outcome_57 rfl 0 rfl rfl ?_
          refine z_lald X (pc' := 59) 1 1 rfl rfl (by omega) (by omega) dX3_outcome_58 rfl ?_
          refine z_topl (y := lN ((R.1.1.getD (T k) (0, 0)).1)) (hT.2.2.2.1 (T k) hTl).1 ?_
          refine z_iload_n X (pc' := 60) dX3_outcome_59 rfl 3 rfl rfl ?_
          refine z_callSi X (pc' := 63) (fun sz => c_item l D cI cJ sz (R.1.1.getD (T k) (0, 0)).1 w (by have := (hT.2.2.2.2.1 _ (getD_mem hTl)).1; omega) (by omega)) (zcwS X TTg 2 mL_X3_98 mT_X3_item mN_X3 mK_X3_item rfl rfl (by decide +kernel) ⟨(Nat.le_of_ble_eq_true rfl), (Nat.le_of_ble_eq_true rfl)⟩) (wr := [(d0, .inr (3, [.ref pr, .ref a, .ref s1, .ref s2])), (ah, .inl (cJ, cap, .inr (.inl fH))), (af, .inl (cI, cap, .inl fF)), (s1, .inr (2, [.ref ah, .ref al, .ref af, .ref ae, .ref ta, .int (nI rm), .int (nI ns), .int (nI R.1.1.length), .int (nI R.2.1.length), .int (nI R.2.2)])), (ae, .inl (cI, cap, .inl fE))]) [] [0, 1, 2, 3, 4] rfl rfl rfl rfl (by decide) rfl rfl (Nat.le_of_ble_eq_true rfl) dX3_outcome_60 ⟨Nat.le_of_ble_eq_true rfl, Nat.le_of_ble_eq_true rfl⟩ rfl (fun r u hu => ?_)
          have hu : r = nI (mi (R.1.1.getD (T k) (0, 0)).1 w) := hu
          subst hu
          refine z_wse (ws' := [(d0, .inr (3, [.ref pr, .ref a, .ref s1, .ref s2])), (ah, .inl (cJ, cap, .inr (.inl fH))), (af, .inl (cI, cap, .inl fF)), (s1, .inr (2, [.ref ah, .ref al, .ref af, .ref ae, .ref ta, .int (nI rm), .int (nI ns), .int (nI R.1.1.length), .int (nI R.2.1.length), .int (nI R.2.2)])), (ae, .inl (cI, cap, .inl fE))]) rfl ?_
          refine z_ws (ws' := [(d0, .inr (3, [.ref pr, .ref a, .ref s1, .ref s2])), (s1, .inr (2, [.ref ah, .ref al, .ref af, .ref ae, .ref ta, .int (nI rm), .int (nI ns), .int (nI R.1.1.length), .int (nI R.2.1.length), .int (nI R.2.2)])), (ah, .inl (cJ, cap, .inr (.inl fH))), (af, .inl (cI, cap, .inl fF)), (ae, .inl (cI, cap, .inl fE))]) [0, 3, 1, 2, 4] (by decide) rfl ?_
          exact zx_iret (SX := Unit) X (t1 := .int) rfl rfl () (⟨k, w, ⟨hk, rfl, hw20, rfl⟩, by unfold outV; rw [if_neg he]⟩) rfl (Nat.le_of_ble_eq_true rfl) (Nat.le_of_ble_eq_true rfl) dX3_outcome_63
        · have he : w = 20 := h3
          refine z_aload_n X (pc' := 40) dX3_outcome_39 rfl 1 rfl rfl ?_
          refine z_get X (v := .ref s1) (pc' := 43) 0 rfl rfl inX3 2 (by decide) mF_X3_28 rfl dX3_outcome_40 rfl ?_
          refine z_iload_n X (pc' := 44) dX3_outcome_43 rfl 0 rfl rfl ?_
          refine z_callVi X (pc' := 47) (fun sz => c_stepsTo l D cI cJ sz s1 ah al af ae ta cap rm ns R.1.1.length R.2.1.length R.2.2 fF (fun i => R.1.2.1.getD i 0) hT.1 (by omega) (told_fRep hT hr0) hr0.2.2 (T k) hTl) (zcwV X TTg 1 mL_X3_83 mI_X2_stepsTo mS_X2_stepsTo mN_X2 mK_X2_stepsTo rfl rfl (by decide +kernel) ⟨(Nat.le_of_ble_eq_true rfl), (Nat.le_of_ble_eq_true rfl)⟩) (wr := [(d0, .inr (3, [.ref pr, .ref a, .ref s1, .ref s2])), (ah, .inl (cJ, cap, .inr (.inl fH))), (ae, .inl (cI, cap, .inl fE))]) [3, 2] [0, 1, 4] rfl rfl rfl rfl (by decide) 2 3 rfl rfl rfl rfl rfl (Nat.le_of_ble_eq_true rfl) dX3_outcome_44 ⟨Nat.le_of_ble_eq_true rfl, Nat.le_of_ble_eq_true rfl⟩ rfl (fun r u hu => ?_)
          have hu : r = nI (dep (fun i => R.1.2.1.getD i 0) 24 (T k)) := hu
          subst hu
          refine z_wse (ws' := [(d0, .inr (3, [.ref pr, .ref a, .ref s1, .ref s2])), (ah, .inl (cJ, cap, .inr (.inl fH))), (ae, .inl (cI, cap, .inl fE)), (s1, .inr (2, [.ref ah, .ref al, .ref af, .ref ae, .ref ta, .int (nI rm), .int (nI ns), .int (nI R.1.1.length), .int (nI R.2.1.length), .int (nI R.2.2)])), (af, .inl (cI, cap, .inl fF))]) rfl ?_
          refine z_goto X (tgt := 63) dX3_outcome_47 (by decide) ?_
          refine z_ws (ws' := [(d0, .inr (3, [.ref pr, .ref a, .ref s1, .ref s2])), (s1, .inr (2, [.ref ah, .ref al, .ref af, .ref ae, .ref ta, .int (nI rm), .int (nI ns), .int (nI R.1.1.length), .int (nI R.2.1.length), .int (nI R.2.2)])), (ah, .inl (cJ, cap, .inr (.inl fH))), (af, .inl (cI, cap, .inl fF)), (ae, .inl (cI, cap, .inl fE))]) [0, 3, 1, 4, 2] (by decide) rfl ?_
          exact zx_iret (SX := Unit) X (t1 := .int) rfl rfl () (⟨k, w, ⟨hk, rfl, hw20, rfl⟩, by unfold outV; rw [if_pos he]⟩) rfl (Nat.le_of_ble_eq_true rfl) (Nat.le_of_ble_eq_true rfl) dX3_outcome_63
      · have hno2 : ¬ ∃ k2 w2, outOk R (nI k) (nI w) k2 w2 := fun ⟨k2, w2, q⟩ => by have h9 := q.2.2.1; have := (nI_eq hw (show w2 < 2 ^ 31 by omega)).mp q.2.2.2; omega
        refine z_ws (ws' := [(d0, .inr (3, [.ref pr, .ref a, .ref s1, .ref s2])), (s1, .inr (2, [.ref ah, .ref al, .ref af, .ref ae, .ref ta, .int (nI rm), .int (nI ns), .int (nI R.1.1.length), .int (nI R.2.1.length), .int (nI R.2.2)])), (ah, .inl (cJ, cap, .inr (.inl fH))), (af, .inl (cI, cap, .inl fF)), (ae, .inl (cI, cap, .inl fE))]) [0, 3, 1, 2, 4] (by decide) rfl ?_
        exact zxn_throw X hX hex hst ["java/lang/RuntimeException", "java/lang/Exception"] (rx := cNSE) (by decide +kernel) (by decide +kernel) (by decide +kernel) (by decide +kernel) () ⟨rfl, hno2⟩ rfl (by decide +kernel) xNS_4 mC_X3_89 mN_NoSuchElementException (List.mem_of_getElem? (i := 2) rfl) xNS_1 xNS_2 xNS_3 dX3_outcome_23 dX3_outcome_26 dX3_outcome_27 dX3_outcome_29 dX3_outcome_32 (Nat.le_of_ble_eq_true rfl) (Nat.le_of_ble_eq_true rfl) (Nat.le_of_ble_eq_true rfl) (Nat.le_of_ble_eq_true rfl) (Nat.le_of_ble_eq_true rfl) (Nat.le_of_ble_eq_true rfl)
  · have hr : r = -1 := hr
    subst hr
    refine z_istore_n X (lv' := [(3, .int ((-1))), (0, .ref d0), (1, .int x), (2, .int y)]) (pc' := 9) dX3_outcome_8 rfl (by decide) rfl rfl ?_
    refine z_iload_n X (pc' := 10) dX3_outcome_9 rfl 0 rfl rfl ?_
    refine z_if_lt X (tgt := 23) (pc' := 13) dX3_outcome_10 (by decide) rfl (fun h4 => ?_) (fun h4 => ?_)
    · refine z_ws (ws' := [(d0, .inr (3, [.ref pr, .ref a, .ref s1, .ref s2])), (s1, .inr (2, [.ref ah, .ref al, .ref af, .ref ae, .ref ta, .int (nI rm), .int (nI ns), .int (nI R.1.1.length), .int (nI R.2.1.length), .int (nI R.2.2)])), (ah, .inl (cJ, cap, .inr (.inl fH))), (af, .inl (cI, cap, .inl fF)), (ae, .inl (cI, cap, .inl fE))]) [0, 3, 1, 2, 4] (by decide) rfl ?_
      exact zxn_throw X hX hex hst ["java/lang/RuntimeException", "java/lang/Exception"] (rx := cNSE) (by decide +kernel) (by decide +kernel) (by decide +kernel) (by decide +kernel) () ⟨rfl, fun ⟨k, w, q⟩ => hno ⟨k, q.1, q.2.1⟩⟩ rfl (by decide +kernel) xNS_4 mC_X3_89 mN_NoSuchElementException (List.mem_of_getElem? (i := 2) rfl) xNS_1 xNS_2 xNS_3 dX3_outcome_23 dX3_outcome_26 dX3_outcome_27 dX3_outcome_29 dX3_outcome_32 (Nat.le_of_ble_eq_true rfl) (Nat.le_of_ble_eq_true rfl) (Nat.le_of_ble_eq_true rfl) (Nat.le_of_ble_eq_true rfl) (Nat.le_of_ble_eq_true rfl) (Nat.le_of_ble_eq_true rfl)
    · exact absurd (by decide) h4
set_option maxHeartbeats 4000000 in
set_option maxRecDepth 100000 in
/-- move -/
theorem c_move (l : Launch) (hst : l.stackTraces = false) (D : va_G) (cI cJ : ClassId) (sz : Nat) (d0 pr a s1 s2 ah al af ae ta cap tl rm ns : Nat) (fH fL : Nat → Int64) (fF fE : Nat → Int32) (x y : Int32) (R : BG) (T : Nat → Nat) (hT : toldI R T cap tl fH fL fF fE) (hr : rOk R) (hcap : cap ≤ 20480) : KX l D cI cJ yX3_move cX3_move 5 (some .int) 6 90 1 6 [.ref d0, .int x, .int y] [(d0, .inr (3, [.ref pr, .ref a, .ref s1, .ref s2])), (s1, .inr (2, [.ref ah, .ref al, .ref af, .ref ae, .ref ta, .int (nI rm), .int (nI ns), .int (nI R.1.1.length), .int (nI R.2.1.length), .int (nI R.2.2)])), (af, .inl (cI, cap, .inl fF)), (ae, .inl (cI, cap, .inl fE))] sz (S := Unit) (SX := Unit) (fun r _ => ∃ k i, movOk R T x y k i ∧ r = nI (movV R T k i)) (fun _ => [(d0, .inr (3, [.ref pr, .ref a, .ref s1, .ref s2])), (s1, .inr (2, [.ref ah, .ref al, .ref af, .ref ae, .ref ta, .int (nI rm), .int (nI ns), .int (nI R.1.1.length), .int (nI R.2.1.length), .int (nI R.2.2)])), (af, .inl (cI, cap, .inl fF)), (ae, .inl (cI, cap, .inl fE))]) (fun E _ => E = "java/util/NoSuchElementException" ∧ ¬ ∃ k i, movOk R T x y k i) (fun _ => [(d0, .inr (3, [.ref pr, .ref a, .ref s1, .ref s2])), (s1, .inr (2, [.ref ah, .ref al, .ref af, .ref ae, .ref ta, .int (nI rm), .int (nI ns), .int (nI R.1.1.length), .int (nI R.2.1.length), .int (nI R.2.2)])), (af, .inl (cI, cap, .inl fF)), (ae, .inl (cI, cap, .inl fE))]) := by
  refine zxMetI (lv := [(0, .ref d0), (1, .int x), (2, .int y)]) NS0_ok (by decide) rfl (Nat.le_of_ble_eq_true rfl) rfl ?_
  intro p e s m args below meth c A X hX hex hA
  have hr0 := hr
  refine z_aload_n X (pc' := 1) dX3_move_0 rfl 0 rfl rfl ?_
  refine z_get X (v := .ref s1) (pc' := 4) 0 rfl rfl inX3 2 (by decide) mF_X3_28 rfl dX3_move_1 rfl ?_
  refine z_iload_n X (pc' := 5) dX3_move_4 rfl 1 rfl rfl ?_
  refine z_callVi X (pc' := 8) (fun sz => c_endAt l D cI cJ sz s1 ah al af ae ta cap rm ns R.1.1.length R.2.1.length R.2.2 fE x (by have := hT.1; have := hT.2.1; omega) (by omega)) (zcwV X TTg 1 mL_X3_86 mI_X2_endAt mS_X2_endAt mN_X2 mK_X2_endAt rfl rfl (by decide +kernel) ⟨(Nat.le_of_ble_eq_true rfl), (Nat.le_of_ble_eq_true rfl)⟩) (wr := [(d0, .inr (3, [.ref pr, .ref a, .ref s1, .ref s2])), (af, .inl (cI, cap, .inl fF))]) [1, 3] [0, 2] rfl rfl rfl rfl (by decide) 2 1 rfl rfl rfl rfl rfl (Nat.le_of_ble_eq_true rfl) dX3_move_5 ⟨Nat.le_of_ble_eq_true rfl, Nat.le_of_ble_eq_true rfl⟩ rfl (fun r u hu => ?_)
  refine z_wse (ws' := [(d0, .inr (3, [.ref pr, .ref a, .ref s1, .ref s2])), (af, .inl (cI, cap, .inl fF)), (s1, .inr (2, [.ref ah, .ref al, .ref af, .ref ae, .ref ta, .int (nI rm), .int (nI ns), .int (nI R.1.1.length), .int (nI R.2.1.length), .int (nI R.2.2)])), (ae, .inl (cI, cap, .inl fE))]) rfl ?_
  rcases hu with ⟨k, hk, hx, hr⟩ | ⟨hno, hr⟩
  · have hr : r = nI (T k) := by rw [hr]; exact hT.2.2.2.2.2.2.1 k hk
    subst hr
    subst hx
    have hTl : T k < R.1.1.length := sKeep_lt hT.2.2.2.2.2.2.2.1 (Nat.le_refl _) hT.2.2.2.2.2.2.2.2.2 k hk
    have hlc := hT.1
    have hrl := hr0.1
    refine z_istore_n X (lv' := [(3, .int (nI (T k))), (0, .ref d0), (1, .int (nI k)), (2, .int y)]) (pc' := 9) dX3_move_8 rfl (by decide) rfl rfl ?_
    refine z_aload_n X (pc' := 10) dX3_move_9 rfl 1 rfl rfl ?_
    refine z_get X (v := .ref s1) (pc' := 13) 0 rfl rfl inX3 2 (by decide) mF_X3_28 rfl dX3_move_10 rfl ?_
    refine z_iload_n X (pc' := 14) dX3_move_13 rfl 0 rfl rfl ?_
    refine z_callVi X (pc' := 17) (fun sz => c_stepsTo l D cI cJ sz s1 ah al af ae ta cap rm ns R.1.1.length R.2.1.length R.2.2 fF (fun i => R.1.2.1.getD i 0) hT.1 (by omega) (told_fRep hT hr0) hr0.2.2 (T k) hTl) (zcwV X TTg 1 mL_X3_83 mI_X2_stepsTo mS_X2_stepsTo mN_X2 mK_X2_stepsTo rfl rfl (by decide +kernel) ⟨(Nat.le_of_ble_eq_true rfl), (Nat.le_of_ble_eq_true rfl)⟩) (wr := [(d0, .inr (3, [.ref pr, .ref a, .ref s1, .ref s2])), (ae, .inl (cI, cap, .inl fE))]) [2, 1] [0, 3] rfl rfl rfl rfl (by decide) 2 2 rfl rfl rfl rfl rfl (Nat.le_of_ble_eq_true rfl) dX3_move_14 ⟨Nat.le_of_ble_eq_true rfl, Nat.le_of_ble_eq_true rfl⟩ rfl (fun r u hu => ?_)
    have hu : r = nI (dep (fun i => R.1.2.1.getD i 0) 24 (T k)) := hu
    subst hu
    refine z_wse (ws' := [(d0, .inr (3, [.ref pr, .ref a, .ref s1, .ref s2])), (ae, .inl (cI, cap, .inl fE)), (s1, .inr (2, [.ref ah, .ref al, .ref af, .ref ae, .ref ta, .int (nI rm), .int (nI ns), .int (nI R.1.1.length), .int (nI R.2.1.length), .int (nI R.2.2)])), (af, .inl (cI, cap, .inl fF))]) rfl ?_
    refine z_istore X (lv' := [(4, .int (nI (dep (fun i => R.1.2.1.getD i 0) 24 (T k)))), (3, .int (nI (T k))), (0, .ref d0), (1, .int (nI k)), (2, .int y)]) (pc' := 19) dX3_move_17 (by decide) rfl rfl ?_
    rcases i_cases y with hy | ⟨i, hi, hy⟩
    all_goals have hdl := dep_le (fun i => R.1.2.1.getD i 0) 24 (T k)
    · have hno2 : ¬ ∃ k2 i, movOk R T (nI k) y k2 i := fun ⟨k2, i, q⟩ => by have h9 := dep_le (fun i => R.1.2.1.getD i 0) 24 (T k2); exact i_negne hy i (by have := q.2.2.1; omega) q.2.2.2
      refine z_iload_n X (pc' := 20) dX3_move_19 rfl 4 rfl rfl ?_
      refine z_if_lt X (tgt := 29) (pc' := 23) dX3_move_20 (by decide) rfl (fun h1 => ?_) (fun h1 => ?_)
      · refine z_ws (ws' := [(d0, .inr (3, [.ref pr, .ref a, .ref s1, .ref s2])), (s1, .inr (2, [.ref ah, .ref al, .ref af, .ref ae, .ref ta, .int (nI rm), .int (nI ns), .int (nI R.1.1.length), .int (nI R.2.1.length), .int (nI R.2.2)])), (af, .inl (cI, cap, .inl fF)), (ae, .inl (cI, cap, .inl fE))]) [0, 2, 3, 1] (by decide) rfl ?_
        exact zxn_throw X hX hex hst ["java/lang/RuntimeException", "java/lang/Exception"] (rx := cNSE) (by decide +kernel) (by decide +kernel) (by decide +kernel) (by decide +kernel) () ⟨rfl, hno2⟩ rfl (by decide +kernel) xNS_4 mC_X3_89 mN_NoSuchElementException (List.mem_of_getElem? (i := 3) rfl) xNS_1 xNS_2 xNS_3 dX3_move_29 dX3_move_32 dX3_move_33 dX3_move_35 dX3_move_38 (Nat.le_of_ble_eq_true rfl) (Nat.le_of_ble_eq_true rfl) (Nat.le_of_ble_eq_true rfl) (Nat.le_of_ble_eq_true rfl) (Nat.le_of_ble_eq_true rfl) (Nat.le_of_ble_eq_true rfl)
      · exact absurd hy h1
    · subst hy
      refine z_iload_n X (pc' := 20) dX3_move_19 rfl 4 rfl rfl ?_
      refine z_if_ltN X (tgt := 29) (pc' := 23) (by omega) dX3_move_20 (by decide) rfl ?_
      refine z_iload_n X (pc' := 24) dX3_move_23 rfl 4 rfl rfl ?_
      refine z_iload X (pc' := 26) dX3_move_24 0 rfl rfl ?_
      refine z_icmp_ltN X (tgt := 39) (pc' := 29) hi (by omega) dX3_move_26 (by decide) rfl (fun h2 => ?_) (fun h2 => ?_)
      · have hil : i < dep (fun i => R.1.2.1.getD i 0) 24 (T k) := h2
        refine z_aload_n X (pc' := 40) dX3_move_39 rfl 2 rfl rfl ?_
        refine z_get X (v := .ref s1) (pc' := 43) 0 rfl rfl inX3 2 (by decide) mF_X3_28 rfl dX3_move_40 rfl ?_
        refine z_iload_n X (pc' := 44) dX3_move_43 rfl 1 rfl rfl ?_
        refine z_iload X (pc' := 46) dX3_move_44 0 rfl rfl ?_
        refine z_iconst X (v := nI 1) (pc' := 47) dX3_move_46 (by decide) rfl ?_
        refine z_isub X (pc' := 48) dX3_move_47 rfl ?_
        refine z_topi (y := nI (dep (fun i => R.1.2.1.getD i 0) 24 (T k) - 1)) (pk_sub (by omega)) ?_
        refine z_iload_n X (pc' := 49) dX3_move_48 rfl 4 rfl rfl ?_
        refine z_isub X (pc' := 50) dX3_move_49 rfl ?_
        refine z_topi (y := nI (dep (fun i => R.1.2.1.getD i 0) 24 (T k) - 1 - i)) (pk_sub (by omega)) ?_
        refine z_callVi X (pc' := 53) (fun sz => c_stepBefore l D cI cJ sz s1 ah al af ae ta cap rm ns R.1.1.length R.2.1.length R.2.2 (T k) (dep (fun i => R.1.2.1.getD i 0) 24 (T k) - 1 - i) fF (fun i => R.1.2.1.getD i 0) hT.1 (by omega) (told_fRep hT hr0) hr0.2.2 hTl (by omega)) (zcwV X TTg 2 mL_X3_104 mI_X2_stepBefore mS_X2_stepBefore mN_X2 mK_X2_stepBefore rfl rfl (by decide +kernel) ⟨(Nat.le_of_ble_eq_true rfl), (Nat.le_of_ble_eq_true rfl)⟩) (wr := [(d0, .inr (3, [.ref pr, .ref a, .ref s1, .ref s2])), (ae, .inl (cI, cap, .inl fE))]) [2, 3] [0, 1] rfl rfl rfl rfl (by decide) 2 2 rfl rfl rfl rfl rfl (Nat.le_of_ble_eq_true rfl) dX3_move_50 ⟨Nat.le_of_ble_eq_true rfl, Nat.le_of_ble_eq_true rfl⟩ rfl (fun r u hu => ?_)
        have hu : r = nI (movV R T k i) := hu
        subst hu
        refine z_wse (ws' := [(d0, .inr (3, [.ref pr, .ref a, .ref s1, .ref s2])), (ae, .inl (cI, cap, .inl fE)), (s1, .inr (2, [.ref ah, .ref al, .ref af, .ref ae, .ref ta, .int (nI rm), .int (nI ns), .int (nI R.1.1.length), .int (nI R.2.1.length), .int (nI R.2.2)])), (af, .inl (cI, cap, .inl fF))]) rfl ?_
        refine z_ws (ws' := [(d0, .inr (3, [.ref pr, .ref a, .ref s1, .ref s2])), (s1, .inr (2, [.ref ah, .ref al, .ref af, .ref ae, .ref ta, .int (nI rm), .int (nI ns), .int (nI R.1.1.length), .int (nI R.2.1.length), .int (nI R.2.2)])), (af, .inl (cI, cap, .inl fF)), (ae, .inl (cI, cap, .inl fE))]) [0, 2, 3, 1] (by decide) rfl ?_
        exact zx_iret (SX := Unit) X (t1 := .int) rfl rfl () (⟨k, i, ⟨hk, rfl, hil, rfl⟩, rfl⟩) rfl (Nat.le_of_ble_eq_true rfl) (Nat.le_of_ble_eq_true rfl) dX3_move_53
      · have hno2 : ¬ ∃ k2 i2, movOk R T (nI k) (nI i) k2 i2 := fun ⟨k2, i2, q⟩ => by have h8 := dep_le (fun i => R.1.2.1.getD i 0) 24 (T k2); have h9 := q.2.2.1; have hrl := hr0.1; have hel := hT.2.1; have hq1 := q.1; have e1 := (nI_eq (show k < 2 ^ 31 by omega) (show k2 < 2 ^ 31 by omega)).mp q.2.1; have e2 := (nI_eq hi (show i2 < 2 ^ 31 by omega)).mp q.2.2.2; subst e1; subst e2; exact h2 h9
        refine z_ws (ws' := [(d0, .inr (3, [.ref pr, .ref a, .ref s1, .ref s2])), (s1, .inr (2, [.ref ah, .ref al, .ref af, .ref ae, .ref ta, .int (nI rm), .int (nI ns), .int (nI R.1.1.length), .int (nI R.2.1.length), .int (nI R.2.2)])), (af, .inl (cI, cap, .inl fF)), (ae, .inl (cI, cap, .inl fE))]) [0, 2, 3, 1] (by decide) rfl ?_
        exact zxn_throw X hX hex hst ["java/lang/RuntimeException", "java/lang/Exception"] (rx := cNSE) (by decide +kernel) (by decide +kernel) (by decide +kernel) (by decide +kernel) () ⟨rfl, hno2⟩ rfl (by decide +kernel) xNS_4 mC_X3_89 mN_NoSuchElementException (List.mem_of_getElem? (i := 3) rfl) xNS_1 xNS_2 xNS_3 dX3_move_29 dX3_move_32 dX3_move_33 dX3_move_35 dX3_move_38 (Nat.le_of_ble_eq_true rfl) (Nat.le_of_ble_eq_true rfl) (Nat.le_of_ble_eq_true rfl) (Nat.le_of_ble_eq_true rfl) (Nat.le_of_ble_eq_true rfl) (Nat.le_of_ble_eq_true rfl)
  · have hr : r = -1 := hr
    subst hr
    refine z_istore_n X (lv' := [(3, .int ((-1))), (0, .ref d0), (1, .int x), (2, .int y)]) (pc' := 9) dX3_move_8 rfl (by decide) rfl rfl ?_
    refine z_aload_n X (pc' := 10) dX3_move_9 rfl 1 rfl rfl ?_
    refine z_get X (v := .ref s1) (pc' := 13) 0 rfl rfl inX3 2 (by decide) mF_X3_28 rfl dX3_move_10 rfl ?_
    refine z_iload_n X (pc' := 14) dX3_move_13 rfl 0 rfl rfl ?_
    refine z_callVi X (pc' := 17) (fun sz => c_stepsTo0 l D cI cJ sz s1 ah al af ae ta cap rm ns R.1.1.length R.2.1.length R.2.2 fF (fun i => R.1.2.1.getD i 0) hT.1 (by omega) (told_fRep hT hr0) hr0.2.2) (zcwV X TTg 1 mL_X3_83 mI_X2_stepsTo mS_X2_stepsTo mN_X2 mK_X2_stepsTo rfl rfl (by decide +kernel) ⟨(Nat.le_of_ble_eq_true rfl), (Nat.le_of_ble_eq_true rfl)⟩) (wr := [(d0, .inr (3, [.ref pr, .ref a, .ref s1, .ref s2])), (ae, .inl (cI, cap, .inl fE))]) [2, 1] [0, 3] rfl rfl rfl rfl (by decide) 2 2 rfl rfl rfl rfl rfl (Nat.le_of_ble_eq_true rfl) dX3_move_14 ⟨Nat.le_of_ble_eq_true rfl, Nat.le_of_ble_eq_true rfl⟩ rfl (fun r u hu => ?_)
    have hu : r = nI 0 := hu
    subst hu
    refine z_wse (ws' := [(d0, .inr (3, [.ref pr, .ref a, .ref s1, .ref s2])), (ae, .inl (cI, cap, .inl fE)), (s1, .inr (2, [.ref ah, .ref al, .ref af, .ref ae, .ref ta, .int (nI rm), .int (nI ns), .int (nI R.1.1.length), .int (nI R.2.1.length), .int (nI R.2.2)])), (af, .inl (cI, cap, .inl fF))]) rfl ?_
    refine z_istore X (lv' := [(4, .int (nI 0)), (3, .int ((-1))), (0, .ref d0), (1, .int x), (2, .int y)]) (pc' := 19) dX3_move_17 (by decide) rfl rfl ?_
    rcases i_cases y with hy | ⟨i, hi, hy⟩
    · refine z_iload_n X (pc' := 20) dX3_move_19 rfl 4 rfl rfl ?_
      refine z_if_lt X (tgt := 29) (pc' := 23) dX3_move_20 (by decide) rfl (fun h3 => ?_) (fun h3 => ?_)
      · refine z_ws (ws' := [(d0, .inr (3, [.ref pr, .ref a, .ref s1, .ref s2])), (s1, .inr (2, [.ref ah, .ref al, .ref af, .ref ae, .ref ta, .int (nI rm), .int (nI ns), .int (nI R.1.1.length), .int (nI R.2.1.length), .int (nI R.2.2)])), (af, .inl (cI, cap, .inl fF)), (ae, .inl (cI, cap, .inl fE))]) [0, 2, 3, 1] (by decide) rfl ?_
        exact zxn_throw X hX hex hst ["java/lang/RuntimeException", "java/lang/Exception"] (rx := cNSE) (by decide +kernel) (by decide +kernel) (by decide +kernel) (by decide +kernel) () ⟨rfl, fun ⟨k, w, q⟩ => hno ⟨k, q.1, q.2.1⟩⟩ rfl (by decide +kernel) xNS_4 mC_X3_89 mN_NoSuchElementException (List.mem_of_getElem? (i := 3) rfl) xNS_1 xNS_2 xNS_3 dX3_move_29 dX3_move_32 dX3_move_33 dX3_move_35 dX3_move_38 (Nat.le_of_ble_eq_true rfl) (Nat.le_of_ble_eq_true rfl) (Nat.le_of_ble_eq_true rfl) (Nat.le_of_ble_eq_true rfl) (Nat.le_of_ble_eq_true rfl) (Nat.le_of_ble_eq_true rfl)
      · exact absurd hy h3
    · subst hy
      refine z_iload_n X (pc' := 20) dX3_move_19 rfl 4 rfl rfl ?_
      refine z_if_ltN X (tgt := 29) (pc' := 23) (by omega) dX3_move_20 (by decide) rfl ?_
      refine z_iload_n X (pc' := 24) dX3_move_23 rfl 4 rfl rfl ?_
      refine z_iload X (pc' := 26) dX3_move_24 0 rfl rfl ?_
      refine z_icmp_ltN X (tgt := 39) (pc' := 29) hi (by omega) dX3_move_26 (by decide) rfl (fun h4 => ?_) (fun h4 => ?_)
      · exact absurd h4 (Nat.not_lt_zero _)
      · clear h4
        refine z_ws (ws' := [(d0, .inr (3, [.ref pr, .ref a, .ref s1, .ref s2])), (s1, .inr (2, [.ref ah, .ref al, .ref af, .ref ae, .ref ta, .int (nI rm), .int (nI ns), .int (nI R.1.1.length), .int (nI R.2.1.length), .int (nI R.2.2)])), (af, .inl (cI, cap, .inl fF)), (ae, .inl (cI, cap, .inl fE))]) [0, 2, 3, 1] (by decide) rfl ?_
        exact zxn_throw X hX hex hst ["java/lang/RuntimeException", "java/lang/Exception"] (rx := cNSE) (by decide +kernel) (by decide +kernel) (by decide +kernel) (by decide +kernel) () ⟨rfl, fun ⟨k, w, q⟩ => hno ⟨k, q.1, q.2.1⟩⟩ rfl (by decide +kernel) xNS_4 mC_X3_89 mN_NoSuchElementException (List.mem_of_getElem? (i := 3) rfl) xNS_1 xNS_2 xNS_3 dX3_move_29 dX3_move_32 dX3_move_33 dX3_move_35 dX3_move_38 (Nat.le_of_ble_eq_true rfl) (Nat.le_of_ble_eq_true rfl) (Nat.le_of_ble_eq_true rfl) (Nat.le_of_ble_eq_true rfl) (Nat.le_of_ble_eq_true rfl) (Nat.le_of_ble_eq_true rfl)
set_option maxHeartbeats 4000000 in
set_option maxRecDepth 100000 in
/-- explore, a model that there is -/
theorem c_explore (l : Launch) (hst : l.stackTraces = false) (D : va_G) (cI cJ : ClassId) (sz : Nat) (d0 pr a s1 s2 cd ln tot ah al af ae ta cap tl r0 s0 z0 e0 b0 md0 : Nat) (m1 m2 : Int64) (fH fL : Nat → Int64) (fF fE fT f g : Nat → Int32) (P : Nat → List Nat) (md M : Nat) (hM : M = 20000) (hcap : capOk cap tl) (hmd : md < 3) (hP : Pok P) (hR : PRep P f g) : KX l D cI cJ yX3_explore cX3_explore 3 (some .int) 6 150 (gc (max cap (rmF (bf_go (st_step P md) M).1.1.length)) - gc cap + 1) (gs (max cap (rmF (bf_go (st_step P md) M).1.1.length)) - gs cap + 6) [.ref d0, .int (nI md)] [(d0, .inr (3, [.ref pr, .ref a, .ref s1, .ref s2])), (a, .inr (0, [.ref pr, .int (nI md0), .long m1, .long m2])), (pr, .inr (1, [.ref cd, .ref ln, .int (nI tot)])), (cd, .inl (cI, 24, .inl f)), (ln, .inl (cI, 4, .inl g)), (s2, .inr (2, [.ref ah, .ref al, .ref af, .ref ae, .ref ta, .int (nI r0), .int (nI s0), .int (nI z0), .int (nI e0), .int (nI b0)])), (ah, .inl (cJ, cap, .inr (.inl fH))), (al, .inl (cJ, cap, .inr (.inl fL))), (af, .inl (cI, cap, .inl fF)), (ae, .inl (cI, cap, .inl fE)), (ta, .inl (cI, tl, .inl fT))] sz (S := SpT × Int64 × Int64) (SX := SpT × Int64 × Int64) (fun r u => r = nI (bf_go (st_step P md) M).2.1.length ∧ (bf_go (st_step P md) M).1.2.2 = true ∧ capOk u.1.1 u.1.2.1 ∧ u.1.1 = max cap (rmF (bf_go (st_step P md) M).1.1.length) ∧ ∃ T, toldI (bf_go (st_step P md) M) T u.1.1 u.1.2.1 u.1.2.2.2.2.2.2.2.1 u.1.2.2.2.2.2.2.2.2.1 u.1.2.2.2.2.2.2.2.2.2.1 u.1.2.2.2.2.2.2.2.2.2.2.1) (fun u => [(d0, .inr (3, [.ref pr, .ref a, .ref s2, .ref s1])), (a, .inr (0, [.ref pr, .int (nI md), .long u.2.1, .long u.2.2])), (pr, .inr (1, [.ref cd, .ref ln, .int (nI tot)])), (cd, .inl (cI, 24, .inl f)), (ln, .inl (cI, 4, .inl g)), (s2, .inr (2, [.ref u.1.2.2.1, .ref u.1.2.2.2.1, .ref u.1.2.2.2.2.1, .ref u.1.2.2.2.2.2.1, .ref u.1.2.2.2.2.2.2.1, .int (nI (rmF (bf_go (st_step P md) M).1.1.length)), .int (nI (nsF (bf_go (st_step P md) M).1.1.length)), .int (nI ((bf_go (st_step P md) M).1.1.length)), .int (nI ((bf_go (st_step P md) M).2.1.length)), .int (nI ((bf_go (st_step P md) M).2.2))])), (u.1.2.2.1, .inl (cJ, u.1.1, .inr (.inl u.1.2.2.2.2.2.2.2.1))), (u.1.2.2.2.1, .inl (cJ, u.1.1, .inr (.inl u.1.2.2.2.2.2.2.2.2.1))), (u.1.2.2.2.2.1, .inl (cI, u.1.1, .inl u.1.2.2.2.2.2.2.2.2.2.1)), (u.1.2.2.2.2.2.1, .inl (cI, u.1.1, .inl u.1.2.2.2.2.2.2.2.2.2.2.1)), (u.1.2.2.2.2.2.2.1, .inl (cI, u.1.2.1, .inl u.1.2.2.2.2.2.2.2.2.2.2.2))]) (fun E u => E = "java/lang/IllegalStateException" ∧ (bf_go (st_step P md) M).1.2.2 = false ∧ capOk u.1.1 u.1.2.1 ∧ u.1.1 = max cap (rmF (bf_go (st_step P md) M).1.1.length)) (fun u => [(d0, .inr (3, [.ref pr, .ref a, .ref s1, .ref s2])), (a, .inr (0, [.ref pr, .int (nI md), .long u.2.1, .long u.2.2])), (pr, .inr (1, [.ref cd, .ref ln, .int (nI tot)])), (cd, .inl (cI, 24, .inl f)), (ln, .inl (cI, 4, .inl g)), (s2, .inr (2, [.ref u.1.2.2.1, .ref u.1.2.2.2.1, .ref u.1.2.2.2.2.1, .ref u.1.2.2.2.2.2.1, .ref u.1.2.2.2.2.2.2.1, .int (nI (rmF (bf_go (st_step P md) M).1.1.length)), .int (nI (nsF (bf_go (st_step P md) M).1.1.length)), .int (nI ((bf_go (st_step P md) M).1.1.length)), .int (nI ((bf_go (st_step P md) M).2.1.length)), .int (nI ((bf_go (st_step P md) M).2.2))])), (u.1.2.2.1, .inl (cJ, u.1.1, .inr (.inl u.1.2.2.2.2.2.2.2.1))), (u.1.2.2.2.1, .inl (cJ, u.1.1, .inr (.inl u.1.2.2.2.2.2.2.2.2.1))), (u.1.2.2.2.2.1, .inl (cI, u.1.1, .inl u.1.2.2.2.2.2.2.2.2.2.1)), (u.1.2.2.2.2.2.1, .inl (cI, u.1.1, .inl u.1.2.2.2.2.2.2.2.2.2.2.1)), (u.1.2.2.2.2.2.2.1, .inl (cI, u.1.2.1, .inl u.1.2.2.2.2.2.2.2.2.2.2.2))]) := by
  refine zxMetI (lv := [(0, .ref d0), (1, .int (nI md))]) NS0_ok (by decide) rfl (Nat.le_of_ble_eq_true rfl) rfl ?_
  intro p e s m args below meth c A X hX hex hA
  refine z_iload_n X (pc' := 1) dX3_explore_0 rfl 1 rfl rfl ?_
  refine z_if_ltN X (tgt := 9) (pc' := 4) (by omega) dX3_explore_1 (by decide) rfl ?_
  refine z_iload_n X (pc' := 5) dX3_explore_4 rfl 1 rfl rfl ?_
  refine z_iconst X (v := nI 3) (pc' := 6) dX3_explore_5 (by decide) rfl ?_
  refine z_icmp_ltN X (tgt := 19) (pc' := 9) (by omega) (by decide) dX3_explore_6 (by decide) rfl (fun h1 => ?_) (fun h1 => ?_)
  · clear h1
    refine z_aload_n X (pc' := 20) dX3_explore_19 rfl 0 rfl rfl ?_
    refine z_get X (v := .ref a) (pc' := 23) 0 rfl rfl inX3 1 (by decide) mF_X3_21 rfl dX3_explore_20 rfl ?_
    refine z_iload_n X (pc' := 24) dX3_explore_23 rfl 1 rfl rfl ?_
    refine z_put X (t1 := .int) (ws' := [(d0, .inr (3, [.ref pr, .ref a, .ref s1, .ref s2])), (a, .inr (0, [.ref pr, .int (nI md), .long m1, .long m2])), (pr, .inr (1, [.ref cd, .ref ln, .int (nI tot)])), (cd, .inl (cI, 24, .inl f)), (ln, .inl (cI, 4, .inl g)), (s2, .inr (2, [.ref ah, .ref al, .ref af, .ref ae, .ref ta, .int (nI r0), .int (nI s0), .int (nI z0), .int (nI e0), .int (nI b0)])), (ah, .inl (cJ, cap, .inr (.inl fH))), (al, .inl (cJ, cap, .inr (.inl fL))), (af, .inl (cI, cap, .inl fF)), (ae, .inl (cI, cap, .inl fE)), (ta, .inl (cI, tl, .inl fT))]) (pc' := 27) 1 rfl rfl inX0 tyX0 tyX0_ok nmX0 1 (by decide) mF_X3_58 rfl (by decide +kernel) rfl rfl (Nat.le_of_ble_eq_true rfl) dX3_explore_24 rfl rfl ?_
    refine z_aload_n X (pc' := 28) dX3_explore_27 rfl 0 rfl rfl ?_
    refine z_get X (v := .ref s2) (pc' := 31) 0 rfl rfl inX3 3 (by decide) mF_X3_32 rfl dX3_explore_28 rfl ?_
    refine z_aload_n X (pc' := 32) dX3_explore_31 rfl 0 rfl rfl ?_
    refine z_get X (v := .ref a) (pc' := 35) 0 rfl rfl inX3 1 (by decide) mF_X3_21 rfl dX3_explore_32 rfl ?_
    refine z_callVi X (pc' := 38) (fun sz => c_search l D cI cJ sz s2 ah al af ae ta cap tl r0 s0 z0 e0 b0 a pr cd ln tot md M m1 m2 fH fL fF fE fT f g P hM hcap hmd hP hR) (zcwV X TTg 1 mL_X3_62 mI_X2_search mS_X2_search mN_X2 mK_X2_search rfl rfl (by decide +kernel) ⟨(Nat.le_of_ble_eq_true rfl), (Nat.le_of_ble_eq_true rfl)⟩) (wr := [(d0, .inr (3, [.ref pr, .ref a, .ref s1, .ref s2]))]) [5, 6, 7, 8, 9, 10, 1, 2, 3, 4] [0] rfl rfl rfl rfl (by decide) 2 5 rfl rfl rfl rfl rfl (Nat.le_of_ble_eq_true rfl) dX3_explore_35 ⟨by show 0 + _ ≤ _ + 1; omega, by show 0 + _ ≤ _ + 6; omega⟩ rfl (fun r u hu => ?_)
    obtain ⟨s1q, s2q, s3q, s4q⟩ := hu
    have s1q : r = (if (bf_go (st_step P md) M).1.2.2 = true then nI 1 else nI 0) := s1q
    refine z_wse (ws' := [(d0, .inr (3, [.ref pr, .ref a, .ref s1, .ref s2])), (s2, .inr (2, [.ref u.1.2.2.1, .ref u.1.2.2.2.1, .ref u.1.2.2.2.2.1, .ref u.1.2.2.2.2.2.1, .ref u.1.2.2.2.2.2.2.1, .int (nI (rmF (bf_go (st_step P md) M).1.1.length)), .int (nI (nsF (bf_go (st_step P md) M).1.1.length)), .int (nI ((bf_go (st_step P md) M).1.1.length)), .int (nI ((bf_go (st_step P md) M).2.1.length)), .int (nI ((bf_go (st_step P md) M).2.2))])), (u.1.2.2.1, .inl (cJ, u.1.1, .inr (.inl u.1.2.2.2.2.2.2.2.1))), (u.1.2.2.2.1, .inl (cJ, u.1.1, .inr (.inl u.1.2.2.2.2.2.2.2.2.1))), (u.1.2.2.2.2.1, .inl (cI, u.1.1, .inl u.1.2.2.2.2.2.2.2.2.2.1)), (u.1.2.2.2.2.2.1, .inl (cI, u.1.1, .inl u.1.2.2.2.2.2.2.2.2.2.2.1)), (u.1.2.2.2.2.2.2.1, .inl (cI, u.1.2.1, .inl u.1.2.2.2.2.2.2.2.2.2.2.2)), (a, .inr (0, [.ref pr, .int (nI md), .long u.2.1, .long u.2.2])), (pr, .inr (1, [.ref cd, .ref ln, .int (nI tot)])), (cd, .inl (cI, 24, .inl f)), (ln, .inl (cI, 4, .inl g))]) rfl ?_
    rcases hok : (bf_go (st_step P md) M).1.2.2 with _ | _
    · rw [hok] at s1q
      have s1q : r = nI 0 := s1q
      subst s1q
      refine z_if_neN X (tgt := 51) (pc' := 41) (by omega) dX3_explore_38 (by decide) rfl (fun h2 => ?_) (fun h2 => ?_)
      · exact absurd h2 (by decide)
      · clear h2
        refine z_ws (ws' := [(d0, .inr (3, [.ref pr, .ref a, .ref s1, .ref s2])), (a, .inr (0, [.ref pr, .int (nI md), .long u.2.1, .long u.2.2])), (pr, .inr (1, [.ref cd, .ref ln, .int (nI tot)])), (cd, .inl (cI, 24, .inl f)), (ln, .inl (cI, 4, .inl g)), (s2, .inr (2, [.ref u.1.2.2.1, .ref u.1.2.2.2.1, .ref u.1.2.2.2.2.1, .ref u.1.2.2.2.2.2.1, .ref u.1.2.2.2.2.2.2.1, .int (nI (rmF (bf_go (st_step P md) M).1.1.length)), .int (nI (nsF (bf_go (st_step P md) M).1.1.length)), .int (nI ((bf_go (st_step P md) M).1.1.length)), .int (nI ((bf_go (st_step P md) M).2.1.length)), .int (nI ((bf_go (st_step P md) M).2.2))])), (u.1.2.2.1, .inl (cJ, u.1.1, .inr (.inl u.1.2.2.2.2.2.2.2.1))), (u.1.2.2.2.1, .inl (cJ, u.1.1, .inr (.inl u.1.2.2.2.2.2.2.2.2.1))), (u.1.2.2.2.2.1, .inl (cI, u.1.1, .inl u.1.2.2.2.2.2.2.2.2.2.1)), (u.1.2.2.2.2.2.1, .inl (cI, u.1.1, .inl u.1.2.2.2.2.2.2.2.2.2.2.1)), (u.1.2.2.2.2.2.2.1, .inl (cI, u.1.2.1, .inl u.1.2.2.2.2.2.2.2.2.2.2.2))]) [0, 7, 8, 9, 10, 1, 2, 3, 4, 5, 6] (by decide) rfl ?_
        exact zx_throw X hX hex hst ["java/lang/RuntimeException", "java/lang/Exception"] u ⟨rfl, rfl, s2q, s3q⟩ rfl (by decide +kernel) xIS_4 mC_X3_66 mN_IllegalStateException (List.mem_of_getElem? (i := 1) rfl) xIS_1 xIS_2 xIS_3 dX3_explore_41 dX3_explore_44 dX3_explore_45 dX3_explore_47 dX3_explore_50 (Nat.le_of_ble_eq_true rfl) (Nat.le_of_ble_eq_true rfl) (by show 0 + _ + 1 ≤ _ + 1; omega) (by show 0 + _ + 6 ≤ _ + 6; omega) (by omega) (by omega)
    · rw [hok] at s1q
      have s1q : r = nI 1 := s1q
      subst s1q
      refine z_if_neN X (tgt := 51) (pc' := 41) (by omega) dX3_explore_38 (by decide) rfl (fun h3 => ?_) (fun h3 => ?_)
      · clear h3
        refine z_aload_n X (pc' := 52) dX3_explore_51 rfl 0 rfl rfl ?_
        refine z_get X (v := .ref s1) (pc' := 55) 0 rfl rfl inX3 2 (by decide) mF_X3_28 rfl dX3_explore_52 rfl ?_
        refine z_astore_n X (lv' := [(2, .ref s1), (0, .ref d0), (1, .int (nI md))]) (pc' := 56) dX3_explore_55 rfl (by decide) rfl rfl ?_
        refine z_aload_n X (pc' := 57) dX3_explore_56 rfl 1 rfl rfl ?_
        refine z_aload_n X (pc' := 58) dX3_explore_57 rfl 1 rfl rfl ?_
        refine z_get X (v := .ref s2) (pc' := 61) 0 rfl rfl inX3 3 (by decide) mF_X3_32 rfl dX3_explore_58 rfl ?_
        refine z_put X (t1 := (.object "OutcomeDesk$Space")) (ws' := [(d0, .inr (3, [.ref pr, .ref a, .ref s2, .ref s2])), (s2, .inr (2, [.ref u.1.2.2.1, .ref u.1.2.2.2.1, .ref u.1.2.2.2.2.1, .ref u.1.2.2.2.2.2.1, .ref u.1.2.2.2.2.2.2.1, .int (nI (rmF (bf_go (st_step P md) M).1.1.length)), .int (nI (nsF (bf_go (st_step P md) M).1.1.length)), .int (nI ((bf_go (st_step P md) M).1.1.length)), .int (nI ((bf_go (st_step P md) M).2.1.length)), .int (nI ((bf_go (st_step P md) M).2.2))])), (u.1.2.2.1, .inl (cJ, u.1.1, .inr (.inl u.1.2.2.2.2.2.2.2.1))), (u.1.2.2.2.1, .inl (cJ, u.1.1, .inr (.inl u.1.2.2.2.2.2.2.2.2.1))), (u.1.2.2.2.2.1, .inl (cI, u.1.1, .inl u.1.2.2.2.2.2.2.2.2.2.1)), (u.1.2.2.2.2.2.1, .inl (cI, u.1.1, .inl u.1.2.2.2.2.2.2.2.2.2.2.1)), (u.1.2.2.2.2.2.2.1, .inl (cI, u.1.2.1, .inl u.1.2.2.2.2.2.2.2.2.2.2.2)), (a, .inr (0, [.ref pr, .int (nI md), .long u.2.1, .long u.2.2])), (pr, .inr (1, [.ref cd, .ref ln, .int (nI tot)])), (cd, .inl (cI, 24, .inl f)), (ln, .inl (cI, 4, .inl g))]) (pc' := 64) 0 rfl rfl inX3 tyX3 tyX3_ok nmX3 2 (by decide) mF_X3_28 rfl (by decide +kernel) rfl rfl (Nat.le_of_ble_eq_true rfl) dX3_explore_61 rfl rfl ?_
        refine z_aload_n X (pc' := 65) dX3_explore_64 rfl 1 rfl rfl ?_
        refine z_aload_n X (pc' := 66) dX3_explore_65 rfl 0 rfl rfl ?_
        refine z_put X (t1 := (.object "OutcomeDesk$Space")) (ws' := [(d0, .inr (3, [.ref pr, .ref a, .ref s2, .ref s1])), (s2, .inr (2, [.ref u.1.2.2.1, .ref u.1.2.2.2.1, .ref u.1.2.2.2.2.1, .ref u.1.2.2.2.2.2.1, .ref u.1.2.2.2.2.2.2.1, .int (nI (rmF (bf_go (st_step P md) M).1.1.length)), .int (nI (nsF (bf_go (st_step P md) M).1.1.length)), .int (nI ((bf_go (st_step P md) M).1.1.length)), .int (nI ((bf_go (st_step P md) M).2.1.length)), .int (nI ((bf_go (st_step P md) M).2.2))])), (u.1.2.2.1, .inl (cJ, u.1.1, .inr (.inl u.1.2.2.2.2.2.2.2.1))), (u.1.2.2.2.1, .inl (cJ, u.1.1, .inr (.inl u.1.2.2.2.2.2.2.2.2.1))), (u.1.2.2.2.2.1, .inl (cI, u.1.1, .inl u.1.2.2.2.2.2.2.2.2.2.1)), (u.1.2.2.2.2.2.1, .inl (cI, u.1.1, .inl u.1.2.2.2.2.2.2.2.2.2.2.1)), (u.1.2.2.2.2.2.2.1, .inl (cI, u.1.2.1, .inl u.1.2.2.2.2.2.2.2.2.2.2.2)), (a, .inr (0, [.ref pr, .int (nI md), .long u.2.1, .long u.2.2])), (pr, .inr (1, [.ref cd, .ref ln, .int (nI tot)])), (cd, .inl (cI, 24, .inl f)), (ln, .inl (cI, 4, .inl g))]) (pc' := 69) 0 rfl rfl inX3 tyX3 tyX3_ok nmX3 3 (by decide) mF_X3_32 rfl (by decide +kernel) rfl rfl (Nat.le_of_ble_eq_true rfl) dX3_explore_66 rfl rfl ?_
        refine z_aload_n X (pc' := 70) dX3_explore_69 rfl 1 rfl rfl ?_
        refine z_get X (v := .ref s2) (pc' := 73) 0 rfl rfl inX3 2 (by decide) mF_X3_28 rfl dX3_explore_70 rfl ?_
        refine z_get X (v := .int (nI ((bf_go (st_step P md) M).2.1.length))) (pc' := 76) 1 rfl rfl inX2 8 (by decide) mF_X3_71 rfl dX3_explore_73 rfl ?_
        refine z_ws (ws' := [(d0, .inr (3, [.ref pr, .ref a, .ref s2, .ref s1])), (a, .inr (0, [.ref pr, .int (nI md), .long u.2.1, .long u.2.2])), (pr, .inr (1, [.ref cd, .ref ln, .int (nI tot)])), (cd, .inl (cI, 24, .inl f)), (ln, .inl (cI, 4, .inl g)), (s2, .inr (2, [.ref u.1.2.2.1, .ref u.1.2.2.2.1, .ref u.1.2.2.2.2.1, .ref u.1.2.2.2.2.2.1, .ref u.1.2.2.2.2.2.2.1, .int (nI (rmF (bf_go (st_step P md) M).1.1.length)), .int (nI (nsF (bf_go (st_step P md) M).1.1.length)), .int (nI ((bf_go (st_step P md) M).1.1.length)), .int (nI ((bf_go (st_step P md) M).2.1.length)), .int (nI ((bf_go (st_step P md) M).2.2))])), (u.1.2.2.1, .inl (cJ, u.1.1, .inr (.inl u.1.2.2.2.2.2.2.2.1))), (u.1.2.2.2.1, .inl (cJ, u.1.1, .inr (.inl u.1.2.2.2.2.2.2.2.2.1))), (u.1.2.2.2.2.1, .inl (cI, u.1.1, .inl u.1.2.2.2.2.2.2.2.2.2.1)), (u.1.2.2.2.2.2.1, .inl (cI, u.1.1, .inl u.1.2.2.2.2.2.2.2.2.2.2.1)), (u.1.2.2.2.2.2.2.1, .inl (cI, u.1.2.1, .inl u.1.2.2.2.2.2.2.2.2.2.2.2))]) [0, 7, 8, 9, 10, 1, 2, 3, 4, 5, 6] (by decide) rfl ?_
        exact zx_iret (SX := Unit) X (t1 := .int) rfl rfl u (⟨rfl, rfl, s2q, s3q, s4q hok⟩) rfl (by omega) (by omega) dX3_explore_76
      · exact absurd h3 (by decide)
  · exact absurd hmd h1
set_option maxHeartbeats 4000000 in
set_option maxRecDepth 100000 in
/-- explore, no such model -/
theorem c_exploreX (l : Launch) (hst : l.stackTraces = false) (D : va_G) (cI cJ : ClassId) (sz : Nat) (d0 pr a s1 s2 cd ln tot ah al af ae ta cap tl r0 s0 z0 e0 b0 md0 : Nat) (m1 m2 : Int64) (fH fL : Nat → Int64) (fF fE fT f g : Nat → Int32) (x : Int32) (hx : ¬ ∃ md, md < 3 ∧ x = nI md) : KX l D cI cJ yX3_explore cX3_explore 3 (some .int) 6 150 1 6 [.ref d0, .int x] [(d0, .inr (3, [.ref pr, .ref a, .ref s1, .ref s2])), (a, .inr (0, [.ref pr, .int (nI md0), .long m1, .long m2])), (pr, .inr (1, [.ref cd, .ref ln, .int (nI tot)])), (cd, .inl (cI, 24, .inl f)), (ln, .inl (cI, 4, .inl g)), (s2, .inr (2, [.ref ah, .ref al, .ref af, .ref ae, .ref ta, .int (nI r0), .int (nI s0), .int (nI z0), .int (nI e0), .int (nI b0)])), (ah, .inl (cJ, cap, .inr (.inl fH))), (al, .inl (cJ, cap, .inr (.inl fL))), (af, .inl (cI, cap, .inl fF)), (ae, .inl (cI, cap, .inl fE)), (ta, .inl (cI, tl, .inl fT))] sz (S := Unit) (SX := Unit) (fun _ _ => False) (fun _ => [(d0, .inr (3, [.ref pr, .ref a, .ref s1, .ref s2])), (a, .inr (0, [.ref pr, .int (nI md0), .long m1, .long m2])), (pr, .inr (1, [.ref cd, .ref ln, .int (nI tot)])), (cd, .inl (cI, 24, .inl f)), (ln, .inl (cI, 4, .inl g)), (s2, .inr (2, [.ref ah, .ref al, .ref af, .ref ae, .ref ta, .int (nI r0), .int (nI s0), .int (nI z0), .int (nI e0), .int (nI b0)])), (ah, .inl (cJ, cap, .inr (.inl fH))), (al, .inl (cJ, cap, .inr (.inl fL))), (af, .inl (cI, cap, .inl fF)), (ae, .inl (cI, cap, .inl fE)), (ta, .inl (cI, tl, .inl fT))]) (fun E _ => E = "java/lang/IllegalArgumentException") (fun _ => [(d0, .inr (3, [.ref pr, .ref a, .ref s1, .ref s2])), (a, .inr (0, [.ref pr, .int (nI md0), .long m1, .long m2])), (pr, .inr (1, [.ref cd, .ref ln, .int (nI tot)])), (cd, .inl (cI, 24, .inl f)), (ln, .inl (cI, 4, .inl g)), (s2, .inr (2, [.ref ah, .ref al, .ref af, .ref ae, .ref ta, .int (nI r0), .int (nI s0), .int (nI z0), .int (nI e0), .int (nI b0)])), (ah, .inl (cJ, cap, .inr (.inl fH))), (al, .inl (cJ, cap, .inr (.inl fL))), (af, .inl (cI, cap, .inl fF)), (ae, .inl (cI, cap, .inl fE)), (ta, .inl (cI, tl, .inl fT))]) := by
  refine zxMetI (lv := [(0, .ref d0), (1, .int x)]) NS0_ok (by decide) rfl (Nat.le_of_ble_eq_true rfl) rfl ?_
  intro p e s m args below meth c A X hX hex hA
  refine z_iload_n X (pc' := 1) dX3_explore_0 rfl 1 rfl rfl ?_
  rcases i_cases x with hn | ⟨k, hk, he⟩
  · refine z_if_lt X (tgt := 9) (pc' := 4) dX3_explore_1 (by decide) rfl (fun h1 => ?_) (fun h1 => ?_)
    · exact zx_throw X hX hex hst ["java/lang/RuntimeException", "java/lang/Exception"] () rfl rfl (by decide +kernel) xIA_4 mC_X3_51 mN_IllegalArgumentException (List.mem_of_getElem? (i := 0) rfl) xIA_1 xIA_2 xIA_3 dX3_explore_9 dX3_explore_12 dX3_explore_13 dX3_explore_15 dX3_explore_18 (Nat.le_of_ble_eq_true rfl) (Nat.le_of_ble_eq_true rfl) (Nat.le_of_ble_eq_true rfl) (Nat.le_of_ble_eq_true rfl) (Nat.le_of_ble_eq_true rfl) (Nat.le_of_ble_eq_true rfl)
    · exact absurd hn h1
  · subst he
    refine z_if_ltN X (tgt := 9) (pc' := 4) hk dX3_explore_1 (by decide) rfl ?_
    refine z_iload_n X (pc' := 5) dX3_explore_4 rfl 1 rfl rfl ?_
    refine z_iconst X (v := nI 3) (pc' := 6) dX3_explore_5 (by decide) rfl ?_
    refine z_icmp_ltN X (tgt := 19) (pc' := 9) hk (by decide) dX3_explore_6 (by decide) rfl (fun h2 => ?_) (fun h2 => ?_)
    · exact absurd ⟨k, h2, rfl⟩ hx
    · clear h2
      exact zx_throw X hX hex hst ["java/lang/RuntimeException", "java/lang/Exception"] () rfl rfl (by decide +kernel) xIA_4 mC_X3_51 mN_IllegalArgumentException (List.mem_of_getElem? (i := 0) rfl) xIA_1 xIA_2 xIA_3 dX3_explore_9 dX3_explore_12 dX3_explore_13 dX3_explore_15 dX3_explore_18 (Nat.le_of_ble_eq_true rfl) (Nat.le_of_ble_eq_true rfl) (Nat.le_of_ble_eq_true rfl) (Nat.le_of_ble_eq_true rfl) (Nat.le_of_ble_eq_true rfl) (Nat.le_of_ble_eq_true rfl)


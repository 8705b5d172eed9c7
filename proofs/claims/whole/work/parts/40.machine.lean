theorem NS0_ok : NS0.all z_isN = true := rfl
theorem TTg : ∀ w ∈ TT, goodWord w = true := fun _ h => TT_good h
/-- a contract over my worlds: KI, KL, KV: an int, a long, nothing comes back -/
abbrev KI (l : Launch) (D : va_G) (cI cJ : ClassId) (y : MethodName) (cc : ByteArray) (ml : Nat) (ret : Option FieldType) (fr lo mc ms : Nat) (av : List Value) (ws : va_W) (sz : Nat) {S : Type} (post : Int32 → S → Prop) (w2 : S → va_W) : Prop :=
  Met l y (Cond.code y cc ml ret :: TT) { frames := fr, cells := mc, slots := ms, locals := lo } (va_Pc av (zPre D vwCl [(cI, .int), (cJ, .long)] NS0 ws sz)) (va_Qi post (fun u => zPost D vwCl (va_A ws sz) (w2 u)) (va_A ws sz)) mc ms (va_A ws sz)
abbrev KL (l : Launch) (D : va_G) (cI cJ : ClassId) (y : MethodName) (cc : ByteArray) (ml : Nat) (ret : Option FieldType) (fr lo mc ms : Nat) (av : List Value) (ws : va_W) (sz : Nat) {S : Type} (post : Int64 → S → Prop) (w2 : S → va_W) : Prop :=
  Met l y (Cond.code y cc ml ret :: TT) { frames := fr, cells := mc, slots := ms, locals := lo } (va_Pc av (zPre D vwCl [(cI, .int), (cJ, .long)] NS0 ws sz)) (va_Ql post (fun u => zPost D vwCl (va_A ws sz) (w2 u)) (va_A ws sz)) mc ms (va_A ws sz)
abbrev KV (l : Launch) (D : va_G) (cI cJ : ClassId) (y : MethodName) (cc : ByteArray) (ml : Nat) (ret : Option FieldType) (fr lo mc ms : Nat) (av : List Value) (ws : va_W) (sz : Nat) {S : Type} (post : S → Prop) (w2 : S → va_W) : Prop :=
  Met l y (Cond.code y cc ml ret :: TT) { frames := fr, cells := mc, slots := ms, locals := lo } (va_Pc av (zPre D vwCl [(cI, .int), (cJ, .long)] NS0 ws sz)) (va_Qv post (fun u => zPost D vwCl (va_A ws sz) (w2 u)) (va_A ws sz)) mc ms (va_A ws sz)
set_option maxHeartbeats 4000000 in
set_option maxRecDepth 100000 in
/-- item i of held -/
theorem c_item (l : Launch) (D : va_G) (cI cJ : ClassId) (sz : Nat) (h i : Nat) (hh : h < 2 ^ 64) (hi : i < 20) : KI l D cI cJ yX3_item cX3_item 3 (some .int) 0 0 0 0 [.long (lN h), .int (nI i)] [] sz (S := Unit) (fun r _ => r = nI (mi h i)) (fun _ => []) := by
  refine zMetI (lv := [(0, .long (lN h)), (2, .int (nI i))]) NS0_ok (by decide) rfl (Nat.le_of_ble_eq_true rfl) rfl ?_
  intro p e s m args below meth c A X hin hA
  refine z_lload_n X (pc' := 1) dX3_item_0 rfl 0 rfl rfl ?_
  refine z_bipush X (v := nI 38) (pc' := 3) dX3_item_1 (by decide) rfl ?_
  refine z_iconst X (v := nI 2) (pc' := 4) dX3_item_3 (by decide) rfl ?_
  refine z_iload_n X (pc' := 5) dX3_item_4 rfl 1 rfl rfl ?_
  refine z_imul X (pc' := 6) dX3_item_5 rfl ?_
  refine z_topi (y := nI (2 * i)) (pk_mul _ _) ?_
  refine z_isub X (pc' := 7) dX3_item_6 rfl ?_
  refine z_topi (y := nI (2 * (19 - i))) (nb_sh2 hi) ?_
  refine z_lushr X (pc' := 8) dX3_item_7 rfl rfl ?_
  refine z_l2i X (pc' := 9) dX3_item_8 rfl rfl ?_
  refine z_iconst X (v := nI 3) (pc' := 10) dX3_item_9 (by decide) rfl ?_
  refine z_iand X (pc' := 11) dX3_item_10 rfl ?_
  refine z_topi (y := nI (mi h i)) (nb_item hh hi) ?_
  exact z_iret X (t1 := .int) rfl rfl () (rfl) rfl (Nat.le_of_ble_eq_true rfl) (Nat.le_of_ble_eq_true rfl) dX3_item_11
set_option maxHeartbeats 4000000 in
set_option maxRecDepth 100000 in
/-- held with another item i -/
theorem c_withItem (l : Launch) (D : va_G) (cI cJ : ClassId) (sz : Nat) (h i v : Nat) (hi : i < 20) : KL l D cI cJ yX3_withItem cX3_withItem 5 (some .long) 0 0 0 0 [.long (lN h), .int (nI i), .int (nI v)] [] sz (S := Unit) (fun r _ => r = lN (mw h i (v % 4))) (fun _ => []) := by
  refine zMetL (lv := [(0, .long (lN h)), (2, .int (nI i)), (3, .int (nI v))]) NS0_ok (by decide) rfl (Nat.le_of_ble_eq_true rfl) rfl ?_
  intro p e s m args below meth c A X hin hA
  refine z_bipush X (v := nI 38) (pc' := 2) dX3_withItem_0 (by decide) rfl ?_
  refine z_iconst X (v := nI 2) (pc' := 3) dX3_withItem_2 (by decide) rfl ?_
  refine z_iload_n X (pc' := 4) dX3_withItem_3 rfl 1 rfl rfl ?_
  refine z_imul X (pc' := 5) dX3_withItem_4 rfl ?_
  refine z_topi (y := nI (2 * i)) (pk_mul _ _) ?_
  refine z_isub X (pc' := 6) dX3_withItem_5 rfl ?_
  refine z_topi (y := nI (2 * (19 - i))) (nb_sh2 hi) ?_
  refine z_istore X (lv' := [(4, .int (nI (2 * (19 - i)))), (0, .long (lN h)), (2, .int (nI i)), (3, .int (nI v))]) (pc' := 8) dX3_withItem_6 (by decide) rfl rfl ?_
  refine z_lload_n X (pc' := 9) dX3_withItem_8 rfl 1 rfl rfl ?_
  refine z_ldc2 X (v := lN 3) (pc' := 12) mJ_X3_112 dX3_withItem_9 rfl ?_
  refine z_iload X (pc' := 14) dX3_withItem_12 0 rfl rfl ?_
  refine z_lshl X (pc' := 15) dX3_withItem_14 rfl rfl ?_
  refine z_ldc2 X (v := (-1)) (pc' := 18) mJ_X3_114 dX3_withItem_15 rfl ?_
  refine z_lxor X (pc' := 19) dX3_withItem_18 rfl ?_
  refine z_land X (pc' := 20) dX3_withItem_19 rfl ?_
  refine z_iload_n X (pc' := 21) dX3_withItem_20 rfl 3 rfl rfl ?_
  refine z_iconst X (v := nI 3) (pc' := 22) dX3_withItem_21 (by decide) rfl ?_
  refine z_iand X (pc' := 23) dX3_withItem_22 rfl ?_
  refine z_i2l X (pc' := 24) dX3_withItem_23 rfl rfl ?_
  refine z_iload X (pc' := 26) dX3_withItem_24 0 rfl rfl ?_
  refine z_lshl X (pc' := 27) dX3_withItem_26 rfl rfl ?_
  refine z_lor X (pc' := 28) dX3_withItem_27 rfl ?_
  refine z_topl (y := lN (mw h i (v % 4))) (nb_withItem hi) ?_
  exact z_lret X () (rfl) rfl (Nat.le_of_ble_eq_true rfl) (Nat.le_of_ble_eq_true rfl) dX3_withItem_28
set_option maxHeartbeats 4000000 in
set_option maxRecDepth 100000 in
/-- how many stores wait -/
theorem c_waitingIn (l : Launch) (D : va_G) (cI cJ : ClassId) (sz : Nat) (x : Nat) (hx : x < 8192) : KI l D cI cJ yX0_waitingIn cX0_waitingIn 1 (some .int) 0 0 0 0 [.int (nI x)] [] sz (S := Unit) (fun r _ => r = nI (wt x)) (fun _ => []) := by
  refine zMetI (lv := [(0, .int (nI x))]) NS0_ok (by decide) rfl (Nat.le_of_ble_eq_true rfl) rfl ?_
  intro p e s m args below meth c A X hin hA
  refine z_iload_n X (pc' := 1) dX0_waitingIn_0 rfl 0 rfl rfl ?_
  refine z_iconst X (v := nI 3) (pc' := 2) dX0_waitingIn_1 (by decide) rfl ?_
  refine z_ishr X (pc' := 3) dX0_waitingIn_2 rfl ?_
  refine z_iconst X (v := nI 3) (pc' := 4) dX0_waitingIn_3 (by decide) rfl ?_
  refine z_iand X (pc' := 5) dX0_waitingIn_4 rfl ?_
  refine z_topi (y := nI (wt x)) (nb_wt (by omega)) ?_
  exact z_iret X (t1 := .int) rfl rfl () (rfl) rfl (Nat.le_of_ble_eq_true rfl) (Nat.le_of_ble_eq_true rfl) dX0_waitingIn_5
set_option maxHeartbeats 4000000 in
set_option maxRecDepth 100000 in
/-- store i of a lane -/
theorem c_entryIn (l : Launch) (D : va_G) (cI cJ : ClassId) (sz : Nat) (x i : Nat) (hx : x < 8192) (hi : i < 2) : KI l D cI cJ yX0_entryIn cX0_entryIn 2 (some .int) 0 0 0 0 [.int (nI x), .int (nI i)] [] sz (S := Unit) (fun r _ => r = nI (en x i)) (fun _ => []) := by
  refine zMetI (lv := [(0, .int (nI x)), (1, .int (nI i))]) NS0_ok (by decide) rfl (Nat.le_of_ble_eq_true rfl) rfl ?_
  intro p e s m args below meth c A X hin hA
  refine z_iload_n X (pc' := 1) dX0_entryIn_0 rfl 0 rfl rfl ?_
  refine z_iconst X (v := nI 5) (pc' := 2) dX0_entryIn_1 (by decide) rfl ?_
  refine z_iconst X (v := nI 4) (pc' := 3) dX0_entryIn_2 (by decide) rfl ?_
  refine z_iload_n X (pc' := 4) dX0_entryIn_3 rfl 1 rfl rfl ?_
  refine z_imul X (pc' := 5) dX0_entryIn_4 rfl ?_
  refine z_topi (y := nI (4 * i)) (pk_mul _ _) ?_
  refine z_iadd X (pc' := 6) dX0_entryIn_5 rfl ?_
  refine z_topi (y := nI (5 + (4 * i))) (nI_add _ _) ?_
  refine z_ishr X (pc' := 7) dX0_entryIn_6 rfl ?_
  refine z_bipush X (v := nI 15) (pc' := 9) dX0_entryIn_7 (by decide) rfl ?_
  refine z_iand X (pc' := 10) dX0_entryIn_9 rfl ?_
  refine z_topi (y := nI (en x i)) (nb_en (by omega) hi) ?_
  exact z_iret X (t1 := .int) rfl rfl () (rfl) rfl (Nat.le_of_ble_eq_true rfl) (Nat.le_of_ble_eq_true rfl) dX0_entryIn_10
set_option maxHeartbeats 4000000 in
set_option maxRecDepth 100000 in
/-- a lane without its store i -/
theorem c_without (l : Launch) (D : va_G) (cI cJ : ClassId) (sz : Nat) (x i : Nat) (hx : x < 8192) (hi : i < 2) (hw : 1 ≤ wt x) : KI l D cI cJ yX0_without cX0_without 4 (some .int) 1 21 0 0 [.int (nI x), .int (nI i)] [] sz (S := Unit) (fun r _ => r = nI (st_wo x i)) (fun _ => []) := by
  refine zMetI (lv := [(0, .int (nI x)), (1, .int (nI i))]) NS0_ok (by decide) rfl (Nat.le_of_ble_eq_true rfl) rfl ?_
  intro p e s m args below meth c A X hin hA
  refine z_iload_n X (pc' := 1) dX0_without_0 rfl 0 rfl rfl ?_
  refine z_iconst X (v := nI 1) (pc' := 2) dX0_without_1 (by decide) rfl ?_
  refine z_iload_n X (pc' := 3) dX0_without_2 rfl 1 rfl rfl ?_
  refine z_isub X (pc' := 4) dX0_without_3 rfl ?_
  refine z_topi (y := nI (1 - i)) (pk_sub (by omega)) ?_
  refine z_callSi X (pc' := 7) (fun sz => c_entryIn l D cI cJ sz x (1 - i) hx (by omega)) (zcwS X TTg 2 mL_X0_81 mT_X0_entryIn mN_X0 mK_X0_entryIn rfl rfl (by decide +kernel) ⟨(Nat.le_of_ble_eq_true rfl), (Nat.le_of_ble_eq_true rfl)⟩) (wr := []) [] [] rfl rfl rfl rfl (by decide) rfl rfl (Nat.le_of_ble_eq_true rfl) dX0_without_4 ⟨Nat.le_of_ble_eq_true rfl, Nat.le_of_ble_eq_true rfl⟩ rfl (fun r u hu => ?_)
  have hu : r = nI (en x (1 - i)) := hu
  subst hu
  refine z_wse (ws' := []) rfl ?_
  refine z_istore_n X (lv' := [(2, .int (nI (en x (1 - i)))), (0, .int (nI x)), (1, .int (nI i))]) (pc' := 8) dX0_without_7 rfl (by decide) rfl rfl ?_
  refine z_iload_n X (pc' := 9) dX0_without_8 rfl 1 rfl rfl ?_
  refine z_callSi X (pc' := 12) (fun sz => c_waitingIn l D cI cJ sz x hx) (zcwS X TTg 1 mL_X0_62 mT_X0_waitingIn mN_X0 mK_X0_waitingIn rfl rfl (by decide +kernel) ⟨(Nat.le_of_ble_eq_true rfl), (Nat.le_of_ble_eq_true rfl)⟩) (wr := []) [] [] rfl rfl rfl rfl (by decide) rfl rfl (Nat.le_of_ble_eq_true rfl) dX0_without_9 ⟨Nat.le_of_ble_eq_true rfl, Nat.le_of_ble_eq_true rfl⟩ rfl (fun r u hu => ?_)
  have hu : r = nI (wt x) := hu
  subst hu
  refine z_wse (ws' := []) rfl ?_
  refine z_iconst X (v := nI 1) (pc' := 13) dX0_without_12 (by decide) rfl ?_
  refine z_isub X (pc' := 14) dX0_without_13 rfl ?_
  refine z_topi (y := nI (wt x - 1)) (pk_sub hw) ?_
  refine z_istore_n X (lv' := [(3, .int (nI (wt x - 1))), (2, .int (nI (en x (1 - i)))), (0, .int (nI x)), (1, .int (nI i))]) (pc' := 15) dX0_without_14 rfl (by decide) rfl rfl ?_
  refine z_iload_n X (pc' := 16) dX0_without_15 rfl 2 rfl rfl ?_
  refine z_bipush X (v := nI 7) (pc' := 18) dX0_without_16 (by decide) rfl ?_
  refine z_iand X (pc' := 19) dX0_without_18 rfl ?_
  refine z_topi (y := nI (pl x)) nb_pl ?_
  refine z_iload_n X (pc' := 20) dX0_without_19 rfl 0 rfl rfl ?_
  refine z_iconst X (v := nI 3) (pc' := 21) dX0_without_20 (by decide) rfl ?_
  refine z_ishl X (pc' := 22) dX0_without_21 rfl ?_
  refine z_topi (y := nI ((wt x - 1) * 8)) (nb_shl 3 (by decide) (by have := wt_lt x; omega)) ?_
  refine z_ior X (pc' := 23) dX0_without_22 rfl ?_
  refine z_topi (y := nI (pl x + (wt x - 1) * 8)) (nb_or3 (pl_lt x)) ?_
  refine z_iload_n X (pc' := 24) dX0_without_23 rfl 1 rfl rfl ?_
  refine z_iconst X (v := nI 5) (pc' := 25) dX0_without_24 (by decide) rfl ?_
  refine z_ishl X (pc' := 26) dX0_without_25 rfl ?_
  refine z_topi (y := nI (en x (1 - i) * 32)) (nb_shl 5 (by decide) (by have := en_lt x (1 - i); omega)) ?_
  refine z_ior X (pc' := 27) dX0_without_26 rfl ?_
  refine z_topi (y := nI (pl x + (wt x - 1) * 8 + en x (1 - i) * 32)) (nb_or5 (by have := pl_lt x; have := wt_lt x; omega)) ?_
  exact z_iret X (t1 := .int) rfl rfl () (rfl) rfl (Nat.le_of_ble_eq_true rfl) (Nat.le_of_ble_eq_true rfl) dX0_without_27
set_option maxHeartbeats 4000000 in
set_option maxRecDepth 100000 in
/-- the lane of a thread -/
theorem c_laneOf (l : Launch) (D : va_G) (cI cJ : ClassId) (sz : Nat) (a pr md h n t : Nat) (hn : n < 2 ^ 64) (ht : t < 4) : KI l D cI cJ yX0_laneOf cX0_laneOf 2 (some .int) 0 0 0 0 [.ref a, .int (nI t)] [(a, .inr (0, [.ref pr, .int (nI md), .long (lN h), .long (lN n)]))] sz (S := Unit) (fun r _ => r = nI (ml n t)) (fun _ => [(a, .inr (0, [.ref pr, .int (nI md), .long (lN h), .long (lN n)]))]) := by
  refine zMetI (lv := [(0, .ref a), (1, .int (nI t))]) NS0_ok (by decide) rfl (Nat.le_of_ble_eq_true rfl) rfl ?_
  intro p e s m args below meth c A X hin hA
  refine z_aload_n X (pc' := 1) dX0_laneOf_0 rfl 0 rfl rfl ?_
  refine z_get X (v := .long (lN n)) (pc' := 4) 0 rfl rfl inX0 3 (by decide) mF_X0_19 rfl dX0_laneOf_1 rfl ?_
  refine z_bipush X (v := nI 13) (pc' := 6) dX0_laneOf_4 (by decide) rfl ?_
  refine z_iload_n X (pc' := 7) dX0_laneOf_6 rfl 1 rfl rfl ?_
  refine z_imul X (pc' := 8) dX0_laneOf_7 rfl ?_
  refine z_topi (y := nI (13 * t)) (pk_mul _ _) ?_
  refine z_lushr X (pc' := 9) dX0_laneOf_8 rfl rfl ?_
  refine z_l2i X (pc' := 10) dX0_laneOf_9 rfl rfl ?_
  refine z_sipush X (v := nI 8191) (pc' := 13) dX0_laneOf_10 (by decide) rfl ?_
  refine z_iand X (pc' := 14) dX0_laneOf_13 rfl ?_
  refine z_topi (y := nI (ml n t)) (nb_lane hn ht) ?_
  exact z_iret X (t1 := .int) rfl rfl () (rfl) rfl (Nat.le_of_ble_eq_true rfl) (Nat.le_of_ble_eq_true rfl) dX0_laneOf_14
set_option maxHeartbeats 4000000 in
set_option maxRecDepth 100000 in
/-- another lane for a thread -/
theorem c_setLane (l : Launch) (D : va_G) (cI cJ : ClassId) (sz : Nat) (a pr md h n t x : Nat) (ht : t < 4) (hx : x < 8192) : KV l D cI cJ yX0_setLane cX0_setLane 6 none 0 0 0 0 [.ref a, .int (nI t), .int (nI x)] [(a, .inr (0, [.ref pr, .int (nI md), .long (lN h), .long (lN n)]))] sz (S := Unit) (fun _ => True) (fun _ => [(a, .inr (0, [.ref pr, .int (nI md), .long (lN h), .long (lN (mx n t x))]))]) := by
  refine zMetV (lv := [(0, .ref a), (1, .int (nI t)), (2, .int (nI x))]) NS0_ok (by decide) rfl (Nat.le_of_ble_eq_true rfl) rfl ?_
  intro p e s m args below meth c A X hin hA
  refine z_bipush X (v := nI 13) (pc' := 2) dX0_setLane_0 (by decide) rfl ?_
  refine z_iload_n X (pc' := 3) dX0_setLane_2 rfl 1 rfl rfl ?_
  refine z_imul X (pc' := 4) dX0_setLane_3 rfl ?_
  refine z_topi (y := nI (13 * t)) (pk_mul _ _) ?_
  refine z_istore_n X (lv' := [(3, .int (nI (13 * t))), (0, .ref a), (1, .int (nI t)), (2, .int (nI x))]) (pc' := 5) dX0_setLane_4 rfl (by decide) rfl rfl ?_
  refine z_ldc2 X (v := lN 8191) (pc' := 8) mJ_X0_87 dX0_setLane_5 rfl ?_
  refine z_iload_n X (pc' := 9) dX0_setLane_8 rfl 0 rfl rfl ?_
  refine z_lshl X (pc' := 10) dX0_setLane_9 rfl rfl ?_
  refine z_lstore X (lv' := [(4, .long ((lN 8191) <<< ((nI (13 * t)).toInt64 &&& 63))), (3, .int (nI (13 * t))), (0, .ref a), (1, .int (nI t)), (2, .int (nI x))]) (pc' := 12) dX0_setLane_10 (by decide) rfl rfl ?_
  refine z_aload_n X (pc' := 13) dX0_setLane_12 rfl 2 rfl rfl ?_
  refine z_aload_n X (pc' := 14) dX0_setLane_13 rfl 2 rfl rfl ?_
  refine z_get X (v := .long (lN n)) (pc' := 17) 0 rfl rfl inX0 3 (by decide) mF_X0_19 rfl dX0_setLane_14 rfl ?_
  refine z_lload X (pc' := 19) dX0_setLane_17 0 rfl rfl ?_
  refine z_ldc2 X (v := (-1)) (pc' := 22) mJ_X0_89 dX0_setLane_19 rfl ?_
  refine z_lxor X (pc' := 23) dX0_setLane_22 rfl ?_
  refine z_land X (pc' := 24) dX0_setLane_23 rfl ?_
  refine z_iload_n X (pc' := 25) dX0_setLane_24 rfl 4 rfl rfl ?_
  refine z_i2l X (pc' := 26) dX0_setLane_25 rfl rfl ?_
  refine z_iload_n X (pc' := 27) dX0_setLane_26 rfl 1 rfl rfl ?_
  refine z_lshl X (pc' := 28) dX0_setLane_27 rfl rfl ?_
  refine z_lor X (pc' := 29) dX0_setLane_28 rfl ?_
  refine z_topl (y := lN (mx n t x)) (nb_setLane ht hx) ?_
  refine z_put X (t1 := .long) (ws' := [(a, .inr (0, [.ref pr, .int (nI md), .long (lN h), .long (lN (mx n t x))]))]) (pc' := 32) 0 rfl rfl inX0 tyX0 tyX0_ok nmX0 3 (by decide) mF_X0_19 rfl (by decide +kernel) rfl rfl (Nat.le_of_ble_eq_true rfl) dX0_setLane_29 rfl rfl ?_
  exact z_vret X () (trivial) rfl (Nat.le_of_ble_eq_true rfl) (Nat.le_of_ble_eq_true rfl) dX0_setLane_32
set_option maxHeartbeats 4000000 in
set_option maxRecDepth 100000 in
/-- another place for a thread -/
theorem c_setPlace (l : Launch) (D : va_G) (cI cJ : ClassId) (sz : Nat) (a pr md h n t q : Nat) (hn : n < 2 ^ 64) (ht : t < 4) (hq : q < 8) : KV l D cI cJ yX0_setPlace cX0_setPlace 3 none 1 25 0 0 [.ref a, .int (nI t), .int (nI q)] [(a, .inr (0, [.ref pr, .int (nI md), .long (lN h), .long (lN n)]))] sz (S := Unit) (fun _ => True) (fun _ => [(a, .inr (0, [.ref pr, .int (nI md), .long (lN h), .long (lN (mx n t (ml n t / 8 * 8 + q)))]))]) := by
  refine zMetV (lv := [(0, .ref a), (1, .int (nI t)), (2, .int (nI q))]) NS0_ok (by decide) rfl (Nat.le_of_ble_eq_true rfl) rfl ?_
  intro p e s m args below meth c A X hin hA
  refine z_aload_n X (pc' := 1) dX0_setPlace_0 rfl 0 rfl rfl ?_
  refine z_iload_n X (pc' := 2) dX0_setPlace_1 rfl 1 rfl rfl ?_
  refine z_aload_n X (pc' := 3) dX0_setPlace_2 rfl 0 rfl rfl ?_
  refine z_iload_n X (pc' := 4) dX0_setPlace_3 rfl 1 rfl rfl ?_
  refine z_callVi X (pc' := 7) (fun sz => c_laneOf l D cI cJ sz a pr md h n t hn ht) (zcwV X TTg 1 mL_X0_34 mI_X0_laneOf mS_X0_laneOf mN_X0 mK_X0_laneOf rfl rfl (by decide +kernel) ⟨(Nat.le_of_ble_eq_true rfl), (Nat.le_of_ble_eq_true rfl)⟩) (wr := []) [0] [] rfl rfl rfl rfl (by decide) 0 0 rfl rfl rfl rfl rfl (Nat.le_of_ble_eq_true rfl) dX0_setPlace_4 ⟨Nat.le_of_ble_eq_true rfl, Nat.le_of_ble_eq_true rfl⟩ rfl (fun r u hu => ?_)
  have hu : r = nI (ml n t) := hu
  subst hu
  refine z_wse (ws' := [(a, .inr (0, [.ref pr, .int (nI md), .long (lN h), .long (lN n)]))]) rfl ?_
  refine z_bipush X (v := (-8)) (pc' := 9) dX0_setPlace_7 (by decide) rfl ?_
  refine z_iand X (pc' := 10) dX0_setPlace_9 rfl ?_
  refine z_topi (y := nI (ml n t / 8 * 8)) (nb_m8 (by have := dg_lt (b := 8192) (by decide) n t; have e : ml n t < 8192 := this; omega)) ?_
  refine z_iload_n X (pc' := 11) dX0_setPlace_10 rfl 2 rfl rfl ?_
  refine z_ior X (pc' := 12) dX0_setPlace_11 rfl ?_
  refine z_topi (y := nI (ml n t / 8 * 8 + q)) (nb_orp hq) ?_
  refine z_callVv X (pc' := 15) (fun sz => c_setLane l D cI cJ sz a pr md h n t (ml n t / 8 * 8 + q) ht (by have := ml_lt n t; omega)) (zcwV X TTg 2 mL_X0_78 mI_X0_setLane mS_X0_setLane mN_X0 mK_X0_setLane rfl rfl (by decide +kernel) ⟨(Nat.le_of_ble_eq_true rfl), (Nat.le_of_ble_eq_true rfl)⟩) (wr := []) [0] [] rfl rfl rfl rfl (by decide) 0 0 rfl rfl rfl rfl rfl (Nat.le_of_ble_eq_true rfl) dX0_setPlace_12 ⟨Nat.le_of_ble_eq_true rfl, Nat.le_of_ble_eq_true rfl⟩ rfl (fun u hu => ?_)
  refine z_wse (ws' := [(a, .inr (0, [.ref pr, .int (nI md), .long (lN h), .long (lN (mx n t (ml n t / 8 * 8 + q)))]))]) rfl ?_
  exact z_vret X () (trivial) rfl (Nat.le_of_ble_eq_true rfl) (Nat.le_of_ble_eq_true rfl) dX0_setPlace_15
/-- a step's answer and what it leaves -/
def rOpt (o : Option (Nat × Nat)) (r : Int32) (u : Nat × Nat) : Prop := match o with
  | none => r = nI 0
  | some q => r = nI 1 ∧ u = q
set_option maxHeartbeats 4000000 in
set_option maxRecDepth 100000 in
/-- a store of a thread -/
theorem c_store (l : Launch) (D : va_G) (cI cJ : ClassId) (sz : Nat) (a pr md h n t w v : Nat) (hmd : md < 3) (hh : h < 2 ^ 64) (hn : n < 2 ^ 64) (ht : t < 4) (hw : w < 4) (hv : v < 4) (hL : Lok (ml n t)) : KI l D cI cJ yX0_store cX0_store 8 (some .boolean) 1 25 0 0 [.ref a, .int (nI t), .int (nI w), .int (nI v)] [(a, .inr (0, [.ref pr, .int (nI md), .long (lN h), .long (lN n)]))] sz (S := Nat × Nat) (fun r u => rOpt (st_store md h n t w v) r u) (fun u => [(a, .inr (0, [.ref pr, .int (nI md), .long (lN u.1), .long (lN u.2)]))]) := by
  refine zMetI (lv := [(0, .ref a), (1, .int (nI t)), (2, .int (nI w)), (3, .int (nI v))]) NS0_ok (by decide) rfl (Nat.le_of_ble_eq_true rfl) rfl ?_
  intro p e s m args below meth c A X hin hA
  refine z_aload_n X (pc' := 1) dX0_store_0 rfl 0 rfl rfl ?_
  refine z_get X (v := .int (nI md)) (pc' := 4) 0 rfl rfl inX0 1 (by decide) mF_X0_9 rfl dX0_store_1 rfl ?_
  refine z_if_neN X (tgt := 25) (pc' := 7) (by omega) dX0_store_4 (by decide) rfl (fun h1 => ?_) (fun h1 => ?_)
  · have hm : ¬ md = 0 := h1
    refine z_aload_n X (pc' := 26) dX0_store_25 rfl 0 rfl rfl ?_
    refine z_iload_n X (pc' := 27) dX0_store_26 rfl 1 rfl rfl ?_
    refine z_callVi X (pc' := 30) (fun sz => c_laneOf l D cI cJ sz a pr md h n t hn ht) (zcwV X TTg 1 mL_X0_34 mI_X0_laneOf mS_X0_laneOf mN_X0 mK_X0_laneOf rfl rfl (by decide +kernel) ⟨(Nat.le_of_ble_eq_true rfl), (Nat.le_of_ble_eq_true rfl)⟩) (wr := []) [0] [] rfl rfl rfl rfl (by decide) 0 0 rfl rfl rfl rfl rfl (Nat.le_of_ble_eq_true rfl) dX0_store_27 ⟨Nat.le_of_ble_eq_true rfl, Nat.le_of_ble_eq_true rfl⟩ rfl (fun r u hu => ?_)
    have hu : r = nI (ml n t) := hu
    subst hu
    refine z_wse (ws' := [(a, .inr (0, [.ref pr, .int (nI md), .long (lN h), .long (lN n)]))]) rfl ?_
    refine z_istore X (lv' := [(4, .int (nI (ml n t))), (0, .ref a), (1, .int (nI t)), (2, .int (nI w)), (3, .int (nI v))]) (pc' := 32) dX0_store_30 (by decide) rfl rfl ?_
    refine z_iload X (pc' := 34) dX0_store_32 0 rfl rfl ?_
    refine z_callSi X (pc' := 37) (fun sz => c_waitingIn l D cI cJ sz (ml n t) (ml_lt _ _)) (zcwS X TTg 1 mL_X0_62 mT_X0_waitingIn mN_X0 mK_X0_waitingIn rfl rfl (by decide +kernel) ⟨(Nat.le_of_ble_eq_true rfl), (Nat.le_of_ble_eq_true rfl)⟩) (wr := [(a, .inr (0, [.ref pr, .int (nI md), .long (lN h), .long (lN n)]))]) [] [0] rfl rfl rfl rfl (by decide) rfl rfl (Nat.le_of_ble_eq_true rfl) dX0_store_34 ⟨Nat.le_of_ble_eq_true rfl, Nat.le_of_ble_eq_true rfl⟩ rfl (fun r u hu => ?_)
    have hu : r = nI (wt (ml n t)) := hu
    subst hu
    refine z_wse (ws' := [(a, .inr (0, [.ref pr, .int (nI md), .long (lN h), .long (lN n)]))]) rfl ?_
    refine z_istore X (lv' := [(5, .int (nI (wt (ml n t)))), (4, .int (nI (ml n t))), (0, .ref a), (1, .int (nI t)), (2, .int (nI w)), (3, .int (nI v))]) (pc' := 39) dX0_store_37 (by decide) rfl rfl ?_
    refine z_iload X (pc' := 41) dX0_store_39 0 rfl rfl ?_
    refine z_iconst X (v := nI 2) (pc' := 42) dX0_store_41 (by decide) rfl ?_
    refine z_icmp_ltN X (tgt := 47) (pc' := 45) (by have := wt_lt (ml n t); omega) (by decide) dX0_store_42 (by decide) rfl (fun h2 => ?_) (fun h2 => ?_)
    · have hw2 : wt (ml n t) < 2 := h2
      have hx8 := (Lok_put hL (by omega) (show 4 * w + v < 16 by omega)).2.2
      refine z_iload_n X (pc' := 48) dX0_store_47 rfl 4 rfl rfl ?_
      refine z_iconst X (v := nI 2) (pc' := 49) dX0_store_48 (by decide) rfl ?_
      refine z_ishl X (pc' := 50) dX0_store_49 rfl ?_
      refine z_iload_n X (pc' := 51) dX0_store_50 rfl 5 rfl rfl ?_
      refine z_ior X (pc' := 52) dX0_store_51 rfl ?_
      refine z_topi (y := nI (4 * w + v)) (nb_entry hw hv) ?_
      refine z_istore X (lv' := [(6, .int (nI (4 * w + v))), (5, .int (nI (wt (ml n t)))), (4, .int (nI (ml n t))), (0, .ref a), (1, .int (nI t)), (2, .int (nI w)), (3, .int (nI v))]) (pc' := 54) dX0_store_52 (by decide) rfl rfl ?_
      refine z_bipush X (v := nI 8) (pc' := 56) dX0_store_54 (by decide) rfl ?_
      refine z_iload X (pc' := 58) dX0_store_56 0 rfl rfl ?_
      refine z_iconst X (v := nI 5) (pc' := 59) dX0_store_58 (by decide) rfl ?_
      refine z_iconst X (v := nI 4) (pc' := 60) dX0_store_59 (by decide) rfl ?_
      refine z_iload X (pc' := 62) dX0_store_60 1 rfl rfl ?_
      refine z_imul X (pc' := 63) dX0_store_62 rfl ?_
      refine z_topi (y := nI (4 * (wt (ml n t)))) (pk_mul _ _) ?_
      refine z_iadd X (pc' := 64) dX0_store_63 rfl ?_
      refine z_topi (y := nI (5 + (4 * (wt (ml n t))))) (nI_add _ _) ?_
      refine z_ishl X (pc' := 65) dX0_store_64 rfl ?_
      refine z_ior X (pc' := 66) dX0_store_65 rfl ?_
      refine z_topi (y := nI (8 + (4 * w + v) * 2 ^ (5 + 4 * wt (ml n t)))) (nb_added (by omega) hw2) ?_
      refine z_istore X (lv' := [(7, .int (nI (8 + (4 * w + v) * 2 ^ (5 + 4 * wt (ml n t))))), (6, .int (nI (4 * w + v))), (5, .int (nI (wt (ml n t)))), (4, .int (nI (ml n t))), (0, .ref a), (1, .int (nI t)), (2, .int (nI w)), (3, .int (nI v))]) (pc' := 68) dX0_store_66 (by decide) rfl rfl ?_
      refine z_aload_n X (pc' := 69) dX0_store_68 rfl 4 rfl rfl ?_
      refine z_iload_n X (pc' := 70) dX0_store_69 rfl 5 rfl rfl ?_
      refine z_iload X (pc' := 72) dX0_store_70 3 rfl rfl ?_
      refine z_iload X (pc' := 74) dX0_store_72 0 rfl rfl ?_
      refine z_iadd X (pc' := 75) dX0_store_74 rfl ?_
      refine z_topi (y := nI ((ml n t) + (8 + (4 * w + v) * 2 ^ (5 + 4 * wt (ml n t))))) (nI_add _ _) ?_
      refine z_callVv X (pc' := 78) (fun sz => c_setLane l D cI cJ sz a pr md h n t (ml n t + (8 + (4 * w + v) * 2 ^ (5 + 4 * wt (ml n t)))) ht (by omega)) (zcwV X TTg 2 mL_X0_78 mI_X0_setLane mS_X0_setLane mN_X0 mK_X0_setLane rfl rfl (by decide +kernel) ⟨(Nat.le_of_ble_eq_true rfl), (Nat.le_of_ble_eq_true rfl)⟩) (wr := []) [0] [] rfl rfl rfl rfl (by decide) 0 0 rfl rfl rfl rfl rfl (Nat.le_of_ble_eq_true rfl) dX0_store_75 ⟨Nat.le_of_ble_eq_true rfl, Nat.le_of_ble_eq_true rfl⟩ rfl (fun u hu => ?_)
      refine z_wse (ws' := [(a, .inr (0, [.ref pr, .int (nI md), .long (lN h), .long (lN (mx n t (ml n t + (8 + (4 * w + v) * 2 ^ (5 + 4 * wt (ml n t))))))]))]) rfl ?_
      refine z_iconst X (v := nI 1) (pc' := 79) dX0_store_78 (by decide) rfl ?_
      exact z_iret X (t1 := .boolean) rfl rfl (h, mx n t (ml n t + (8 + (4 * w + v) * 2 ^ (5 + 4 * wt (ml n t))))) (by show rOpt (st_store md h n t w v) _ _; unfold st_store; rw [if_neg hm, if_neg (by omega)]; exact ⟨rfl, by rw [Nat.add_assoc]⟩) rfl (Nat.le_of_ble_eq_true rfl) (Nat.le_of_ble_eq_true rfl) dX0_store_79
    · have hw2 : ¬ wt (ml n t) < 2 := h2
      refine z_iconst X (v := nI 0) (pc' := 46) dX0_store_45 (by decide) rfl ?_
      exact z_iret X (t1 := .boolean) rfl rfl (h, n) (by show rOpt (st_store md h n t w v) _ _; unfold st_store; rw [if_neg hm, if_pos (by omega)]; exact rfl) rfl (Nat.le_of_ble_eq_true rfl) (Nat.le_of_ble_eq_true rfl) dX0_store_46
  · have hm : md = 0 := h1
    refine z_aload_n X (pc' := 8) dX0_store_7 rfl 0 rfl rfl ?_
    refine z_aload_n X (pc' := 9) dX0_store_8 rfl 0 rfl rfl ?_
    refine z_get X (v := .long (lN h)) (pc' := 12) 0 rfl rfl inX0 2 (by decide) mF_X0_15 rfl dX0_store_9 rfl ?_
    refine z_bipush X (v := nI 16) (pc' := 14) dX0_store_12 (by decide) rfl ?_
    refine z_iload_n X (pc' := 15) dX0_store_14 rfl 2 rfl rfl ?_
    refine z_iadd X (pc' := 16) dX0_store_15 rfl ?_
    refine z_topi (y := nI (16 + w)) (nI_add _ _) ?_
    refine z_iload_n X (pc' := 17) dX0_store_16 rfl 3 rfl rfl ?_
    refine z_callSNl X (pc' := 20) (fun sz => c_withItem l D cI cJ sz h (16 + w) v (by omega)) (zcwSN X TTg 3 mH_X0_58 mT_X3_withItem mN_X3 mK_X3_withItem rfl rfl (by decide +kernel) ⟨(Nat.le_of_ble_eq_true rfl), (Nat.le_of_ble_eq_true rfl)⟩) (wr := [(a, .inr (0, [.ref pr, .int (nI md), .long (lN h), .long (lN n)]))]) [] [0] rfl rfl rfl rfl (by decide) rfl rfl (Nat.le_of_ble_eq_true rfl) dX0_store_17 ⟨Nat.le_of_ble_eq_true rfl, Nat.le_of_ble_eq_true rfl⟩ rfl (fun r u hu => ?_)
    have hu : r = lN (mw h (16 + w) (v % 4)) := hu
    subst hu
    refine z_wse (ws' := [(a, .inr (0, [.ref pr, .int (nI md), .long (lN h), .long (lN n)]))]) rfl ?_
    refine z_topl (y := lN (mw h (16 + w) v)) (by rw [Nat.mod_eq_of_lt hv]) ?_
    refine z_put X (t1 := .long) (ws' := [(a, .inr (0, [.ref pr, .int (nI md), .long (lN (mw h (16 + w) v)), .long (lN n)]))]) (pc' := 23) 0 rfl rfl inX0 tyX0 tyX0_ok nmX0 2 (by decide) mF_X0_15 rfl (by decide +kernel) rfl rfl (Nat.le_of_ble_eq_true rfl) dX0_store_20 rfl rfl ?_
    refine z_iconst X (v := nI 1) (pc' := 24) dX0_store_23 (by decide) rfl ?_
    exact z_iret X (t1 := .boolean) rfl rfl (mw h (16 + w) v, n) (by show rOpt (st_store md h n t w v) _ _; unfold st_store; rw [if_pos hm]; exact ⟨rfl, rfl⟩) rfl (Nat.le_of_ble_eq_true rfl) (Nat.le_of_ble_eq_true rfl) dX0_store_24
set_option maxHeartbeats 4000000 in
set_option maxRecDepth 100000 in
/-- what a thread sees of a word -/
theorem c_seen (l : Launch) (D : va_G) (cI cJ : ClassId) (sz : Nat) (a pr md h n t w : Nat) (hh : h < 2 ^ 64) (hn : n < 2 ^ 64) (ht : t < 4) (hw : w < 4) (hL : wt (ml n t) ≤ 2) : KI l D cI cJ yX0_seen cX0_seen 6 (some .int) 1 22 0 0 [.ref a, .int (nI t), .int (nI w)] [(a, .inr (0, [.ref pr, .int (nI md), .long (lN h), .long (lN n)]))] sz (S := Unit) (fun r _ => r = nI (st_seen h (ml n t) w)) (fun _ => [(a, .inr (0, [.ref pr, .int (nI md), .long (lN h), .long (lN n)]))]) := by
  refine zMetI (lv := [(0, .ref a), (1, .int (nI t)), (2, .int (nI w))]) NS0_ok (by decide) rfl (Nat.le_of_ble_eq_true rfl) rfl ?_
  intro p e s m args below meth c A X hin hA
  refine z_aload_n X (pc' := 1) dX0_seen_0 rfl 0 rfl rfl ?_
  refine z_iload_n X (pc' := 2) dX0_seen_1 rfl 1 rfl rfl ?_
  refine z_callVi X (pc' := 5) (fun sz => c_laneOf l D cI cJ sz a pr md h n t hn ht) (zcwV X TTg 1 mL_X0_34 mI_X0_laneOf mS_X0_laneOf mN_X0 mK_X0_laneOf rfl rfl (by decide +kernel) ⟨(Nat.le_of_ble_eq_true rfl), (Nat.le_of_ble_eq_true rfl)⟩) (wr := []) [0] [] rfl rfl rfl rfl (by decide) 0 0 rfl rfl rfl rfl rfl (Nat.le_of_ble_eq_true rfl) dX0_seen_2 ⟨Nat.le_of_ble_eq_true rfl, Nat.le_of_ble_eq_true rfl⟩ rfl (fun r u hu => ?_)
  have hu : r = nI (ml n t) := hu
  subst hu
  refine z_wse (ws' := [(a, .inr (0, [.ref pr, .int (nI md), .long (lN h), .long (lN n)]))]) rfl ?_
  refine z_istore_n X (lv' := [(3, .int (nI (ml n t))), (0, .ref a), (1, .int (nI t)), (2, .int (nI w))]) (pc' := 6) dX0_seen_5 rfl (by decide) rfl rfl ?_
  refine z_iload_n X (pc' := 7) dX0_seen_6 rfl 0 rfl rfl ?_
  refine z_callSi X (pc' := 10) (fun sz => c_waitingIn l D cI cJ sz (ml n t) (ml_lt _ _)) (zcwS X TTg 1 mL_X0_62 mT_X0_waitingIn mN_X0 mK_X0_waitingIn rfl rfl (by decide +kernel) ⟨(Nat.le_of_ble_eq_true rfl), (Nat.le_of_ble_eq_true rfl)⟩) (wr := [(a, .inr (0, [.ref pr, .int (nI md), .long (lN h), .long (lN n)]))]) [] [0] rfl rfl rfl rfl (by decide) rfl rfl (Nat.le_of_ble_eq_true rfl) dX0_seen_7 ⟨Nat.le_of_ble_eq_true rfl, Nat.le_of_ble_eq_true rfl⟩ rfl (fun r u hu => ?_)
  have hu : r = nI (wt (ml n t)) := hu
  subst hu
  refine z_wse (ws' := [(a, .inr (0, [.ref pr, .int (nI md), .long (lN h), .long (lN n)]))]) rfl ?_
  refine z_iconst X (v := nI 1) (pc' := 11) dX0_seen_10 (by decide) rfl ?_
  refine z_isub X (pc' := 12) dX0_seen_11 rfl ?_
  rcases (show wt (ml n t) = 0 ∨ wt (ml n t) = 1 ∨ wt (ml n t) = 2 by omega) with hwt | hwt | hwt
  · refine z_topi (y := (-1)) (by rw [hwt]; decide) ?_
    refine z_istore X (lv' := [(4, .int ((-1))), (3, .int (nI (ml n t))), (0, .ref a), (1, .int (nI t)), (2, .int (nI w))]) (pc' := 14) dX0_seen_12 (by decide) rfl rfl ?_
    refine z_iload X (pc' := 16) dX0_seen_14 0 rfl rfl ?_
    refine z_if_lt X (tgt := 46) (pc' := 19) dX0_seen_16 (by decide) rfl (fun h1 => ?_) (fun h1 => ?_)
    · refine z_aload_n X (pc' := 47) dX0_seen_46 rfl 2 rfl rfl ?_
      refine z_get X (v := .long (lN h)) (pc' := 50) 0 rfl rfl inX0 2 (by decide) mF_X0_15 rfl dX0_seen_47 rfl ?_
      refine z_bipush X (v := nI 16) (pc' := 52) dX0_seen_50 (by decide) rfl ?_
      refine z_iload_n X (pc' := 53) dX0_seen_52 rfl 4 rfl rfl ?_
      refine z_iadd X (pc' := 54) dX0_seen_53 rfl ?_
      refine z_topi (y := nI (16 + w)) (nI_add _ _) ?_
      refine z_callSNi X (pc' := 57) (fun sz => c_item l D cI cJ sz h (16 + w) (by omega) (by omega)) (zcwSN X TTg 2 mH_X0_51 mT_X3_item mN_X3 mK_X3_item rfl rfl (by decide +kernel) ⟨(Nat.le_of_ble_eq_true rfl), (Nat.le_of_ble_eq_true rfl)⟩) (wr := [(a, .inr (0, [.ref pr, .int (nI md), .long (lN h), .long (lN n)]))]) [] [0] rfl rfl rfl rfl (by decide) rfl rfl (Nat.le_of_ble_eq_true rfl) dX0_seen_54 ⟨Nat.le_of_ble_eq_true rfl, Nat.le_of_ble_eq_true rfl⟩ rfl (fun r u hu => ?_)
      have hu : r = nI (mi h (16 + w)) := hu
      subst hu
      refine z_wse (ws' := [(a, .inr (0, [.ref pr, .int (nI md), .long (lN h), .long (lN n)]))]) rfl ?_
      exact z_iret X (t1 := .int) rfl rfl () (by show _ = nI (st_seen h (ml n t) w); unfold st_seen; rw [if_neg (fun q => by omega), if_neg (fun q => by omega)]) rfl (Nat.le_of_ble_eq_true rfl) (Nat.le_of_ble_eq_true rfl) dX0_seen_57
    · exact absurd (by decide) h1
  · refine z_topi (y := nI 0) (by rw [hwt]; decide) ?_
    refine z_istore X (lv' := [(4, .int (nI 0)), (3, .int (nI (ml n t))), (0, .ref a), (1, .int (nI t)), (2, .int (nI w))]) (pc' := 14) dX0_seen_12 (by decide) rfl rfl ?_
    refine z_iload X (pc' := 16) dX0_seen_14 0 rfl rfl ?_
    refine z_if_ltN X (tgt := 46) (pc' := 19) (by omega) dX0_seen_16 (by decide) rfl ?_
    refine z_iload_n X (pc' := 20) dX0_seen_19 rfl 1 rfl rfl ?_
    refine z_iload X (pc' := 22) dX0_seen_20 0 rfl rfl ?_
    refine z_callSi X (pc' := 25) (fun sz => c_entryIn l D cI cJ sz (ml n t) 0 (ml_lt _ _) (by decide)) (zcwS X TTg 2 mL_X0_81 mT_X0_entryIn mN_X0 mK_X0_entryIn rfl rfl (by decide +kernel) ⟨(Nat.le_of_ble_eq_true rfl), (Nat.le_of_ble_eq_true rfl)⟩) (wr := [(a, .inr (0, [.ref pr, .int (nI md), .long (lN h), .long (lN n)]))]) [] [0] rfl rfl rfl rfl (by decide) rfl rfl (Nat.le_of_ble_eq_true rfl) dX0_seen_22 ⟨Nat.le_of_ble_eq_true rfl, Nat.le_of_ble_eq_true rfl⟩ rfl (fun r u hu => ?_)
    have hu : r = nI (en (ml n t) 0) := hu
    subst hu
    refine z_wse (ws' := [(a, .inr (0, [.ref pr, .int (nI md), .long (lN h), .long (lN n)]))]) rfl ?_
    refine z_istore X (lv' := [(5, .int (nI (en (ml n t) 0))), (4, .int (nI 0)), (3, .int (nI (ml n t))), (0, .ref a), (1, .int (nI t)), (2, .int (nI w))]) (pc' := 27) dX0_seen_25 (by decide) rfl rfl ?_
    refine z_iload X (pc' := 29) dX0_seen_27 0 rfl rfl ?_
    refine z_iconst X (v := nI 2) (pc' := 30) dX0_seen_29 (by decide) rfl ?_
    refine z_ishr X (pc' := 31) dX0_seen_30 rfl ?_
    refine z_topi (y := nI (en (ml n t) 0 / 4)) (nb_shr2 (by have := en_lt (ml n t) 0; omega)) ?_
    refine z_iload_n X (pc' := 32) dX0_seen_31 rfl 5 rfl rfl ?_
    have := en_lt (ml n t) 0
    refine z_icmp_neN X (tgt := 40) (pc' := 35) (by omega) (by omega) dX0_seen_32 (by decide) rfl (fun h2 => ?_) (fun h2 => ?_)
    · have hq0 : ¬ en (ml n t) 0 / 4 = w := h2
      refine z_iinc X (v := (-1)) (lv' := [(4, .int ((-1))), (5, .int (nI (en (ml n t) 0))), (3, .int (nI (ml n t))), (0, .ref a), (1, .int (nI t)), (2, .int (nI w))]) (k := 1) (pc' := 43) dX0_seen_40 rfl (by decide) (by decide) rfl rfl ?_
      refine z_goto X (tgt := 14) dX0_seen_43 (by decide) ?_
      refine z_iload X (pc' := 16) dX0_seen_14 0 rfl rfl ?_
      refine z_if_lt X (tgt := 46) (pc' := 19) dX0_seen_16 (by decide) rfl (fun h3 => ?_) (fun h3 => ?_)
      · refine z_aload_n X (pc' := 47) dX0_seen_46 rfl 3 rfl rfl ?_
        refine z_get X (v := .long (lN h)) (pc' := 50) 0 rfl rfl inX0 2 (by decide) mF_X0_15 rfl dX0_seen_47 rfl ?_
        refine z_bipush X (v := nI 16) (pc' := 52) dX0_seen_50 (by decide) rfl ?_
        refine z_iload_n X (pc' := 53) dX0_seen_52 rfl 5 rfl rfl ?_
        refine z_iadd X (pc' := 54) dX0_seen_53 rfl ?_
        refine z_topi (y := nI (16 + w)) (nI_add _ _) ?_
        refine z_callSNi X (pc' := 57) (fun sz => c_item l D cI cJ sz h (16 + w) (by omega) (by omega)) (zcwSN X TTg 2 mH_X0_51 mT_X3_item mN_X3 mK_X3_item rfl rfl (by decide +kernel) ⟨(Nat.le_of_ble_eq_true rfl), (Nat.le_of_ble_eq_true rfl)⟩) (wr := [(a, .inr (0, [.ref pr, .int (nI md), .long (lN h), .long (lN n)]))]) [] [0] rfl rfl rfl rfl (by decide) rfl rfl (Nat.le_of_ble_eq_true rfl) dX0_seen_54 ⟨Nat.le_of_ble_eq_true rfl, Nat.le_of_ble_eq_true rfl⟩ rfl (fun r u hu => ?_)
        have hu : r = nI (mi h (16 + w)) := hu
        subst hu
        refine z_wse (ws' := [(a, .inr (0, [.ref pr, .int (nI md), .long (lN h), .long (lN n)]))]) rfl ?_
        exact z_iret X (t1 := .int) rfl rfl () (by show _ = nI (st_seen h (ml n t) w); unfold st_seen; rw [if_neg (fun q => by omega), if_neg (fun q => hq0 q.2)]) rfl (Nat.le_of_ble_eq_true rfl) (Nat.le_of_ble_eq_true rfl) dX0_seen_57
      · exact absurd (by decide) h3
    · have hq0 : en (ml n t) 0 / 4 = w := h2
      refine z_iload X (pc' := 37) dX0_seen_35 0 rfl rfl ?_
      refine z_iconst X (v := nI 3) (pc' := 38) dX0_seen_37 (by decide) rfl ?_
      refine z_iand X (pc' := 39) dX0_seen_38 rfl ?_
      refine z_topi (y := nI (en (ml n t) 0 % 4)) nb_cb ?_
      exact z_iret X (t1 := .int) rfl rfl () (by show _ = nI (st_seen h (ml n t) w); unfold st_seen; rw [if_neg (fun q => by omega), if_pos ⟨by omega, hq0⟩]) rfl (Nat.le_of_ble_eq_true rfl) (Nat.le_of_ble_eq_true rfl) dX0_seen_39
  · refine z_topi (y := nI 1) (by rw [hwt]; decide) ?_
    refine z_istore X (lv' := [(4, .int (nI 1)), (3, .int (nI (ml n t))), (0, .ref a), (1, .int (nI t)), (2, .int (nI w))]) (pc' := 14) dX0_seen_12 (by decide) rfl rfl ?_
    refine z_iload X (pc' := 16) dX0_seen_14 0 rfl rfl ?_
    refine z_if_ltN X (tgt := 46) (pc' := 19) (by omega) dX0_seen_16 (by decide) rfl ?_
    refine z_iload_n X (pc' := 20) dX0_seen_19 rfl 1 rfl rfl ?_
    refine z_iload X (pc' := 22) dX0_seen_20 0 rfl rfl ?_
    refine z_callSi X (pc' := 25) (fun sz => c_entryIn l D cI cJ sz (ml n t) 1 (ml_lt _ _) (by decide)) (zcwS X TTg 2 mL_X0_81 mT_X0_entryIn mN_X0 mK_X0_entryIn rfl rfl (by decide +kernel) ⟨(Nat.le_of_ble_eq_true rfl), (Nat.le_of_ble_eq_true rfl)⟩) (wr := [(a, .inr (0, [.ref pr, .int (nI md), .long (lN h), .long (lN n)]))]) [] [0] rfl rfl rfl rfl (by decide) rfl rfl (Nat.le_of_ble_eq_true rfl) dX0_seen_22 ⟨Nat.le_of_ble_eq_true rfl, Nat.le_of_ble_eq_true rfl⟩ rfl (fun r u hu => ?_)
    have hu : r = nI (en (ml n t) 1) := hu
    subst hu
    refine z_wse (ws' := [(a, .inr (0, [.ref pr, .int (nI md), .long (lN h), .long (lN n)]))]) rfl ?_
    refine z_istore X (lv' := [(5, .int (nI (en (ml n t) 1))), (4, .int (nI 1)), (3, .int (nI (ml n t))), (0, .ref a), (1, .int (nI t)), (2, .int (nI w))]) (pc' := 27) dX0_seen_25 (by decide) rfl rfl ?_
    refine z_iload X (pc' := 29) dX0_seen_27 0 rfl rfl ?_
    refine z_iconst X (v := nI 2) (pc' := 30) dX0_seen_29 (by decide) rfl ?_
    refine z_ishr X (pc' := 31) dX0_seen_30 rfl ?_
    refine z_topi (y := nI (en (ml n t) 1 / 4)) (nb_shr2 (by have := en_lt (ml n t) 1; omega)) ?_
    refine z_iload_n X (pc' := 32) dX0_seen_31 rfl 5 rfl rfl ?_
    have := en_lt (ml n t) 1
    refine z_icmp_neN X (tgt := 40) (pc' := 35) (by omega) (by omega) dX0_seen_32 (by decide) rfl (fun h4 => ?_) (fun h4 => ?_)
    · have hq1 : ¬ en (ml n t) 1 / 4 = w := h4
      refine z_iinc X (v := nI 0) (lv' := [(4, .int (nI 0)), (5, .int (nI (en (ml n t) 1))), (3, .int (nI (ml n t))), (0, .ref a), (1, .int (nI t)), (2, .int (nI w))]) (k := 1) (pc' := 43) dX0_seen_40 rfl (by decide) (by decide) rfl rfl ?_
      refine z_goto X (tgt := 14) dX0_seen_43 (by decide) ?_
      refine z_iload X (pc' := 16) dX0_seen_14 0 rfl rfl ?_
      refine z_if_ltN X (tgt := 46) (pc' := 19) (by omega) dX0_seen_16 (by decide) rfl ?_
      refine z_iload_n X (pc' := 20) dX0_seen_19 rfl 2 rfl rfl ?_
      refine z_iload X (pc' := 22) dX0_seen_20 0 rfl rfl ?_
      refine z_callSi X (pc' := 25) (fun sz => c_entryIn l D cI cJ sz (ml n t) 0 (ml_lt _ _) (by decide)) (zcwS X TTg 2 mL_X0_81 mT_X0_entryIn mN_X0 mK_X0_entryIn rfl rfl (by decide +kernel) ⟨(Nat.le_of_ble_eq_true rfl), (Nat.le_of_ble_eq_true rfl)⟩) (wr := [(a, .inr (0, [.ref pr, .int (nI md), .long (lN h), .long (lN n)]))]) [] [0] rfl rfl rfl rfl (by decide) rfl rfl (Nat.le_of_ble_eq_true rfl) dX0_seen_22 ⟨Nat.le_of_ble_eq_true rfl, Nat.le_of_ble_eq_true rfl⟩ rfl (fun r u hu => ?_)
      have hu : r = nI (en (ml n t) 0) := hu
      subst hu
      refine z_wse (ws' := [(a, .inr (0, [.ref pr, .int (nI md), .long (lN h), .long (lN n)]))]) rfl ?_
      refine z_istore X (lv' := [(5, .int (nI (en (ml n t) 0))), (4, .int (nI 0)), (3, .int (nI (ml n t))), (0, .ref a), (1, .int (nI t)), (2, .int (nI w))]) (pc' := 27) dX0_seen_25 (by decide) rfl rfl ?_
      refine z_iload X (pc' := 29) dX0_seen_27 0 rfl rfl ?_
      refine z_iconst X (v := nI 2) (pc' := 30) dX0_seen_29 (by decide) rfl ?_
      refine z_ishr X (pc' := 31) dX0_seen_30 rfl ?_
      refine z_topi (y := nI (en (ml n t) 0 / 4)) (nb_shr2 (by have := en_lt (ml n t) 0; omega)) ?_
      refine z_iload_n X (pc' := 32) dX0_seen_31 rfl 5 rfl rfl ?_
      have := en_lt (ml n t) 0
      refine z_icmp_neN X (tgt := 40) (pc' := 35) (by omega) (by omega) dX0_seen_32 (by decide) rfl (fun h5 => ?_) (fun h5 => ?_)
      · have hq0 : ¬ en (ml n t) 0 / 4 = w := h5
        refine z_iinc X (v := (-1)) (lv' := [(4, .int ((-1))), (5, .int (nI (en (ml n t) 0))), (3, .int (nI (ml n t))), (0, .ref a), (1, .int (nI t)), (2, .int (nI w))]) (k := 1) (pc' := 43) dX0_seen_40 rfl (by decide) (by decide) rfl rfl ?_
        refine z_goto X (tgt := 14) dX0_seen_43 (by decide) ?_
        refine z_iload X (pc' := 16) dX0_seen_14 0 rfl rfl ?_
        refine z_if_lt X (tgt := 46) (pc' := 19) dX0_seen_16 (by decide) rfl (fun h6 => ?_) (fun h6 => ?_)
        · refine z_aload_n X (pc' := 47) dX0_seen_46 rfl 3 rfl rfl ?_
          refine z_get X (v := .long (lN h)) (pc' := 50) 0 rfl rfl inX0 2 (by decide) mF_X0_15 rfl dX0_seen_47 rfl ?_
          refine z_bipush X (v := nI 16) (pc' := 52) dX0_seen_50 (by decide) rfl ?_
          refine z_iload_n X (pc' := 53) dX0_seen_52 rfl 5 rfl rfl ?_
          refine z_iadd X (pc' := 54) dX0_seen_53 rfl ?_
          refine z_topi (y := nI (16 + w)) (nI_add _ _) ?_
          refine z_callSNi X (pc' := 57) (fun sz => c_item l D cI cJ sz h (16 + w) (by omega) (by omega)) (zcwSN X TTg 2 mH_X0_51 mT_X3_item mN_X3 mK_X3_item rfl rfl (by decide +kernel) ⟨(Nat.le_of_ble_eq_true rfl), (Nat.le_of_ble_eq_true rfl)⟩) (wr := [(a, .inr (0, [.ref pr, .int (nI md), .long (lN h), .long (lN n)]))]) [] [0] rfl rfl rfl rfl (by decide) rfl rfl (Nat.le_of_ble_eq_true rfl) dX0_seen_54 ⟨Nat.le_of_ble_eq_true rfl, Nat.le_of_ble_eq_true rfl⟩ rfl (fun r u hu => ?_)
          have hu : r = nI (mi h (16 + w)) := hu
          subst hu
          refine z_wse (ws' := [(a, .inr (0, [.ref pr, .int (nI md), .long (lN h), .long (lN n)]))]) rfl ?_
          exact z_iret X (t1 := .int) rfl rfl () (by show _ = nI (st_seen h (ml n t) w); unfold st_seen; rw [if_neg (fun q => hq1 q.2), if_neg (fun q => hq0 q.2)]) rfl (Nat.le_of_ble_eq_true rfl) (Nat.le_of_ble_eq_true rfl) dX0_seen_57
        · exact absurd (by decide) h6
      · have hq0 : en (ml n t) 0 / 4 = w := h5
        refine z_iload X (pc' := 37) dX0_seen_35 0 rfl rfl ?_
        refine z_iconst X (v := nI 3) (pc' := 38) dX0_seen_37 (by decide) rfl ?_
        refine z_iand X (pc' := 39) dX0_seen_38 rfl ?_
        refine z_topi (y := nI (en (ml n t) 0 % 4)) nb_cb ?_
        exact z_iret X (t1 := .int) rfl rfl () (by show _ = nI (st_seen h (ml n t) w); unfold st_seen; rw [if_neg (fun q => hq1 q.2), if_pos ⟨by omega, hq0⟩]) rfl (Nat.le_of_ble_eq_true rfl) (Nat.le_of_ble_eq_true rfl) dX0_seen_39
    · have hq1 : en (ml n t) 1 / 4 = w := h4
      refine z_iload X (pc' := 37) dX0_seen_35 0 rfl rfl ?_
      refine z_iconst X (v := nI 3) (pc' := 38) dX0_seen_37 (by decide) rfl ?_
      refine z_iand X (pc' := 39) dX0_seen_38 rfl ?_
      refine z_topi (y := nI (en (ml n t) 1 % 4)) nb_cb ?_
      exact z_iret X (t1 := .int) rfl rfl () (by show _ = nI (st_seen h (ml n t) w); unfold st_seen; rw [if_pos ⟨by omega, hq1⟩]) rfl (Nat.le_of_ble_eq_true rfl) (Nat.le_of_ble_eq_true rfl) dX0_seen_39
set_option maxHeartbeats 4000000 in
set_option maxRecDepth 100000 in
/-- SWAP and COUNT: at once -/
theorem c_atOnce (l : Launch) (D : va_G) (cI cJ : ClassId) (sz : Nat) (a pr md h n k w r : Nat) (hh : h < 4 ^ 20) (hk : k < 7) (hw : w < 4) (hr : r < 16) : KV l D cI cJ yX0_atOnce cX0_atOnce 5 none 1 24 0 0 [.ref a, .int (nI k), .int (nI w), .int (nI r)] [(a, .inr (0, [.ref pr, .int (nI md), .long (lN h), .long (lN n)]))] sz (S := Unit) (fun _ => True) (fun _ => [(a, .inr (0, [.ref pr, .int (nI md), .long (lN (st_once k h w r)), .long (lN n)]))]) := by
  refine zMetV (lv := [(0, .ref a), (1, .int (nI k)), (2, .int (nI w)), (3, .int (nI r))]) NS0_ok (by decide) rfl (Nat.le_of_ble_eq_true rfl) rfl ?_
  intro p e s m args below meth c A X hin hA
  refine z_aload_n X (pc' := 1) dX0_atOnce_0 rfl 0 rfl rfl ?_
  refine z_get X (v := .long (lN h)) (pc' := 4) 0 rfl rfl inX0 2 (by decide) mF_X0_15 rfl dX0_atOnce_1 rfl ?_
  refine z_bipush X (v := nI 16) (pc' := 6) dX0_atOnce_4 (by decide) rfl ?_
  refine z_iload_n X (pc' := 7) dX0_atOnce_6 rfl 2 rfl rfl ?_
  refine z_iadd X (pc' := 8) dX0_atOnce_7 rfl ?_
  refine z_topi (y := nI (16 + w)) (nI_add _ _) ?_
  refine z_callSNi X (pc' := 11) (fun sz => c_item l D cI cJ sz h (16 + w) (by omega) (by omega)) (zcwSN X TTg 2 mH_X0_51 mT_X3_item mN_X3 mK_X3_item rfl rfl (by decide +kernel) ⟨(Nat.le_of_ble_eq_true rfl), (Nat.le_of_ble_eq_true rfl)⟩) (wr := [(a, .inr (0, [.ref pr, .int (nI md), .long (lN h), .long (lN n)]))]) [] [0] rfl rfl rfl rfl (by decide) rfl rfl (Nat.le_of_ble_eq_true rfl) dX0_atOnce_8 ⟨Nat.le_of_ble_eq_true rfl, Nat.le_of_ble_eq_true rfl⟩ rfl (fun r_1 u hu => ?_)
  have hu : r_1 = nI (mi h (16 + w)) := hu
  subst hu
  refine z_wse (ws' := [(a, .inr (0, [.ref pr, .int (nI md), .long (lN h), .long (lN n)]))]) rfl ?_
  refine z_istore X (lv' := [(4, .int (nI (mi h (16 + w)))), (0, .ref a), (1, .int (nI k)), (2, .int (nI w)), (3, .int (nI r))]) (pc' := 13) dX0_atOnce_11 (by decide) rfl rfl ?_
  refine z_iload_n X (pc' := 14) dX0_atOnce_13 rfl 2 rfl rfl ?_
  refine z_iconst X (v := nI 4) (pc' := 15) dX0_atOnce_14 (by decide) rfl ?_
  refine z_icmp_neN X (tgt := 58) (pc' := 18) (by omega) (by omega) dX0_atOnce_15 (by decide) rfl (fun h1 => ?_) (fun h1 => ?_)
  · have h4 : ¬ k = 4 := h1
    refine z_iload_n X (pc' := 59) dX0_atOnce_58 rfl 2 rfl rfl ?_
    refine z_iconst X (v := nI 5) (pc' := 60) dX0_atOnce_59 (by decide) rfl ?_
    refine z_icmp_neN X (tgt := 96) (pc' := 63) (by omega) (by omega) dX0_atOnce_60 (by decide) rfl (fun h2 => ?_) (fun h2 => ?_)
    · have h5 : ¬ k = 5 := h2
      refine z_wse (ws' := [(a, .inr (0, [.ref pr, .int (nI md), .long (lN (st_once k h w r)), .long (lN n)]))]) (by rw [show st_once k h w r = h from by unfold st_once; rw [if_neg h4, if_neg h5]]) ?_
      exact z_vret X () trivial rfl (Nat.le_of_ble_eq_true rfl) (Nat.le_of_ble_eq_true rfl) dX0_atOnce_96
    · have h5 : k = 5 := h2
      refine z_aload_n X (pc' := 64) dX0_atOnce_63 rfl 1 rfl rfl ?_
      refine z_aload_n X (pc' := 65) dX0_atOnce_64 rfl 1 rfl rfl ?_
      refine z_get X (v := .long (lN h)) (pc' := 68) 0 rfl rfl inX0 2 (by decide) mF_X0_15 rfl dX0_atOnce_65 rfl ?_
      refine z_bipush X (v := nI 16) (pc' := 70) dX0_atOnce_68 (by decide) rfl ?_
      refine z_iload_n X (pc' := 71) dX0_atOnce_70 rfl 3 rfl rfl ?_
      refine z_iadd X (pc' := 72) dX0_atOnce_71 rfl ?_
      refine z_topi (y := nI (16 + w)) (nI_add _ _) ?_
      refine z_iload X (pc' := 74) dX0_atOnce_72 0 rfl rfl ?_
      refine z_iconst X (v := nI 1) (pc' := 75) dX0_atOnce_74 (by decide) rfl ?_
      refine z_iadd X (pc' := 76) dX0_atOnce_75 rfl ?_
      refine z_topi (y := nI ((mi h (16 + w)) + 1)) (nI_add _ _) ?_
      refine z_callSNl X (pc' := 79) (fun sz => c_withItem l D cI cJ sz h (16 + w) (mi h (16 + w) + 1) (by omega)) (zcwSN X TTg 3 mH_X0_58 mT_X3_withItem mN_X3 mK_X3_withItem rfl rfl (by decide +kernel) ⟨(Nat.le_of_ble_eq_true rfl), (Nat.le_of_ble_eq_true rfl)⟩) (wr := [(a, .inr (0, [.ref pr, .int (nI md), .long (lN h), .long (lN n)]))]) [] [0] rfl rfl rfl rfl (by decide) rfl rfl (Nat.le_of_ble_eq_true rfl) dX0_atOnce_76 ⟨Nat.le_of_ble_eq_true rfl, Nat.le_of_ble_eq_true rfl⟩ rfl (fun r_1 u hu => ?_)
      have hu : r_1 = lN (mw h (16 + w) ((mi h (16 + w) + 1) % 4)) := hu
      subst hu
      refine z_wse (ws' := [(a, .inr (0, [.ref pr, .int (nI md), .long (lN h), .long (lN n)]))]) rfl ?_
      refine z_put X (t1 := .long) (ws' := [(a, .inr (0, [.ref pr, .int (nI md), .long (lN (mw h (16 + w) ((mi h (16 + w) + 1) % 4))), .long (lN n)]))]) (pc' := 82) 0 rfl rfl inX0 tyX0 tyX0_ok nmX0 2 (by decide) mF_X0_15 rfl (by decide +kernel) rfl rfl (Nat.le_of_ble_eq_true rfl) dX0_atOnce_79 rfl rfl ?_
      refine z_aload_n X (pc' := 83) dX0_atOnce_82 rfl 1 rfl rfl ?_
      refine z_aload_n X (pc' := 84) dX0_atOnce_83 rfl 1 rfl rfl ?_
      refine z_get X (v := .long (lN (mw h (16 + w) ((mi h (16 + w) + 1) % 4)))) (pc' := 87) 0 rfl rfl inX0 2 (by decide) mF_X0_15 rfl dX0_atOnce_84 rfl ?_
      refine z_iload_n X (pc' := 88) dX0_atOnce_87 rfl 4 rfl rfl ?_
      refine z_iload X (pc' := 90) dX0_atOnce_88 0 rfl rfl ?_
      refine z_callSNl X (pc' := 93) (fun sz => c_withItem l D cI cJ sz (mw h (16 + w) ((mi h (16 + w) + 1) % 4)) r (mi h (16 + w)) (by omega)) (zcwSN X TTg 3 mH_X0_58 mT_X3_withItem mN_X3 mK_X3_withItem rfl rfl (by decide +kernel) ⟨(Nat.le_of_ble_eq_true rfl), (Nat.le_of_ble_eq_true rfl)⟩) (wr := [(a, .inr (0, [.ref pr, .int (nI md), .long (lN (mw h (16 + w) ((mi h (16 + w) + 1) % 4))), .long (lN n)]))]) [] [0] rfl rfl rfl rfl (by decide) rfl rfl (Nat.le_of_ble_eq_true rfl) dX0_atOnce_90 ⟨Nat.le_of_ble_eq_true rfl, Nat.le_of_ble_eq_true rfl⟩ rfl (fun r_1 u hu => ?_)
      have hu : r_1 = lN (mw (mw h (16 + w) ((mi h (16 + w) + 1) % 4)) r ((mi h (16 + w)) % 4)) := hu
      subst hu
      refine z_wse (ws' := [(a, .inr (0, [.ref pr, .int (nI md), .long (lN (mw h (16 + w) ((mi h (16 + w) + 1) % 4))), .long (lN n)]))]) rfl ?_
      refine z_topl (y := lN (mw (mw h (16 + w) ((mi h (16 + w) + 1) % 4)) r (mi h (16 + w)))) (by rw [Nat.mod_eq_of_lt (mi_lt _ _)]) ?_
      refine z_put X (t1 := .long) (ws' := [(a, .inr (0, [.ref pr, .int (nI md), .long (lN (mw (mw h (16 + w) ((mi h (16 + w) + 1) % 4)) r (mi h (16 + w)))), .long (lN n)]))]) (pc' := 96) 0 rfl rfl inX0 tyX0 tyX0_ok nmX0 2 (by decide) mF_X0_15 rfl (by decide +kernel) rfl rfl (Nat.le_of_ble_eq_true rfl) dX0_atOnce_93 rfl rfl ?_
      refine z_wse (ws' := [(a, .inr (0, [.ref pr, .int (nI md), .long (lN (st_once k h w r)), .long (lN n)]))]) (by rw [show st_once k h w r = mw (mw h (16 + w) ((mi h (16 + w) + 1) % 4)) r (mi h (16 + w)) from by unfold st_once; rw [if_neg h4, if_pos h5]]) ?_
      exact z_vret X () trivial rfl (Nat.le_of_ble_eq_true rfl) (Nat.le_of_ble_eq_true rfl) dX0_atOnce_96
  · have h4 : k = 4 := h1
    refine z_aload_n X (pc' := 19) dX0_atOnce_18 rfl 1 rfl rfl ?_
    refine z_aload_n X (pc' := 20) dX0_atOnce_19 rfl 1 rfl rfl ?_
    refine z_get X (v := .long (lN h)) (pc' := 23) 0 rfl rfl inX0 2 (by decide) mF_X0_15 rfl dX0_atOnce_20 rfl ?_
    refine z_bipush X (v := nI 16) (pc' := 25) dX0_atOnce_23 (by decide) rfl ?_
    refine z_iload_n X (pc' := 26) dX0_atOnce_25 rfl 3 rfl rfl ?_
    refine z_iadd X (pc' := 27) dX0_atOnce_26 rfl ?_
    refine z_topi (y := nI (16 + w)) (nI_add _ _) ?_
    refine z_aload_n X (pc' := 28) dX0_atOnce_27 rfl 1 rfl rfl ?_
    refine z_get X (v := .long (lN h)) (pc' := 31) 0 rfl rfl inX0 2 (by decide) mF_X0_15 rfl dX0_atOnce_28 rfl ?_
    refine z_iload_n X (pc' := 32) dX0_atOnce_31 rfl 4 rfl rfl ?_
    refine z_callSNi X (pc' := 35) (fun sz => c_item l D cI cJ sz h r (by omega) (by omega)) (zcwSN X TTg 2 mH_X0_51 mT_X3_item mN_X3 mK_X3_item rfl rfl (by decide +kernel) ⟨(Nat.le_of_ble_eq_true rfl), (Nat.le_of_ble_eq_true rfl)⟩) (wr := [(a, .inr (0, [.ref pr, .int (nI md), .long (lN h), .long (lN n)]))]) [] [0] rfl rfl rfl rfl (by decide) rfl rfl (Nat.le_of_ble_eq_true rfl) dX0_atOnce_32 ⟨Nat.le_of_ble_eq_true rfl, Nat.le_of_ble_eq_true rfl⟩ rfl (fun r_1 u hu => ?_)
    have hu : r_1 = nI (mi h r) := hu
    subst hu
    refine z_wse (ws' := [(a, .inr (0, [.ref pr, .int (nI md), .long (lN h), .long (lN n)]))]) rfl ?_
    refine z_callSNl X (pc' := 38) (fun sz => c_withItem l D cI cJ sz h (16 + w) (mi h r) (by omega)) (zcwSN X TTg 3 mH_X0_58 mT_X3_withItem mN_X3 mK_X3_withItem rfl rfl (by decide +kernel) ⟨(Nat.le_of_ble_eq_true rfl), (Nat.le_of_ble_eq_true rfl)⟩) (wr := [(a, .inr (0, [.ref pr, .int (nI md), .long (lN h), .long (lN n)]))]) [] [0] rfl rfl rfl rfl (by decide) rfl rfl (Nat.le_of_ble_eq_true rfl) dX0_atOnce_35 ⟨Nat.le_of_ble_eq_true rfl, Nat.le_of_ble_eq_true rfl⟩ rfl (fun r_1 u hu => ?_)
    have hu : r_1 = lN (mw h (16 + w) ((mi h r) % 4)) := hu
    subst hu
    refine z_wse (ws' := [(a, .inr (0, [.ref pr, .int (nI md), .long (lN h), .long (lN n)]))]) rfl ?_
    refine z_topl (y := lN (mw h (16 + w) (mi h r))) (by rw [Nat.mod_eq_of_lt (mi_lt _ _)]) ?_
    refine z_put X (t1 := .long) (ws' := [(a, .inr (0, [.ref pr, .int (nI md), .long (lN (mw h (16 + w) (mi h r))), .long (lN n)]))]) (pc' := 41) 0 rfl rfl inX0 tyX0 tyX0_ok nmX0 2 (by decide) mF_X0_15 rfl (by decide +kernel) rfl rfl (Nat.le_of_ble_eq_true rfl) dX0_atOnce_38 rfl rfl ?_
    refine z_aload_n X (pc' := 42) dX0_atOnce_41 rfl 1 rfl rfl ?_
    refine z_aload_n X (pc' := 43) dX0_atOnce_42 rfl 1 rfl rfl ?_
    refine z_get X (v := .long (lN (mw h (16 + w) (mi h r)))) (pc' := 46) 0 rfl rfl inX0 2 (by decide) mF_X0_15 rfl dX0_atOnce_43 rfl ?_
    refine z_iload_n X (pc' := 47) dX0_atOnce_46 rfl 4 rfl rfl ?_
    refine z_iload X (pc' := 49) dX0_atOnce_47 0 rfl rfl ?_
    refine z_callSNl X (pc' := 52) (fun sz => c_withItem l D cI cJ sz (mw h (16 + w) (mi h r)) r (mi h (16 + w)) (by omega)) (zcwSN X TTg 3 mH_X0_58 mT_X3_withItem mN_X3 mK_X3_withItem rfl rfl (by decide +kernel) ⟨(Nat.le_of_ble_eq_true rfl), (Nat.le_of_ble_eq_true rfl)⟩) (wr := [(a, .inr (0, [.ref pr, .int (nI md), .long (lN (mw h (16 + w) (mi h r))), .long (lN n)]))]) [] [0] rfl rfl rfl rfl (by decide) rfl rfl (Nat.le_of_ble_eq_true rfl) dX0_atOnce_49 ⟨Nat.le_of_ble_eq_true rfl, Nat.le_of_ble_eq_true rfl⟩ rfl (fun r_1 u hu => ?_)
    have hu : r_1 = lN (mw (mw h (16 + w) (mi h r)) r ((mi h (16 + w)) % 4)) := hu
    subst hu
    refine z_wse (ws' := [(a, .inr (0, [.ref pr, .int (nI md), .long (lN (mw h (16 + w) (mi h r))), .long (lN n)]))]) rfl ?_
    refine z_topl (y := lN (mw (mw h (16 + w) (mi h r)) r (mi h (16 + w)))) (by rw [Nat.mod_eq_of_lt (mi_lt _ _)]) ?_
    refine z_put X (t1 := .long) (ws' := [(a, .inr (0, [.ref pr, .int (nI md), .long (lN (mw (mw h (16 + w) (mi h r)) r (mi h (16 + w)))), .long (lN n)]))]) (pc' := 55) 0 rfl rfl inX0 tyX0 tyX0_ok nmX0 2 (by decide) mF_X0_15 rfl (by decide +kernel) rfl rfl (Nat.le_of_ble_eq_true rfl) dX0_atOnce_52 rfl rfl ?_
    refine z_goto X (tgt := 96) dX0_atOnce_55 (by decide) ?_
    refine z_wse (ws' := [(a, .inr (0, [.ref pr, .int (nI md), .long (lN (st_once k h w r)), .long (lN n)]))]) (by rw [show st_once k h w r = mw (mw h (16 + w) (mi h r)) r (mi h (16 + w)) from by unfold st_once; rw [if_pos h4]]) ?_
    exact z_vret X () trivial rfl (Nat.le_of_ble_eq_true rfl) (Nat.le_of_ble_eq_true rfl) dX0_atOnce_96
set_option maxHeartbeats 4000000 in
set_option maxRecDepth 100000 in
/-- a store leaves the buffer -/
theorem c_release (l : Launch) (D : va_G) (cI cJ : ClassId) (sz : Nat) (a pr md h n t w : Nat) (hmd : md < 3) (hh : h < 2 ^ 64) (hn : n < 2 ^ 64) (ht : t < 4) (hw : w < 4) (hL : Lok (ml n t)) : KI l D cI cJ yX0_release cX0_release 8 (some .boolean) 2 44 0 0 [.ref a, .int (nI t), .int (nI w)] [(a, .inr (0, [.ref pr, .int (nI md), .long (lN h), .long (lN n)]))] sz (S := Nat × Nat) (fun r u => rOpt (st_rel md h n t w) r u) (fun u => [(a, .inr (0, [.ref pr, .int (nI md), .long (lN u.1), .long (lN u.2)]))]) := by
  refine zMetI (lv := [(0, .ref a), (1, .int (nI t)), (2, .int (nI w))]) NS0_ok (by decide) rfl (Nat.le_of_ble_eq_true rfl) rfl ?_
  intro p e s m args below meth c A X hin hA
  refine z_aload_n X (pc' := 1) dX0_release_0 rfl 0 rfl rfl ?_
  refine z_iload_n X (pc' := 2) dX0_release_1 rfl 1 rfl rfl ?_
  refine z_callVi X (pc' := 5) (fun sz => c_laneOf l D cI cJ sz a pr md h n t hn ht) (zcwV X TTg 1 mL_X0_34 mI_X0_laneOf mS_X0_laneOf mN_X0 mK_X0_laneOf rfl rfl (by decide +kernel) ⟨(Nat.le_of_ble_eq_true rfl), (Nat.le_of_ble_eq_true rfl)⟩) (wr := []) [0] [] rfl rfl rfl rfl (by decide) 0 0 rfl rfl rfl rfl rfl (Nat.le_of_ble_eq_true rfl) dX0_release_2 ⟨Nat.le_of_ble_eq_true rfl, Nat.le_of_ble_eq_true rfl⟩ rfl (fun r u hu => ?_)
  have hu : r = nI (ml n t) := hu
  subst hu
  refine z_wse (ws' := [(a, .inr (0, [.ref pr, .int (nI md), .long (lN h), .long (lN n)]))]) rfl ?_
  refine z_istore_n X (lv' := [(3, .int (nI (ml n t))), (0, .ref a), (1, .int (nI t)), (2, .int (nI w))]) (pc' := 6) dX0_release_5 rfl (by decide) rfl rfl ?_
  refine z_iload_n X (pc' := 7) dX0_release_6 rfl 0 rfl rfl ?_
  refine z_callSi X (pc' := 10) (fun sz => c_waitingIn l D cI cJ sz (ml n t) (ml_lt _ _)) (zcwS X TTg 1 mL_X0_62 mT_X0_waitingIn mN_X0 mK_X0_waitingIn rfl rfl (by decide +kernel) ⟨(Nat.le_of_ble_eq_true rfl), (Nat.le_of_ble_eq_true rfl)⟩) (wr := [(a, .inr (0, [.ref pr, .int (nI md), .long (lN h), .long (lN n)]))]) [] [0] rfl rfl rfl rfl (by decide) rfl rfl (Nat.le_of_ble_eq_true rfl) dX0_release_7 ⟨Nat.le_of_ble_eq_true rfl, Nat.le_of_ble_eq_true rfl⟩ rfl (fun r u hu => ?_)
  have hu : r = nI (wt (ml n t)) := hu
  subst hu
  refine z_wse (ws' := [(a, .inr (0, [.ref pr, .int (nI md), .long (lN h), .long (lN n)]))]) rfl ?_
  have hw2 := hL.1
  rcases (show wt (ml n t) = 0 ∨ wt (ml n t) = 1 ∨ wt (ml n t) = 2 by omega) with hwt | hwt | hwt
  · refine z_topi (y := nI 0) (by rw [hwt]) ?_
    refine z_istore X (lv' := [(4, .int (nI 0)), (3, .int (nI (ml n t))), (0, .ref a), (1, .int (nI t)), (2, .int (nI w))]) (pc' := 12) dX0_release_10 (by decide) rfl rfl ?_
    refine z_aload_n X (pc' := 13) dX0_release_12 rfl 2 rfl rfl ?_
    refine z_get X (v := .int (nI md)) (pc' := 16) 0 rfl rfl inX0 1 (by decide) mF_X0_9 rfl dX0_release_13 rfl ?_
    refine z_iconst X (v := nI 1) (pc' := 17) dX0_release_16 (by decide) rfl ?_
    refine z_icmp_neN X (tgt := 29) (pc' := 20) (by omega) (by omega) dX0_release_17 (by decide) rfl (fun h1 => ?_) (fun h1 => ?_)
    · have hm1 : ¬ md = 1 := h1
      refine z_iload X (pc' := 31) dX0_release_29 0 rfl rfl ?_
      refine z_istore X (lv' := [(5, .int (nI 0)), (4, .int (nI 0)), (3, .int (nI (ml n t))), (0, .ref a), (1, .int (nI t)), (2, .int (nI w))]) (pc' := 33) dX0_release_31 (by decide) rfl rfl ?_
      refine z_iconst X (v := nI 0) (pc' := 34) dX0_release_33 (by decide) rfl ?_
      refine z_istore X (lv' := [(6, .int (nI 0)), (5, .int (nI 0)), (4, .int (nI 0)), (3, .int (nI (ml n t))), (0, .ref a), (1, .int (nI t)), (2, .int (nI w))]) (pc' := 36) dX0_release_34 (by decide) rfl rfl ?_
      refine z_iload X (pc' := 38) dX0_release_36 0 rfl rfl ?_
      refine z_iload X (pc' := 40) dX0_release_38 1 rfl rfl ?_
      refine z_icmp_geN X (tgt := 97) (pc' := 43) (by omega) (by omega) dX0_release_40 (by decide) rfl (fun h2 => ?_) (fun h2 => ?_)
      · clear h2
        refine z_iconst X (v := nI 0) (pc' := 98) dX0_release_97 (by decide) rfl ?_
        exact z_iret X (t1 := .boolean) rfl rfl (h, n) (by show rOpt (st_rel md h n t w) _ _; unfold st_rel; rw [if_neg (fun q => by omega), if_neg (fun q => by omega)]; exact rfl) rfl (Nat.le_of_ble_eq_true rfl) (Nat.le_of_ble_eq_true rfl) dX0_release_98
      · exact absurd h2 (by decide)
    · have hm1 : md = 1 := h1
      refine z_iload X (pc' := 22) dX0_release_20 0 rfl rfl ?_
      refine z_iconst X (v := nI 1) (pc' := 23) dX0_release_22 (by decide) rfl ?_
      refine z_mmin X (pc' := 26) mL_X0_69 mT_Math_min mN_Math mK_Math_min (by omega) (by omega) dX0_release_23 (Nat.le_of_ble_eq_true rfl) (Nat.le_of_ble_eq_true rfl) (Nat.le_of_ble_eq_true rfl) (Nat.le_of_ble_eq_true rfl) rfl ?_
      refine z_topi (y := nI 0) rfl ?_
      refine z_goto X (tgt := 31) dX0_release_26 (by decide) ?_
      refine z_istore X (lv' := [(5, .int (nI 0)), (4, .int (nI 0)), (3, .int (nI (ml n t))), (0, .ref a), (1, .int (nI t)), (2, .int (nI w))]) (pc' := 33) dX0_release_31 (by decide) rfl rfl ?_
      refine z_iconst X (v := nI 0) (pc' := 34) dX0_release_33 (by decide) rfl ?_
      refine z_istore X (lv' := [(6, .int (nI 0)), (5, .int (nI 0)), (4, .int (nI 0)), (3, .int (nI (ml n t))), (0, .ref a), (1, .int (nI t)), (2, .int (nI w))]) (pc' := 36) dX0_release_34 (by decide) rfl rfl ?_
      refine z_iload X (pc' := 38) dX0_release_36 0 rfl rfl ?_
      refine z_iload X (pc' := 40) dX0_release_38 1 rfl rfl ?_
      refine z_icmp_geN X (tgt := 97) (pc' := 43) (by omega) (by omega) dX0_release_40 (by decide) rfl (fun h3 => ?_) (fun h3 => ?_)
      · clear h3
        refine z_iconst X (v := nI 0) (pc' := 98) dX0_release_97 (by decide) rfl ?_
        exact z_iret X (t1 := .boolean) rfl rfl (h, n) (by show rOpt (st_rel md h n t w) _ _; unfold st_rel; rw [if_neg (fun q => by omega), if_neg (fun q => by omega)]; exact rfl) rfl (Nat.le_of_ble_eq_true rfl) (Nat.le_of_ble_eq_true rfl) dX0_release_98
      · exact absurd h3 (by decide)
  · refine z_topi (y := nI 1) (by rw [hwt]) ?_
    refine z_istore X (lv' := [(4, .int (nI 1)), (3, .int (nI (ml n t))), (0, .ref a), (1, .int (nI t)), (2, .int (nI w))]) (pc' := 12) dX0_release_10 (by decide) rfl rfl ?_
    refine z_aload_n X (pc' := 13) dX0_release_12 rfl 2 rfl rfl ?_
    refine z_get X (v := .int (nI md)) (pc' := 16) 0 rfl rfl inX0 1 (by decide) mF_X0_9 rfl dX0_release_13 rfl ?_
    refine z_iconst X (v := nI 1) (pc' := 17) dX0_release_16 (by decide) rfl ?_
    refine z_icmp_neN X (tgt := 29) (pc' := 20) (by omega) (by omega) dX0_release_17 (by decide) rfl (fun h4 => ?_) (fun h4 => ?_)
    · have hm1 : ¬ md = 1 := h4
      refine z_iload X (pc' := 31) dX0_release_29 0 rfl rfl ?_
      refine z_istore X (lv' := [(5, .int (nI 1)), (4, .int (nI 1)), (3, .int (nI (ml n t))), (0, .ref a), (1, .int (nI t)), (2, .int (nI w))]) (pc' := 33) dX0_release_31 (by decide) rfl rfl ?_
      refine z_iconst X (v := nI 0) (pc' := 34) dX0_release_33 (by decide) rfl ?_
      refine z_istore X (lv' := [(6, .int (nI 0)), (5, .int (nI 1)), (4, .int (nI 1)), (3, .int (nI (ml n t))), (0, .ref a), (1, .int (nI t)), (2, .int (nI w))]) (pc' := 36) dX0_release_34 (by decide) rfl rfl ?_
      refine z_iload X (pc' := 38) dX0_release_36 0 rfl rfl ?_
      refine z_iload X (pc' := 40) dX0_release_38 1 rfl rfl ?_
      refine z_icmp_geN X (tgt := 97) (pc' := 43) (by omega) (by omega) dX0_release_40 (by decide) rfl (fun h5 => ?_) (fun h5 => ?_)
      · exact absurd h5 (by decide)
      · clear h5
        refine z_iload_n X (pc' := 44) dX0_release_43 rfl 3 rfl rfl ?_
        refine z_iload X (pc' := 46) dX0_release_44 0 rfl rfl ?_
        refine z_callSi X (pc' := 49) (fun sz => c_entryIn l D cI cJ sz (ml n t) 0 (ml_lt _ _) (by decide)) (zcwS X TTg 2 mL_X0_81 mT_X0_entryIn mN_X0 mK_X0_entryIn rfl rfl (by decide +kernel) ⟨(Nat.le_of_ble_eq_true rfl), (Nat.le_of_ble_eq_true rfl)⟩) (wr := [(a, .inr (0, [.ref pr, .int (nI md), .long (lN h), .long (lN n)]))]) [] [0] rfl rfl rfl rfl (by decide) rfl rfl (Nat.le_of_ble_eq_true rfl) dX0_release_46 ⟨Nat.le_of_ble_eq_true rfl, Nat.le_of_ble_eq_true rfl⟩ rfl (fun r u hu => ?_)
        have hu : r = nI (en (ml n t) 0) := hu
        subst hu
        refine z_wse (ws' := [(a, .inr (0, [.ref pr, .int (nI md), .long (lN h), .long (lN n)]))]) rfl ?_
        refine z_istore X (lv' := [(7, .int (nI (en (ml n t) 0))), (6, .int (nI 0)), (5, .int (nI 1)), (4, .int (nI 1)), (3, .int (nI (ml n t))), (0, .ref a), (1, .int (nI t)), (2, .int (nI w))]) (pc' := 51) dX0_release_49 (by decide) rfl rfl ?_
        refine z_iload X (pc' := 53) dX0_release_51 0 rfl rfl ?_
        refine z_iconst X (v := nI 2) (pc' := 54) dX0_release_53 (by decide) rfl ?_
        refine z_ishr X (pc' := 55) dX0_release_54 rfl ?_
        refine z_topi (y := nI (en (ml n t) 0 / 4)) (nb_shr2 (by have := en_lt (ml n t) 0; omega)) ?_
        refine z_iload_n X (pc' := 56) dX0_release_55 rfl 7 rfl rfl ?_
        have := en_lt (ml n t) 0
        refine z_icmp_neN X (tgt := 91) (pc' := 59) (by omega) (by omega) dX0_release_56 (by decide) rfl (fun h6 => ?_) (fun h6 => ?_)
        · have hq0 : ¬ en (ml n t) 0 / 4 = w := h6
          refine z_iinc X (v := nI 1) (lv' := [(6, .int (nI 1)), (7, .int (nI (en (ml n t) 0))), (5, .int (nI 1)), (4, .int (nI 1)), (3, .int (nI (ml n t))), (0, .ref a), (1, .int (nI t)), (2, .int (nI w))]) (k := 1) (pc' := 94) dX0_release_91 rfl (by decide) (by decide) rfl rfl ?_
          refine z_goto X (tgt := 36) dX0_release_94 (by decide) ?_
          refine z_iload X (pc' := 38) dX0_release_36 0 rfl rfl ?_
          refine z_iload X (pc' := 40) dX0_release_38 2 rfl rfl ?_
          refine z_icmp_geN X (tgt := 97) (pc' := 43) (by omega) (by omega) dX0_release_40 (by decide) rfl (fun h7 => ?_) (fun h7 => ?_)
          · clear h7
            refine z_iconst X (v := nI 0) (pc' := 98) dX0_release_97 (by decide) rfl ?_
            exact z_iret X (t1 := .boolean) rfl rfl (h, n) (by show rOpt (st_rel md h n t w) _ _; unfold st_rel; rw [if_neg (fun q => hq0 q.2), if_neg (fun q => by omega)]; exact rfl) rfl (Nat.le_of_ble_eq_true rfl) (Nat.le_of_ble_eq_true rfl) dX0_release_98
          · exact absurd h7 (by decide)
        · have hq0 : en (ml n t) 0 / 4 = w := h6
          refine z_aload_n X (pc' := 60) dX0_release_59 rfl 5 rfl rfl ?_
          refine z_aload_n X (pc' := 61) dX0_release_60 rfl 5 rfl rfl ?_
          refine z_get X (v := .long (lN h)) (pc' := 64) 0 rfl rfl inX0 2 (by decide) mF_X0_15 rfl dX0_release_61 rfl ?_
          refine z_bipush X (v := nI 16) (pc' := 66) dX0_release_64 (by decide) rfl ?_
          refine z_iload_n X (pc' := 67) dX0_release_66 rfl 7 rfl rfl ?_
          refine z_iadd X (pc' := 68) dX0_release_67 rfl ?_
          refine z_topi (y := nI (16 + w)) (nI_add _ _) ?_
          refine z_iload X (pc' := 70) dX0_release_68 0 rfl rfl ?_
          refine z_iconst X (v := nI 3) (pc' := 71) dX0_release_70 (by decide) rfl ?_
          refine z_iand X (pc' := 72) dX0_release_71 rfl ?_
          refine z_topi (y := nI (en (ml n t) 0 % 4)) nb_cb ?_
          refine z_callSNl X (pc' := 75) (fun sz => c_withItem l D cI cJ sz h (16 + w) (en (ml n t) 0 % 4) (by omega)) (zcwSN X TTg 3 mH_X0_58 mT_X3_withItem mN_X3 mK_X3_withItem rfl rfl (by decide +kernel) ⟨(Nat.le_of_ble_eq_true rfl), (Nat.le_of_ble_eq_true rfl)⟩) (wr := [(a, .inr (0, [.ref pr, .int (nI md), .long (lN h), .long (lN n)]))]) [] [0] rfl rfl rfl rfl (by decide) rfl rfl (Nat.le_of_ble_eq_true rfl) dX0_release_72 ⟨Nat.le_of_ble_eq_true rfl, Nat.le_of_ble_eq_true rfl⟩ rfl (fun r u hu => ?_)
          have hu : r = lN (mw h (16 + w) ((en (ml n t) 0 % 4) % 4)) := hu
          subst hu
          refine z_wse (ws' := [(a, .inr (0, [.ref pr, .int (nI md), .long (lN h), .long (lN n)]))]) rfl ?_
          refine z_topl (y := lN (mw h (16 + w) (en (ml n t) 0 % 4))) (by rw [Nat.mod_eq_of_lt (Nat.mod_lt _ (by decide))]) ?_
          refine z_put X (t1 := .long) (ws' := [(a, .inr (0, [.ref pr, .int (nI md), .long (lN (mw h (16 + w) (en (ml n t) 0 % 4))), .long (lN n)]))]) (pc' := 78) 0 rfl rfl inX0 tyX0 tyX0_ok nmX0 2 (by decide) mF_X0_15 rfl (by decide +kernel) rfl rfl (Nat.le_of_ble_eq_true rfl) dX0_release_75 rfl rfl ?_
          refine z_aload_n X (pc' := 79) dX0_release_78 rfl 5 rfl rfl ?_
          refine z_iload_n X (pc' := 80) dX0_release_79 rfl 6 rfl rfl ?_
          refine z_iload_n X (pc' := 81) dX0_release_80 rfl 4 rfl rfl ?_
          refine z_iload X (pc' := 83) dX0_release_81 1 rfl rfl ?_
          refine z_callSi X (pc' := 86) (fun sz => c_without l D cI cJ sz (ml n t) 0 (ml_lt _ _) (by decide) (by omega)) (zcwS X TTg 2 mL_X0_84 mT_X0_without mN_X0 mK_X0_without rfl rfl (by decide +kernel) ⟨(Nat.le_of_ble_eq_true rfl), (Nat.le_of_ble_eq_true rfl)⟩) (wr := [(a, .inr (0, [.ref pr, .int (nI md), .long (lN (mw h (16 + w) (en (ml n t) 0 % 4))), .long (lN n)]))]) [] [0] rfl rfl rfl rfl (by decide) rfl rfl (Nat.le_of_ble_eq_true rfl) dX0_release_83 ⟨Nat.le_of_ble_eq_true rfl, Nat.le_of_ble_eq_true rfl⟩ rfl (fun r u hu => ?_)
          have hu : r = nI (st_wo (ml n t) 0) := hu
          subst hu
          refine z_wse (ws' := [(a, .inr (0, [.ref pr, .int (nI md), .long (lN (mw h (16 + w) (en (ml n t) 0 % 4))), .long (lN n)]))]) rfl ?_
          refine z_callVv X (pc' := 89) (fun sz => c_setLane l D cI cJ sz a pr md (mw h (16 + w) (en (ml n t) 0 % 4)) n t (st_wo (ml n t) 0) ht (Lok_wo hL (by omega)).2.2) (zcwV X TTg 2 mL_X0_78 mI_X0_setLane mS_X0_setLane mN_X0 mK_X0_setLane rfl rfl (by decide +kernel) ⟨(Nat.le_of_ble_eq_true rfl), (Nat.le_of_ble_eq_true rfl)⟩) (wr := []) [0] [] rfl rfl rfl rfl (by decide) 0 0 rfl rfl rfl rfl rfl (Nat.le_of_ble_eq_true rfl) dX0_release_86 ⟨Nat.le_of_ble_eq_true rfl, Nat.le_of_ble_eq_true rfl⟩ rfl (fun u hu => ?_)
          refine z_wse (ws' := [(a, .inr (0, [.ref pr, .int (nI md), .long (lN (mw h (16 + w) (en (ml n t) 0 % 4))), .long (lN (mx n t (st_wo (ml n t) 0)))]))]) rfl ?_
          refine z_iconst X (v := nI 1) (pc' := 90) dX0_release_89 (by decide) rfl ?_
          exact z_iret X (t1 := .boolean) rfl rfl (mw h (16 + w) (en (ml n t) 0 % 4), mx n t (st_wo (ml n t) 0)) (by show rOpt (st_rel md h n t w) _ _; unfold st_rel; rw [if_pos ⟨by omega, hq0⟩]; exact ⟨rfl, rfl⟩) rfl (Nat.le_of_ble_eq_true rfl) (Nat.le_of_ble_eq_true rfl) dX0_release_90
    · have hm1 : md = 1 := h4
      refine z_iload X (pc' := 22) dX0_release_20 0 rfl rfl ?_
      refine z_iconst X (v := nI 1) (pc' := 23) dX0_release_22 (by decide) rfl ?_
      refine z_mmin X (pc' := 26) mL_X0_69 mT_Math_min mN_Math mK_Math_min (by omega) (by omega) dX0_release_23 (Nat.le_of_ble_eq_true rfl) (Nat.le_of_ble_eq_true rfl) (Nat.le_of_ble_eq_true rfl) (Nat.le_of_ble_eq_true rfl) rfl ?_
      refine z_topi (y := nI 1) rfl ?_
      refine z_goto X (tgt := 31) dX0_release_26 (by decide) ?_
      refine z_istore X (lv' := [(5, .int (nI 1)), (4, .int (nI 1)), (3, .int (nI (ml n t))), (0, .ref a), (1, .int (nI t)), (2, .int (nI w))]) (pc' := 33) dX0_release_31 (by decide) rfl rfl ?_
      refine z_iconst X (v := nI 0) (pc' := 34) dX0_release_33 (by decide) rfl ?_
      refine z_istore X (lv' := [(6, .int (nI 0)), (5, .int (nI 1)), (4, .int (nI 1)), (3, .int (nI (ml n t))), (0, .ref a), (1, .int (nI t)), (2, .int (nI w))]) (pc' := 36) dX0_release_34 (by decide) rfl rfl ?_
      refine z_iload X (pc' := 38) dX0_release_36 0 rfl rfl ?_
      refine z_iload X (pc' := 40) dX0_release_38 1 rfl rfl ?_
      refine z_icmp_geN X (tgt := 97) (pc' := 43) (by omega) (by omega) dX0_release_40 (by decide) rfl (fun h8 => ?_) (fun h8 => ?_)
      · exact absurd h8 (by decide)
      · clear h8
        refine z_iload_n X (pc' := 44) dX0_release_43 rfl 3 rfl rfl ?_
        refine z_iload X (pc' := 46) dX0_release_44 0 rfl rfl ?_
        refine z_callSi X (pc' := 49) (fun sz => c_entryIn l D cI cJ sz (ml n t) 0 (ml_lt _ _) (by decide)) (zcwS X TTg 2 mL_X0_81 mT_X0_entryIn mN_X0 mK_X0_entryIn rfl rfl (by decide +kernel) ⟨(Nat.le_of_ble_eq_true rfl), (Nat.le_of_ble_eq_true rfl)⟩) (wr := [(a, .inr (0, [.ref pr, .int (nI md), .long (lN h), .long (lN n)]))]) [] [0] rfl rfl rfl rfl (by decide) rfl rfl (Nat.le_of_ble_eq_true rfl) dX0_release_46 ⟨Nat.le_of_ble_eq_true rfl, Nat.le_of_ble_eq_true rfl⟩ rfl (fun r u hu => ?_)
        have hu : r = nI (en (ml n t) 0) := hu
        subst hu
        refine z_wse (ws' := [(a, .inr (0, [.ref pr, .int (nI md), .long (lN h), .long (lN n)]))]) rfl ?_
        refine z_istore X (lv' := [(7, .int (nI (en (ml n t) 0))), (6, .int (nI 0)), (5, .int (nI 1)), (4, .int (nI 1)), (3, .int (nI (ml n t))), (0, .ref a), (1, .int (nI t)), (2, .int (nI w))]) (pc' := 51) dX0_release_49 (by decide) rfl rfl ?_
        refine z_iload X (pc' := 53) dX0_release_51 0 rfl rfl ?_
        refine z_iconst X (v := nI 2) (pc' := 54) dX0_release_53 (by decide) rfl ?_
        refine z_ishr X (pc' := 55) dX0_release_54 rfl ?_
        refine z_topi (y := nI (en (ml n t) 0 / 4)) (nb_shr2 (by have := en_lt (ml n t) 0; omega)) ?_
        refine z_iload_n X (pc' := 56) dX0_release_55 rfl 7 rfl rfl ?_
        have := en_lt (ml n t) 0
        refine z_icmp_neN X (tgt := 91) (pc' := 59) (by omega) (by omega) dX0_release_56 (by decide) rfl (fun h9 => ?_) (fun h9 => ?_)
        · have hq0 : ¬ en (ml n t) 0 / 4 = w := h9
          refine z_iinc X (v := nI 1) (lv' := [(6, .int (nI 1)), (7, .int (nI (en (ml n t) 0))), (5, .int (nI 1)), (4, .int (nI 1)), (3, .int (nI (ml n t))), (0, .ref a), (1, .int (nI t)), (2, .int (nI w))]) (k := 1) (pc' := 94) dX0_release_91 rfl (by decide) (by decide) rfl rfl ?_
          refine z_goto X (tgt := 36) dX0_release_94 (by decide) ?_
          refine z_iload X (pc' := 38) dX0_release_36 0 rfl rfl ?_
          refine z_iload X (pc' := 40) dX0_release_38 2 rfl rfl ?_
          refine z_icmp_geN X (tgt := 97) (pc' := 43) (by omega) (by omega) dX0_release_40 (by decide) rfl (fun h10 => ?_) (fun h10 => ?_)
          · clear h10
            refine z_iconst X (v := nI 0) (pc' := 98) dX0_release_97 (by decide) rfl ?_
            exact z_iret X (t1 := .boolean) rfl rfl (h, n) (by show rOpt (st_rel md h n t w) _ _; unfold st_rel; rw [if_neg (fun q => hq0 q.2), if_neg (fun q => q.1 hm1)]; exact rfl) rfl (Nat.le_of_ble_eq_true rfl) (Nat.le_of_ble_eq_true rfl) dX0_release_98
          · exact absurd h10 (by decide)
        · have hq0 : en (ml n t) 0 / 4 = w := h9
          refine z_aload_n X (pc' := 60) dX0_release_59 rfl 5 rfl rfl ?_
          refine z_aload_n X (pc' := 61) dX0_release_60 rfl 5 rfl rfl ?_
          refine z_get X (v := .long (lN h)) (pc' := 64) 0 rfl rfl inX0 2 (by decide) mF_X0_15 rfl dX0_release_61 rfl ?_
          refine z_bipush X (v := nI 16) (pc' := 66) dX0_release_64 (by decide) rfl ?_
          refine z_iload_n X (pc' := 67) dX0_release_66 rfl 7 rfl rfl ?_
          refine z_iadd X (pc' := 68) dX0_release_67 rfl ?_
          refine z_topi (y := nI (16 + w)) (nI_add _ _) ?_
          refine z_iload X (pc' := 70) dX0_release_68 0 rfl rfl ?_
          refine z_iconst X (v := nI 3) (pc' := 71) dX0_release_70 (by decide) rfl ?_
          refine z_iand X (pc' := 72) dX0_release_71 rfl ?_
          refine z_topi (y := nI (en (ml n t) 0 % 4)) nb_cb ?_
          refine z_callSNl X (pc' := 75) (fun sz => c_withItem l D cI cJ sz h (16 + w) (en (ml n t) 0 % 4) (by omega)) (zcwSN X TTg 3 mH_X0_58 mT_X3_withItem mN_X3 mK_X3_withItem rfl rfl (by decide +kernel) ⟨(Nat.le_of_ble_eq_true rfl), (Nat.le_of_ble_eq_true rfl)⟩) (wr := [(a, .inr (0, [.ref pr, .int (nI md), .long (lN h), .long (lN n)]))]) [] [0] rfl rfl rfl rfl (by decide) rfl rfl (Nat.le_of_ble_eq_true rfl) dX0_release_72 ⟨Nat.le_of_ble_eq_true rfl, Nat.le_of_ble_eq_true rfl⟩ rfl (fun r u hu => ?_)
          have hu : r = lN (mw h (16 + w) ((en (ml n t) 0 % 4) % 4)) := hu
          subst hu
          refine z_wse (ws' := [(a, .inr (0, [.ref pr, .int (nI md), .long (lN h), .long (lN n)]))]) rfl ?_
          refine z_topl (y := lN (mw h (16 + w) (en (ml n t) 0 % 4))) (by rw [Nat.mod_eq_of_lt (Nat.mod_lt _ (by decide))]) ?_
          refine z_put X (t1 := .long) (ws' := [(a, .inr (0, [.ref pr, .int (nI md), .long (lN (mw h (16 + w) (en (ml n t) 0 % 4))), .long (lN n)]))]) (pc' := 78) 0 rfl rfl inX0 tyX0 tyX0_ok nmX0 2 (by decide) mF_X0_15 rfl (by decide +kernel) rfl rfl (Nat.le_of_ble_eq_true rfl) dX0_release_75 rfl rfl ?_
          refine z_aload_n X (pc' := 79) dX0_release_78 rfl 5 rfl rfl ?_
          refine z_iload_n X (pc' := 80) dX0_release_79 rfl 6 rfl rfl ?_
          refine z_iload_n X (pc' := 81) dX0_release_80 rfl 4 rfl rfl ?_
          refine z_iload X (pc' := 83) dX0_release_81 1 rfl rfl ?_
          refine z_callSi X (pc' := 86) (fun sz => c_without l D cI cJ sz (ml n t) 0 (ml_lt _ _) (by decide) (by omega)) (zcwS X TTg 2 mL_X0_84 mT_X0_without mN_X0 mK_X0_without rfl rfl (by decide +kernel) ⟨(Nat.le_of_ble_eq_true rfl), (Nat.le_of_ble_eq_true rfl)⟩) (wr := [(a, .inr (0, [.ref pr, .int (nI md), .long (lN (mw h (16 + w) (en (ml n t) 0 % 4))), .long (lN n)]))]) [] [0] rfl rfl rfl rfl (by decide) rfl rfl (Nat.le_of_ble_eq_true rfl) dX0_release_83 ⟨Nat.le_of_ble_eq_true rfl, Nat.le_of_ble_eq_true rfl⟩ rfl (fun r u hu => ?_)
          have hu : r = nI (st_wo (ml n t) 0) := hu
          subst hu
          refine z_wse (ws' := [(a, .inr (0, [.ref pr, .int (nI md), .long (lN (mw h (16 + w) (en (ml n t) 0 % 4))), .long (lN n)]))]) rfl ?_
          refine z_callVv X (pc' := 89) (fun sz => c_setLane l D cI cJ sz a pr md (mw h (16 + w) (en (ml n t) 0 % 4)) n t (st_wo (ml n t) 0) ht (Lok_wo hL (by omega)).2.2) (zcwV X TTg 2 mL_X0_78 mI_X0_setLane mS_X0_setLane mN_X0 mK_X0_setLane rfl rfl (by decide +kernel) ⟨(Nat.le_of_ble_eq_true rfl), (Nat.le_of_ble_eq_true rfl)⟩) (wr := []) [0] [] rfl rfl rfl rfl (by decide) 0 0 rfl rfl rfl rfl rfl (Nat.le_of_ble_eq_true rfl) dX0_release_86 ⟨Nat.le_of_ble_eq_true rfl, Nat.le_of_ble_eq_true rfl⟩ rfl (fun u hu => ?_)
          refine z_wse (ws' := [(a, .inr (0, [.ref pr, .int (nI md), .long (lN (mw h (16 + w) (en (ml n t) 0 % 4))), .long (lN (mx n t (st_wo (ml n t) 0)))]))]) rfl ?_
          refine z_iconst X (v := nI 1) (pc' := 90) dX0_release_89 (by decide) rfl ?_
          exact z_iret X (t1 := .boolean) rfl rfl (mw h (16 + w) (en (ml n t) 0 % 4), mx n t (st_wo (ml n t) 0)) (by show rOpt (st_rel md h n t w) _ _; unfold st_rel; rw [if_pos ⟨by omega, hq0⟩]; exact ⟨rfl, rfl⟩) rfl (Nat.le_of_ble_eq_true rfl) (Nat.le_of_ble_eq_true rfl) dX0_release_90
  · refine z_topi (y := nI 2) (by rw [hwt]) ?_
    refine z_istore X (lv' := [(4, .int (nI 2)), (3, .int (nI (ml n t))), (0, .ref a), (1, .int (nI t)), (2, .int (nI w))]) (pc' := 12) dX0_release_10 (by decide) rfl rfl ?_
    refine z_aload_n X (pc' := 13) dX0_release_12 rfl 2 rfl rfl ?_
    refine z_get X (v := .int (nI md)) (pc' := 16) 0 rfl rfl inX0 1 (by decide) mF_X0_9 rfl dX0_release_13 rfl ?_
    refine z_iconst X (v := nI 1) (pc' := 17) dX0_release_16 (by decide) rfl ?_
    refine z_icmp_neN X (tgt := 29) (pc' := 20) (by omega) (by omega) dX0_release_17 (by decide) rfl (fun h11 => ?_) (fun h11 => ?_)
    · have hm1 : ¬ md = 1 := h11
      refine z_iload X (pc' := 31) dX0_release_29 0 rfl rfl ?_
      refine z_istore X (lv' := [(5, .int (nI 2)), (4, .int (nI 2)), (3, .int (nI (ml n t))), (0, .ref a), (1, .int (nI t)), (2, .int (nI w))]) (pc' := 33) dX0_release_31 (by decide) rfl rfl ?_
      refine z_iconst X (v := nI 0) (pc' := 34) dX0_release_33 (by decide) rfl ?_
      refine z_istore X (lv' := [(6, .int (nI 0)), (5, .int (nI 2)), (4, .int (nI 2)), (3, .int (nI (ml n t))), (0, .ref a), (1, .int (nI t)), (2, .int (nI w))]) (pc' := 36) dX0_release_34 (by decide) rfl rfl ?_
      refine z_iload X (pc' := 38) dX0_release_36 0 rfl rfl ?_
      refine z_iload X (pc' := 40) dX0_release_38 1 rfl rfl ?_
      refine z_icmp_geN X (tgt := 97) (pc' := 43) (by omega) (by omega) dX0_release_40 (by decide) rfl (fun h12 => ?_) (fun h12 => ?_)
      · exact absurd h12 (by decide)
      · clear h12
        refine z_iload_n X (pc' := 44) dX0_release_43 rfl 3 rfl rfl ?_
        refine z_iload X (pc' := 46) dX0_release_44 0 rfl rfl ?_
        refine z_callSi X (pc' := 49) (fun sz => c_entryIn l D cI cJ sz (ml n t) 0 (ml_lt _ _) (by decide)) (zcwS X TTg 2 mL_X0_81 mT_X0_entryIn mN_X0 mK_X0_entryIn rfl rfl (by decide +kernel) ⟨(Nat.le_of_ble_eq_true rfl), (Nat.le_of_ble_eq_true rfl)⟩) (wr := [(a, .inr (0, [.ref pr, .int (nI md), .long (lN h), .long (lN n)]))]) [] [0] rfl rfl rfl rfl (by decide) rfl rfl (Nat.le_of_ble_eq_true rfl) dX0_release_46 ⟨Nat.le_of_ble_eq_true rfl, Nat.le_of_ble_eq_true rfl⟩ rfl (fun r u hu => ?_)
        have hu : r = nI (en (ml n t) 0) := hu
        subst hu
        refine z_wse (ws' := [(a, .inr (0, [.ref pr, .int (nI md), .long (lN h), .long (lN n)]))]) rfl ?_
        refine z_istore X (lv' := [(7, .int (nI (en (ml n t) 0))), (6, .int (nI 0)), (5, .int (nI 2)), (4, .int (nI 2)), (3, .int (nI (ml n t))), (0, .ref a), (1, .int (nI t)), (2, .int (nI w))]) (pc' := 51) dX0_release_49 (by decide) rfl rfl ?_
        refine z_iload X (pc' := 53) dX0_release_51 0 rfl rfl ?_
        refine z_iconst X (v := nI 2) (pc' := 54) dX0_release_53 (by decide) rfl ?_
        refine z_ishr X (pc' := 55) dX0_release_54 rfl ?_
        refine z_topi (y := nI (en (ml n t) 0 / 4)) (nb_shr2 (by have := en_lt (ml n t) 0; omega)) ?_
        refine z_iload_n X (pc' := 56) dX0_release_55 rfl 7 rfl rfl ?_
        have := en_lt (ml n t) 0
        refine z_icmp_neN X (tgt := 91) (pc' := 59) (by omega) (by omega) dX0_release_56 (by decide) rfl (fun h13 => ?_) (fun h13 => ?_)
        · have hq0 : ¬ en (ml n t) 0 / 4 = w := h13
          refine z_iinc X (v := nI 1) (lv' := [(6, .int (nI 1)), (7, .int (nI (en (ml n t) 0))), (5, .int (nI 2)), (4, .int (nI 2)), (3, .int (nI (ml n t))), (0, .ref a), (1, .int (nI t)), (2, .int (nI w))]) (k := 1) (pc' := 94) dX0_release_91 rfl (by decide) (by decide) rfl rfl ?_
          refine z_goto X (tgt := 36) dX0_release_94 (by decide) ?_
          refine z_iload X (pc' := 38) dX0_release_36 0 rfl rfl ?_
          refine z_iload X (pc' := 40) dX0_release_38 2 rfl rfl ?_
          refine z_icmp_geN X (tgt := 97) (pc' := 43) (by omega) (by omega) dX0_release_40 (by decide) rfl (fun h14 => ?_) (fun h14 => ?_)
          · exact absurd h14 (by decide)
          · clear h14
            refine z_iload_n X (pc' := 44) dX0_release_43 rfl 4 rfl rfl ?_
            refine z_iload X (pc' := 46) dX0_release_44 0 rfl rfl ?_
            refine z_callSi X (pc' := 49) (fun sz => c_entryIn l D cI cJ sz (ml n t) 1 (ml_lt _ _) (by decide)) (zcwS X TTg 2 mL_X0_81 mT_X0_entryIn mN_X0 mK_X0_entryIn rfl rfl (by decide +kernel) ⟨(Nat.le_of_ble_eq_true rfl), (Nat.le_of_ble_eq_true rfl)⟩) (wr := [(a, .inr (0, [.ref pr, .int (nI md), .long (lN h), .long (lN n)]))]) [] [0] rfl rfl rfl rfl (by decide) rfl rfl (Nat.le_of_ble_eq_true rfl) dX0_release_46 ⟨Nat.le_of_ble_eq_true rfl, Nat.le_of_ble_eq_true rfl⟩ rfl (fun r u hu => ?_)
            have hu : r = nI (en (ml n t) 1) := hu
            subst hu
            refine z_wse (ws' := [(a, .inr (0, [.ref pr, .int (nI md), .long (lN h), .long (lN n)]))]) rfl ?_
            refine z_istore X (lv' := [(7, .int (nI (en (ml n t) 1))), (6, .int (nI 1)), (5, .int (nI 2)), (4, .int (nI 2)), (3, .int (nI (ml n t))), (0, .ref a), (1, .int (nI t)), (2, .int (nI w))]) (pc' := 51) dX0_release_49 (by decide) rfl rfl ?_
            refine z_iload X (pc' := 53) dX0_release_51 0 rfl rfl ?_
            refine z_iconst X (v := nI 2) (pc' := 54) dX0_release_53 (by decide) rfl ?_
            refine z_ishr X (pc' := 55) dX0_release_54 rfl ?_
            refine z_topi (y := nI (en (ml n t) 1 / 4)) (nb_shr2 (by have := en_lt (ml n t) 1; omega)) ?_
            refine z_iload_n X (pc' := 56) dX0_release_55 rfl 7 rfl rfl ?_
            have := en_lt (ml n t) 1
            refine z_icmp_neN X (tgt := 91) (pc' := 59) (by omega) (by omega) dX0_release_56 (by decide) rfl (fun h15 => ?_) (fun h15 => ?_)
            · have hq1 : ¬ en (ml n t) 1 / 4 = w := h15
              refine z_iinc X (v := nI 2) (lv' := [(6, .int (nI 2)), (7, .int (nI (en (ml n t) 1))), (5, .int (nI 2)), (4, .int (nI 2)), (3, .int (nI (ml n t))), (0, .ref a), (1, .int (nI t)), (2, .int (nI w))]) (k := 1) (pc' := 94) dX0_release_91 rfl (by decide) (by decide) rfl rfl ?_
              refine z_goto X (tgt := 36) dX0_release_94 (by decide) ?_
              refine z_iload X (pc' := 38) dX0_release_36 0 rfl rfl ?_
              refine z_iload X (pc' := 40) dX0_release_38 2 rfl rfl ?_
              refine z_icmp_geN X (tgt := 97) (pc' := 43) (by omega) (by omega) dX0_release_40 (by decide) rfl (fun h16 => ?_) (fun h16 => ?_)
              · clear h16
                refine z_iconst X (v := nI 0) (pc' := 98) dX0_release_97 (by decide) rfl ?_
                exact z_iret X (t1 := .boolean) rfl rfl (h, n) (by show rOpt (st_rel md h n t w) _ _; unfold st_rel; rw [if_neg (fun q => hq0 q.2), if_neg (fun q => hq1 q.2.2)]; exact rfl) rfl (Nat.le_of_ble_eq_true rfl) (Nat.le_of_ble_eq_true rfl) dX0_release_98
              · exact absurd h16 (by decide)
            · have hq1 : en (ml n t) 1 / 4 = w := h15
              refine z_aload_n X (pc' := 60) dX0_release_59 rfl 5 rfl rfl ?_
              refine z_aload_n X (pc' := 61) dX0_release_60 rfl 5 rfl rfl ?_
              refine z_get X (v := .long (lN h)) (pc' := 64) 0 rfl rfl inX0 2 (by decide) mF_X0_15 rfl dX0_release_61 rfl ?_
              refine z_bipush X (v := nI 16) (pc' := 66) dX0_release_64 (by decide) rfl ?_
              refine z_iload_n X (pc' := 67) dX0_release_66 rfl 7 rfl rfl ?_
              refine z_iadd X (pc' := 68) dX0_release_67 rfl ?_
              refine z_topi (y := nI (16 + w)) (nI_add _ _) ?_
              refine z_iload X (pc' := 70) dX0_release_68 0 rfl rfl ?_
              refine z_iconst X (v := nI 3) (pc' := 71) dX0_release_70 (by decide) rfl ?_
              refine z_iand X (pc' := 72) dX0_release_71 rfl ?_
              refine z_topi (y := nI (en (ml n t) 1 % 4)) nb_cb ?_
              refine z_callSNl X (pc' := 75) (fun sz => c_withItem l D cI cJ sz h (16 + w) (en (ml n t) 1 % 4) (by omega)) (zcwSN X TTg 3 mH_X0_58 mT_X3_withItem mN_X3 mK_X3_withItem rfl rfl (by decide +kernel) ⟨(Nat.le_of_ble_eq_true rfl), (Nat.le_of_ble_eq_true rfl)⟩) (wr := [(a, .inr (0, [.ref pr, .int (nI md), .long (lN h), .long (lN n)]))]) [] [0] rfl rfl rfl rfl (by decide) rfl rfl (Nat.le_of_ble_eq_true rfl) dX0_release_72 ⟨Nat.le_of_ble_eq_true rfl, Nat.le_of_ble_eq_true rfl⟩ rfl (fun r u hu => ?_)
              have hu : r = lN (mw h (16 + w) ((en (ml n t) 1 % 4) % 4)) := hu
              subst hu
              refine z_wse (ws' := [(a, .inr (0, [.ref pr, .int (nI md), .long (lN h), .long (lN n)]))]) rfl ?_
              refine z_topl (y := lN (mw h (16 + w) (en (ml n t) 1 % 4))) (by rw [Nat.mod_eq_of_lt (Nat.mod_lt _ (by decide))]) ?_
              refine z_put X (t1 := .long) (ws' := [(a, .inr (0, [.ref pr, .int (nI md), .long (lN (mw h (16 + w) (en (ml n t) 1 % 4))), .long (lN n)]))]) (pc' := 78) 0 rfl rfl inX0 tyX0 tyX0_ok nmX0 2 (by decide) mF_X0_15 rfl (by decide +kernel) rfl rfl (Nat.le_of_ble_eq_true rfl) dX0_release_75 rfl rfl ?_
              refine z_aload_n X (pc' := 79) dX0_release_78 rfl 5 rfl rfl ?_
              refine z_iload_n X (pc' := 80) dX0_release_79 rfl 6 rfl rfl ?_
              refine z_iload_n X (pc' := 81) dX0_release_80 rfl 4 rfl rfl ?_
              refine z_iload X (pc' := 83) dX0_release_81 1 rfl rfl ?_
              refine z_callSi X (pc' := 86) (fun sz => c_without l D cI cJ sz (ml n t) 1 (ml_lt _ _) (by decide) (by omega)) (zcwS X TTg 2 mL_X0_84 mT_X0_without mN_X0 mK_X0_without rfl rfl (by decide +kernel) ⟨(Nat.le_of_ble_eq_true rfl), (Nat.le_of_ble_eq_true rfl)⟩) (wr := [(a, .inr (0, [.ref pr, .int (nI md), .long (lN (mw h (16 + w) (en (ml n t) 1 % 4))), .long (lN n)]))]) [] [0] rfl rfl rfl rfl (by decide) rfl rfl (Nat.le_of_ble_eq_true rfl) dX0_release_83 ⟨Nat.le_of_ble_eq_true rfl, Nat.le_of_ble_eq_true rfl⟩ rfl (fun r u hu => ?_)
              have hu : r = nI (st_wo (ml n t) 1) := hu
              subst hu
              refine z_wse (ws' := [(a, .inr (0, [.ref pr, .int (nI md), .long (lN (mw h (16 + w) (en (ml n t) 1 % 4))), .long (lN n)]))]) rfl ?_
              refine z_callVv X (pc' := 89) (fun sz => c_setLane l D cI cJ sz a pr md (mw h (16 + w) (en (ml n t) 1 % 4)) n t (st_wo (ml n t) 1) ht (Lok_wo hL (by omega)).2.2) (zcwV X TTg 2 mL_X0_78 mI_X0_setLane mS_X0_setLane mN_X0 mK_X0_setLane rfl rfl (by decide +kernel) ⟨(Nat.le_of_ble_eq_true rfl), (Nat.le_of_ble_eq_true rfl)⟩) (wr := []) [0] [] rfl rfl rfl rfl (by decide) 0 0 rfl rfl rfl rfl rfl (Nat.le_of_ble_eq_true rfl) dX0_release_86 ⟨Nat.le_of_ble_eq_true rfl, Nat.le_of_ble_eq_true rfl⟩ rfl (fun u hu => ?_)
              refine z_wse (ws' := [(a, .inr (0, [.ref pr, .int (nI md), .long (lN (mw h (16 + w) (en (ml n t) 1 % 4))), .long (lN (mx n t (st_wo (ml n t) 1)))]))]) rfl ?_
              refine z_iconst X (v := nI 1) (pc' := 90) dX0_release_89 (by decide) rfl ?_
              exact z_iret X (t1 := .boolean) rfl rfl (mw h (16 + w) (en (ml n t) 1 % 4), mx n t (st_wo (ml n t) 1)) (by show rOpt (st_rel md h n t w) _ _; unfold st_rel; rw [if_neg (fun q => hq0 q.2), if_pos ⟨hm1, by omega, hq1⟩]; exact ⟨rfl, rfl⟩) rfl (Nat.le_of_ble_eq_true rfl) (Nat.le_of_ble_eq_true rfl) dX0_release_90
        · have hq0 : en (ml n t) 0 / 4 = w := h13
          refine z_aload_n X (pc' := 60) dX0_release_59 rfl 5 rfl rfl ?_
          refine z_aload_n X (pc' := 61) dX0_release_60 rfl 5 rfl rfl ?_
          refine z_get X (v := .long (lN h)) (pc' := 64) 0 rfl rfl inX0 2 (by decide) mF_X0_15 rfl dX0_release_61 rfl ?_
          refine z_bipush X (v := nI 16) (pc' := 66) dX0_release_64 (by decide) rfl ?_
          refine z_iload_n X (pc' := 67) dX0_release_66 rfl 7 rfl rfl ?_
          refine z_iadd X (pc' := 68) dX0_release_67 rfl ?_
          refine z_topi (y := nI (16 + w)) (nI_add _ _) ?_
          refine z_iload X (pc' := 70) dX0_release_68 0 rfl rfl ?_
          refine z_iconst X (v := nI 3) (pc' := 71) dX0_release_70 (by decide) rfl ?_
          refine z_iand X (pc' := 72) dX0_release_71 rfl ?_
          refine z_topi (y := nI (en (ml n t) 0 % 4)) nb_cb ?_
          refine z_callSNl X (pc' := 75) (fun sz => c_withItem l D cI cJ sz h (16 + w) (en (ml n t) 0 % 4) (by omega)) (zcwSN X TTg 3 mH_X0_58 mT_X3_withItem mN_X3 mK_X3_withItem rfl rfl (by decide +kernel) ⟨(Nat.le_of_ble_eq_true rfl), (Nat.le_of_ble_eq_true rfl)⟩) (wr := [(a, .inr (0, [.ref pr, .int (nI md), .long (lN h), .long (lN n)]))]) [] [0] rfl rfl rfl rfl (by decide) rfl rfl (Nat.le_of_ble_eq_true rfl) dX0_release_72 ⟨Nat.le_of_ble_eq_true rfl, Nat.le_of_ble_eq_true rfl⟩ rfl (fun r u hu => ?_)
          have hu : r = lN (mw h (16 + w) ((en (ml n t) 0 % 4) % 4)) := hu
          subst hu
          refine z_wse (ws' := [(a, .inr (0, [.ref pr, .int (nI md), .long (lN h), .long (lN n)]))]) rfl ?_
          refine z_topl (y := lN (mw h (16 + w) (en (ml n t) 0 % 4))) (by rw [Nat.mod_eq_of_lt (Nat.mod_lt _ (by decide))]) ?_
          refine z_put X (t1 := .long) (ws' := [(a, .inr (0, [.ref pr, .int (nI md), .long (lN (mw h (16 + w) (en (ml n t) 0 % 4))), .long (lN n)]))]) (pc' := 78) 0 rfl rfl inX0 tyX0 tyX0_ok nmX0 2 (by decide) mF_X0_15 rfl (by decide +kernel) rfl rfl (Nat.le_of_ble_eq_true rfl) dX0_release_75 rfl rfl ?_
          refine z_aload_n X (pc' := 79) dX0_release_78 rfl 5 rfl rfl ?_
          refine z_iload_n X (pc' := 80) dX0_release_79 rfl 6 rfl rfl ?_
          refine z_iload_n X (pc' := 81) dX0_release_80 rfl 4 rfl rfl ?_
          refine z_iload X (pc' := 83) dX0_release_81 1 rfl rfl ?_
          refine z_callSi X (pc' := 86) (fun sz => c_without l D cI cJ sz (ml n t) 0 (ml_lt _ _) (by decide) (by omega)) (zcwS X TTg 2 mL_X0_84 mT_X0_without mN_X0 mK_X0_without rfl rfl (by decide +kernel) ⟨(Nat.le_of_ble_eq_true rfl), (Nat.le_of_ble_eq_true rfl)⟩) (wr := [(a, .inr (0, [.ref pr, .int (nI md), .long (lN (mw h (16 + w) (en (ml n t) 0 % 4))), .long (lN n)]))]) [] [0] rfl rfl rfl rfl (by decide) rfl rfl (Nat.le_of_ble_eq_true rfl) dX0_release_83 ⟨Nat.le_of_ble_eq_true rfl, Nat.le_of_ble_eq_true rfl⟩ rfl (fun r u hu => ?_)
          have hu : r = nI (st_wo (ml n t) 0) := hu
          subst hu
          refine z_wse (ws' := [(a, .inr (0, [.ref pr, .int (nI md), .long (lN (mw h (16 + w) (en (ml n t) 0 % 4))), .long (lN n)]))]) rfl ?_
          refine z_callVv X (pc' := 89) (fun sz => c_setLane l D cI cJ sz a pr md (mw h (16 + w) (en (ml n t) 0 % 4)) n t (st_wo (ml n t) 0) ht (Lok_wo hL (by omega)).2.2) (zcwV X TTg 2 mL_X0_78 mI_X0_setLane mS_X0_setLane mN_X0 mK_X0_setLane rfl rfl (by decide +kernel) ⟨(Nat.le_of_ble_eq_true rfl), (Nat.le_of_ble_eq_true rfl)⟩) (wr := []) [0] [] rfl rfl rfl rfl (by decide) 0 0 rfl rfl rfl rfl rfl (Nat.le_of_ble_eq_true rfl) dX0_release_86 ⟨Nat.le_of_ble_eq_true rfl, Nat.le_of_ble_eq_true rfl⟩ rfl (fun u hu => ?_)
          refine z_wse (ws' := [(a, .inr (0, [.ref pr, .int (nI md), .long (lN (mw h (16 + w) (en (ml n t) 0 % 4))), .long (lN (mx n t (st_wo (ml n t) 0)))]))]) rfl ?_
          refine z_iconst X (v := nI 1) (pc' := 90) dX0_release_89 (by decide) rfl ?_
          exact z_iret X (t1 := .boolean) rfl rfl (mw h (16 + w) (en (ml n t) 0 % 4), mx n t (st_wo (ml n t) 0)) (by show rOpt (st_rel md h n t w) _ _; unfold st_rel; rw [if_pos ⟨by omega, hq0⟩]; exact ⟨rfl, rfl⟩) rfl (Nat.le_of_ble_eq_true rfl) (Nat.le_of_ble_eq_true rfl) dX0_release_90
    · have hm1 : md = 1 := h11
      refine z_iload X (pc' := 22) dX0_release_20 0 rfl rfl ?_
      refine z_iconst X (v := nI 1) (pc' := 23) dX0_release_22 (by decide) rfl ?_
      refine z_mmin X (pc' := 26) mL_X0_69 mT_Math_min mN_Math mK_Math_min (by omega) (by omega) dX0_release_23 (Nat.le_of_ble_eq_true rfl) (Nat.le_of_ble_eq_true rfl) (Nat.le_of_ble_eq_true rfl) (Nat.le_of_ble_eq_true rfl) rfl ?_
      refine z_topi (y := nI 1) rfl ?_
      refine z_goto X (tgt := 31) dX0_release_26 (by decide) ?_
      refine z_istore X (lv' := [(5, .int (nI 1)), (4, .int (nI 2)), (3, .int (nI (ml n t))), (0, .ref a), (1, .int (nI t)), (2, .int (nI w))]) (pc' := 33) dX0_release_31 (by decide) rfl rfl ?_
      refine z_iconst X (v := nI 0) (pc' := 34) dX0_release_33 (by decide) rfl ?_
      refine z_istore X (lv' := [(6, .int (nI 0)), (5, .int (nI 1)), (4, .int (nI 2)), (3, .int (nI (ml n t))), (0, .ref a), (1, .int (nI t)), (2, .int (nI w))]) (pc' := 36) dX0_release_34 (by decide) rfl rfl ?_
      refine z_iload X (pc' := 38) dX0_release_36 0 rfl rfl ?_
      refine z_iload X (pc' := 40) dX0_release_38 1 rfl rfl ?_
      refine z_icmp_geN X (tgt := 97) (pc' := 43) (by omega) (by omega) dX0_release_40 (by decide) rfl (fun h17 => ?_) (fun h17 => ?_)
      · exact absurd h17 (by decide)
      · clear h17
        refine z_iload_n X (pc' := 44) dX0_release_43 rfl 3 rfl rfl ?_
        refine z_iload X (pc' := 46) dX0_release_44 0 rfl rfl ?_
        refine z_callSi X (pc' := 49) (fun sz => c_entryIn l D cI cJ sz (ml n t) 0 (ml_lt _ _) (by decide)) (zcwS X TTg 2 mL_X0_81 mT_X0_entryIn mN_X0 mK_X0_entryIn rfl rfl (by decide +kernel) ⟨(Nat.le_of_ble_eq_true rfl), (Nat.le_of_ble_eq_true rfl)⟩) (wr := [(a, .inr (0, [.ref pr, .int (nI md), .long (lN h), .long (lN n)]))]) [] [0] rfl rfl rfl rfl (by decide) rfl rfl (Nat.le_of_ble_eq_true rfl) dX0_release_46 ⟨Nat.le_of_ble_eq_true rfl, Nat.le_of_ble_eq_true rfl⟩ rfl (fun r u hu => ?_)
        have hu : r = nI (en (ml n t) 0) := hu
        subst hu
        refine z_wse (ws' := [(a, .inr (0, [.ref pr, .int (nI md), .long (lN h), .long (lN n)]))]) rfl ?_
        refine z_istore X (lv' := [(7, .int (nI (en (ml n t) 0))), (6, .int (nI 0)), (5, .int (nI 1)), (4, .int (nI 2)), (3, .int (nI (ml n t))), (0, .ref a), (1, .int (nI t)), (2, .int (nI w))]) (pc' := 51) dX0_release_49 (by decide) rfl rfl ?_
        refine z_iload X (pc' := 53) dX0_release_51 0 rfl rfl ?_
        refine z_iconst X (v := nI 2) (pc' := 54) dX0_release_53 (by decide) rfl ?_
        refine z_ishr X (pc' := 55) dX0_release_54 rfl ?_
        refine z_topi (y := nI (en (ml n t) 0 / 4)) (nb_shr2 (by have := en_lt (ml n t) 0; omega)) ?_
        refine z_iload_n X (pc' := 56) dX0_release_55 rfl 7 rfl rfl ?_
        have := en_lt (ml n t) 0
        refine z_icmp_neN X (tgt := 91) (pc' := 59) (by omega) (by omega) dX0_release_56 (by decide) rfl (fun h18 => ?_) (fun h18 => ?_)
        · have hq0 : ¬ en (ml n t) 0 / 4 = w := h18
          refine z_iinc X (v := nI 1) (lv' := [(6, .int (nI 1)), (7, .int (nI (en (ml n t) 0))), (5, .int (nI 1)), (4, .int (nI 2)), (3, .int (nI (ml n t))), (0, .ref a), (1, .int (nI t)), (2, .int (nI w))]) (k := 1) (pc' := 94) dX0_release_91 rfl (by decide) (by decide) rfl rfl ?_
          refine z_goto X (tgt := 36) dX0_release_94 (by decide) ?_
          refine z_iload X (pc' := 38) dX0_release_36 0 rfl rfl ?_
          refine z_iload X (pc' := 40) dX0_release_38 2 rfl rfl ?_
          refine z_icmp_geN X (tgt := 97) (pc' := 43) (by omega) (by omega) dX0_release_40 (by decide) rfl (fun h19 => ?_) (fun h19 => ?_)
          · clear h19
            refine z_iconst X (v := nI 0) (pc' := 98) dX0_release_97 (by decide) rfl ?_
            exact z_iret X (t1 := .boolean) rfl rfl (h, n) (by show rOpt (st_rel md h n t w) _ _; unfold st_rel; rw [if_neg (fun q => hq0 q.2), if_neg (fun q => q.1 hm1)]; exact rfl) rfl (Nat.le_of_ble_eq_true rfl) (Nat.le_of_ble_eq_true rfl) dX0_release_98
          · exact absurd h19 (by decide)
        · have hq0 : en (ml n t) 0 / 4 = w := h18
          refine z_aload_n X (pc' := 60) dX0_release_59 rfl 5 rfl rfl ?_
          refine z_aload_n X (pc' := 61) dX0_release_60 rfl 5 rfl rfl ?_
          refine z_get X (v := .long (lN h)) (pc' := 64) 0 rfl rfl inX0 2 (by decide) mF_X0_15 rfl dX0_release_61 rfl ?_
          refine z_bipush X (v := nI 16) (pc' := 66) dX0_release_64 (by decide) rfl ?_
          refine z_iload_n X (pc' := 67) dX0_release_66 rfl 7 rfl rfl ?_
          refine z_iadd X (pc' := 68) dX0_release_67 rfl ?_
          refine z_topi (y := nI (16 + w)) (nI_add _ _) ?_
          refine z_iload X (pc' := 70) dX0_release_68 0 rfl rfl ?_
          refine z_iconst X (v := nI 3) (pc' := 71) dX0_release_70 (by decide) rfl ?_
          refine z_iand X (pc' := 72) dX0_release_71 rfl ?_
          refine z_topi (y := nI (en (ml n t) 0 % 4)) nb_cb ?_
          refine z_callSNl X (pc' := 75) (fun sz => c_withItem l D cI cJ sz h (16 + w) (en (ml n t) 0 % 4) (by omega)) (zcwSN X TTg 3 mH_X0_58 mT_X3_withItem mN_X3 mK_X3_withItem rfl rfl (by decide +kernel) ⟨(Nat.le_of_ble_eq_true rfl), (Nat.le_of_ble_eq_true rfl)⟩) (wr := [(a, .inr (0, [.ref pr, .int (nI md), .long (lN h), .long (lN n)]))]) [] [0] rfl rfl rfl rfl (by decide) rfl rfl (Nat.le_of_ble_eq_true rfl) dX0_release_72 ⟨Nat.le_of_ble_eq_true rfl, Nat.le_of_ble_eq_true rfl⟩ rfl (fun r u hu => ?_)
          have hu : r = lN (mw h (16 + w) ((en (ml n t) 0 % 4) % 4)) := hu
          subst hu
          refine z_wse (ws' := [(a, .inr (0, [.ref pr, .int (nI md), .long (lN h), .long (lN n)]))]) rfl ?_
          refine z_topl (y := lN (mw h (16 + w) (en (ml n t) 0 % 4))) (by rw [Nat.mod_eq_of_lt (Nat.mod_lt _ (by decide))]) ?_
          refine z_put X (t1 := .long) (ws' := [(a, .inr (0, [.ref pr, .int (nI md), .long (lN (mw h (16 + w) (en (ml n t) 0 % 4))), .long (lN n)]))]) (pc' := 78) 0 rfl rfl inX0 tyX0 tyX0_ok nmX0 2 (by decide) mF_X0_15 rfl (by decide +kernel) rfl rfl (Nat.le_of_ble_eq_true rfl) dX0_release_75 rfl rfl ?_
          refine z_aload_n X (pc' := 79) dX0_release_78 rfl 5 rfl rfl ?_
          refine z_iload_n X (pc' := 80) dX0_release_79 rfl 6 rfl rfl ?_
          refine z_iload_n X (pc' := 81) dX0_release_80 rfl 4 rfl rfl ?_
          refine z_iload X (pc' := 83) dX0_release_81 1 rfl rfl ?_
          refine z_callSi X (pc' := 86) (fun sz => c_without l D cI cJ sz (ml n t) 0 (ml_lt _ _) (by decide) (by omega)) (zcwS X TTg 2 mL_X0_84 mT_X0_without mN_X0 mK_X0_without rfl rfl (by decide +kernel) ⟨(Nat.le_of_ble_eq_true rfl), (Nat.le_of_ble_eq_true rfl)⟩) (wr := [(a, .inr (0, [.ref pr, .int (nI md), .long (lN (mw h (16 + w) (en (ml n t) 0 % 4))), .long (lN n)]))]) [] [0] rfl rfl rfl rfl (by decide) rfl rfl (Nat.le_of_ble_eq_true rfl) dX0_release_83 ⟨Nat.le_of_ble_eq_true rfl, Nat.le_of_ble_eq_true rfl⟩ rfl (fun r u hu => ?_)
          have hu : r = nI (st_wo (ml n t) 0) := hu
          subst hu
          refine z_wse (ws' := [(a, .inr (0, [.ref pr, .int (nI md), .long (lN (mw h (16 + w) (en (ml n t) 0 % 4))), .long (lN n)]))]) rfl ?_
          refine z_callVv X (pc' := 89) (fun sz => c_setLane l D cI cJ sz a pr md (mw h (16 + w) (en (ml n t) 0 % 4)) n t (st_wo (ml n t) 0) ht (Lok_wo hL (by omega)).2.2) (zcwV X TTg 2 mL_X0_78 mI_X0_setLane mS_X0_setLane mN_X0 mK_X0_setLane rfl rfl (by decide +kernel) ⟨(Nat.le_of_ble_eq_true rfl), (Nat.le_of_ble_eq_true rfl)⟩) (wr := []) [0] [] rfl rfl rfl rfl (by decide) 0 0 rfl rfl rfl rfl rfl (Nat.le_of_ble_eq_true rfl) dX0_release_86 ⟨Nat.le_of_ble_eq_true rfl, Nat.le_of_ble_eq_true rfl⟩ rfl (fun u hu => ?_)
          refine z_wse (ws' := [(a, .inr (0, [.ref pr, .int (nI md), .long (lN (mw h (16 + w) (en (ml n t) 0 % 4))), .long (lN (mx n t (st_wo (ml n t) 0)))]))]) rfl ?_
          refine z_iconst X (v := nI 1) (pc' := 90) dX0_release_89 (by decide) rfl ?_
          exact z_iret X (t1 := .boolean) rfl rfl (mw h (16 + w) (en (ml n t) 0 % 4), mx n t (st_wo (ml n t) 0)) (by show rOpt (st_rel md h n t w) _ _; unfold st_rel; rw [if_pos ⟨by omega, hq0⟩]; exact ⟨rfl, rfl⟩) rfl (Nat.le_of_ble_eq_true rfl) (Nat.le_of_ble_eq_true rfl) dX0_release_90
/-- the arrays hold the threads' instructions -/
def PRep (P : Nat → List Nat) (f g : Nat → Int32) : Prop := ∀ t, t < 4 → g t = nI (P t).length ∧ ∀ i k, (P t)[i]? = some k → f (t * 6 + i) = nI k
set_option maxHeartbeats 4000000 in
set_option maxRecDepth 100000 in
/-- how many instructions a thread has -/
theorem c_lengthOf (l : Launch) (D : va_G) (cI cJ : ClassId) (sz : Nat) (pr cd ln tot t len : Nat) (g : Nat → Int32) (ht : t < 4) (hg : g t = nI len) : KI l D cI cJ yX1_lengthOf cX1_lengthOf 2 (some .int) 0 0 0 0 [.ref pr, .int (nI t)] [(pr, .inr (1, [.ref cd, .ref ln, .int (nI tot)])), (ln, .inl (cI, 4, .inl g))] sz (S := Unit) (fun r _ => r = nI len) (fun _ => [(pr, .inr (1, [.ref cd, .ref ln, .int (nI tot)])), (ln, .inl (cI, 4, .inl g))]) := by
  refine zMetI (lv := [(0, .ref pr), (1, .int (nI t))]) NS0_ok (by decide) rfl (Nat.le_of_ble_eq_true rfl) rfl ?_
  intro p e s m args below meth c A X hin hA
  refine z_aload_n X (pc' := 1) dX1_lengthOf_0 rfl 0 rfl rfl ?_
  refine z_get X (v := .ref ln) (pc' := 4) 0 rfl rfl inX1 1 (by decide) mF_X1_15 rfl dX1_lengthOf_1 rfl ?_
  refine z_iload_n X (pc' := 5) dX1_lengthOf_4 rfl 1 rfl rfl ?_
  refine z_iald X (pc' := 6) 1 0 rfl rfl (by omega) (by omega) dX1_lengthOf_5 rfl ?_
  refine z_topi (y := nI len) hg ?_
  exact z_iret X (t1 := .int) rfl rfl () (rfl) rfl (Nat.le_of_ble_eq_true rfl) (Nat.le_of_ble_eq_true rfl) dX1_lengthOf_6
set_option maxHeartbeats 4000000 in
set_option maxRecDepth 100000 in
/-- an instruction of a thread -/
theorem c_codeAt (l : Launch) (D : va_G) (cI cJ : ClassId) (sz : Nat) (pr cd ln tot t i k : Nat) (f : Nat → Int32) (ht : t < 4) (hi : i < 6) (hf : f (t * 6 + i) = nI k) : KI l D cI cJ yX1_codeAt cX1_codeAt 3 (some .int) 0 0 0 0 [.ref pr, .int (nI t), .int (nI i)] [(pr, .inr (1, [.ref cd, .ref ln, .int (nI tot)])), (cd, .inl (cI, 24, .inl f))] sz (S := Unit) (fun r _ => r = nI k) (fun _ => [(pr, .inr (1, [.ref cd, .ref ln, .int (nI tot)])), (cd, .inl (cI, 24, .inl f))]) := by
  refine zMetI (lv := [(0, .ref pr), (1, .int (nI t)), (2, .int (nI i))]) NS0_ok (by decide) rfl (Nat.le_of_ble_eq_true rfl) rfl ?_
  intro p e s m args below meth c A X hin hA
  refine z_aload_n X (pc' := 1) dX1_codeAt_0 rfl 0 rfl rfl ?_
  refine z_get X (v := .ref cd) (pc' := 4) 0 rfl rfl inX1 0 (by decide) mF_X1_9 rfl dX1_codeAt_1 rfl ?_
  refine z_iload_n X (pc' := 5) dX1_codeAt_4 rfl 1 rfl rfl ?_
  refine z_bipush X (v := nI 6) (pc' := 7) dX1_codeAt_5 (by decide) rfl ?_
  refine z_imul X (pc' := 8) dX1_codeAt_7 rfl ?_
  refine z_topi (y := nI (t * 6)) (pk_mul _ _) ?_
  refine z_iload_n X (pc' := 9) dX1_codeAt_8 rfl 2 rfl rfl ?_
  refine z_iadd X (pc' := 10) dX1_codeAt_9 rfl ?_
  refine z_topi (y := nI ((t * 6) + i)) (nI_add _ _) ?_
  refine z_iald X (pc' := 11) 1 0 rfl rfl (by omega) (by omega) dX1_codeAt_10 rfl ?_
  refine z_topi (y := nI k) hf ?_
  exact z_iret X (t1 := .int) rfl rfl () (rfl) rfl (Nat.le_of_ble_eq_true rfl) (Nat.le_of_ble_eq_true rfl) dX1_codeAt_11
set_option maxHeartbeats 4000000 in
set_option maxRecDepth 100000 in
/-- a thread goes on -/
theorem c_goOn (l : Launch) (D : va_G) (cI cJ : ClassId) (sz : Nat) (a pr cd ln tot md h n t : Nat) (f g : Nat → Int32) (P : Nat → List Nat) (hmd : md < 3) (hS : Sok P h n) (hP : Pok P) (hR : PRep P f g) (ht : t < 4) : KI l D cI cJ yX0_goOn cX0_goOn 8 (some .boolean) 2 52 0 0 [.ref a, .int (nI t)] [(a, .inr (0, [.ref pr, .int (nI md), .long (lN h), .long (lN n)])), (pr, .inr (1, [.ref cd, .ref ln, .int (nI tot)])), (cd, .inl (cI, 24, .inl f)), (ln, .inl (cI, 4, .inl g))] sz (S := Nat × Nat) (fun r u => rOpt (st_go P md h n t) r u) (fun u => [(a, .inr (0, [.ref pr, .int (nI md), .long (lN u.1), .long (lN u.2)])), (pr, .inr (1, [.ref cd, .ref ln, .int (nI tot)])), (cd, .inl (cI, 24, .inl f)), (ln, .inl (cI, 4, .inl g))]) := by
  refine zMetI (lv := [(0, .ref a), (1, .int (nI t))]) NS0_ok (by decide) rfl (Nat.le_of_ble_eq_true rfl) rfl ?_
  intro p e s m args below meth c A X hin hA
  have hh : h < 2 ^ 64 := Nat.lt_trans hS.1 (by decide)
  have hn : n < 2 ^ 64 := Nat.lt_trans hS.2.1 (by decide)
  refine z_aload_n X (pc' := 1) dX0_goOn_0 rfl 0 rfl rfl ?_
  refine z_iload_n X (pc' := 2) dX0_goOn_1 rfl 1 rfl rfl ?_
  refine z_callVi X (pc' := 5) (fun sz => c_laneOf l D cI cJ sz a pr md h n t hn ht) (zcwV X TTg 1 mL_X0_34 mI_X0_laneOf mS_X0_laneOf mN_X0 mK_X0_laneOf rfl rfl (by decide +kernel) ⟨(Nat.le_of_ble_eq_true rfl), (Nat.le_of_ble_eq_true rfl)⟩) (wr := [(pr, .inr (1, [.ref cd, .ref ln, .int (nI tot)])), (cd, .inl (cI, 24, .inl f)), (ln, .inl (cI, 4, .inl g))]) [0] [1, 2, 3] rfl rfl rfl rfl (by decide) 0 0 rfl rfl rfl rfl rfl (Nat.le_of_ble_eq_true rfl) dX0_goOn_2 ⟨Nat.le_of_ble_eq_true rfl, Nat.le_of_ble_eq_true rfl⟩ rfl (fun r u hu => ?_)
  have hu : r = nI (ml n t) := hu
  subst hu
  refine z_wse (ws' := [(pr, .inr (1, [.ref cd, .ref ln, .int (nI tot)])), (cd, .inl (cI, 24, .inl f)), (ln, .inl (cI, 4, .inl g)), (a, .inr (0, [.ref pr, .int (nI md), .long (lN h), .long (lN n)]))]) rfl ?_
  refine z_bipush X (v := nI 7) (pc' := 7) dX0_goOn_5 (by decide) rfl ?_
  refine z_iand X (pc' := 8) dX0_goOn_7 rfl ?_
  refine z_topi (y := nI (pl (ml n t))) nb_pl ?_
  refine z_istore_n X (lv' := [(2, .int (nI (pl (ml n t)))), (0, .ref a), (1, .int (nI t))]) (pc' := 9) dX0_goOn_8 rfl (by decide) rfl rfl ?_
  refine z_aload_n X (pc' := 10) dX0_goOn_9 rfl 1 rfl rfl ?_
  refine z_get X (v := .ref pr) (pc' := 13) 3 rfl rfl inX0 0 (by decide) mF_X0_22 rfl dX0_goOn_10 rfl ?_
  refine z_iload_n X (pc' := 14) dX0_goOn_13 rfl 2 rfl rfl ?_
  refine z_callVi X (pc' := 17) (fun sz => c_lengthOf l D cI cJ sz pr cd ln tot t (P t).length g ht (hR t ht).1) (zcwV X TTg 1 mL_X0_38 mI_X1_lengthOf mS_X1_lengthOf mN_X1 mK_X1_lengthOf rfl rfl (by decide +kernel) ⟨(Nat.le_of_ble_eq_true rfl), (Nat.le_of_ble_eq_true rfl)⟩) (wr := [(cd, .inl (cI, 24, .inl f)), (a, .inr (0, [.ref pr, .int (nI md), .long (lN h), .long (lN n)]))]) [0, 2] [1, 3] rfl rfl rfl rfl (by decide) 1 0 rfl rfl rfl rfl rfl (Nat.le_of_ble_eq_true rfl) dX0_goOn_14 ⟨Nat.le_of_ble_eq_true rfl, Nat.le_of_ble_eq_true rfl⟩ rfl (fun r u hu => ?_)
  have hu : r = nI (P t).length := hu
  subst hu
  refine z_wse (ws' := [(cd, .inl (cI, 24, .inl f)), (a, .inr (0, [.ref pr, .int (nI md), .long (lN h), .long (lN n)])), (pr, .inr (1, [.ref cd, .ref ln, .int (nI tot)])), (ln, .inl (cI, 4, .inl g))]) rfl ?_
  refine z_istore_n X (lv' := [(3, .int (nI ((P t).length))), (2, .int (nI (pl (ml n t)))), (0, .ref a), (1, .int (nI t))]) (pc' := 18) dX0_goOn_17 rfl (by decide) rfl rfl ?_
  refine z_iload_n X (pc' := 19) dX0_goOn_18 rfl 1 rfl rfl ?_
  refine z_iload_n X (pc' := 20) dX0_goOn_19 rfl 0 rfl rfl ?_
  refine z_icmp_ltN X (tgt := 25) (pc' := 23) (by have := pl_lt (ml n t); omega) (by have := (hP t ht).1; omega) dX0_goOn_20 (by decide) rfl (fun h1 => ?_) (fun h1 => ?_)
  · have hlt : pl (ml n t) < (P t).length := h1
    have h6 := (hP t ht).1
    obtain ⟨k0, hk0⟩ : ∃ k0, (P t)[pl (ml n t)]? = some k0 := ⟨_, List.getElem?_eq_getElem hlt⟩
    have hk112 : k0 < 112 := (hP t ht).2 k0 (List.mem_of_getElem? hk0)
    have hgo : st_go P md h n t = st_do md h n t k0 (P t).length := by unfold st_go; rw [hk0]
    refine z_aload_n X (pc' := 26) dX0_goOn_25 rfl 2 rfl rfl ?_
    refine z_get X (v := .ref pr) (pc' := 29) 1 rfl rfl inX0 0 (by decide) mF_X0_22 rfl dX0_goOn_26 rfl ?_
    refine z_iload_n X (pc' := 30) dX0_goOn_29 rfl 3 rfl rfl ?_
    refine z_iload_n X (pc' := 31) dX0_goOn_30 rfl 1 rfl rfl ?_
    refine z_callVi X (pc' := 34) (fun sz => c_codeAt l D cI cJ sz pr cd ln tot t (pl (ml n t)) k0 f ht (by omega) ((hR t ht).2 _ _ hk0)) (zcwV X TTg 2 mL_X0_43 mI_X1_codeAt mS_X1_codeAt mN_X1 mK_X1_codeAt rfl rfl (by decide +kernel) ⟨(Nat.le_of_ble_eq_true rfl), (Nat.le_of_ble_eq_true rfl)⟩) (wr := [(a, .inr (0, [.ref pr, .int (nI md), .long (lN h), .long (lN n)])), (ln, .inl (cI, 4, .inl g))]) [2, 0] [1, 3] rfl rfl rfl rfl (by decide) 1 2 rfl rfl rfl rfl rfl (Nat.le_of_ble_eq_true rfl) dX0_goOn_31 ⟨Nat.le_of_ble_eq_true rfl, Nat.le_of_ble_eq_true rfl⟩ rfl (fun r u hu => ?_)
    have hu : r = nI k0 := hu
    subst hu
    refine z_wse (ws' := [(a, .inr (0, [.ref pr, .int (nI md), .long (lN h), .long (lN n)])), (ln, .inl (cI, 4, .inl g)), (pr, .inr (1, [.ref cd, .ref ln, .int (nI tot)])), (cd, .inl (cI, 24, .inl f))]) rfl ?_
    refine z_istore X (lv' := [(4, .int (nI k0)), (3, .int (nI ((P t).length))), (2, .int (nI (pl (ml n t)))), (0, .ref a), (1, .int (nI t))]) (pc' := 36) dX0_goOn_34 (by decide) rfl rfl ?_
    refine z_iload X (pc' := 38) dX0_goOn_36 0 rfl rfl ?_
    refine z_iconst X (v := nI 2) (pc' := 39) dX0_goOn_38 (by decide) rfl ?_
    refine z_ishr X (pc' := 40) dX0_goOn_39 rfl ?_
    refine z_iconst X (v := nI 3) (pc' := 41) dX0_goOn_40 (by decide) rfl ?_
    refine z_iand X (pc' := 42) dX0_goOn_41 rfl ?_
    refine z_topi (y := nI (k0 / 4 % 4)) (nb_ca (by omega)) ?_
    refine z_istore X (lv' := [(5, .int (nI (k0 / 4 % 4))), (4, .int (nI k0)), (3, .int (nI ((P t).length))), (2, .int (nI (pl (ml n t)))), (0, .ref a), (1, .int (nI t))]) (pc' := 44) dX0_goOn_42 (by decide) rfl rfl ?_
    refine z_iload_n X (pc' := 45) dX0_goOn_44 rfl 5 rfl rfl ?_
    refine z_iconst X (v := nI 4) (pc' := 46) dX0_goOn_45 (by decide) rfl ?_
    refine z_imul X (pc' := 47) dX0_goOn_46 rfl ?_
    refine z_topi (y := nI (t * 4)) (pk_mul _ _) ?_
    refine z_iload X (pc' := 49) dX0_goOn_47 1 rfl rfl ?_
    refine z_iconst X (v := nI 3) (pc' := 50) dX0_goOn_49 (by decide) rfl ?_
    refine z_iand X (pc' := 51) dX0_goOn_50 rfl ?_
    refine z_topi (y := nI (k0 % 4)) nb_cb ?_
    refine z_iadd X (pc' := 52) dX0_goOn_51 rfl ?_
    refine z_topi (y := nI ((t * 4) + (k0 % 4))) (nI_add _ _) ?_
    refine z_topi (y := nI (4 * t + k0 % 4)) (by rw [Nat.mul_comm]) ?_
    refine z_istore X (lv' := [(6, .int (nI (4 * t + k0 % 4))), (5, .int (nI (k0 / 4 % 4))), (4, .int (nI k0)), (3, .int (nI ((P t).length))), (2, .int (nI (pl (ml n t)))), (0, .ref a), (1, .int (nI t))]) (pc' := 54) dX0_goOn_52 (by decide) rfl rfl ?_
    refine z_iconst X (v := nI 0) (pc' := 55) dX0_goOn_54 (by decide) rfl ?_
    refine z_istore X (lv' := [(7, .int (nI 0)), (6, .int (nI (4 * t + k0 % 4))), (5, .int (nI (k0 / 4 % 4))), (4, .int (nI k0)), (3, .int (nI ((P t).length))), (2, .int (nI (pl (ml n t)))), (0, .ref a), (1, .int (nI t))]) (pc' := 57) dX0_goOn_55 (by decide) rfl rfl ?_
    refine z_iload X (pc' := 59) dX0_goOn_57 3 rfl rfl ?_
    refine z_iconst X (v := nI 4) (pc' := 60) dX0_goOn_59 (by decide) rfl ?_
    refine z_ishr X (pc' := 61) dX0_goOn_60 rfl ?_
    refine z_topi (y := nI (k0 / 16)) (nb_cn (by omega)) ?_
    rcases (show k0 / 16 = 0 ∨ k0 / 16 = 1 ∨ k0 / 16 = 2 ∨ k0 / 16 = 3 ∨ k0 / 16 = 4 ∨ k0 / 16 = 5 ∨ k0 / 16 = 6 by omega) with hk | hk | hk | hk | hk | hk | hk
    · refine z_topi (y := nI 0) (by rw [hk]) ?_
      refine z_tableIn X (tgt := 104) dX0_goOn_61 (by decide) (by decide) rfl (by decide) ?_
      refine z_aload_n X (pc' := 105) dX0_goOn_104 rfl 6 rfl rfl ?_
      refine z_iload_n X (pc' := 106) dX0_goOn_105 rfl 7 rfl rfl ?_
      refine z_iload X (pc' := 108) dX0_goOn_106 2 rfl rfl ?_
      refine z_iload X (pc' := 110) dX0_goOn_108 3 rfl rfl ?_
      refine z_iconst X (v := nI 3) (pc' := 111) dX0_goOn_110 (by decide) rfl ?_
      refine z_iand X (pc' := 112) dX0_goOn_111 rfl ?_
      refine z_topi (y := nI (k0 % 4)) nb_cb ?_
      refine z_callVi X (pc' := 115) (fun sz => c_store l D cI cJ sz a pr md h n t (k0 / 4 % 4) (k0 % 4) hmd hh hn ht (by omega) (by omega) (hS.2.2 t ht).1) (zcwV X TTg 3 mL_X0_47 mI_X0_store mS_X0_store mN_X0 mK_X0_store rfl rfl (by decide +kernel) ⟨(Nat.le_of_ble_eq_true rfl), (Nat.le_of_ble_eq_true rfl)⟩) (wr := [(ln, .inl (cI, 4, .inl g)), (pr, .inr (1, [.ref cd, .ref ln, .int (nI tot)])), (cd, .inl (cI, 24, .inl f))]) [0] [1, 2, 3] rfl rfl rfl rfl (by decide) 0 0 rfl rfl rfl rfl rfl (Nat.le_of_ble_eq_true rfl) dX0_goOn_112 ⟨Nat.le_of_ble_eq_true rfl, Nat.le_of_ble_eq_true rfl⟩ rfl (fun r u hu => ?_)
      refine z_wse (ws' := [(ln, .inl (cI, 4, .inl g)), (pr, .inr (1, [.ref cd, .ref ln, .int (nI tot)])), (cd, .inl (cI, 24, .inl f)), (a, .inr (0, [.ref pr, .int (nI md), .long (lN u.1), .long (lN u.2)]))]) rfl ?_
      rcases hso : st_store md h n t (k0 / 4 % 4) (k0 % 4) with _ | ⟨h1, n1⟩
      · rw [hso] at hu
        have hu : r = nI 0 := hu
        subst hu
        refine z_if_neN X (tgt := 212) (pc' := 118) (by omega) dX0_goOn_115 (by decide) rfl (fun h2 => ?_) (fun h2 => ?_)
        · exact absurd h2 (by decide)
        · clear h2
          refine z_iconst X (v := nI 0) (pc' := 119) dX0_goOn_118 (by decide) rfl ?_
          refine z_ws (ws' := [(a, .inr (0, [.ref pr, .int (nI md), .long (lN u.1), .long (lN u.2)])), (pr, .inr (1, [.ref cd, .ref ln, .int (nI tot)])), (cd, .inl (cI, 24, .inl f)), (ln, .inl (cI, 4, .inl g))]) [3, 1, 2, 0] (by decide) rfl ?_
          exact z_iret X (t1 := .boolean) rfl rfl (u.1, u.2) (by show rOpt (st_go P md h n t) _ _; rw [hgo]; unfold st_do; rw [if_pos hk, hso]; exact rfl) rfl (Nat.le_of_ble_eq_true rfl) (Nat.le_of_ble_eq_true rfl) dX0_goOn_119
      · rw [hso] at hu
        obtain ⟨hr1, hu1⟩ : r = nI 1 ∧ u = (h1, n1) := hu
        subst hr1
        subst hu1
        refine z_wse (ws' := [(ln, .inl (cI, 4, .inl g)), (pr, .inr (1, [.ref cd, .ref ln, .int (nI tot)])), (cd, .inl (cI, 24, .inl f)), (a, .inr (0, [.ref pr, .int (nI md), .long (lN h1), .long (lN n1)]))]) rfl ?_
        have hS1 : Sok P h1 n1 := (Sok_store hS ht (by omega) (by omega) hso).1
        have hn1 : n1 < 2 ^ 64 := Nat.lt_trans hS1.2.1 (by decide)
        refine z_if_neN X (tgt := 212) (pc' := 118) (by omega) dX0_goOn_115 (by decide) rfl (fun h3 => ?_) (fun h3 => ?_)
        · clear h3
          refine z_aload_n X (pc' := 213) dX0_goOn_212 rfl 6 rfl rfl ?_
          refine z_iload_n X (pc' := 214) dX0_goOn_213 rfl 7 rfl rfl ?_
          refine z_iload_n X (pc' := 215) dX0_goOn_214 rfl 5 rfl rfl ?_
          refine z_iconst X (v := nI 1) (pc' := 216) dX0_goOn_215 (by decide) rfl ?_
          refine z_iadd X (pc' := 217) dX0_goOn_216 rfl ?_
          refine z_topi (y := nI ((pl (ml n t)) + 1)) (nI_add _ _) ?_
          refine z_iload X (pc' := 219) dX0_goOn_217 0 rfl rfl ?_
          refine z_iadd X (pc' := 220) dX0_goOn_219 rfl ?_
          refine z_topi (y := nI (((pl (ml n t)) + 1) + 0)) (nI_add _ _) ?_
          refine z_topi (y := nI (pl (ml n t) + 1)) (by rw [Nat.add_zero]) ?_
          refine z_iload_n X (pc' := 221) dX0_goOn_220 rfl 4 rfl rfl ?_
          have hp8 := pl_lt (ml n t)
          refine z_mmin X (pc' := 224) mL_X0_69 mT_Math_min mN_Math mK_Math_min (by omega) (by omega) dX0_goOn_221 (Nat.le_of_ble_eq_true rfl) (Nat.le_of_ble_eq_true rfl) (Nat.le_of_ble_eq_true rfl) (Nat.le_of_ble_eq_true rfl) rfl ?_
          refine z_callVv X (pc' := 227) (fun sz => c_setPlace l D cI cJ sz a pr md h1 n1 t (min (pl (ml n t) + 1) ((P t).length)) hn1 ht (by omega)) (zcwV X TTg 2 mL_X0_74 mI_X0_setPlace mS_X0_setPlace mN_X0 mK_X0_setPlace rfl rfl (by decide +kernel) ⟨(Nat.le_of_ble_eq_true rfl), (Nat.le_of_ble_eq_true rfl)⟩) (wr := [(ln, .inl (cI, 4, .inl g)), (pr, .inr (1, [.ref cd, .ref ln, .int (nI tot)])), (cd, .inl (cI, 24, .inl f))]) [3] [0, 1, 2] rfl rfl rfl rfl (by decide) 0 3 rfl rfl rfl rfl rfl (Nat.le_of_ble_eq_true rfl) dX0_goOn_224 ⟨Nat.le_of_ble_eq_true rfl, Nat.le_of_ble_eq_true rfl⟩ rfl (fun u hu => ?_)
          refine z_wse (ws' := [(ln, .inl (cI, 4, .inl g)), (pr, .inr (1, [.ref cd, .ref ln, .int (nI tot)])), (cd, .inl (cI, 24, .inl f)), (a, .inr (0, [.ref pr, .int (nI md), .long (lN h1), .long (lN (mx n1 t (ml n1 t / 8 * 8 + min (pl (ml n t) + 1) ((P t).length))))]))]) rfl ?_
          refine z_iconst X (v := nI 1) (pc' := 228) dX0_goOn_227 (by decide) rfl ?_
          refine z_ws (ws' := [(a, .inr (0, [.ref pr, .int (nI md), .long (lN h1), .long (lN (mx n1 t (ml n1 t / 8 * 8 + min (pl (ml n t) + 1) ((P t).length))))])), (pr, .inr (1, [.ref cd, .ref ln, .int (nI tot)])), (cd, .inl (cI, 24, .inl f)), (ln, .inl (cI, 4, .inl g))]) [3, 1, 2, 0] (by decide) rfl ?_
          exact z_iret X (t1 := .boolean) rfl rfl (h1, mx n1 t (ml n1 t / 8 * 8 + min (pl (ml n t) + 1) ((P t).length))) (by show rOpt (st_go P md h n t) _ _; rw [hgo]; unfold st_do; rw [if_pos hk, hso]; exact ⟨rfl, rfl⟩) rfl (Nat.le_of_ble_eq_true rfl) (Nat.le_of_ble_eq_true rfl) dX0_goOn_228
        · exact absurd h3 (by decide)
    · refine z_topi (y := nI 1) (by rw [hk]) ?_
      refine z_tableIn X (tgt := 120) dX0_goOn_61 (by decide) (by decide) rfl (by decide) ?_
      refine z_aload_n X (pc' := 121) dX0_goOn_120 rfl 6 rfl rfl ?_
      refine z_iload_n X (pc' := 122) dX0_goOn_121 rfl 7 rfl rfl ?_
      refine z_iload X (pc' := 124) dX0_goOn_122 2 rfl rfl ?_
      refine z_aload_n X (pc' := 125) dX0_goOn_124 rfl 6 rfl rfl ?_
      refine z_get X (v := .long (lN h)) (pc' := 128) 0 rfl rfl inX0 2 (by decide) mF_X0_15 rfl dX0_goOn_125 rfl ?_
      refine z_iload X (pc' := 130) dX0_goOn_128 1 rfl rfl ?_
      refine z_callSNi X (pc' := 133) (fun sz => c_item l D cI cJ sz h (4 * t + k0 % 4) (by omega) (by omega)) (zcwSN X TTg 2 mH_X0_51 mT_X3_item mN_X3 mK_X3_item rfl rfl (by decide +kernel) ⟨(Nat.le_of_ble_eq_true rfl), (Nat.le_of_ble_eq_true rfl)⟩) (wr := [(a, .inr (0, [.ref pr, .int (nI md), .long (lN h), .long (lN n)])), (ln, .inl (cI, 4, .inl g)), (pr, .inr (1, [.ref cd, .ref ln, .int (nI tot)])), (cd, .inl (cI, 24, .inl f))]) [] [0, 1, 2, 3] rfl rfl rfl rfl (by decide) rfl rfl (Nat.le_of_ble_eq_true rfl) dX0_goOn_130 ⟨Nat.le_of_ble_eq_true rfl, Nat.le_of_ble_eq_true rfl⟩ rfl (fun r u hu => ?_)
      have hu : r = nI (mi h (4 * t + k0 % 4)) := hu
      subst hu
      refine z_wse (ws' := [(a, .inr (0, [.ref pr, .int (nI md), .long (lN h), .long (lN n)])), (ln, .inl (cI, 4, .inl g)), (pr, .inr (1, [.ref cd, .ref ln, .int (nI tot)])), (cd, .inl (cI, 24, .inl f))]) rfl ?_
      refine z_callVi X (pc' := 136) (fun sz => c_store l D cI cJ sz a pr md h n t (k0 / 4 % 4) (mi h (4 * t + k0 % 4)) hmd hh hn ht (by omega) (mi_lt _ _) (hS.2.2 t ht).1) (zcwV X TTg 3 mL_X0_47 mI_X0_store mS_X0_store mN_X0 mK_X0_store rfl rfl (by decide +kernel) ⟨(Nat.le_of_ble_eq_true rfl), (Nat.le_of_ble_eq_true rfl)⟩) (wr := [(ln, .inl (cI, 4, .inl g)), (pr, .inr (1, [.ref cd, .ref ln, .int (nI tot)])), (cd, .inl (cI, 24, .inl f))]) [0] [1, 2, 3] rfl rfl rfl rfl (by decide) 0 0 rfl rfl rfl rfl rfl (Nat.le_of_ble_eq_true rfl) dX0_goOn_133 ⟨Nat.le_of_ble_eq_true rfl, Nat.le_of_ble_eq_true rfl⟩ rfl (fun r u hu => ?_)
      refine z_wse (ws' := [(ln, .inl (cI, 4, .inl g)), (pr, .inr (1, [.ref cd, .ref ln, .int (nI tot)])), (cd, .inl (cI, 24, .inl f)), (a, .inr (0, [.ref pr, .int (nI md), .long (lN u.1), .long (lN u.2)]))]) rfl ?_
      rcases hso : st_store md h n t (k0 / 4 % 4) (mi h (4 * t + k0 % 4)) with _ | ⟨h1, n1⟩
      · rw [hso] at hu
        have hu : r = nI 0 := hu
        subst hu
        refine z_if_neN X (tgt := 212) (pc' := 139) (by omega) dX0_goOn_136 (by decide) rfl (fun h4 => ?_) (fun h4 => ?_)
        · exact absurd h4 (by decide)
        · clear h4
          refine z_iconst X (v := nI 0) (pc' := 140) dX0_goOn_139 (by decide) rfl ?_
          refine z_ws (ws' := [(a, .inr (0, [.ref pr, .int (nI md), .long (lN u.1), .long (lN u.2)])), (pr, .inr (1, [.ref cd, .ref ln, .int (nI tot)])), (cd, .inl (cI, 24, .inl f)), (ln, .inl (cI, 4, .inl g))]) [3, 1, 2, 0] (by decide) rfl ?_
          exact z_iret X (t1 := .boolean) rfl rfl (u.1, u.2) (by show rOpt (st_go P md h n t) _ _; rw [hgo]; unfold st_do; rw [if_neg (by omega), if_pos hk, hso]; exact rfl) rfl (Nat.le_of_ble_eq_true rfl) (Nat.le_of_ble_eq_true rfl) dX0_goOn_140
      · rw [hso] at hu
        obtain ⟨hr1, hu1⟩ : r = nI 1 ∧ u = (h1, n1) := hu
        subst hr1
        subst hu1
        refine z_wse (ws' := [(ln, .inl (cI, 4, .inl g)), (pr, .inr (1, [.ref cd, .ref ln, .int (nI tot)])), (cd, .inl (cI, 24, .inl f)), (a, .inr (0, [.ref pr, .int (nI md), .long (lN h1), .long (lN n1)]))]) rfl ?_
        have hS1 : Sok P h1 n1 := (Sok_store hS ht (by omega) (mi_lt _ _) hso).1
        have hn1 : n1 < 2 ^ 64 := Nat.lt_trans hS1.2.1 (by decide)
        refine z_if_neN X (tgt := 212) (pc' := 139) (by omega) dX0_goOn_136 (by decide) rfl (fun h5 => ?_) (fun h5 => ?_)
        · clear h5
          refine z_aload_n X (pc' := 213) dX0_goOn_212 rfl 6 rfl rfl ?_
          refine z_iload_n X (pc' := 214) dX0_goOn_213 rfl 7 rfl rfl ?_
          refine z_iload_n X (pc' := 215) dX0_goOn_214 rfl 5 rfl rfl ?_
          refine z_iconst X (v := nI 1) (pc' := 216) dX0_goOn_215 (by decide) rfl ?_
          refine z_iadd X (pc' := 217) dX0_goOn_216 rfl ?_
          refine z_topi (y := nI ((pl (ml n t)) + 1)) (nI_add _ _) ?_
          refine z_iload X (pc' := 219) dX0_goOn_217 0 rfl rfl ?_
          refine z_iadd X (pc' := 220) dX0_goOn_219 rfl ?_
          refine z_topi (y := nI (((pl (ml n t)) + 1) + 0)) (nI_add _ _) ?_
          refine z_topi (y := nI (pl (ml n t) + 1)) (by rw [Nat.add_zero]) ?_
          refine z_iload_n X (pc' := 221) dX0_goOn_220 rfl 4 rfl rfl ?_
          have hp8 := pl_lt (ml n t)
          refine z_mmin X (pc' := 224) mL_X0_69 mT_Math_min mN_Math mK_Math_min (by omega) (by omega) dX0_goOn_221 (Nat.le_of_ble_eq_true rfl) (Nat.le_of_ble_eq_true rfl) (Nat.le_of_ble_eq_true rfl) (Nat.le_of_ble_eq_true rfl) rfl ?_
          refine z_callVv X (pc' := 227) (fun sz => c_setPlace l D cI cJ sz a pr md h1 n1 t (min (pl (ml n t) + 1) ((P t).length)) hn1 ht (by omega)) (zcwV X TTg 2 mL_X0_74 mI_X0_setPlace mS_X0_setPlace mN_X0 mK_X0_setPlace rfl rfl (by decide +kernel) ⟨(Nat.le_of_ble_eq_true rfl), (Nat.le_of_ble_eq_true rfl)⟩) (wr := [(ln, .inl (cI, 4, .inl g)), (pr, .inr (1, [.ref cd, .ref ln, .int (nI tot)])), (cd, .inl (cI, 24, .inl f))]) [3] [0, 1, 2] rfl rfl rfl rfl (by decide) 0 3 rfl rfl rfl rfl rfl (Nat.le_of_ble_eq_true rfl) dX0_goOn_224 ⟨Nat.le_of_ble_eq_true rfl, Nat.le_of_ble_eq_true rfl⟩ rfl (fun u hu => ?_)
          refine z_wse (ws' := [(ln, .inl (cI, 4, .inl g)), (pr, .inr (1, [.ref cd, .ref ln, .int (nI tot)])), (cd, .inl (cI, 24, .inl f)), (a, .inr (0, [.ref pr, .int (nI md), .long (lN h1), .long (lN (mx n1 t (ml n1 t / 8 * 8 + min (pl (ml n t) + 1) ((P t).length))))]))]) rfl ?_
          refine z_iconst X (v := nI 1) (pc' := 228) dX0_goOn_227 (by decide) rfl ?_
          refine z_ws (ws' := [(a, .inr (0, [.ref pr, .int (nI md), .long (lN h1), .long (lN (mx n1 t (ml n1 t / 8 * 8 + min (pl (ml n t) + 1) ((P t).length))))])), (pr, .inr (1, [.ref cd, .ref ln, .int (nI tot)])), (cd, .inl (cI, 24, .inl f)), (ln, .inl (cI, 4, .inl g))]) [3, 1, 2, 0] (by decide) rfl ?_
          exact z_iret X (t1 := .boolean) rfl rfl (h1, mx n1 t (ml n1 t / 8 * 8 + min (pl (ml n t) + 1) ((P t).length))) (by show rOpt (st_go P md h n t) _ _; rw [hgo]; unfold st_do; rw [if_neg (by omega), if_pos hk, hso]; exact ⟨rfl, rfl⟩) rfl (Nat.le_of_ble_eq_true rfl) (Nat.le_of_ble_eq_true rfl) dX0_goOn_228
        · exact absurd h5 (by decide)
    · refine z_topi (y := nI 2) (by rw [hk]) ?_
      refine z_tableIn X (tgt := 141) dX0_goOn_61 (by decide) (by decide) rfl (by decide) ?_
      refine z_aload_n X (pc' := 142) dX0_goOn_141 rfl 6 rfl rfl ?_
      refine z_aload_n X (pc' := 143) dX0_goOn_142 rfl 6 rfl rfl ?_
      refine z_get X (v := .long (lN h)) (pc' := 146) 0 rfl rfl inX0 2 (by decide) mF_X0_15 rfl dX0_goOn_143 rfl ?_
      refine z_iload X (pc' := 148) dX0_goOn_146 1 rfl rfl ?_
      refine z_aload_n X (pc' := 149) dX0_goOn_148 rfl 6 rfl rfl ?_
      refine z_iload_n X (pc' := 150) dX0_goOn_149 rfl 7 rfl rfl ?_
      refine z_iload X (pc' := 152) dX0_goOn_150 2 rfl rfl ?_
      refine z_callVi X (pc' := 155) (fun sz => c_seen l D cI cJ sz a pr md h n t (k0 / 4 % 4) hh hn ht (by omega) (hS.2.2 t ht).1.1) (zcwV X TTg 2 mL_X0_55 mI_X0_seen mS_X0_seen mN_X0 mK_X0_seen rfl rfl (by decide +kernel) ⟨(Nat.le_of_ble_eq_true rfl), (Nat.le_of_ble_eq_true rfl)⟩) (wr := [(ln, .inl (cI, 4, .inl g)), (pr, .inr (1, [.ref cd, .ref ln, .int (nI tot)])), (cd, .inl (cI, 24, .inl f))]) [0] [1, 2, 3] rfl rfl rfl rfl (by decide) 0 0 rfl rfl rfl rfl rfl (Nat.le_of_ble_eq_true rfl) dX0_goOn_152 ⟨Nat.le_of_ble_eq_true rfl, Nat.le_of_ble_eq_true rfl⟩ rfl (fun r u hu => ?_)
      have hu : r = nI (st_seen h (ml n t) (k0 / 4 % 4)) := hu
      subst hu
      refine z_wse (ws' := [(ln, .inl (cI, 4, .inl g)), (pr, .inr (1, [.ref cd, .ref ln, .int (nI tot)])), (cd, .inl (cI, 24, .inl f)), (a, .inr (0, [.ref pr, .int (nI md), .long (lN h), .long (lN n)]))]) rfl ?_
      refine z_callSNl X (pc' := 158) (fun sz => c_withItem l D cI cJ sz h (4 * t + k0 % 4) (st_seen h (ml n t) (k0 / 4 % 4)) (by omega)) (zcwSN X TTg 3 mH_X0_58 mT_X3_withItem mN_X3 mK_X3_withItem rfl rfl (by decide +kernel) ⟨(Nat.le_of_ble_eq_true rfl), (Nat.le_of_ble_eq_true rfl)⟩) (wr := [(ln, .inl (cI, 4, .inl g)), (pr, .inr (1, [.ref cd, .ref ln, .int (nI tot)])), (cd, .inl (cI, 24, .inl f)), (a, .inr (0, [.ref pr, .int (nI md), .long (lN h), .long (lN n)]))]) [] [0, 1, 2, 3] rfl rfl rfl rfl (by decide) rfl rfl (Nat.le_of_ble_eq_true rfl) dX0_goOn_155 ⟨Nat.le_of_ble_eq_true rfl, Nat.le_of_ble_eq_true rfl⟩ rfl (fun r u hu => ?_)
      have hu : r = lN (mw h (4 * t + k0 % 4) ((st_seen h (ml n t) (k0 / 4 % 4)) % 4)) := hu
      subst hu
      refine z_wse (ws' := [(ln, .inl (cI, 4, .inl g)), (pr, .inr (1, [.ref cd, .ref ln, .int (nI tot)])), (cd, .inl (cI, 24, .inl f)), (a, .inr (0, [.ref pr, .int (nI md), .long (lN h), .long (lN n)]))]) rfl ?_
      refine z_topl (y := lN (mw h (4 * t + k0 % 4) (st_seen h (ml n t) (k0 / 4 % 4)))) (by rw [Nat.mod_eq_of_lt (st_seen_lt _ _ _)]) ?_
      refine z_put X (t1 := .long) (ws' := [(ln, .inl (cI, 4, .inl g)), (pr, .inr (1, [.ref cd, .ref ln, .int (nI tot)])), (cd, .inl (cI, 24, .inl f)), (a, .inr (0, [.ref pr, .int (nI md), .long (lN (mw h (4 * t + k0 % 4) (st_seen h (ml n t) (k0 / 4 % 4)))), .long (lN n)]))]) (pc' := 161) 3 rfl rfl inX0 tyX0 tyX0_ok nmX0 2 (by decide) mF_X0_15 rfl (by decide +kernel) rfl rfl (Nat.le_of_ble_eq_true rfl) dX0_goOn_158 rfl rfl ?_
      refine z_goto X (tgt := 212) dX0_goOn_161 (by decide) ?_
      refine z_aload_n X (pc' := 213) dX0_goOn_212 rfl 6 rfl rfl ?_
      refine z_iload_n X (pc' := 214) dX0_goOn_213 rfl 7 rfl rfl ?_
      refine z_iload_n X (pc' := 215) dX0_goOn_214 rfl 5 rfl rfl ?_
      refine z_iconst X (v := nI 1) (pc' := 216) dX0_goOn_215 (by decide) rfl ?_
      refine z_iadd X (pc' := 217) dX0_goOn_216 rfl ?_
      refine z_topi (y := nI ((pl (ml n t)) + 1)) (nI_add _ _) ?_
      refine z_iload X (pc' := 219) dX0_goOn_217 0 rfl rfl ?_
      refine z_iadd X (pc' := 220) dX0_goOn_219 rfl ?_
      refine z_topi (y := nI (((pl (ml n t)) + 1) + 0)) (nI_add _ _) ?_
      refine z_topi (y := nI (pl (ml n t) + 1)) (by rw [Nat.add_zero]) ?_
      refine z_iload_n X (pc' := 221) dX0_goOn_220 rfl 4 rfl rfl ?_
      have hp8 := pl_lt (ml n t)
      refine z_mmin X (pc' := 224) mL_X0_69 mT_Math_min mN_Math mK_Math_min (by omega) (by omega) dX0_goOn_221 (Nat.le_of_ble_eq_true rfl) (Nat.le_of_ble_eq_true rfl) (Nat.le_of_ble_eq_true rfl) (Nat.le_of_ble_eq_true rfl) rfl ?_
      refine z_callVv X (pc' := 227) (fun sz => c_setPlace l D cI cJ sz a pr md (mw h (4 * t + k0 % 4) (st_seen h (ml n t) (k0 / 4 % 4))) n t (min (pl (ml n t) + 1) ((P t).length)) hn ht (by omega)) (zcwV X TTg 2 mL_X0_74 mI_X0_setPlace mS_X0_setPlace mN_X0 mK_X0_setPlace rfl rfl (by decide +kernel) ⟨(Nat.le_of_ble_eq_true rfl), (Nat.le_of_ble_eq_true rfl)⟩) (wr := [(ln, .inl (cI, 4, .inl g)), (pr, .inr (1, [.ref cd, .ref ln, .int (nI tot)])), (cd, .inl (cI, 24, .inl f))]) [3] [0, 1, 2] rfl rfl rfl rfl (by decide) 0 3 rfl rfl rfl rfl rfl (Nat.le_of_ble_eq_true rfl) dX0_goOn_224 ⟨Nat.le_of_ble_eq_true rfl, Nat.le_of_ble_eq_true rfl⟩ rfl (fun u hu => ?_)
      refine z_wse (ws' := [(ln, .inl (cI, 4, .inl g)), (pr, .inr (1, [.ref cd, .ref ln, .int (nI tot)])), (cd, .inl (cI, 24, .inl f)), (a, .inr (0, [.ref pr, .int (nI md), .long (lN (mw h (4 * t + k0 % 4) (st_seen h (ml n t) (k0 / 4 % 4)))), .long (lN (mx n t (ml n t / 8 * 8 + min (pl (ml n t) + 1) ((P t).length))))]))]) rfl ?_
      refine z_iconst X (v := nI 1) (pc' := 228) dX0_goOn_227 (by decide) rfl ?_
      refine z_ws (ws' := [(a, .inr (0, [.ref pr, .int (nI md), .long (lN (mw h (4 * t + k0 % 4) (st_seen h (ml n t) (k0 / 4 % 4)))), .long (lN (mx n t (ml n t / 8 * 8 + min (pl (ml n t) + 1) ((P t).length))))])), (pr, .inr (1, [.ref cd, .ref ln, .int (nI tot)])), (cd, .inl (cI, 24, .inl f)), (ln, .inl (cI, 4, .inl g))]) [3, 1, 2, 0] (by decide) rfl ?_
      exact z_iret X (t1 := .boolean) rfl rfl (mw h (4 * t + k0 % 4) (st_seen h (ml n t) (k0 / 4 % 4)), mx n t (ml n t / 8 * 8 + min (pl (ml n t) + 1) ((P t).length))) (by show rOpt (st_go P md h n t) _ _; rw [hgo]; unfold st_do; rw [if_neg (by omega), if_neg (by omega), if_pos hk]; exact ⟨rfl, rfl⟩) rfl (Nat.le_of_ble_eq_true rfl) (Nat.le_of_ble_eq_true rfl) dX0_goOn_228
    · refine z_topi (y := nI 3) (by rw [hk]) ?_
      refine z_tableIn X (tgt := 187) dX0_goOn_61 (by decide) (by decide) rfl (by decide) ?_
      refine z_aload_n X (pc' := 188) dX0_goOn_187 rfl 6 rfl rfl ?_
      refine z_iload_n X (pc' := 189) dX0_goOn_188 rfl 7 rfl rfl ?_
      refine z_callVi X (pc' := 192) (fun sz => c_laneOf l D cI cJ sz a pr md h n t hn ht) (zcwV X TTg 1 mL_X0_34 mI_X0_laneOf mS_X0_laneOf mN_X0 mK_X0_laneOf rfl rfl (by decide +kernel) ⟨(Nat.le_of_ble_eq_true rfl), (Nat.le_of_ble_eq_true rfl)⟩) (wr := [(ln, .inl (cI, 4, .inl g)), (pr, .inr (1, [.ref cd, .ref ln, .int (nI tot)])), (cd, .inl (cI, 24, .inl f))]) [0] [1, 2, 3] rfl rfl rfl rfl (by decide) 0 0 rfl rfl rfl rfl rfl (Nat.le_of_ble_eq_true rfl) dX0_goOn_189 ⟨Nat.le_of_ble_eq_true rfl, Nat.le_of_ble_eq_true rfl⟩ rfl (fun r u hu => ?_)
      have hu : r = nI (ml n t) := hu
      subst hu
      refine z_wse (ws' := [(ln, .inl (cI, 4, .inl g)), (pr, .inr (1, [.ref cd, .ref ln, .int (nI tot)])), (cd, .inl (cI, 24, .inl f)), (a, .inr (0, [.ref pr, .int (nI md), .long (lN h), .long (lN n)]))]) rfl ?_
      refine z_callSi X (pc' := 195) (fun sz => c_waitingIn l D cI cJ sz (ml n t) (ml_lt _ _)) (zcwS X TTg 1 mL_X0_62 mT_X0_waitingIn mN_X0 mK_X0_waitingIn rfl rfl (by decide +kernel) ⟨(Nat.le_of_ble_eq_true rfl), (Nat.le_of_ble_eq_true rfl)⟩) (wr := [(ln, .inl (cI, 4, .inl g)), (pr, .inr (1, [.ref cd, .ref ln, .int (nI tot)])), (cd, .inl (cI, 24, .inl f)), (a, .inr (0, [.ref pr, .int (nI md), .long (lN h), .long (lN n)]))]) [] [0, 1, 2, 3] rfl rfl rfl rfl (by decide) rfl rfl (Nat.le_of_ble_eq_true rfl) dX0_goOn_192 ⟨Nat.le_of_ble_eq_true rfl, Nat.le_of_ble_eq_true rfl⟩ rfl (fun r u hu => ?_)
      have hu : r = nI (wt (ml n t)) := hu
      subst hu
      refine z_wse (ws' := [(ln, .inl (cI, 4, .inl g)), (pr, .inr (1, [.ref cd, .ref ln, .int (nI tot)])), (cd, .inl (cI, 24, .inl f)), (a, .inr (0, [.ref pr, .int (nI md), .long (lN h), .long (lN n)]))]) rfl ?_
      refine z_if_leN X (tgt := 200) (pc' := 198) (by have := wt_lt (ml n t); omega) dX0_goOn_195 (by decide) rfl (fun h6 => ?_) (fun h6 => ?_)
      · have hwz : wt (ml n t) ≤ 0 := h6
        refine z_aload_n X (pc' := 201) dX0_goOn_200 rfl 6 rfl rfl ?_
        refine z_iload X (pc' := 203) dX0_goOn_201 3 rfl rfl ?_
        refine z_iconst X (v := nI 4) (pc' := 204) dX0_goOn_203 (by decide) rfl ?_
        refine z_ishr X (pc' := 205) dX0_goOn_204 rfl ?_
        refine z_topi (y := nI (k0 / 16)) (nb_cn (by omega)) ?_
        refine z_iload X (pc' := 207) dX0_goOn_205 2 rfl rfl ?_
        refine z_iload X (pc' := 209) dX0_goOn_207 1 rfl rfl ?_
        refine z_callVv X (pc' := 212) (fun sz => c_atOnce l D cI cJ sz a pr md h n (k0 / 16) (k0 / 4 % 4) (4 * t + k0 % 4) hS.1 (by omega) (by omega) (by omega)) (zcwV X TTg 3 mL_X0_65 mI_X0_atOnce mS_X0_atOnce mN_X0 mK_X0_atOnce rfl rfl (by decide +kernel) ⟨(Nat.le_of_ble_eq_true rfl), (Nat.le_of_ble_eq_true rfl)⟩) (wr := [(ln, .inl (cI, 4, .inl g)), (pr, .inr (1, [.ref cd, .ref ln, .int (nI tot)])), (cd, .inl (cI, 24, .inl f))]) [3] [0, 1, 2] rfl rfl rfl rfl (by decide) 0 3 rfl rfl rfl rfl rfl (Nat.le_of_ble_eq_true rfl) dX0_goOn_209 ⟨Nat.le_of_ble_eq_true rfl, Nat.le_of_ble_eq_true rfl⟩ rfl (fun u hu => ?_)
        refine z_wse (ws' := [(ln, .inl (cI, 4, .inl g)), (pr, .inr (1, [.ref cd, .ref ln, .int (nI tot)])), (cd, .inl (cI, 24, .inl f)), (a, .inr (0, [.ref pr, .int (nI md), .long (lN (st_once (k0 / 16) h (k0 / 4 % 4) (4 * t + k0 % 4))), .long (lN n)]))]) rfl ?_
        refine z_aload_n X (pc' := 213) dX0_goOn_212 rfl 6 rfl rfl ?_
        refine z_iload_n X (pc' := 214) dX0_goOn_213 rfl 7 rfl rfl ?_
        refine z_iload_n X (pc' := 215) dX0_goOn_214 rfl 5 rfl rfl ?_
        refine z_iconst X (v := nI 1) (pc' := 216) dX0_goOn_215 (by decide) rfl ?_
        refine z_iadd X (pc' := 217) dX0_goOn_216 rfl ?_
        refine z_topi (y := nI ((pl (ml n t)) + 1)) (nI_add _ _) ?_
        refine z_iload X (pc' := 219) dX0_goOn_217 0 rfl rfl ?_
        refine z_iadd X (pc' := 220) dX0_goOn_219 rfl ?_
        refine z_topi (y := nI (((pl (ml n t)) + 1) + 0)) (nI_add _ _) ?_
        refine z_topi (y := nI (pl (ml n t) + 1)) (by rw [Nat.add_zero]) ?_
        refine z_iload_n X (pc' := 221) dX0_goOn_220 rfl 4 rfl rfl ?_
        have hp8 := pl_lt (ml n t)
        refine z_mmin X (pc' := 224) mL_X0_69 mT_Math_min mN_Math mK_Math_min (by omega) (by omega) dX0_goOn_221 (Nat.le_of_ble_eq_true rfl) (Nat.le_of_ble_eq_true rfl) (Nat.le_of_ble_eq_true rfl) (Nat.le_of_ble_eq_true rfl) rfl ?_
        refine z_callVv X (pc' := 227) (fun sz => c_setPlace l D cI cJ sz a pr md (st_once (k0 / 16) h (k0 / 4 % 4) (4 * t + k0 % 4)) n t (min (pl (ml n t) + 1) ((P t).length)) hn ht (by omega)) (zcwV X TTg 2 mL_X0_74 mI_X0_setPlace mS_X0_setPlace mN_X0 mK_X0_setPlace rfl rfl (by decide +kernel) ⟨(Nat.le_of_ble_eq_true rfl), (Nat.le_of_ble_eq_true rfl)⟩) (wr := [(ln, .inl (cI, 4, .inl g)), (pr, .inr (1, [.ref cd, .ref ln, .int (nI tot)])), (cd, .inl (cI, 24, .inl f))]) [3] [0, 1, 2] rfl rfl rfl rfl (by decide) 0 3 rfl rfl rfl rfl rfl (Nat.le_of_ble_eq_true rfl) dX0_goOn_224 ⟨Nat.le_of_ble_eq_true rfl, Nat.le_of_ble_eq_true rfl⟩ rfl (fun u hu => ?_)
        refine z_wse (ws' := [(ln, .inl (cI, 4, .inl g)), (pr, .inr (1, [.ref cd, .ref ln, .int (nI tot)])), (cd, .inl (cI, 24, .inl f)), (a, .inr (0, [.ref pr, .int (nI md), .long (lN (st_once (k0 / 16) h (k0 / 4 % 4) (4 * t + k0 % 4))), .long (lN (mx n t (ml n t / 8 * 8 + min (pl (ml n t) + 1) ((P t).length))))]))]) rfl ?_
        refine z_iconst X (v := nI 1) (pc' := 228) dX0_goOn_227 (by decide) rfl ?_
        refine z_ws (ws' := [(a, .inr (0, [.ref pr, .int (nI md), .long (lN (st_once (k0 / 16) h (k0 / 4 % 4) (4 * t + k0 % 4))), .long (lN (mx n t (ml n t / 8 * 8 + min (pl (ml n t) + 1) ((P t).length))))])), (pr, .inr (1, [.ref cd, .ref ln, .int (nI tot)])), (cd, .inl (cI, 24, .inl f)), (ln, .inl (cI, 4, .inl g))]) [3, 1, 2, 0] (by decide) rfl ?_
        exact z_iret X (t1 := .boolean) rfl rfl (st_once (k0 / 16) h (k0 / 4 % 4) (4 * t + k0 % 4), mx n t (ml n t / 8 * 8 + min (pl (ml n t) + 1) ((P t).length))) (by show rOpt (st_go P md h n t) _ _; rw [hgo]; unfold st_do; rw [if_neg (by omega), if_neg (by omega), if_neg (by omega), if_neg (by omega), if_neg (by omega)]; exact ⟨rfl, rfl⟩) rfl (Nat.le_of_ble_eq_true rfl) (Nat.le_of_ble_eq_true rfl) dX0_goOn_228
      · have hwz : ¬ wt (ml n t) ≤ 0 := h6
        refine z_iconst X (v := nI 0) (pc' := 199) dX0_goOn_198 (by decide) rfl ?_
        refine z_ws (ws' := [(a, .inr (0, [.ref pr, .int (nI md), .long (lN h), .long (lN n)])), (pr, .inr (1, [.ref cd, .ref ln, .int (nI tot)])), (cd, .inl (cI, 24, .inl f)), (ln, .inl (cI, 4, .inl g))]) [3, 1, 2, 0] (by decide) rfl ?_
        exact z_iret X (t1 := .boolean) rfl rfl (h, n) (by show rOpt (st_go P md h n t) _ _; rw [hgo]; unfold st_do; rw [if_neg (by omega), if_neg (by omega), if_neg (by omega), if_neg (by omega), if_pos (by omega)]; exact rfl) rfl (Nat.le_of_ble_eq_true rfl) (Nat.le_of_ble_eq_true rfl) dX0_goOn_199
    · refine z_topi (y := nI 4) (by rw [hk]) ?_
      refine z_tableIn X (tgt := 187) dX0_goOn_61 (by decide) (by decide) rfl (by decide) ?_
      refine z_aload_n X (pc' := 188) dX0_goOn_187 rfl 6 rfl rfl ?_
      refine z_iload_n X (pc' := 189) dX0_goOn_188 rfl 7 rfl rfl ?_
      refine z_callVi X (pc' := 192) (fun sz => c_laneOf l D cI cJ sz a pr md h n t hn ht) (zcwV X TTg 1 mL_X0_34 mI_X0_laneOf mS_X0_laneOf mN_X0 mK_X0_laneOf rfl rfl (by decide +kernel) ⟨(Nat.le_of_ble_eq_true rfl), (Nat.le_of_ble_eq_true rfl)⟩) (wr := [(ln, .inl (cI, 4, .inl g)), (pr, .inr (1, [.ref cd, .ref ln, .int (nI tot)])), (cd, .inl (cI, 24, .inl f))]) [0] [1, 2, 3] rfl rfl rfl rfl (by decide) 0 0 rfl rfl rfl rfl rfl (Nat.le_of_ble_eq_true rfl) dX0_goOn_189 ⟨Nat.le_of_ble_eq_true rfl, Nat.le_of_ble_eq_true rfl⟩ rfl (fun r u hu => ?_)
      have hu : r = nI (ml n t) := hu
      subst hu
      refine z_wse (ws' := [(ln, .inl (cI, 4, .inl g)), (pr, .inr (1, [.ref cd, .ref ln, .int (nI tot)])), (cd, .inl (cI, 24, .inl f)), (a, .inr (0, [.ref pr, .int (nI md), .long (lN h), .long (lN n)]))]) rfl ?_
      refine z_callSi X (pc' := 195) (fun sz => c_waitingIn l D cI cJ sz (ml n t) (ml_lt _ _)) (zcwS X TTg 1 mL_X0_62 mT_X0_waitingIn mN_X0 mK_X0_waitingIn rfl rfl (by decide +kernel) ⟨(Nat.le_of_ble_eq_true rfl), (Nat.le_of_ble_eq_true rfl)⟩) (wr := [(ln, .inl (cI, 4, .inl g)), (pr, .inr (1, [.ref cd, .ref ln, .int (nI tot)])), (cd, .inl (cI, 24, .inl f)), (a, .inr (0, [.ref pr, .int (nI md), .long (lN h), .long (lN n)]))]) [] [0, 1, 2, 3] rfl rfl rfl rfl (by decide) rfl rfl (Nat.le_of_ble_eq_true rfl) dX0_goOn_192 ⟨Nat.le_of_ble_eq_true rfl, Nat.le_of_ble_eq_true rfl⟩ rfl (fun r u hu => ?_)
      have hu : r = nI (wt (ml n t)) := hu
      subst hu
      refine z_wse (ws' := [(ln, .inl (cI, 4, .inl g)), (pr, .inr (1, [.ref cd, .ref ln, .int (nI tot)])), (cd, .inl (cI, 24, .inl f)), (a, .inr (0, [.ref pr, .int (nI md), .long (lN h), .long (lN n)]))]) rfl ?_
      refine z_if_leN X (tgt := 200) (pc' := 198) (by have := wt_lt (ml n t); omega) dX0_goOn_195 (by decide) rfl (fun h7 => ?_) (fun h7 => ?_)
      · have hwz : wt (ml n t) ≤ 0 := h7
        refine z_aload_n X (pc' := 201) dX0_goOn_200 rfl 6 rfl rfl ?_
        refine z_iload X (pc' := 203) dX0_goOn_201 3 rfl rfl ?_
        refine z_iconst X (v := nI 4) (pc' := 204) dX0_goOn_203 (by decide) rfl ?_
        refine z_ishr X (pc' := 205) dX0_goOn_204 rfl ?_
        refine z_topi (y := nI (k0 / 16)) (nb_cn (by omega)) ?_
        refine z_iload X (pc' := 207) dX0_goOn_205 2 rfl rfl ?_
        refine z_iload X (pc' := 209) dX0_goOn_207 1 rfl rfl ?_
        refine z_callVv X (pc' := 212) (fun sz => c_atOnce l D cI cJ sz a pr md h n (k0 / 16) (k0 / 4 % 4) (4 * t + k0 % 4) hS.1 (by omega) (by omega) (by omega)) (zcwV X TTg 3 mL_X0_65 mI_X0_atOnce mS_X0_atOnce mN_X0 mK_X0_atOnce rfl rfl (by decide +kernel) ⟨(Nat.le_of_ble_eq_true rfl), (Nat.le_of_ble_eq_true rfl)⟩) (wr := [(ln, .inl (cI, 4, .inl g)), (pr, .inr (1, [.ref cd, .ref ln, .int (nI tot)])), (cd, .inl (cI, 24, .inl f))]) [3] [0, 1, 2] rfl rfl rfl rfl (by decide) 0 3 rfl rfl rfl rfl rfl (Nat.le_of_ble_eq_true rfl) dX0_goOn_209 ⟨Nat.le_of_ble_eq_true rfl, Nat.le_of_ble_eq_true rfl⟩ rfl (fun u hu => ?_)
        refine z_wse (ws' := [(ln, .inl (cI, 4, .inl g)), (pr, .inr (1, [.ref cd, .ref ln, .int (nI tot)])), (cd, .inl (cI, 24, .inl f)), (a, .inr (0, [.ref pr, .int (nI md), .long (lN (st_once (k0 / 16) h (k0 / 4 % 4) (4 * t + k0 % 4))), .long (lN n)]))]) rfl ?_
        refine z_aload_n X (pc' := 213) dX0_goOn_212 rfl 6 rfl rfl ?_
        refine z_iload_n X (pc' := 214) dX0_goOn_213 rfl 7 rfl rfl ?_
        refine z_iload_n X (pc' := 215) dX0_goOn_214 rfl 5 rfl rfl ?_
        refine z_iconst X (v := nI 1) (pc' := 216) dX0_goOn_215 (by decide) rfl ?_
        refine z_iadd X (pc' := 217) dX0_goOn_216 rfl ?_
        refine z_topi (y := nI ((pl (ml n t)) + 1)) (nI_add _ _) ?_
        refine z_iload X (pc' := 219) dX0_goOn_217 0 rfl rfl ?_
        refine z_iadd X (pc' := 220) dX0_goOn_219 rfl ?_
        refine z_topi (y := nI (((pl (ml n t)) + 1) + 0)) (nI_add _ _) ?_
        refine z_topi (y := nI (pl (ml n t) + 1)) (by rw [Nat.add_zero]) ?_
        refine z_iload_n X (pc' := 221) dX0_goOn_220 rfl 4 rfl rfl ?_
        have hp8 := pl_lt (ml n t)
        refine z_mmin X (pc' := 224) mL_X0_69 mT_Math_min mN_Math mK_Math_min (by omega) (by omega) dX0_goOn_221 (Nat.le_of_ble_eq_true rfl) (Nat.le_of_ble_eq_true rfl) (Nat.le_of_ble_eq_true rfl) (Nat.le_of_ble_eq_true rfl) rfl ?_
        refine z_callVv X (pc' := 227) (fun sz => c_setPlace l D cI cJ sz a pr md (st_once (k0 / 16) h (k0 / 4 % 4) (4 * t + k0 % 4)) n t (min (pl (ml n t) + 1) ((P t).length)) hn ht (by omega)) (zcwV X TTg 2 mL_X0_74 mI_X0_setPlace mS_X0_setPlace mN_X0 mK_X0_setPlace rfl rfl (by decide +kernel) ⟨(Nat.le_of_ble_eq_true rfl), (Nat.le_of_ble_eq_true rfl)⟩) (wr := [(ln, .inl (cI, 4, .inl g)), (pr, .inr (1, [.ref cd, .ref ln, .int (nI tot)])), (cd, .inl (cI, 24, .inl f))]) [3] [0, 1, 2] rfl rfl rfl rfl (by decide) 0 3 rfl rfl rfl rfl rfl (Nat.le_of_ble_eq_true rfl) dX0_goOn_224 ⟨Nat.le_of_ble_eq_true rfl, Nat.le_of_ble_eq_true rfl⟩ rfl (fun u hu => ?_)
        refine z_wse (ws' := [(ln, .inl (cI, 4, .inl g)), (pr, .inr (1, [.ref cd, .ref ln, .int (nI tot)])), (cd, .inl (cI, 24, .inl f)), (a, .inr (0, [.ref pr, .int (nI md), .long (lN (st_once (k0 / 16) h (k0 / 4 % 4) (4 * t + k0 % 4))), .long (lN (mx n t (ml n t / 8 * 8 + min (pl (ml n t) + 1) ((P t).length))))]))]) rfl ?_
        refine z_iconst X (v := nI 1) (pc' := 228) dX0_goOn_227 (by decide) rfl ?_
        refine z_ws (ws' := [(a, .inr (0, [.ref pr, .int (nI md), .long (lN (st_once (k0 / 16) h (k0 / 4 % 4) (4 * t + k0 % 4))), .long (lN (mx n t (ml n t / 8 * 8 + min (pl (ml n t) + 1) ((P t).length))))])), (pr, .inr (1, [.ref cd, .ref ln, .int (nI tot)])), (cd, .inl (cI, 24, .inl f)), (ln, .inl (cI, 4, .inl g))]) [3, 1, 2, 0] (by decide) rfl ?_
        exact z_iret X (t1 := .boolean) rfl rfl (st_once (k0 / 16) h (k0 / 4 % 4) (4 * t + k0 % 4), mx n t (ml n t / 8 * 8 + min (pl (ml n t) + 1) ((P t).length))) (by show rOpt (st_go P md h n t) _ _; rw [hgo]; unfold st_do; rw [if_neg (by omega), if_neg (by omega), if_neg (by omega), if_neg (by omega), if_neg (by omega)]; exact ⟨rfl, rfl⟩) rfl (Nat.le_of_ble_eq_true rfl) (Nat.le_of_ble_eq_true rfl) dX0_goOn_228
      · have hwz : ¬ wt (ml n t) ≤ 0 := h7
        refine z_iconst X (v := nI 0) (pc' := 199) dX0_goOn_198 (by decide) rfl ?_
        refine z_ws (ws' := [(a, .inr (0, [.ref pr, .int (nI md), .long (lN h), .long (lN n)])), (pr, .inr (1, [.ref cd, .ref ln, .int (nI tot)])), (cd, .inl (cI, 24, .inl f)), (ln, .inl (cI, 4, .inl g))]) [3, 1, 2, 0] (by decide) rfl ?_
        exact z_iret X (t1 := .boolean) rfl rfl (h, n) (by show rOpt (st_go P md h n t) _ _; rw [hgo]; unfold st_do; rw [if_neg (by omega), if_neg (by omega), if_neg (by omega), if_neg (by omega), if_pos (by omega)]; exact rfl) rfl (Nat.le_of_ble_eq_true rfl) (Nat.le_of_ble_eq_true rfl) dX0_goOn_199
    · refine z_topi (y := nI 5) (by rw [hk]) ?_
      refine z_tableIn X (tgt := 187) dX0_goOn_61 (by decide) (by decide) rfl (by decide) ?_
      refine z_aload_n X (pc' := 188) dX0_goOn_187 rfl 6 rfl rfl ?_
      refine z_iload_n X (pc' := 189) dX0_goOn_188 rfl 7 rfl rfl ?_
      refine z_callVi X (pc' := 192) (fun sz => c_laneOf l D cI cJ sz a pr md h n t hn ht) (zcwV X TTg 1 mL_X0_34 mI_X0_laneOf mS_X0_laneOf mN_X0 mK_X0_laneOf rfl rfl (by decide +kernel) ⟨(Nat.le_of_ble_eq_true rfl), (Nat.le_of_ble_eq_true rfl)⟩) (wr := [(ln, .inl (cI, 4, .inl g)), (pr, .inr (1, [.ref cd, .ref ln, .int (nI tot)])), (cd, .inl (cI, 24, .inl f))]) [0] [1, 2, 3] rfl rfl rfl rfl (by decide) 0 0 rfl rfl rfl rfl rfl (Nat.le_of_ble_eq_true rfl) dX0_goOn_189 ⟨Nat.le_of_ble_eq_true rfl, Nat.le_of_ble_eq_true rfl⟩ rfl (fun r u hu => ?_)
      have hu : r = nI (ml n t) := hu
      subst hu
      refine z_wse (ws' := [(ln, .inl (cI, 4, .inl g)), (pr, .inr (1, [.ref cd, .ref ln, .int (nI tot)])), (cd, .inl (cI, 24, .inl f)), (a, .inr (0, [.ref pr, .int (nI md), .long (lN h), .long (lN n)]))]) rfl ?_
      refine z_callSi X (pc' := 195) (fun sz => c_waitingIn l D cI cJ sz (ml n t) (ml_lt _ _)) (zcwS X TTg 1 mL_X0_62 mT_X0_waitingIn mN_X0 mK_X0_waitingIn rfl rfl (by decide +kernel) ⟨(Nat.le_of_ble_eq_true rfl), (Nat.le_of_ble_eq_true rfl)⟩) (wr := [(ln, .inl (cI, 4, .inl g)), (pr, .inr (1, [.ref cd, .ref ln, .int (nI tot)])), (cd, .inl (cI, 24, .inl f)), (a, .inr (0, [.ref pr, .int (nI md), .long (lN h), .long (lN n)]))]) [] [0, 1, 2, 3] rfl rfl rfl rfl (by decide) rfl rfl (Nat.le_of_ble_eq_true rfl) dX0_goOn_192 ⟨Nat.le_of_ble_eq_true rfl, Nat.le_of_ble_eq_true rfl⟩ rfl (fun r u hu => ?_)
      have hu : r = nI (wt (ml n t)) := hu
      subst hu
      refine z_wse (ws' := [(ln, .inl (cI, 4, .inl g)), (pr, .inr (1, [.ref cd, .ref ln, .int (nI tot)])), (cd, .inl (cI, 24, .inl f)), (a, .inr (0, [.ref pr, .int (nI md), .long (lN h), .long (lN n)]))]) rfl ?_
      refine z_if_leN X (tgt := 200) (pc' := 198) (by have := wt_lt (ml n t); omega) dX0_goOn_195 (by decide) rfl (fun h8 => ?_) (fun h8 => ?_)
      · have hwz : wt (ml n t) ≤ 0 := h8
        refine z_aload_n X (pc' := 201) dX0_goOn_200 rfl 6 rfl rfl ?_
        refine z_iload X (pc' := 203) dX0_goOn_201 3 rfl rfl ?_
        refine z_iconst X (v := nI 4) (pc' := 204) dX0_goOn_203 (by decide) rfl ?_
        refine z_ishr X (pc' := 205) dX0_goOn_204 rfl ?_
        refine z_topi (y := nI (k0 / 16)) (nb_cn (by omega)) ?_
        refine z_iload X (pc' := 207) dX0_goOn_205 2 rfl rfl ?_
        refine z_iload X (pc' := 209) dX0_goOn_207 1 rfl rfl ?_
        refine z_callVv X (pc' := 212) (fun sz => c_atOnce l D cI cJ sz a pr md h n (k0 / 16) (k0 / 4 % 4) (4 * t + k0 % 4) hS.1 (by omega) (by omega) (by omega)) (zcwV X TTg 3 mL_X0_65 mI_X0_atOnce mS_X0_atOnce mN_X0 mK_X0_atOnce rfl rfl (by decide +kernel) ⟨(Nat.le_of_ble_eq_true rfl), (Nat.le_of_ble_eq_true rfl)⟩) (wr := [(ln, .inl (cI, 4, .inl g)), (pr, .inr (1, [.ref cd, .ref ln, .int (nI tot)])), (cd, .inl (cI, 24, .inl f))]) [3] [0, 1, 2] rfl rfl rfl rfl (by decide) 0 3 rfl rfl rfl rfl rfl (Nat.le_of_ble_eq_true rfl) dX0_goOn_209 ⟨Nat.le_of_ble_eq_true rfl, Nat.le_of_ble_eq_true rfl⟩ rfl (fun u hu => ?_)
        refine z_wse (ws' := [(ln, .inl (cI, 4, .inl g)), (pr, .inr (1, [.ref cd, .ref ln, .int (nI tot)])), (cd, .inl (cI, 24, .inl f)), (a, .inr (0, [.ref pr, .int (nI md), .long (lN (st_once (k0 / 16) h (k0 / 4 % 4) (4 * t + k0 % 4))), .long (lN n)]))]) rfl ?_
        refine z_aload_n X (pc' := 213) dX0_goOn_212 rfl 6 rfl rfl ?_
        refine z_iload_n X (pc' := 214) dX0_goOn_213 rfl 7 rfl rfl ?_
        refine z_iload_n X (pc' := 215) dX0_goOn_214 rfl 5 rfl rfl ?_
        refine z_iconst X (v := nI 1) (pc' := 216) dX0_goOn_215 (by decide) rfl ?_
        refine z_iadd X (pc' := 217) dX0_goOn_216 rfl ?_
        refine z_topi (y := nI ((pl (ml n t)) + 1)) (nI_add _ _) ?_
        refine z_iload X (pc' := 219) dX0_goOn_217 0 rfl rfl ?_
        refine z_iadd X (pc' := 220) dX0_goOn_219 rfl ?_
        refine z_topi (y := nI (((pl (ml n t)) + 1) + 0)) (nI_add _ _) ?_
        refine z_topi (y := nI (pl (ml n t) + 1)) (by rw [Nat.add_zero]) ?_
        refine z_iload_n X (pc' := 221) dX0_goOn_220 rfl 4 rfl rfl ?_
        have hp8 := pl_lt (ml n t)
        refine z_mmin X (pc' := 224) mL_X0_69 mT_Math_min mN_Math mK_Math_min (by omega) (by omega) dX0_goOn_221 (Nat.le_of_ble_eq_true rfl) (Nat.le_of_ble_eq_true rfl) (Nat.le_of_ble_eq_true rfl) (Nat.le_of_ble_eq_true rfl) rfl ?_
        refine z_callVv X (pc' := 227) (fun sz => c_setPlace l D cI cJ sz a pr md (st_once (k0 / 16) h (k0 / 4 % 4) (4 * t + k0 % 4)) n t (min (pl (ml n t) + 1) ((P t).length)) hn ht (by omega)) (zcwV X TTg 2 mL_X0_74 mI_X0_setPlace mS_X0_setPlace mN_X0 mK_X0_setPlace rfl rfl (by decide +kernel) ⟨(Nat.le_of_ble_eq_true rfl), (Nat.le_of_ble_eq_true rfl)⟩) (wr := [(ln, .inl (cI, 4, .inl g)), (pr, .inr (1, [.ref cd, .ref ln, .int (nI tot)])), (cd, .inl (cI, 24, .inl f))]) [3] [0, 1, 2] rfl rfl rfl rfl (by decide) 0 3 rfl rfl rfl rfl rfl (Nat.le_of_ble_eq_true rfl) dX0_goOn_224 ⟨Nat.le_of_ble_eq_true rfl, Nat.le_of_ble_eq_true rfl⟩ rfl (fun u hu => ?_)
        refine z_wse (ws' := [(ln, .inl (cI, 4, .inl g)), (pr, .inr (1, [.ref cd, .ref ln, .int (nI tot)])), (cd, .inl (cI, 24, .inl f)), (a, .inr (0, [.ref pr, .int (nI md), .long (lN (st_once (k0 / 16) h (k0 / 4 % 4) (4 * t + k0 % 4))), .long (lN (mx n t (ml n t / 8 * 8 + min (pl (ml n t) + 1) ((P t).length))))]))]) rfl ?_
        refine z_iconst X (v := nI 1) (pc' := 228) dX0_goOn_227 (by decide) rfl ?_
        refine z_ws (ws' := [(a, .inr (0, [.ref pr, .int (nI md), .long (lN (st_once (k0 / 16) h (k0 / 4 % 4) (4 * t + k0 % 4))), .long (lN (mx n t (ml n t / 8 * 8 + min (pl (ml n t) + 1) ((P t).length))))])), (pr, .inr (1, [.ref cd, .ref ln, .int (nI tot)])), (cd, .inl (cI, 24, .inl f)), (ln, .inl (cI, 4, .inl g))]) [3, 1, 2, 0] (by decide) rfl ?_
        exact z_iret X (t1 := .boolean) rfl rfl (st_once (k0 / 16) h (k0 / 4 % 4) (4 * t + k0 % 4), mx n t (ml n t / 8 * 8 + min (pl (ml n t) + 1) ((P t).length))) (by show rOpt (st_go P md h n t) _ _; rw [hgo]; unfold st_do; rw [if_neg (by omega), if_neg (by omega), if_neg (by omega), if_neg (by omega), if_neg (by omega)]; exact ⟨rfl, rfl⟩) rfl (Nat.le_of_ble_eq_true rfl) (Nat.le_of_ble_eq_true rfl) dX0_goOn_228
      · have hwz : ¬ wt (ml n t) ≤ 0 := h8
        refine z_iconst X (v := nI 0) (pc' := 199) dX0_goOn_198 (by decide) rfl ?_
        refine z_ws (ws' := [(a, .inr (0, [.ref pr, .int (nI md), .long (lN h), .long (lN n)])), (pr, .inr (1, [.ref cd, .ref ln, .int (nI tot)])), (cd, .inl (cI, 24, .inl f)), (ln, .inl (cI, 4, .inl g))]) [3, 1, 2, 0] (by decide) rfl ?_
        exact z_iret X (t1 := .boolean) rfl rfl (h, n) (by show rOpt (st_go P md h n t) _ _; rw [hgo]; unfold st_do; rw [if_neg (by omega), if_neg (by omega), if_neg (by omega), if_neg (by omega), if_pos (by omega)]; exact rfl) rfl (Nat.le_of_ble_eq_true rfl) (Nat.le_of_ble_eq_true rfl) dX0_goOn_199
    · refine z_topi (y := nI 6) (by rw [hk]) ?_
      refine z_tableIn X (tgt := 164) dX0_goOn_61 (by decide) (by decide) rfl (by decide) ?_
      refine z_aload_n X (pc' := 165) dX0_goOn_164 rfl 6 rfl rfl ?_
      refine z_get X (v := .long (lN h)) (pc' := 168) 0 rfl rfl inX0 2 (by decide) mF_X0_15 rfl dX0_goOn_165 rfl ?_
      refine z_iload X (pc' := 170) dX0_goOn_168 1 rfl rfl ?_
      refine z_callSNi X (pc' := 173) (fun sz => c_item l D cI cJ sz h (4 * t + k0 % 4) (by omega) (by omega)) (zcwSN X TTg 2 mH_X0_51 mT_X3_item mN_X3 mK_X3_item rfl rfl (by decide +kernel) ⟨(Nat.le_of_ble_eq_true rfl), (Nat.le_of_ble_eq_true rfl)⟩) (wr := [(a, .inr (0, [.ref pr, .int (nI md), .long (lN h), .long (lN n)])), (ln, .inl (cI, 4, .inl g)), (pr, .inr (1, [.ref cd, .ref ln, .int (nI tot)])), (cd, .inl (cI, 24, .inl f))]) [] [0, 1, 2, 3] rfl rfl rfl rfl (by decide) rfl rfl (Nat.le_of_ble_eq_true rfl) dX0_goOn_170 ⟨Nat.le_of_ble_eq_true rfl, Nat.le_of_ble_eq_true rfl⟩ rfl (fun r u hu => ?_)
      have hu : r = nI (mi h (4 * t + k0 % 4)) := hu
      subst hu
      refine z_wse (ws' := [(a, .inr (0, [.ref pr, .int (nI md), .long (lN h), .long (lN n)])), (ln, .inl (cI, 4, .inl g)), (pr, .inr (1, [.ref cd, .ref ln, .int (nI tot)])), (cd, .inl (cI, 24, .inl f))]) rfl ?_
      refine z_if_neN X (tgt := 181) (pc' := 176) (by have := mi_lt h (4 * t + k0 % 4); omega) dX0_goOn_173 (by decide) rfl (fun h9 => ?_) (fun h9 => ?_)
      · have hmi : ¬ mi h (4 * t + k0 % 4) = 0 := h9
        refine z_iconst X (v := nI 0) (pc' := 182) dX0_goOn_181 (by decide) rfl ?_
        refine z_istore X (lv' := [(7, .int (nI 0)), (6, .int (nI (4 * t + k0 % 4))), (5, .int (nI (k0 / 4 % 4))), (4, .int (nI k0)), (3, .int (nI ((P t).length))), (2, .int (nI (pl (ml n t)))), (0, .ref a), (1, .int (nI t))]) (pc' := 184) dX0_goOn_182 (by decide) rfl rfl ?_
        refine z_goto X (tgt := 212) dX0_goOn_184 (by decide) ?_
        refine z_aload_n X (pc' := 213) dX0_goOn_212 rfl 6 rfl rfl ?_
        refine z_iload_n X (pc' := 214) dX0_goOn_213 rfl 7 rfl rfl ?_
        refine z_iload_n X (pc' := 215) dX0_goOn_214 rfl 5 rfl rfl ?_
        refine z_iconst X (v := nI 1) (pc' := 216) dX0_goOn_215 (by decide) rfl ?_
        refine z_iadd X (pc' := 217) dX0_goOn_216 rfl ?_
        refine z_topi (y := nI ((pl (ml n t)) + 1)) (nI_add _ _) ?_
        refine z_iload X (pc' := 219) dX0_goOn_217 0 rfl rfl ?_
        refine z_iadd X (pc' := 220) dX0_goOn_219 rfl ?_
        refine z_topi (y := nI (((pl (ml n t)) + 1) + 0)) (nI_add _ _) ?_
        refine z_topi (y := nI (pl (ml n t) + 1)) (by rw [Nat.add_zero]) ?_
        refine z_iload_n X (pc' := 221) dX0_goOn_220 rfl 4 rfl rfl ?_
        have hp8 := pl_lt (ml n t)
        refine z_mmin X (pc' := 224) mL_X0_69 mT_Math_min mN_Math mK_Math_min (by omega) (by omega) dX0_goOn_221 (Nat.le_of_ble_eq_true rfl) (Nat.le_of_ble_eq_true rfl) (Nat.le_of_ble_eq_true rfl) (Nat.le_of_ble_eq_true rfl) rfl ?_
        refine z_callVv X (pc' := 227) (fun sz => c_setPlace l D cI cJ sz a pr md h n t (min (pl (ml n t) + 1) ((P t).length)) hn ht (by omega)) (zcwV X TTg 2 mL_X0_74 mI_X0_setPlace mS_X0_setPlace mN_X0 mK_X0_setPlace rfl rfl (by decide +kernel) ⟨(Nat.le_of_ble_eq_true rfl), (Nat.le_of_ble_eq_true rfl)⟩) (wr := [(ln, .inl (cI, 4, .inl g)), (pr, .inr (1, [.ref cd, .ref ln, .int (nI tot)])), (cd, .inl (cI, 24, .inl f))]) [0] [1, 2, 3] rfl rfl rfl rfl (by decide) 0 0 rfl rfl rfl rfl rfl (Nat.le_of_ble_eq_true rfl) dX0_goOn_224 ⟨Nat.le_of_ble_eq_true rfl, Nat.le_of_ble_eq_true rfl⟩ rfl (fun u hu => ?_)
        refine z_wse (ws' := [(ln, .inl (cI, 4, .inl g)), (pr, .inr (1, [.ref cd, .ref ln, .int (nI tot)])), (cd, .inl (cI, 24, .inl f)), (a, .inr (0, [.ref pr, .int (nI md), .long (lN h), .long (lN (mx n t (ml n t / 8 * 8 + min (pl (ml n t) + 1) ((P t).length))))]))]) rfl ?_
        refine z_iconst X (v := nI 1) (pc' := 228) dX0_goOn_227 (by decide) rfl ?_
        refine z_ws (ws' := [(a, .inr (0, [.ref pr, .int (nI md), .long (lN h), .long (lN (mx n t (ml n t / 8 * 8 + min (pl (ml n t) + 1) ((P t).length))))])), (pr, .inr (1, [.ref cd, .ref ln, .int (nI tot)])), (cd, .inl (cI, 24, .inl f)), (ln, .inl (cI, 4, .inl g))]) [3, 1, 2, 0] (by decide) rfl ?_
        exact z_iret X (t1 := .boolean) rfl rfl (h, mx n t (ml n t / 8 * 8 + min (pl (ml n t) + 1) ((P t).length))) (by show rOpt (st_go P md h n t) _ _; rw [hgo]; unfold st_do; rw [if_neg (by omega), if_neg (by omega), if_neg (by omega), if_pos hk, if_neg hmi]; exact ⟨rfl, rfl⟩) rfl (Nat.le_of_ble_eq_true rfl) (Nat.le_of_ble_eq_true rfl) dX0_goOn_228
      · have hmi : mi h (4 * t + k0 % 4) = 0 := h9
        refine z_iload X (pc' := 178) dX0_goOn_176 2 rfl rfl ?_
        refine z_goto X (tgt := 182) dX0_goOn_178 (by decide) ?_
        refine z_istore X (lv' := [(7, .int (nI (k0 / 4 % 4))), (6, .int (nI (4 * t + k0 % 4))), (5, .int (nI (k0 / 4 % 4))), (4, .int (nI k0)), (3, .int (nI ((P t).length))), (2, .int (nI (pl (ml n t)))), (0, .ref a), (1, .int (nI t))]) (pc' := 184) dX0_goOn_182 (by decide) rfl rfl ?_
        refine z_goto X (tgt := 212) dX0_goOn_184 (by decide) ?_
        refine z_aload_n X (pc' := 213) dX0_goOn_212 rfl 6 rfl rfl ?_
        refine z_iload_n X (pc' := 214) dX0_goOn_213 rfl 7 rfl rfl ?_
        refine z_iload_n X (pc' := 215) dX0_goOn_214 rfl 5 rfl rfl ?_
        refine z_iconst X (v := nI 1) (pc' := 216) dX0_goOn_215 (by decide) rfl ?_
        refine z_iadd X (pc' := 217) dX0_goOn_216 rfl ?_
        refine z_topi (y := nI ((pl (ml n t)) + 1)) (nI_add _ _) ?_
        refine z_iload X (pc' := 219) dX0_goOn_217 0 rfl rfl ?_
        refine z_iadd X (pc' := 220) dX0_goOn_219 rfl ?_
        refine z_topi (y := nI (((pl (ml n t)) + 1) + (k0 / 4 % 4))) (nI_add _ _) ?_
        refine z_topi (y := nI (((pl (ml n t)) + 1) + (k0 / 4 % 4))) rfl ?_
        refine z_iload_n X (pc' := 221) dX0_goOn_220 rfl 4 rfl rfl ?_
        have hp8 := pl_lt (ml n t)
        refine z_mmin X (pc' := 224) mL_X0_69 mT_Math_min mN_Math mK_Math_min (by omega) (by omega) dX0_goOn_221 (Nat.le_of_ble_eq_true rfl) (Nat.le_of_ble_eq_true rfl) (Nat.le_of_ble_eq_true rfl) (Nat.le_of_ble_eq_true rfl) rfl ?_
        refine z_callVv X (pc' := 227) (fun sz => c_setPlace l D cI cJ sz a pr md h n t (min (((pl (ml n t)) + 1) + (k0 / 4 % 4)) ((P t).length)) hn ht (by omega)) (zcwV X TTg 2 mL_X0_74 mI_X0_setPlace mS_X0_setPlace mN_X0 mK_X0_setPlace rfl rfl (by decide +kernel) ⟨(Nat.le_of_ble_eq_true rfl), (Nat.le_of_ble_eq_true rfl)⟩) (wr := [(ln, .inl (cI, 4, .inl g)), (pr, .inr (1, [.ref cd, .ref ln, .int (nI tot)])), (cd, .inl (cI, 24, .inl f))]) [0] [1, 2, 3] rfl rfl rfl rfl (by decide) 0 0 rfl rfl rfl rfl rfl (Nat.le_of_ble_eq_true rfl) dX0_goOn_224 ⟨Nat.le_of_ble_eq_true rfl, Nat.le_of_ble_eq_true rfl⟩ rfl (fun u hu => ?_)
        refine z_wse (ws' := [(ln, .inl (cI, 4, .inl g)), (pr, .inr (1, [.ref cd, .ref ln, .int (nI tot)])), (cd, .inl (cI, 24, .inl f)), (a, .inr (0, [.ref pr, .int (nI md), .long (lN h), .long (lN (mx n t (ml n t / 8 * 8 + min (((pl (ml n t)) + 1) + (k0 / 4 % 4)) ((P t).length))))]))]) rfl ?_
        refine z_iconst X (v := nI 1) (pc' := 228) dX0_goOn_227 (by decide) rfl ?_
        refine z_ws (ws' := [(a, .inr (0, [.ref pr, .int (nI md), .long (lN h), .long (lN (mx n t (ml n t / 8 * 8 + min (((pl (ml n t)) + 1) + (k0 / 4 % 4)) ((P t).length))))])), (pr, .inr (1, [.ref cd, .ref ln, .int (nI tot)])), (cd, .inl (cI, 24, .inl f)), (ln, .inl (cI, 4, .inl g))]) [3, 1, 2, 0] (by decide) rfl ?_
        exact z_iret X (t1 := .boolean) rfl rfl (h, mx n t (ml n t / 8 * 8 + min (((pl (ml n t)) + 1) + (k0 / 4 % 4)) ((P t).length))) (by show rOpt (st_go P md h n t) _ _; rw [hgo]; unfold st_do; rw [if_neg (by omega), if_neg (by omega), if_neg (by omega), if_pos hk, if_pos hmi]; exact ⟨rfl, rfl⟩) rfl (Nat.le_of_ble_eq_true rfl) (Nat.le_of_ble_eq_true rfl) dX0_goOn_228
  · have hlt : ¬ pl (ml n t) < (P t).length := h1
    refine z_iconst X (v := nI 0) (pc' := 24) dX0_goOn_23 (by decide) rfl ?_
    refine z_ws (ws' := [(a, .inr (0, [.ref pr, .int (nI md), .long (lN h), .long (lN n)])), (pr, .inr (1, [.ref cd, .ref ln, .int (nI tot)])), (cd, .inl (cI, 24, .inl f)), (ln, .inl (cI, 4, .inl g))]) [1, 2, 0, 3] (by decide) rfl ?_
    exact z_iret X (t1 := .boolean) rfl rfl (h, n) (by show rOpt (st_go P md h n t) _ _; unfold st_go; rw [List.getElem?_eq_none (by omega)]; exact rfl) rfl (Nat.le_of_ble_eq_true rfl) (Nat.le_of_ble_eq_true rfl) dX0_goOn_24
set_option maxHeartbeats 4000000 in
set_option maxRecDepth 100000 in
/-- one move -/
theorem c_step (l : Launch) (D : va_G) (cI cJ : ClassId) (sz : Nat) (a pr cd ln tot md h n k : Nat) (x0 y0 : Int64) (f g : Nat → Int32) (P : Nat → List Nat) (hmd : md < 3) (hS : Sok P h n) (hP : Pok P) (hR : PRep P f g) (hk : k < 20) : KI l D cI cJ yX0_step cX0_step 6 (some .boolean) 3 79 0 0 [.ref a, .long (lN h), .long (lN n), .int (nI k)] [(a, .inr (0, [.ref pr, .int (nI md), .long x0, .long y0])), (pr, .inr (1, [.ref cd, .ref ln, .int (nI tot)])), (cd, .inl (cI, 24, .inl f)), (ln, .inl (cI, 4, .inl g))] sz (S := Nat × Nat) (fun r u => rOpt (st_step P md (h, n) k) r u) (fun u => [(a, .inr (0, [.ref pr, .int (nI md), .long (lN u.1), .long (lN u.2)])), (pr, .inr (1, [.ref cd, .ref ln, .int (nI tot)])), (cd, .inl (cI, 24, .inl f)), (ln, .inl (cI, 4, .inl g))]) := by
  refine zMetI (lv := [(0, .ref a), (1, .long (lN h)), (3, .long (lN n)), (5, .int (nI k))]) NS0_ok (by decide) rfl (Nat.le_of_ble_eq_true rfl) rfl ?_
  intro p e s m args below meth c A X hin hA
  have hh : h < 2 ^ 64 := Nat.lt_trans hS.1 (by decide)
  have hn : n < 2 ^ 64 := Nat.lt_trans hS.2.1 (by decide)
  refine z_aload_n X (pc' := 1) dX0_step_0 rfl 0 rfl rfl ?_
  refine z_lload_n X (pc' := 2) dX0_step_1 rfl 1 rfl rfl ?_
  refine z_put X (t1 := .long) (ws' := [(a, .inr (0, [.ref pr, .int (nI md), .long (lN h), .long y0])), (pr, .inr (1, [.ref cd, .ref ln, .int (nI tot)])), (cd, .inl (cI, 24, .inl f)), (ln, .inl (cI, 4, .inl g))]) (pc' := 5) 0 rfl rfl inX0 tyX0 tyX0_ok nmX0 2 (by decide) mF_X0_15 rfl (by decide +kernel) rfl rfl (Nat.le_of_ble_eq_true rfl) dX0_step_2 rfl rfl ?_
  refine z_aload_n X (pc' := 6) dX0_step_5 rfl 0 rfl rfl ?_
  refine z_lload_n X (pc' := 7) dX0_step_6 rfl 2 rfl rfl ?_
  refine z_put X (t1 := .long) (ws' := [(a, .inr (0, [.ref pr, .int (nI md), .long (lN h), .long (lN n)])), (pr, .inr (1, [.ref cd, .ref ln, .int (nI tot)])), (cd, .inl (cI, 24, .inl f)), (ln, .inl (cI, 4, .inl g))]) (pc' := 10) 0 rfl rfl inX0 tyX0 tyX0_ok nmX0 3 (by decide) mF_X0_19 rfl (by decide +kernel) rfl rfl (Nat.le_of_ble_eq_true rfl) dX0_step_7 rfl rfl ?_
  refine z_iload X (pc' := 12) dX0_step_10 3 rfl rfl ?_
  refine z_iconst X (v := nI 4) (pc' := 13) dX0_step_12 (by decide) rfl ?_
  refine z_icmp_geN X (tgt := 23) (pc' := 16) (by omega) (by omega) dX0_step_13 (by decide) rfl (fun h1 => ?_) (fun h1 => ?_)
  · have hk4 : 4 ≤ k := h1
    have hst : st_step P md (h, n) k = st_rel md h n ((k - 4) / 4) ((k - 4) % 4) := by unfold st_step; rw [if_neg (by omega)]
    refine z_aload_n X (pc' := 24) dX0_step_23 rfl 0 rfl rfl ?_
    refine z_iload X (pc' := 26) dX0_step_24 3 rfl rfl ?_
    refine z_iconst X (v := nI 4) (pc' := 27) dX0_step_26 (by decide) rfl ?_
    refine z_isub X (pc' := 28) dX0_step_27 rfl ?_
    refine z_topi (y := nI (k - 4)) (pk_sub (by omega)) ?_
    refine z_iconst X (v := nI 4) (pc' := 29) dX0_step_28 (by decide) rfl ?_
    refine z_idiv X (pc' := 30) dX0_step_29 (by decide) rfl ?_
    refine z_topi (y := nI ((k - 4) / 4)) (pk_div (by omega) (by decide) (by decide)) ?_
    refine z_iload X (pc' := 32) dX0_step_30 3 rfl rfl ?_
    refine z_iconst X (v := nI 4) (pc' := 33) dX0_step_32 (by decide) rfl ?_
    refine z_isub X (pc' := 34) dX0_step_33 rfl ?_
    refine z_topi (y := nI (k - 4)) (pk_sub (by omega)) ?_
    refine z_iconst X (v := nI 4) (pc' := 35) dX0_step_34 (by decide) rfl ?_
    refine z_irem X (pc' := 36) dX0_step_35 (by decide) rfl ?_
    refine z_topi (y := nI ((k - 4) % 4)) (pk_rem (by omega) (by decide) (by decide)) ?_
    refine z_callVi X (pc' := 39) (fun sz => c_release l D cI cJ sz a pr md h n ((k - 4) / 4) ((k - 4) % 4) hmd hh hn (by omega) (by omega) (hS.2.2 _ (by omega)).1) (zcwV X TTg 2 mL_X0_30 mI_X0_release mS_X0_release mN_X0 mK_X0_release rfl rfl (by decide +kernel) ⟨(Nat.le_of_ble_eq_true rfl), (Nat.le_of_ble_eq_true rfl)⟩) (wr := [(pr, .inr (1, [.ref cd, .ref ln, .int (nI tot)])), (cd, .inl (cI, 24, .inl f)), (ln, .inl (cI, 4, .inl g))]) [0] [1, 2, 3] rfl rfl rfl rfl (by decide) 0 0 rfl rfl rfl rfl rfl (Nat.le_of_ble_eq_true rfl) dX0_step_36 ⟨Nat.le_of_ble_eq_true rfl, Nat.le_of_ble_eq_true rfl⟩ rfl (fun r u hu => ?_)
    refine z_wse (ws' := [(pr, .inr (1, [.ref cd, .ref ln, .int (nI tot)])), (cd, .inl (cI, 24, .inl f)), (ln, .inl (cI, 4, .inl g)), (a, .inr (0, [.ref pr, .int (nI md), .long (lN u.1), .long (lN u.2)]))]) rfl ?_
    rcases hso : st_rel md h n ((k - 4) / 4) ((k - 4) % 4) with _ | ⟨h1, n1⟩
    · rw [hso] at hu
      have hu : r = nI 0 := hu
      subst hu
      refine z_ws (ws' := [(a, .inr (0, [.ref pr, .int (nI md), .long (lN u.1), .long (lN u.2)])), (pr, .inr (1, [.ref cd, .ref ln, .int (nI tot)])), (cd, .inl (cI, 24, .inl f)), (ln, .inl (cI, 4, .inl g))]) [3, 0, 1, 2] (by decide) rfl ?_
      exact z_iret X (t1 := .boolean) rfl rfl (u.1, u.2) (by show rOpt (st_step P md (h, n) k) _ _; rw [hst, hso]; exact rfl) rfl (Nat.le_of_ble_eq_true rfl) (Nat.le_of_ble_eq_true rfl) dX0_step_39
    · rw [hso] at hu
      obtain ⟨hr1, hu1⟩ : r = nI 1 ∧ u = (h1, n1) := hu
      subst hr1
      subst hu1
      refine z_wse (ws' := [(pr, .inr (1, [.ref cd, .ref ln, .int (nI tot)])), (cd, .inl (cI, 24, .inl f)), (ln, .inl (cI, 4, .inl g)), (a, .inr (0, [.ref pr, .int (nI md), .long (lN h1), .long (lN n1)]))]) rfl ?_
      refine z_ws (ws' := [(a, .inr (0, [.ref pr, .int (nI md), .long (lN h1), .long (lN n1)])), (pr, .inr (1, [.ref cd, .ref ln, .int (nI tot)])), (cd, .inl (cI, 24, .inl f)), (ln, .inl (cI, 4, .inl g))]) [3, 0, 1, 2] (by decide) rfl ?_
      exact z_iret X (t1 := .boolean) rfl rfl (h1, n1) (by show rOpt (st_step P md (h, n) k) _ _; rw [hst, hso]; exact ⟨rfl, rfl⟩) rfl (Nat.le_of_ble_eq_true rfl) (Nat.le_of_ble_eq_true rfl) dX0_step_39
  · have hk4 : ¬ 4 ≤ k := h1
    have hst : st_step P md (h, n) k = st_go P md h n k := by unfold st_step; rw [if_pos (by omega)]
    refine z_aload_n X (pc' := 17) dX0_step_16 rfl 0 rfl rfl ?_
    refine z_iload X (pc' := 19) dX0_step_17 3 rfl rfl ?_
    refine z_callVi X (pc' := 22) (fun sz => c_goOn l D cI cJ sz a pr cd ln tot md h n k f g P hmd hS hP hR (by omega)) (zcwV X TTg 1 mL_X0_26 mI_X0_goOn mS_X0_goOn mN_X0 mK_X0_goOn rfl rfl (by decide +kernel) ⟨(Nat.le_of_ble_eq_true rfl), (Nat.le_of_ble_eq_true rfl)⟩) (wr := []) [0, 1, 2, 3] [] rfl rfl rfl rfl (by decide) 0 0 rfl rfl rfl rfl rfl (Nat.le_of_ble_eq_true rfl) dX0_step_19 ⟨Nat.le_of_ble_eq_true rfl, Nat.le_of_ble_eq_true rfl⟩ rfl (fun r u hu => ?_)
    refine z_wse (ws' := [(a, .inr (0, [.ref pr, .int (nI md), .long (lN u.1), .long (lN u.2)])), (pr, .inr (1, [.ref cd, .ref ln, .int (nI tot)])), (cd, .inl (cI, 24, .inl f)), (ln, .inl (cI, 4, .inl g))]) rfl ?_
    rcases hso : st_go P md h n k with _ | ⟨h1, n1⟩
    · rw [hso] at hu
      have hu : r = nI 0 := hu
      subst hu
      refine z_ws (ws' := [(a, .inr (0, [.ref pr, .int (nI md), .long (lN u.1), .long (lN u.2)])), (pr, .inr (1, [.ref cd, .ref ln, .int (nI tot)])), (cd, .inl (cI, 24, .inl f)), (ln, .inl (cI, 4, .inl g))]) [0, 1, 2, 3] (by decide) rfl ?_
      exact z_iret X (t1 := .boolean) rfl rfl (u.1, u.2) (by show rOpt (st_step P md (h, n) k) _ _; rw [hst, hso]; exact rfl) rfl (Nat.le_of_ble_eq_true rfl) (Nat.le_of_ble_eq_true rfl) dX0_step_22
    · rw [hso] at hu
      obtain ⟨hr1, hu1⟩ : r = nI 1 ∧ u = (h1, n1) := hu
      subst hr1
      subst hu1
      refine z_wse (ws' := [(a, .inr (0, [.ref pr, .int (nI md), .long (lN h1), .long (lN n1)])), (pr, .inr (1, [.ref cd, .ref ln, .int (nI tot)])), (cd, .inl (cI, 24, .inl f)), (ln, .inl (cI, 4, .inl g))]) rfl ?_
      refine z_ws (ws' := [(a, .inr (0, [.ref pr, .int (nI md), .long (lN h1), .long (lN n1)])), (pr, .inr (1, [.ref cd, .ref ln, .int (nI tot)])), (cd, .inl (cI, 24, .inl f)), (ln, .inl (cI, 4, .inl g))]) [0, 1, 2, 3] (by decide) rfl ?_
      exact z_iret X (t1 := .boolean) rfl rfl (h1, n1) (by show rOpt (st_step P md (h, n) k) _ _; rw [hst, hso]; exact ⟨rfl, rfl⟩) rfl (Nat.le_of_ble_eq_true rfl) (Nat.le_of_ble_eq_true rfl) dX0_step_22


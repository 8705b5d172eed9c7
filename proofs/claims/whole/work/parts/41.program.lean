def pAdd (P : Nat → List Nat) (t k : Nat) : Nat → List Nat := fun s => if s = t then P t ++ [k] else P s
def pDel (P : Nat → List Nat) (t : Nat) : Nat → List Nat := fun s => if s = t then [] else P s
theorem PRep_add {P : Nat → List Nat} {f g : Nat → Int32} {t k : Nat} (h : PRep P f g) (hP : Pok P) (ht : t < 4) (h6 : (P t).length < 6) : PRep (pAdd P t k) (upd f (t * 6 + (P t).length) (nI k)) (upd g t (nI ((P t).length + 1))) := by
  intro s hs
  unfold pAdd
  by_cases e : s = t
  · subst e
    rw [if_pos rfl]
    refine ⟨by rw [pk_us, List.length_append, List.length_singleton], fun i q hq => ?_⟩
    rcases Nat.lt_or_ge i (P s).length with q1 | q1
    · rw [List.getElem?_append_left q1] at hq
      rw [pk_un (by omega)]
      exact (h s hs).2 i q hq
    · rw [List.getElem?_append_right q1] at hq
      rcases Nat.eq_or_lt_of_le q1 with q2 | q2
      · rw [← q2, Nat.sub_self] at hq
        have hq : some k = some q := hq
        rw [← Option.some.inj hq, ← q2, pk_us]
      · rw [List.getElem?_eq_none (by rw [List.length_singleton]; omega)] at hq
        cases hq
  · rw [if_neg e]
    refine ⟨by rw [pk_un e]; exact (h s hs).1, fun i q hq => ?_⟩
    have hi : i < (P s).length := (List.getElem?_eq_some_iff.mp hq).1
    have := (hP s hs).1
    rw [pk_un (by omega)]
    exact (h s hs).2 i q hq
theorem PRep_del {P : Nat → List Nat} {f g : Nat → Int32} {t : Nat} (h : PRep P f g) : PRep (pDel P t) f (upd g t (nI 0)) := by
  intro s hs
  unfold pDel
  by_cases e : s = t
  · subst e
    rw [if_pos rfl]
    exact ⟨by rw [pk_us]; rfl, fun i q hq => by simp at hq⟩
  · rw [if_neg e, pk_un e]
    exact h s hs
theorem Pok_add {P : Nat → List Nat} {t k : Nat} (h : Pok P) (h6 : (P t).length < 6) (hk : k < 112) : Pok (pAdd P t k) := by
  intro s hs
  unfold pAdd
  by_cases e : s = t
  · subst e
    rw [if_pos rfl]
    refine ⟨by rw [List.length_append, List.length_singleton]; omega, fun q hq => ?_⟩
    rcases List.mem_append.mp hq with hq | hq
    · exact (h s hs).2 q hq
    · rw [List.mem_singleton.mp hq]; exact hk
  · rw [if_neg e]; exact h s hs
theorem Pok_del {P : Nat → List Nat} {t : Nat} (h : Pok P) : Pok (pDel P t) := by
  intro s hs
  unfold pDel
  by_cases e : s = t
  · subst e
    rw [if_pos rfl]
    exact ⟨by simp, fun q hq => by simp at hq⟩
  · rw [if_neg e]; exact h s hs
def pTot (P : Nat → List Nat) : Nat := (P 0).length + (P 1).length + (P 2).length + (P 3).length
theorem pTot_add {P : Nat → List Nat} {t k : Nat} (ht : t < 4) : pTot (pAdd P t k) = pTot P + 1 := by
  unfold pTot pAdd
  rcases (show t = 0 ∨ t = 1 ∨ t = 2 ∨ t = 3 by omega) with rfl | rfl | rfl | rfl <;> simp <;> omega
theorem pTot_del {P : Nat → List Nat} {t : Nat} (ht : t < 4) : pTot (pDel P t) + (P t).length = pTot P := by
  unfold pTot pDel
  rcases (show t = 0 ∨ t = 1 ∨ t = 2 ∨ t = 3 by omega) with rfl | rfl | rfl | rfl <;> simp <;> omega
theorem pTot_ge {P : Nat → List Nat} {t : Nat} (ht : t < 4) : (P t).length ≤ pTot P := by
  unfold pTot
  rcases (show t = 0 ∨ t = 1 ∨ t = 2 ∨ t = 3 by omega) with rfl | rfl | rfl | rfl <;> omega
set_option maxHeartbeats 4000000 in
set_option maxRecDepth 100000 in
/-- one instruction more -/
theorem c_append (l : Launch) (D : va_G) (cI cJ : ClassId) (sz : Nat) (pr cd ln tot t k a b len : Nat) (f g : Nat → Int32) (ht : t < 4) (hk : k < 7) (ha : a < 4) (hb : b < 4) (hg : g t = nI len) (hlen : len ≤ 6) (htot : tot ≤ 12) : KI l D cI cJ yX1_append cX1_append 6 (some .boolean) 0 0 0 0 [.ref pr, .int (nI t), .int (nI k), .int (nI a), .int (nI b)] [(pr, .inr (1, [.ref cd, .ref ln, .int (nI tot)])), (cd, .inl (cI, 24, .inl f)), (ln, .inl (cI, 4, .inl g))] sz (S := (Nat → Int32) × (Nat → Int32) × Nat) (fun r u => (len < 6 ∧ tot < 12 ∧ r = nI 1 ∧ u = (upd f (t * 6 + len) (nI (16 * k + 4 * a + b)), upd g t (nI (len + 1)), tot + 1)) ∨ (¬ (len < 6 ∧ tot < 12) ∧ r = nI 0 ∧ u = (f, g, tot))) (fun u => [(pr, .inr (1, [.ref cd, .ref ln, .int (nI u.2.2)])), (cd, .inl (cI, 24, .inl u.1)), (ln, .inl (cI, 4, .inl u.2.1))]) := by
  refine zMetI (lv := [(0, .ref pr), (1, .int (nI t)), (2, .int (nI k)), (3, .int (nI a)), (4, .int (nI b))]) NS0_ok (by decide) rfl (Nat.le_of_ble_eq_true rfl) rfl ?_
  intro p e s m args below meth c A X hin hA
  refine z_aload_n X (pc' := 1) dX1_append_0 rfl 0 rfl rfl ?_
  refine z_get X (v := .ref ln) (pc' := 4) 0 rfl rfl inX1 1 (by decide) mF_X1_15 rfl dX1_append_1 rfl ?_
  refine z_iload_n X (pc' := 5) dX1_append_4 rfl 1 rfl rfl ?_
  refine z_iald X (pc' := 6) 2 0 rfl rfl (by omega) (by omega) dX1_append_5 rfl ?_
  refine z_topi (y := nI len) hg ?_
  refine z_istore X (lv' := [(5, .int (nI len)), (0, .ref pr), (1, .int (nI t)), (2, .int (nI k)), (3, .int (nI a)), (4, .int (nI b))]) (pc' := 8) dX1_append_6 (by decide) rfl rfl ?_
  refine z_iload X (pc' := 10) dX1_append_8 0 rfl rfl ?_
  refine z_bipush X (v := nI 6) (pc' := 12) dX1_append_10 (by decide) rfl ?_
  refine z_icmp_geN X (tgt := 24) (pc' := 15) (by omega) (by omega) dX1_append_12 (by decide) rfl (fun h1 => ?_) (fun h1 => ?_)
  · have h6 : 6 ≤ len := h1
    refine z_iconst X (v := nI 0) (pc' := 25) dX1_append_24 (by decide) rfl ?_
    exact z_iret X (t1 := .boolean) rfl rfl (f, g, tot) (Or.inr ⟨by omega, rfl, rfl⟩) rfl (Nat.le_of_ble_eq_true rfl) (Nat.le_of_ble_eq_true rfl) dX1_append_25
  · have h6 : ¬ 6 ≤ len := h1
    refine z_aload_n X (pc' := 16) dX1_append_15 rfl 1 rfl rfl ?_
    refine z_get X (v := .int (nI tot)) (pc' := 19) 0 rfl rfl inX1 2 (by decide) mF_X1_18 rfl dX1_append_16 rfl ?_
    refine z_bipush X (v := nI 12) (pc' := 21) dX1_append_19 (by decide) rfl ?_
    refine z_icmp_ltN X (tgt := 26) (pc' := 24) (by omega) (by omega) dX1_append_21 (by decide) rfl (fun h2 => ?_) (fun h2 => ?_)
    · have h12 : tot < 12 := h2
      refine z_aload_n X (pc' := 27) dX1_append_26 rfl 1 rfl rfl ?_
      refine z_get X (v := .ref cd) (pc' := 30) 0 rfl rfl inX1 0 (by decide) mF_X1_9 rfl dX1_append_27 rfl ?_
      refine z_iload_n X (pc' := 31) dX1_append_30 rfl 2 rfl rfl ?_
      refine z_bipush X (v := nI 6) (pc' := 33) dX1_append_31 (by decide) rfl ?_
      refine z_imul X (pc' := 34) dX1_append_33 rfl ?_
      refine z_topi (y := nI (t * 6)) (pk_mul _ _) ?_
      refine z_iload X (pc' := 36) dX1_append_34 0 rfl rfl ?_
      refine z_iadd X (pc' := 37) dX1_append_36 rfl ?_
      refine z_topi (y := nI ((t * 6) + len)) (nI_add _ _) ?_
      refine z_iload_n X (pc' := 38) dX1_append_37 rfl 3 rfl rfl ?_
      refine z_iconst X (v := nI 4) (pc' := 39) dX1_append_38 (by decide) rfl ?_
      refine z_ishl X (pc' := 40) dX1_append_39 rfl ?_
      refine z_iload_n X (pc' := 41) dX1_append_40 rfl 4 rfl rfl ?_
      refine z_iconst X (v := nI 2) (pc' := 42) dX1_append_41 (by decide) rfl ?_
      refine z_ishl X (pc' := 43) dX1_append_42 rfl ?_
      refine z_ior X (pc' := 44) dX1_append_43 rfl ?_
      refine z_iload X (pc' := 46) dX1_append_44 5 rfl rfl ?_
      refine z_ior X (pc' := 47) dX1_append_46 rfl ?_
      refine z_topi (y := nI (16 * k + 4 * a + b)) (nb_code hk ha hb) ?_
      refine z_iast X (ws' := [(pr, .inr (1, [.ref cd, .ref ln, .int (nI tot)])), (cd, .inl (cI, 24, .inl (upd f ((t * 6) + len) (nI (16 * k + 4 * a + b))))), (ln, .inl (cI, 4, .inl g))]) (pc' := 48) 1 0 rfl rfl (by omega) (by omega) dX1_append_47 rfl rfl ?_
      refine z_aload_n X (pc' := 49) dX1_append_48 rfl 1 rfl rfl ?_
      refine z_get X (v := .ref ln) (pc' := 52) 0 rfl rfl inX1 1 (by decide) mF_X1_15 rfl dX1_append_49 rfl ?_
      refine z_iload_n X (pc' := 53) dX1_append_52 rfl 2 rfl rfl ?_
      refine z_iload X (pc' := 55) dX1_append_53 0 rfl rfl ?_
      refine z_iconst X (v := nI 1) (pc' := 56) dX1_append_55 (by decide) rfl ?_
      refine z_iadd X (pc' := 57) dX1_append_56 rfl ?_
      refine z_topi (y := nI (len + 1)) (nI_add _ _) ?_
      refine z_iast X (ws' := [(pr, .inr (1, [.ref cd, .ref ln, .int (nI tot)])), (cd, .inl (cI, 24, .inl (upd f ((t * 6) + len) (nI (16 * k + 4 * a + b))))), (ln, .inl (cI, 4, .inl (upd g t (nI (len + 1)))))]) (pc' := 58) 2 0 rfl rfl (by omega) (by omega) dX1_append_57 rfl rfl ?_
      refine z_aload_n X (pc' := 59) dX1_append_58 rfl 1 rfl rfl ?_
      refine z_dup X (pc' := 60) dX1_append_59 rfl rfl ?_
      refine z_get X (v := .int (nI tot)) (pc' := 63) 0 rfl rfl inX1 2 (by decide) mF_X1_18 rfl dX1_append_60 rfl ?_
      refine z_iconst X (v := nI 1) (pc' := 64) dX1_append_63 (by decide) rfl ?_
      refine z_iadd X (pc' := 65) dX1_append_64 rfl ?_
      refine z_topi (y := nI (tot + 1)) (nI_add _ _) ?_
      refine z_put X (t1 := .int) (ws' := [(pr, .inr (1, [.ref cd, .ref ln, .int (nI (tot + 1))])), (cd, .inl (cI, 24, .inl (upd f ((t * 6) + len) (nI (16 * k + 4 * a + b))))), (ln, .inl (cI, 4, .inl (upd g t (nI (len + 1)))))]) (pc' := 68) 0 rfl rfl inX1 tyX1 tyX1_ok nmX1 2 (by decide) mF_X1_18 rfl (by decide +kernel) rfl rfl (Nat.le_of_ble_eq_true rfl) dX1_append_65 rfl rfl ?_
      refine z_iconst X (v := nI 1) (pc' := 69) dX1_append_68 (by decide) rfl ?_
      exact z_iret X (t1 := .boolean) rfl rfl (upd f (t * 6 + len) (nI (16 * k + 4 * a + b)), upd g t (nI (len + 1)), tot + 1) (Or.inl ⟨by omega, by omega, rfl, rfl⟩) rfl (Nat.le_of_ble_eq_true rfl) (Nat.le_of_ble_eq_true rfl) dX1_append_69
    · have h12 : ¬ tot < 12 := h2
      refine z_iconst X (v := nI 0) (pc' := 25) dX1_append_24 (by decide) rfl ?_
      exact z_iret X (t1 := .boolean) rfl rfl (f, g, tot) (Or.inr ⟨by omega, rfl, rfl⟩) rfl (Nat.le_of_ble_eq_true rfl) (Nat.le_of_ble_eq_true rfl) dX1_append_25
set_option maxHeartbeats 4000000 in
set_option maxRecDepth 100000 in
/-- a thread without instructions -/
theorem c_drop (l : Launch) (D : va_G) (cI cJ : ClassId) (sz : Nat) (pr cd ln tot t len : Nat) (f g : Nat → Int32) (ht : t < 4) (hg : g t = nI len) (hlen : len ≤ tot) (htot : tot ≤ 12) : KI l D cI cJ yX1_drop cX1_drop 3 (some .int) 0 0 0 0 [.ref pr, .int (nI t)] [(pr, .inr (1, [.ref cd, .ref ln, .int (nI tot)])), (cd, .inl (cI, 24, .inl f)), (ln, .inl (cI, 4, .inl g))] sz (S := Unit) (fun r _ => r = nI len) (fun _ => [(pr, .inr (1, [.ref cd, .ref ln, .int (nI (tot - len))])), (cd, .inl (cI, 24, .inl f)), (ln, .inl (cI, 4, .inl (upd g t (nI 0))))]) := by
  refine zMetI (lv := [(0, .ref pr), (1, .int (nI t))]) NS0_ok (by decide) rfl (Nat.le_of_ble_eq_true rfl) rfl ?_
  intro p e s m args below meth c A X hin hA
  refine z_aload_n X (pc' := 1) dX1_drop_0 rfl 0 rfl rfl ?_
  refine z_get X (v := .ref ln) (pc' := 4) 0 rfl rfl inX1 1 (by decide) mF_X1_15 rfl dX1_drop_1 rfl ?_
  refine z_iload_n X (pc' := 5) dX1_drop_4 rfl 1 rfl rfl ?_
  refine z_iald X (pc' := 6) 2 0 rfl rfl (by omega) (by omega) dX1_drop_5 rfl ?_
  refine z_topi (y := nI len) hg ?_
  refine z_istore_n X (lv' := [(2, .int (nI len)), (0, .ref pr), (1, .int (nI t))]) (pc' := 7) dX1_drop_6 rfl (by decide) rfl rfl ?_
  refine z_aload_n X (pc' := 8) dX1_drop_7 rfl 1 rfl rfl ?_
  refine z_get X (v := .ref ln) (pc' := 11) 0 rfl rfl inX1 1 (by decide) mF_X1_15 rfl dX1_drop_8 rfl ?_
  refine z_iload_n X (pc' := 12) dX1_drop_11 rfl 2 rfl rfl ?_
  refine z_iconst X (v := nI 0) (pc' := 13) dX1_drop_12 (by decide) rfl ?_
  refine z_iast X (ws' := [(pr, .inr (1, [.ref cd, .ref ln, .int (nI tot)])), (cd, .inl (cI, 24, .inl f)), (ln, .inl (cI, 4, .inl (upd g t (nI 0))))]) (pc' := 14) 2 0 rfl rfl (by omega) (by omega) dX1_drop_13 rfl rfl ?_
  refine z_aload_n X (pc' := 15) dX1_drop_14 rfl 1 rfl rfl ?_
  refine z_dup X (pc' := 16) dX1_drop_15 rfl rfl ?_
  refine z_get X (v := .int (nI tot)) (pc' := 19) 0 rfl rfl inX1 2 (by decide) mF_X1_18 rfl dX1_drop_16 rfl ?_
  refine z_iload_n X (pc' := 20) dX1_drop_19 rfl 0 rfl rfl ?_
  refine z_isub X (pc' := 21) dX1_drop_20 rfl ?_
  refine z_topi (y := nI (tot - len)) (pk_sub hlen) ?_
  refine z_put X (t1 := .int) (ws' := [(pr, .inr (1, [.ref cd, .ref ln, .int (nI (tot - len))])), (cd, .inl (cI, 24, .inl f)), (ln, .inl (cI, 4, .inl (upd g t (nI 0))))]) (pc' := 24) 0 rfl rfl inX1 tyX1 tyX1_ok nmX1 2 (by decide) mF_X1_18 rfl (by decide +kernel) rfl rfl (Nat.le_of_ble_eq_true rfl) dX1_drop_21 rfl rfl ?_
  refine z_iload_n X (pc' := 25) dX1_drop_24 rfl 0 rfl rfl ?_
  exact z_iret X (t1 := .int) rfl rfl () (rfl) rfl (Nat.le_of_ble_eq_true rfl) (Nat.le_of_ble_eq_true rfl) dX1_drop_25
set_option maxHeartbeats 4000000 in
set_option maxRecDepth 100000 in
/-- is there such a thread -/
theorem c_isThread (l : Launch) (D : va_G) (cI cJ : ClassId) (sz : Nat) (x : Int32) : KI l D cI cJ yX3_isThread cX3_isThread 1 (some .boolean) 0 0 0 0 [.int x] [] sz (S := Unit) (fun r _ => (r = nI 1 ∧ ∃ t, t < 4 ∧ x = nI t) ∨ (r = nI 0 ∧ ¬ ∃ t, t < 4 ∧ x = nI t)) (fun _ => []) := by
  refine zMetI (lv := [(0, .int x)]) NS0_ok (by decide) rfl (Nat.le_of_ble_eq_true rfl) rfl ?_
  intro p e s m args below meth c A X hin hA
  refine z_iload_n X (pc' := 1) dX3_isThread_0 rfl 0 rfl rfl ?_
  refine z_if_lt X (tgt := 13) (pc' := 4) dX3_isThread_1 (by decide) rfl (fun h1 => ?_) (fun h1 => ?_)
  · have hno : ¬ ∃ t, t < 4 ∧ x = nI t := fun ⟨t, q1, q2⟩ => nI_pos (n := t) (by omega) (q2 ▸ h1)
    refine z_iconst X (v := nI 0) (pc' := 14) dX3_isThread_13 (by decide) rfl ?_
    exact z_iret X (t1 := .boolean) rfl rfl () (Or.inr ⟨rfl, hno⟩) rfl (Nat.le_of_ble_eq_true rfl) (Nat.le_of_ble_eq_true rfl) dX3_isThread_14
  · obtain ⟨t, ht, hx⟩ := nI_of h1
    subst hx
    refine z_iload_n X (pc' := 5) dX3_isThread_4 rfl 0 rfl rfl ?_
    refine z_iconst X (v := nI 4) (pc' := 6) dX3_isThread_5 (by decide) rfl ?_
    refine z_icmp_geN X (tgt := 13) (pc' := 9) ht (by decide) dX3_isThread_6 (by decide) rfl (fun h2 => ?_) (fun h2 => ?_)
    · have hno : ¬ ∃ t2, t2 < 4 ∧ nI t = nI t2 := fun ⟨t2, q1, q2⟩ => by have := (nI_eq ht (show t2 < 2 ^ 31 by omega)).mp q2; omega
      refine z_iconst X (v := nI 0) (pc' := 14) dX3_isThread_13 (by decide) rfl ?_
      exact z_iret X (t1 := .boolean) rfl rfl () (Or.inr ⟨rfl, hno⟩) rfl (Nat.le_of_ble_eq_true rfl) (Nat.le_of_ble_eq_true rfl) dX3_isThread_14
    · have ht4 : t < 4 := by omega
      refine z_iconst X (v := nI 1) (pc' := 10) dX3_isThread_9 (by decide) rfl ?_
      refine z_goto X (tgt := 14) dX3_isThread_10 (by decide) ?_
      exact z_iret X (t1 := .boolean) rfl rfl () (Or.inl ⟨rfl, t, ht4, rfl⟩) rfl (Nat.le_of_ble_eq_true rfl) (Nat.le_of_ble_eq_true rfl) dX3_isThread_14


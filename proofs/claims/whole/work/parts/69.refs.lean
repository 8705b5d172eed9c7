/-- what is known of a search's result: the desk and the reference may tell it -/
def gR (R : BG) : Prop := rOk R ∧ (∀ j, j < R.1.1.length → dpt (FDr R) j ≤ 24) ∧ (∀ k, k < R.2.1.length → R.2.1.getD k 0 < R.1.1.length) ∧ hs_inj (fun j => R.2.1.getD j 0) R.2.1.length ∧ (∀ a b, a < R.2.1.length → b < R.2.1.length → KDr R (R.2.1.getD a 0) = KDr R (R.2.1.getD b 0) → R.2.1.getD a 0 = R.2.1.getD b 0) ∧ ∀ i, i < R.1.1.length → KDr R i < 4 ^ 20
theorem gR_F {R : BG} (h : gR R) : ∀ i, 0 < i → i < R.1.1.length → FDr R i / 20 < i := fun i h0 hi => (h.1.2.1 i hi).2 h0
theorem gR_dep {R : BG} (h : gR R) {i : Nat} (hi : i < R.1.1.length) : dep (FDr R) 24 i = dpt (FDr R) i := dep_min (gR_F h) 24 i hi (h.2.1 i hi)
theorem gR_T {R : BG} (h : gR R) {T : Nat → Nat} (hT : sKeep R.2.1.length R.2.1.length T (fun j => R.2.1.getD j 0)) : ∀ k, k < R.2.1.length → T k < R.1.1.length := sKeep_lt hT (Nat.le_refl _) h.2.2.1
theorem gR_mov {R : BG} (h : gR R) {T : Nat → Nat} {k : Nat} (hT : T k < R.1.1.length) (i : Nat) : movV R T k i = mvA (FDr R) (T k) i := by
  unfold movV mvA
  rw [show dep (fun i => R.1.2.1.getD i 0) 24 (T k) = dpt (FDr R) (T k) from gR_dep h hT]
theorem gR_out {R : BG} (h : gR R) {T : Nat → Nat} {k : Nat} (hT : T k < R.1.1.length) : outV R T k 20 = dpt (FDr R) (T k) := by
  unfold outV
  rw [if_pos rfl, show dep (fun i => R.1.2.1.getD i 0) 24 (T k) = dpt (FDr R) (T k) from gR_dep h hT]
theorem QRep_tot {P : Nat → List Nat} {gm gn ga gb : Nat → Int32} (h : QRep P gm gn ga gb) : gm 0 + gm 1 + gm 2 + gm 3 = nI (pTot P) := by
  rw [(h 0 (by decide)).1, (h 1 (by decide)).1, (h 2 (by decide)).1, (h 3 (by decide)).1, nI_add, nI_add, nI_add]; rfl
theorem QRep_add {P : Nat → List Nat} {gm gn ga gb : Nat → Int32} {t k a b : Nat} (h : QRep P gm gn ga gb) (hP : Pok P) (ht : t < 4) (h6 : (P t).length < 6) (hk : k < 7) (ha : a < 4) (hb : b < 4) : QRep (pAdd P t (16 * k + 4 * a + b)) (upd gm t (nI ((P t).length + 1))) (upd gn (6 * t + (P t).length) (nI k)) (upd ga (6 * t + (P t).length) (nI a)) (upd gb (6 * t + (P t).length) (nI b)) := by
  intro s hs
  unfold pAdd
  by_cases e : s = t
  · subst e
    rw [if_pos rfl]
    refine ⟨by rw [pk_us, List.length_append, List.length_singleton], fun i q hq => ?_⟩
    rcases Nat.lt_or_ge i (P s).length with q1 | q1
    · rw [List.getElem?_append_left q1] at hq
      rw [pk_un (by omega), pk_un (by omega), pk_un (by omega)]
      exact (h s hs).2 i q hq
    · rw [List.getElem?_append_right q1] at hq
      rcases Nat.eq_or_lt_of_le q1 with q2 | q2
      · rw [← q2, Nat.sub_self] at hq
        have hq : some (16 * k + 4 * a + b) = some q := hq
        rw [← Option.some.inj hq, ← q2, pk_us, pk_us, pk_us]
        exact ⟨by congr 1; omega, by congr 1; omega, by congr 1; omega⟩
      · rw [List.getElem?_eq_none (by rw [List.length_singleton]; omega)] at hq
        cases hq
  · rw [if_neg e]
    refine ⟨by rw [pk_un e]; exact (h s hs).1, fun i q hq => ?_⟩
    have hi : i < (P s).length := (List.getElem?_eq_some_iff.mp hq).1
    have := (hP s hs).1
    rw [pk_un (by omega), pk_un (by omega), pk_un (by omega)]
    exact (h s hs).2 i q hq
theorem QRep_del {P : Nat → List Nat} {gm gn ga gb : Nat → Int32} {t : Nat} (h : QRep P gm gn ga gb) : QRep (pDel P t) (upd gm t (nI 0)) gn ga gb := by
  intro s hs
  unfold pDel
  by_cases e : s = t
  · rw [if_pos e, e]
    exact ⟨pk_us, fun i q hq => by cases hq⟩
  · rw [if_neg e, pk_un e]
    exact h s hs
set_option maxHeartbeats 4000000 in
set_option maxRecDepth 100000 in
/-- one of four -/
theorem r_isSmall (l : Launch) (D : va_G) (cI cJ : ClassId) (sz : Nat) (x : Int32) : KI l D cI cJ yX4_isSmall cX4_isSmall 1 (some .boolean) 0 0 0 0 [.int x] [] sz (S := Unit) (fun r _ => (r = nI 1 ∧ ∃ t, t < 4 ∧ x = nI t) ∨ (r = nI 0 ∧ ¬ ∃ t, t < 4 ∧ x = nI t)) (fun _ => []) := by
  refine zMetI (lv := [(0, .int x)]) NS0_ok (by decide) rfl (Nat.le_of_ble_eq_true rfl) rfl ?_
  intro p e s m args below meth c A X hin hA
  rcases i_cases x with hn | ⟨k, hk, he⟩
  · have hno : ¬ ∃ t, t < 4 ∧ x = nI t := fun ⟨t, q1, q2⟩ => i_negne hn t (by omega) q2
    refine z_iload_n X (pc' := 1) dX4_isSmall_0 rfl 0 rfl rfl ?_
    refine z_if_lt X (tgt := 13) (pc' := 4) dX4_isSmall_1 (by decide) rfl (fun h1 => ?_) (fun h1 => ?_)
    · refine z_iconst X (v := nI 0) (pc' := 14) dX4_isSmall_13 (by decide) rfl ?_
      exact z_iret X (t1 := .boolean) rfl rfl () (Or.inr ⟨rfl, hno⟩) rfl (Nat.le_of_ble_eq_true rfl) (Nat.le_of_ble_eq_true rfl) dX4_isSmall_14
    · exact absurd hn h1
  · subst he
    refine z_iload_n X (pc' := 1) dX4_isSmall_0 rfl 0 rfl rfl ?_
    refine z_if_ltN X (tgt := 13) (pc' := 4) hk dX4_isSmall_1 (by decide) rfl ?_
    refine z_iload_n X (pc' := 5) dX4_isSmall_4 rfl 0 rfl rfl ?_
    refine z_iconst X (v := nI 4) (pc' := 6) dX4_isSmall_5 (by decide) rfl ?_
    refine z_icmp_geN X (tgt := 13) (pc' := 9) hk (by decide) dX4_isSmall_6 (by decide) rfl (fun h2 => ?_) (fun h2 => ?_)
    · have hno : ¬ ∃ t, t < 4 ∧ nI k = nI t := fun ⟨t, q1, q2⟩ => by have := (nI_eq hk (show t < 2 ^ 31 by omega)).mp q2; omega
      refine z_iconst X (v := nI 0) (pc' := 14) dX4_isSmall_13 (by decide) rfl ?_
      exact z_iret X (t1 := .boolean) rfl rfl () (Or.inr ⟨rfl, hno⟩) rfl (Nat.le_of_ble_eq_true rfl) (Nat.le_of_ble_eq_true rfl) dX4_isSmall_14
    · have hk4 : k < 4 := by omega
      refine z_iconst X (v := nI 1) (pc' := 10) dX4_isSmall_9 (by decide) rfl ?_
      refine z_goto X (tgt := 14) dX4_isSmall_10 (by decide) ?_
      exact z_iret X (t1 := .boolean) rfl rfl () (Or.inl ⟨rfl, k, hk4, rfl⟩) rfl (Nat.le_of_ble_eq_true rfl) (Nat.le_of_ble_eq_true rfl) dX4_isSmall_14
set_option maxHeartbeats 4000000 in
set_option maxRecDepth 100000 in
/-- how many instructions there are -/
theorem r_all (l : Launch) (D : va_G) (cI cJ : ClassId) (sz : Nat) (mo th st tol ts tf td : Nat) (ad : Nat → Nat) (gm gn ga gb : Nat → Int32) (P : Nat → List Nat) (hQ : QRep P gm gn ga gb) : KI l D cI cJ yX4_all cX4_all 1 (some .int) 0 0 0 0 [.ref mo] [(mo, .inr (4, [.int (nI th), .ref (ad 1), .ref (ad 2), .ref (ad 3), .ref (ad 4), .int (nI st), .ref (ad 6), .ref (ad 7), .ref (ad 8), .ref (ad 9), .ref (ad 10), .ref (ad 11), .ref (ad 12), .ref (ad 13), .ref (ad 14), .ref (ad 15), .ref (ad 16), .ref (ad 17), .ref (ad 18), .int (nI tol), .int (nI ts), .int (nI tf), .int (nI td), .ref (ad 23), .ref (ad 24), .ref (ad 25), .ref (ad 26)])), (ad 1, .inl (cI, 4, .inl gm))] sz (S := Unit) (fun r _ => r = nI (pTot P)) (fun _ => [(mo, .inr (4, [.int (nI th), .ref (ad 1), .ref (ad 2), .ref (ad 3), .ref (ad 4), .int (nI st), .ref (ad 6), .ref (ad 7), .ref (ad 8), .ref (ad 9), .ref (ad 10), .ref (ad 11), .ref (ad 12), .ref (ad 13), .ref (ad 14), .ref (ad 15), .ref (ad 16), .ref (ad 17), .ref (ad 18), .int (nI tol), .int (nI ts), .int (nI tf), .int (nI td), .ref (ad 23), .ref (ad 24), .ref (ad 25), .ref (ad 26)])), (ad 1, .inl (cI, 4, .inl gm))]) := by
  refine zMetI (lv := [(0, .ref mo)]) NS0_ok (by decide) rfl (Nat.le_of_ble_eq_true rfl) rfl ?_
  intro p e s m args below meth c A X hin hA
  refine z_aload_n X (pc' := 1) dX4_all_0 rfl 0 rfl rfl ?_
  refine z_get X (v := .ref (ad 1)) (pc' := 4) 0 rfl rfl inX4 1 (by decide) mF_X4_7 rfl dX4_all_1 rfl ?_
  refine z_iconst X (v := nI 0) (pc' := 5) dX4_all_4 (by decide) rfl ?_
  refine z_iald X (pc' := 6) 1 0 rfl rfl (by omega) (by omega) dX4_all_5 rfl ?_
  refine z_aload_n X (pc' := 7) dX4_all_6 rfl 0 rfl rfl ?_
  refine z_get X (v := .ref (ad 1)) (pc' := 10) 0 rfl rfl inX4 1 (by decide) mF_X4_7 rfl dX4_all_7 rfl ?_
  refine z_iconst X (v := nI 1) (pc' := 11) dX4_all_10 (by decide) rfl ?_
  refine z_iald X (pc' := 12) 1 0 rfl rfl (by omega) (by omega) dX4_all_11 rfl ?_
  refine z_iadd X (pc' := 13) dX4_all_12 rfl ?_
  refine z_aload_n X (pc' := 14) dX4_all_13 rfl 0 rfl rfl ?_
  refine z_get X (v := .ref (ad 1)) (pc' := 17) 0 rfl rfl inX4 1 (by decide) mF_X4_7 rfl dX4_all_14 rfl ?_
  refine z_iconst X (v := nI 2) (pc' := 18) dX4_all_17 (by decide) rfl ?_
  refine z_iald X (pc' := 19) 1 0 rfl rfl (by omega) (by omega) dX4_all_18 rfl ?_
  refine z_iadd X (pc' := 20) dX4_all_19 rfl ?_
  refine z_aload_n X (pc' := 21) dX4_all_20 rfl 0 rfl rfl ?_
  refine z_get X (v := .ref (ad 1)) (pc' := 24) 0 rfl rfl inX4 1 (by decide) mF_X4_7 rfl dX4_all_21 rfl ?_
  refine z_iconst X (v := nI 3) (pc' := 25) dX4_all_24 (by decide) rfl ?_
  refine z_iald X (pc' := 26) 1 0 rfl rfl (by omega) (by omega) dX4_all_25 rfl ?_
  refine z_iadd X (pc' := 27) dX4_all_26 rfl ?_
  refine z_topi (y := nI (pTot P)) (QRep_tot hQ) ?_
  exact z_iret X (t1 := .int) rfl rfl () (rfl) rfl (Nat.le_of_ble_eq_true rfl) (Nat.le_of_ble_eq_true rfl) dX4_all_27
set_option maxHeartbeats 4000000 in
set_option maxRecDepth 100000 in
/-- add -/
theorem r_add (l : Launch) (D : va_G) (cI cJ : ClassId) (sz : Nat) (mo th st tol ts tf td : Nat) (ad : Nat → Nat) (gm gn ga gb : Nat → Int32) (P : Nat → List Nat) (x y z w : Int32) (hP : Pok P) (hQ : QRep P gm gn ga gb) (htot : pTot P ≤ 12) : KI l D cI cJ yX4_add cX4_add 6 (some .boolean) 1 20 0 0 [.ref mo, .int x, .int y, .int z, .int w] [(mo, .inr (4, [.int (nI th), .ref (ad 1), .ref (ad 2), .ref (ad 3), .ref (ad 4), .int (nI st), .ref (ad 6), .ref (ad 7), .ref (ad 8), .ref (ad 9), .ref (ad 10), .ref (ad 11), .ref (ad 12), .ref (ad 13), .ref (ad 14), .ref (ad 15), .ref (ad 16), .ref (ad 17), .ref (ad 18), .int (nI tol), .int (nI ts), .int (nI tf), .int (nI td), .ref (ad 23), .ref (ad 24), .ref (ad 25), .ref (ad 26)])), (ad 1, .inl (cI, 4, .inl gm)), (ad 2, .inl (cI, 24, .inl gn)), (ad 3, .inl (cI, 24, .inl ga)), (ad 4, .inl (cI, 24, .inl gb))] sz (S := (Nat → List Nat) × (Nat → Int32) × (Nat → Int32) × (Nat → Int32) × (Nat → Int32)) (fun r u => addQ P x y z w r u.1 ∧ QRep u.1 u.2.1 u.2.2.1 u.2.2.2.1 u.2.2.2.2) (fun u => [(mo, .inr (4, [.int (nI 0), .ref (ad 1), .ref (ad 2), .ref (ad 3), .ref (ad 4), .int (nI st), .ref (ad 6), .ref (ad 7), .ref (ad 8), .ref (ad 9), .ref (ad 10), .ref (ad 11), .ref (ad 12), .ref (ad 13), .ref (ad 14), .ref (ad 15), .ref (ad 16), .ref (ad 17), .ref (ad 18), .int (nI tol), .int (nI ts), .int (nI tf), .int (nI td), .ref (ad 23), .ref (ad 24), .ref (ad 25), .ref (ad 26)])), (ad 1, .inl (cI, 4, .inl u.2.1)), (ad 2, .inl (cI, 24, .inl u.2.2.1)), (ad 3, .inl (cI, 24, .inl u.2.2.2.1)), (ad 4, .inl (cI, 24, .inl u.2.2.2.2))]) := by
  refine zMetI (lv := [(0, .ref mo), (1, .int x), (2, .int y), (3, .int z), (4, .int w)]) NS0_ok (by decide) rfl (Nat.le_of_ble_eq_true rfl) rfl ?_
  intro p e s m args below meth c A X hin hA
  refine z_aload_n X (pc' := 1) dX4_add_0 rfl 0 rfl rfl ?_
  refine z_iconst X (v := nI 0) (pc' := 2) dX4_add_1 (by decide) rfl ?_
  refine z_put X (t1 := .int) (ws' := [(mo, .inr (4, [.int (nI 0), .ref (ad 1), .ref (ad 2), .ref (ad 3), .ref (ad 4), .int (nI st), .ref (ad 6), .ref (ad 7), .ref (ad 8), .ref (ad 9), .ref (ad 10), .ref (ad 11), .ref (ad 12), .ref (ad 13), .ref (ad 14), .ref (ad 15), .ref (ad 16), .ref (ad 17), .ref (ad 18), .int (nI tol), .int (nI ts), .int (nI tf), .int (nI td), .ref (ad 23), .ref (ad 24), .ref (ad 25), .ref (ad 26)])), (ad 1, .inl (cI, 4, .inl gm)), (ad 2, .inl (cI, 24, .inl gn)), (ad 3, .inl (cI, 24, .inl ga)), (ad 4, .inl (cI, 24, .inl gb))]) (pc' := 5) 0 rfl rfl inX4 tyX4 tyX4_ok nmX4 0 (by decide) mF_X4_74 rfl (by decide +kernel) rfl rfl (Nat.le_of_ble_eq_true rfl) dX4_add_2 rfl rfl ?_
  refine z_iload_n X (pc' := 6) dX4_add_5 rfl 1 rfl rfl ?_
  refine z_callSi X (pc' := 9) (fun sz => r_isSmall l D cI cJ sz x) (zcwS X TTg 1 mL_X4_78 mT_X4_isSmall mN_X4 mK_X4_isSmall rfl rfl (by decide +kernel) ⟨(Nat.le_of_ble_eq_true rfl), (Nat.le_of_ble_eq_true rfl)⟩) (wr := [(mo, .inr (4, [.int (nI 0), .ref (ad 1), .ref (ad 2), .ref (ad 3), .ref (ad 4), .int (nI st), .ref (ad 6), .ref (ad 7), .ref (ad 8), .ref (ad 9), .ref (ad 10), .ref (ad 11), .ref (ad 12), .ref (ad 13), .ref (ad 14), .ref (ad 15), .ref (ad 16), .ref (ad 17), .ref (ad 18), .int (nI tol), .int (nI ts), .int (nI tf), .int (nI td), .ref (ad 23), .ref (ad 24), .ref (ad 25), .ref (ad 26)])), (ad 1, .inl (cI, 4, .inl gm)), (ad 2, .inl (cI, 24, .inl gn)), (ad 3, .inl (cI, 24, .inl ga)), (ad 4, .inl (cI, 24, .inl gb))]) [] [0, 1, 2, 3, 4] rfl rfl rfl rfl (by decide) rfl rfl (Nat.le_of_ble_eq_true rfl) dX4_add_6 ⟨Nat.le_of_ble_eq_true rfl, Nat.le_of_ble_eq_true rfl⟩ rfl (fun r u hu => ?_)
  refine z_wse (ws' := [(mo, .inr (4, [.int (nI 0), .ref (ad 1), .ref (ad 2), .ref (ad 3), .ref (ad 4), .int (nI st), .ref (ad 6), .ref (ad 7), .ref (ad 8), .ref (ad 9), .ref (ad 10), .ref (ad 11), .ref (ad 12), .ref (ad 13), .ref (ad 14), .ref (ad 15), .ref (ad 16), .ref (ad 17), .ref (ad 18), .int (nI tol), .int (nI ts), .int (nI tf), .int (nI td), .ref (ad 23), .ref (ad 24), .ref (ad 25), .ref (ad 26)])), (ad 1, .inl (cI, 4, .inl gm)), (ad 2, .inl (cI, 24, .inl gn)), (ad 3, .inl (cI, 24, .inl ga)), (ad 4, .inl (cI, 24, .inl gb))]) rfl ?_
  rcases hu with ⟨hr, t, ht, hxt⟩ | ⟨hr, hno⟩
  · subst hr
    subst hxt
    refine z_if_eqN X (tgt := 57) (pc' := 12) (by omega) dX4_add_9 (by decide) rfl (fun h1 => ?_) (fun h1 => ?_)
    · exact absurd h1 (by decide)
    · clear h1
      rcases i_cases y with hn | ⟨k, hk, he⟩
      · have hnA : ¬ ∃ t2 k2 a2 b2, canAdd P (nI t) y z w t2 k2 a2 b2 := fun ⟨t2, k2, a2, b2, q⟩ => i_negne hn k2 (by have := q.2.2.1.1; omega) q.2.2.1.2.2.2.2.2.1
        refine z_iload_n X (pc' := 13) dX4_add_12 rfl 2 rfl rfl ?_
        refine z_if_lt X (tgt := 57) (pc' := 16) dX4_add_13 (by decide) rfl (fun h2 => ?_) (fun h2 => ?_)
        · refine z_iconst X (v := nI 0) (pc' := 58) dX4_add_57 (by decide) rfl ?_
          refine z_ws (ws' := [(mo, .inr (4, [.int (nI 0), .ref (ad 1), .ref (ad 2), .ref (ad 3), .ref (ad 4), .int (nI st), .ref (ad 6), .ref (ad 7), .ref (ad 8), .ref (ad 9), .ref (ad 10), .ref (ad 11), .ref (ad 12), .ref (ad 13), .ref (ad 14), .ref (ad 15), .ref (ad 16), .ref (ad 17), .ref (ad 18), .int (nI tol), .int (nI ts), .int (nI tf), .int (nI td), .ref (ad 23), .ref (ad 24), .ref (ad 25), .ref (ad 26)])), (ad 1, .inl (cI, 4, .inl gm)), (ad 2, .inl (cI, 24, .inl gn)), (ad 3, .inl (cI, 24, .inl ga)), (ad 4, .inl (cI, 24, .inl gb))]) [0, 1, 2, 3, 4] (by decide) rfl ?_
          exact z_iret X (t1 := .boolean) rfl rfl (P, gm, gn, ga, gb) (⟨Or.inr ⟨hnA, rfl, rfl⟩, hQ⟩) rfl (Nat.le_of_ble_eq_true rfl) (Nat.le_of_ble_eq_true rfl) dX4_add_58
        · exact absurd hn h2
      · subst he
        refine z_iload_n X (pc' := 13) dX4_add_12 rfl 2 rfl rfl ?_
        refine z_if_ltN X (tgt := 57) (pc' := 16) hk dX4_add_13 (by decide) rfl ?_
        refine z_iload_n X (pc' := 17) dX4_add_16 rfl 2 rfl rfl ?_
        refine z_bipush X (v := nI 6) (pc' := 19) dX4_add_17 (by decide) rfl ?_
        refine z_icmp_gtN X (tgt := 57) (pc' := 22) hk (by decide) dX4_add_19 (by decide) rfl (fun h3 => ?_) (fun h3 => ?_)
        · have hnA : ¬ ∃ t2 k2 a2 b2, canAdd P (nI t) (nI k) z w t2 k2 a2 b2 := fun ⟨t2, k2, a2, b2, q⟩ => by have h7 := q.2.2.1.1; have := (nI_eq hk (show k2 < 2 ^ 31 by omega)).mp q.2.2.1.2.2.2.2.2.1; omega
          refine z_iconst X (v := nI 0) (pc' := 58) dX4_add_57 (by decide) rfl ?_
          refine z_ws (ws' := [(mo, .inr (4, [.int (nI 0), .ref (ad 1), .ref (ad 2), .ref (ad 3), .ref (ad 4), .int (nI st), .ref (ad 6), .ref (ad 7), .ref (ad 8), .ref (ad 9), .ref (ad 10), .ref (ad 11), .ref (ad 12), .ref (ad 13), .ref (ad 14), .ref (ad 15), .ref (ad 16), .ref (ad 17), .ref (ad 18), .int (nI tol), .int (nI ts), .int (nI tf), .int (nI td), .ref (ad 23), .ref (ad 24), .ref (ad 25), .ref (ad 26)])), (ad 1, .inl (cI, 4, .inl gm)), (ad 2, .inl (cI, 24, .inl gn)), (ad 3, .inl (cI, 24, .inl ga)), (ad 4, .inl (cI, 24, .inl gb))]) [0, 1, 2, 3, 4] (by decide) rfl ?_
          exact z_iret X (t1 := .boolean) rfl rfl (P, gm, gn, ga, gb) (⟨Or.inr ⟨hnA, rfl, rfl⟩, hQ⟩) rfl (Nat.le_of_ble_eq_true rfl) (Nat.le_of_ble_eq_true rfl) dX4_add_58
        · have hk7 : k < 7 := by omega
          refine z_iload_n X (pc' := 23) dX4_add_22 rfl 3 rfl rfl ?_
          refine z_callSi X (pc' := 26) (fun sz => r_isSmall l D cI cJ sz z) (zcwS X TTg 1 mL_X4_78 mT_X4_isSmall mN_X4 mK_X4_isSmall rfl rfl (by decide +kernel) ⟨(Nat.le_of_ble_eq_true rfl), (Nat.le_of_ble_eq_true rfl)⟩) (wr := [(mo, .inr (4, [.int (nI 0), .ref (ad 1), .ref (ad 2), .ref (ad 3), .ref (ad 4), .int (nI st), .ref (ad 6), .ref (ad 7), .ref (ad 8), .ref (ad 9), .ref (ad 10), .ref (ad 11), .ref (ad 12), .ref (ad 13), .ref (ad 14), .ref (ad 15), .ref (ad 16), .ref (ad 17), .ref (ad 18), .int (nI tol), .int (nI ts), .int (nI tf), .int (nI td), .ref (ad 23), .ref (ad 24), .ref (ad 25), .ref (ad 26)])), (ad 1, .inl (cI, 4, .inl gm)), (ad 2, .inl (cI, 24, .inl gn)), (ad 3, .inl (cI, 24, .inl ga)), (ad 4, .inl (cI, 24, .inl gb))]) [] [0, 1, 2, 3, 4] rfl rfl rfl rfl (by decide) rfl rfl (Nat.le_of_ble_eq_true rfl) dX4_add_23 ⟨Nat.le_of_ble_eq_true rfl, Nat.le_of_ble_eq_true rfl⟩ rfl (fun r u hu => ?_)
          refine z_wse (ws' := [(mo, .inr (4, [.int (nI 0), .ref (ad 1), .ref (ad 2), .ref (ad 3), .ref (ad 4), .int (nI st), .ref (ad 6), .ref (ad 7), .ref (ad 8), .ref (ad 9), .ref (ad 10), .ref (ad 11), .ref (ad 12), .ref (ad 13), .ref (ad 14), .ref (ad 15), .ref (ad 16), .ref (ad 17), .ref (ad 18), .int (nI tol), .int (nI ts), .int (nI tf), .int (nI td), .ref (ad 23), .ref (ad 24), .ref (ad 25), .ref (ad 26)])), (ad 1, .inl (cI, 4, .inl gm)), (ad 2, .inl (cI, 24, .inl gn)), (ad 3, .inl (cI, 24, .inl ga)), (ad 4, .inl (cI, 24, .inl gb))]) rfl ?_
          rcases hu with ⟨hr, a, ha, hxa⟩ | ⟨hr, hno⟩
          · subst hr
            subst hxa
            refine z_if_eqN X (tgt := 57) (pc' := 29) (by omega) dX4_add_26 (by decide) rfl (fun h4 => ?_) (fun h4 => ?_)
            · exact absurd h4 (by decide)
            · clear h4
              refine z_iload X (pc' := 31) dX4_add_29 4 rfl rfl ?_
              refine z_callSi X (pc' := 34) (fun sz => r_isSmall l D cI cJ sz w) (zcwS X TTg 1 mL_X4_78 mT_X4_isSmall mN_X4 mK_X4_isSmall rfl rfl (by decide +kernel) ⟨(Nat.le_of_ble_eq_true rfl), (Nat.le_of_ble_eq_true rfl)⟩) (wr := [(mo, .inr (4, [.int (nI 0), .ref (ad 1), .ref (ad 2), .ref (ad 3), .ref (ad 4), .int (nI st), .ref (ad 6), .ref (ad 7), .ref (ad 8), .ref (ad 9), .ref (ad 10), .ref (ad 11), .ref (ad 12), .ref (ad 13), .ref (ad 14), .ref (ad 15), .ref (ad 16), .ref (ad 17), .ref (ad 18), .int (nI tol), .int (nI ts), .int (nI tf), .int (nI td), .ref (ad 23), .ref (ad 24), .ref (ad 25), .ref (ad 26)])), (ad 1, .inl (cI, 4, .inl gm)), (ad 2, .inl (cI, 24, .inl gn)), (ad 3, .inl (cI, 24, .inl ga)), (ad 4, .inl (cI, 24, .inl gb))]) [] [0, 1, 2, 3, 4] rfl rfl rfl rfl (by decide) rfl rfl (Nat.le_of_ble_eq_true rfl) dX4_add_31 ⟨Nat.le_of_ble_eq_true rfl, Nat.le_of_ble_eq_true rfl⟩ rfl (fun r u hu => ?_)
              refine z_wse (ws' := [(mo, .inr (4, [.int (nI 0), .ref (ad 1), .ref (ad 2), .ref (ad 3), .ref (ad 4), .int (nI st), .ref (ad 6), .ref (ad 7), .ref (ad 8), .ref (ad 9), .ref (ad 10), .ref (ad 11), .ref (ad 12), .ref (ad 13), .ref (ad 14), .ref (ad 15), .ref (ad 16), .ref (ad 17), .ref (ad 18), .int (nI tol), .int (nI ts), .int (nI tf), .int (nI td), .ref (ad 23), .ref (ad 24), .ref (ad 25), .ref (ad 26)])), (ad 1, .inl (cI, 4, .inl gm)), (ad 2, .inl (cI, 24, .inl gn)), (ad 3, .inl (cI, 24, .inl ga)), (ad 4, .inl (cI, 24, .inl gb))]) rfl ?_
              rcases hu with ⟨hr, b, hb, hxb⟩ | ⟨hr, hno⟩
              · subst hr
                subst hxb
                refine z_if_eqN X (tgt := 57) (pc' := 37) (by omega) dX4_add_34 (by decide) rfl (fun h5 => ?_) (fun h5 => ?_)
                · exact absurd h5 (by decide)
                · clear h5
                  have hun : ∀ t2 k2 a2 b2, canAdd P (nI t) (nI k) (nI a) (nI b) t2 k2 a2 b2 → t2 = t ∧ k2 = k ∧ a2 = a ∧ b2 = b := fun t2 k2 a2 b2 q => ⟨((nI_eq (show t < 2 ^ 31 by omega) (show t2 < 2 ^ 31 by have := q.1; omega)).mp q.2.1).symm, ((nI_eq hk (show k2 < 2 ^ 31 by have := q.2.2.1.1; omega)).mp q.2.2.1.2.2.2.2.2.1).symm, ((nI_eq (show a < 2 ^ 31 by omega) (show a2 < 2 ^ 31 by have := q.2.2.1.2.1; omega)).mp q.2.2.1.2.2.2.2.2.2.1).symm, ((nI_eq (show b < 2 ^ 31 by omega) (show b2 < 2 ^ 31 by have := q.2.2.1.2.2.1; omega)).mp q.2.2.1.2.2.2.2.2.2.2).symm⟩
                  have h6 := (hP t ht).1
                  refine z_aload_n X (pc' := 38) dX4_add_37 rfl 0 rfl rfl ?_
                  refine z_get X (v := .ref (ad 1)) (pc' := 41) 0 rfl rfl inX4 1 (by decide) mF_X4_7 rfl dX4_add_38 rfl ?_
                  refine z_iload_n X (pc' := 42) dX4_add_41 rfl 1 rfl rfl ?_
                  refine z_iald X (pc' := 43) 1 0 rfl rfl (by omega) (by omega) dX4_add_42 rfl ?_
                  refine z_topi (y := nI ((P t).length)) (hQ t ht).1 ?_
                  refine z_bipush X (v := nI 6) (pc' := 45) dX4_add_43 (by decide) rfl ?_
                  refine z_icmp_eqN X (tgt := 57) (pc' := 48) (by omega) (by decide) dX4_add_45 (by decide) rfl (fun h6 => ?_) (fun h6 => ?_)
                  · have hl6 : (P t).length = 6 := h6
                    have hnA : ¬ ∃ t2 k2 a2 b2, canAdd P (nI t) (nI k) (nI a) (nI b) t2 k2 a2 b2 := fun ⟨t2, k2, a2, b2, q⟩ => by obtain ⟨e1, e2, e3, e4⟩ := hun t2 k2 a2 b2 q; subst e1; subst e2; subst e3; subst e4; obtain ⟨-, -, ⟨-, -, -, g1, g2, -⟩, g3, g4⟩ := q; omega
                    refine z_iconst X (v := nI 0) (pc' := 58) dX4_add_57 (by decide) rfl ?_
                    refine z_ws (ws' := [(mo, .inr (4, [.int (nI 0), .ref (ad 1), .ref (ad 2), .ref (ad 3), .ref (ad 4), .int (nI st), .ref (ad 6), .ref (ad 7), .ref (ad 8), .ref (ad 9), .ref (ad 10), .ref (ad 11), .ref (ad 12), .ref (ad 13), .ref (ad 14), .ref (ad 15), .ref (ad 16), .ref (ad 17), .ref (ad 18), .int (nI tol), .int (nI ts), .int (nI tf), .int (nI td), .ref (ad 23), .ref (ad 24), .ref (ad 25), .ref (ad 26)])), (ad 1, .inl (cI, 4, .inl gm)), (ad 2, .inl (cI, 24, .inl gn)), (ad 3, .inl (cI, 24, .inl ga)), (ad 4, .inl (cI, 24, .inl gb))]) [0, 1, 2, 3, 4] (by decide) rfl ?_
                    exact z_iret X (t1 := .boolean) rfl rfl (P, gm, gn, ga, gb) (⟨Or.inr ⟨hnA, rfl, rfl⟩, hQ⟩) rfl (Nat.le_of_ble_eq_true rfl) (Nat.le_of_ble_eq_true rfl) dX4_add_58
                  · have hl6 : ¬ (P t).length = 6 := h6
                    refine z_aload_n X (pc' := 49) dX4_add_48 rfl 0 rfl rfl ?_
                    refine z_callVi X (pc' := 52) (fun sz => r_all l D cI cJ sz mo 0 st tol ts tf td ad gm gn ga gb P hQ) (zcwV X TTg 0 mL_X4_82 mI_X4_all mS_X4_all mN_X4 mK_X4_all rfl rfl (by decide +kernel) ⟨(Nat.le_of_ble_eq_true rfl), (Nat.le_of_ble_eq_true rfl)⟩) (wr := [(ad 2, .inl (cI, 24, .inl gn)), (ad 3, .inl (cI, 24, .inl ga)), (ad 4, .inl (cI, 24, .inl gb))]) [0, 1] [2, 3, 4] rfl rfl rfl rfl (by decide) 4 0 rfl rfl rfl rfl rfl (Nat.le_of_ble_eq_true rfl) dX4_add_49 ⟨Nat.le_of_ble_eq_true rfl, Nat.le_of_ble_eq_true rfl⟩ rfl (fun r u hu => ?_)
                    have hu : r = nI (pTot P) := hu
                    subst hu
                    refine z_wse (ws' := [(ad 2, .inl (cI, 24, .inl gn)), (ad 3, .inl (cI, 24, .inl ga)), (ad 4, .inl (cI, 24, .inl gb)), (mo, .inr (4, [.int (nI 0), .ref (ad 1), .ref (ad 2), .ref (ad 3), .ref (ad 4), .int (nI st), .ref (ad 6), .ref (ad 7), .ref (ad 8), .ref (ad 9), .ref (ad 10), .ref (ad 11), .ref (ad 12), .ref (ad 13), .ref (ad 14), .ref (ad 15), .ref (ad 16), .ref (ad 17), .ref (ad 18), .int (nI tol), .int (nI ts), .int (nI tf), .int (nI td), .ref (ad 23), .ref (ad 24), .ref (ad 25), .ref (ad 26)])), (ad 1, .inl (cI, 4, .inl gm))]) rfl ?_
                    refine z_bipush X (v := nI 12) (pc' := 54) dX4_add_52 (by decide) rfl ?_
                    refine z_icmp_neN X (tgt := 59) (pc' := 57) (by omega) (by decide) dX4_add_54 (by decide) rfl (fun h7 => ?_) (fun h7 => ?_)
                    · have hl12 : ¬ pTot P = 12 := h7
                      refine z_iload_n X (pc' := 60) dX4_add_59 rfl 2 rfl rfl ?_
                      refine z_iconst X (v := nI 3) (pc' := 61) dX4_add_60 (by decide) rfl ?_
                      refine z_icmp_neN X (tgt := 73) (pc' := 64) (by omega) (by decide) dX4_add_61 (by decide) rfl (fun h8 => ?_) (fun h8 => ?_)
                      · have hk3 : ¬ k = 3 := h8
                        refine z_iload_n X (pc' := 74) dX4_add_73 rfl 2 rfl rfl ?_
                        refine z_bipush X (v := nI 6) (pc' := 76) dX4_add_74 (by decide) rfl ?_
                        refine z_icmp_neN X (tgt := 85) (pc' := 79) (by omega) (by decide) dX4_add_76 (by decide) rfl (fun h9 => ?_) (fun h9 => ?_)
                        · have hk6 : ¬ k = 6 := h9
                          refine z_bipush X (v := nI 6) (pc' := 87) dX4_add_85 (by decide) rfl ?_
                          refine z_iload_n X (pc' := 88) dX4_add_87 rfl 1 rfl rfl ?_
                          refine z_imul X (pc' := 89) dX4_add_88 rfl ?_
                          refine z_topi (y := nI (6 * t)) (pk_mul _ _) ?_
                          refine z_aload_n X (pc' := 90) dX4_add_89 rfl 0 rfl rfl ?_
                          refine z_get X (v := .ref (ad 1)) (pc' := 93) 3 rfl rfl inX4 1 (by decide) mF_X4_7 rfl dX4_add_90 rfl ?_
                          refine z_iload_n X (pc' := 94) dX4_add_93 rfl 1 rfl rfl ?_
                          refine z_iald X (pc' := 95) 4 0 rfl rfl (by omega) (by omega) dX4_add_94 rfl ?_
                          refine z_topi (y := nI ((P t).length)) (hQ t ht).1 ?_
                          refine z_iadd X (pc' := 96) dX4_add_95 rfl ?_
                          refine z_topi (y := nI ((6 * t) + ((P t).length))) (nI_add _ _) ?_
                          refine z_istore X (lv' := [(5, .int (nI ((6 * t) + ((P t).length)))), (0, .ref mo), (1, .int (nI t)), (2, .int (nI k)), (3, .int (nI a)), (4, .int (nI b))]) (pc' := 98) dX4_add_96 (by decide) rfl rfl ?_
                          refine z_aload_n X (pc' := 99) dX4_add_98 rfl 1 rfl rfl ?_
                          refine z_get X (v := .ref (ad 2)) (pc' := 102) 3 rfl rfl inX4 2 (by decide) mF_X4_13 rfl dX4_add_99 rfl ?_
                          refine z_iload X (pc' := 104) dX4_add_102 0 rfl rfl ?_
                          refine z_iload_n X (pc' := 105) dX4_add_104 rfl 3 rfl rfl ?_
                          refine z_iast X (ws' := [(ad 2, .inl (cI, 24, .inl (upd gn ((6 * t) + ((P t).length)) (nI k)))), (ad 3, .inl (cI, 24, .inl ga)), (ad 4, .inl (cI, 24, .inl gb)), (mo, .inr (4, [.int (nI 0), .ref (ad 1), .ref (ad 2), .ref (ad 3), .ref (ad 4), .int (nI st), .ref (ad 6), .ref (ad 7), .ref (ad 8), .ref (ad 9), .ref (ad 10), .ref (ad 11), .ref (ad 12), .ref (ad 13), .ref (ad 14), .ref (ad 15), .ref (ad 16), .ref (ad 17), .ref (ad 18), .int (nI tol), .int (nI ts), .int (nI tf), .int (nI td), .ref (ad 23), .ref (ad 24), .ref (ad 25), .ref (ad 26)])), (ad 1, .inl (cI, 4, .inl gm))]) (pc' := 106) 0 0 rfl rfl (by omega) (by omega) dX4_add_105 rfl rfl ?_
                          refine z_aload_n X (pc' := 107) dX4_add_106 rfl 1 rfl rfl ?_
                          refine z_get X (v := .ref (ad 3)) (pc' := 110) 3 rfl rfl inX4 3 (by decide) mF_X4_16 rfl dX4_add_107 rfl ?_
                          refine z_iload X (pc' := 112) dX4_add_110 0 rfl rfl ?_
                          refine z_iload_n X (pc' := 113) dX4_add_112 rfl 4 rfl rfl ?_
                          refine z_iast X (ws' := [(ad 2, .inl (cI, 24, .inl (upd gn ((6 * t) + ((P t).length)) (nI k)))), (ad 3, .inl (cI, 24, .inl (upd ga ((6 * t) + ((P t).length)) (nI a)))), (ad 4, .inl (cI, 24, .inl gb)), (mo, .inr (4, [.int (nI 0), .ref (ad 1), .ref (ad 2), .ref (ad 3), .ref (ad 4), .int (nI st), .ref (ad 6), .ref (ad 7), .ref (ad 8), .ref (ad 9), .ref (ad 10), .ref (ad 11), .ref (ad 12), .ref (ad 13), .ref (ad 14), .ref (ad 15), .ref (ad 16), .ref (ad 17), .ref (ad 18), .int (nI tol), .int (nI ts), .int (nI tf), .int (nI td), .ref (ad 23), .ref (ad 24), .ref (ad 25), .ref (ad 26)])), (ad 1, .inl (cI, 4, .inl gm))]) (pc' := 114) 1 0 rfl rfl (by omega) (by omega) dX4_add_113 rfl rfl ?_
                          refine z_aload_n X (pc' := 115) dX4_add_114 rfl 1 rfl rfl ?_
                          refine z_get X (v := .ref (ad 4)) (pc' := 118) 3 rfl rfl inX4 4 (by decide) mF_X4_19 rfl dX4_add_115 rfl ?_
                          refine z_iload X (pc' := 120) dX4_add_118 0 rfl rfl ?_
                          refine z_iload X (pc' := 122) dX4_add_120 5 rfl rfl ?_
                          refine z_iast X (ws' := [(ad 2, .inl (cI, 24, .inl (upd gn ((6 * t) + ((P t).length)) (nI k)))), (ad 3, .inl (cI, 24, .inl (upd ga ((6 * t) + ((P t).length)) (nI a)))), (ad 4, .inl (cI, 24, .inl (upd gb ((6 * t) + ((P t).length)) (nI b)))), (mo, .inr (4, [.int (nI 0), .ref (ad 1), .ref (ad 2), .ref (ad 3), .ref (ad 4), .int (nI st), .ref (ad 6), .ref (ad 7), .ref (ad 8), .ref (ad 9), .ref (ad 10), .ref (ad 11), .ref (ad 12), .ref (ad 13), .ref (ad 14), .ref (ad 15), .ref (ad 16), .ref (ad 17), .ref (ad 18), .int (nI tol), .int (nI ts), .int (nI tf), .int (nI td), .ref (ad 23), .ref (ad 24), .ref (ad 25), .ref (ad 26)])), (ad 1, .inl (cI, 4, .inl gm))]) (pc' := 123) 2 0 rfl rfl (by omega) (by omega) dX4_add_122 rfl rfl ?_
                          refine z_aload_n X (pc' := 124) dX4_add_123 rfl 1 rfl rfl ?_
                          refine z_get X (v := .ref (ad 1)) (pc' := 127) 3 rfl rfl inX4 1 (by decide) mF_X4_7 rfl dX4_add_124 rfl ?_
                          refine z_iload_n X (pc' := 128) dX4_add_127 rfl 2 rfl rfl ?_
                          refine z_dup2_11 X (pc' := 129) dX4_add_128 rfl rfl rfl ?_
                          refine z_iald X (pc' := 130) 4 0 rfl rfl (by omega) (by omega) dX4_add_129 rfl ?_
                          refine z_topi (y := nI ((P t).length)) (hQ t ht).1 ?_
                          refine z_iconst X (v := nI 1) (pc' := 131) dX4_add_130 (by decide) rfl ?_
                          refine z_iadd X (pc' := 132) dX4_add_131 rfl ?_
                          refine z_topi (y := nI (((P t).length) + 1)) (nI_add _ _) ?_
                          refine z_iast X (ws' := [(ad 2, .inl (cI, 24, .inl (upd gn ((6 * t) + ((P t).length)) (nI k)))), (ad 3, .inl (cI, 24, .inl (upd ga ((6 * t) + ((P t).length)) (nI a)))), (ad 4, .inl (cI, 24, .inl (upd gb ((6 * t) + ((P t).length)) (nI b)))), (mo, .inr (4, [.int (nI 0), .ref (ad 1), .ref (ad 2), .ref (ad 3), .ref (ad 4), .int (nI st), .ref (ad 6), .ref (ad 7), .ref (ad 8), .ref (ad 9), .ref (ad 10), .ref (ad 11), .ref (ad 12), .ref (ad 13), .ref (ad 14), .ref (ad 15), .ref (ad 16), .ref (ad 17), .ref (ad 18), .int (nI tol), .int (nI ts), .int (nI tf), .int (nI td), .ref (ad 23), .ref (ad 24), .ref (ad 25), .ref (ad 26)])), (ad 1, .inl (cI, 4, .inl (upd gm t (nI (((P t).length) + 1)))))]) (pc' := 133) 4 0 rfl rfl (by omega) (by omega) dX4_add_132 rfl rfl ?_
                          refine z_iconst X (v := nI 1) (pc' := 134) dX4_add_133 (by decide) rfl ?_
                          refine z_ws (ws' := [(mo, .inr (4, [.int (nI 0), .ref (ad 1), .ref (ad 2), .ref (ad 3), .ref (ad 4), .int (nI st), .ref (ad 6), .ref (ad 7), .ref (ad 8), .ref (ad 9), .ref (ad 10), .ref (ad 11), .ref (ad 12), .ref (ad 13), .ref (ad 14), .ref (ad 15), .ref (ad 16), .ref (ad 17), .ref (ad 18), .int (nI tol), .int (nI ts), .int (nI tf), .int (nI td), .ref (ad 23), .ref (ad 24), .ref (ad 25), .ref (ad 26)])), (ad 1, .inl (cI, 4, .inl (upd gm t (nI (((P t).length) + 1))))), (ad 2, .inl (cI, 24, .inl (upd gn ((6 * t) + ((P t).length)) (nI k)))), (ad 3, .inl (cI, 24, .inl (upd ga ((6 * t) + ((P t).length)) (nI a)))), (ad 4, .inl (cI, 24, .inl (upd gb ((6 * t) + ((P t).length)) (nI b))))]) [3, 4, 0, 1, 2] (by decide) rfl ?_
                          exact z_iret X (t1 := .boolean) rfl rfl (pAdd P t (16 * k + 4 * a + b), upd gm t (nI ((P t).length + 1)), upd gn (6 * t + (P t).length) (nI k), upd ga (6 * t + (P t).length) (nI a), upd gb (6 * t + (P t).length) (nI b)) (⟨Or.inl ⟨t, k, a, b, ⟨ht, rfl, ⟨hk7, ha, hb, fun _ => by omega, fun _ => by omega, rfl, rfl, rfl⟩, by omega, by omega⟩, rfl, rfl⟩, QRep_add hQ hP ht (by omega) hk7 ha hb⟩) rfl (Nat.le_of_ble_eq_true rfl) (Nat.le_of_ble_eq_true rfl) dX4_add_134
                        · have hk6 : k = 6 := h9
                          refine z_iload_n X (pc' := 80) dX4_add_79 rfl 3 rfl rfl ?_
                          refine z_if_neN X (tgt := 85) (pc' := 83) (by omega) dX4_add_80 (by decide) rfl (fun h10 => ?_) (fun h10 => ?_)
                          · have ha6 : ¬ a = 0 := h10
                            refine z_bipush X (v := nI 6) (pc' := 87) dX4_add_85 (by decide) rfl ?_
                            refine z_iload_n X (pc' := 88) dX4_add_87 rfl 1 rfl rfl ?_
                            refine z_imul X (pc' := 89) dX4_add_88 rfl ?_
                            refine z_topi (y := nI (6 * t)) (pk_mul _ _) ?_
                            refine z_aload_n X (pc' := 90) dX4_add_89 rfl 0 rfl rfl ?_
                            refine z_get X (v := .ref (ad 1)) (pc' := 93) 3 rfl rfl inX4 1 (by decide) mF_X4_7 rfl dX4_add_90 rfl ?_
                            refine z_iload_n X (pc' := 94) dX4_add_93 rfl 1 rfl rfl ?_
                            refine z_iald X (pc' := 95) 4 0 rfl rfl (by omega) (by omega) dX4_add_94 rfl ?_
                            refine z_topi (y := nI ((P t).length)) (hQ t ht).1 ?_
                            refine z_iadd X (pc' := 96) dX4_add_95 rfl ?_
                            refine z_topi (y := nI ((6 * t) + ((P t).length))) (nI_add _ _) ?_
                            refine z_istore X (lv' := [(5, .int (nI ((6 * t) + ((P t).length)))), (0, .ref mo), (1, .int (nI t)), (2, .int (nI k)), (3, .int (nI a)), (4, .int (nI b))]) (pc' := 98) dX4_add_96 (by decide) rfl rfl ?_
                            refine z_aload_n X (pc' := 99) dX4_add_98 rfl 1 rfl rfl ?_
                            refine z_get X (v := .ref (ad 2)) (pc' := 102) 3 rfl rfl inX4 2 (by decide) mF_X4_13 rfl dX4_add_99 rfl ?_
                            refine z_iload X (pc' := 104) dX4_add_102 0 rfl rfl ?_
                            refine z_iload_n X (pc' := 105) dX4_add_104 rfl 3 rfl rfl ?_
                            refine z_iast X (ws' := [(ad 2, .inl (cI, 24, .inl (upd gn ((6 * t) + ((P t).length)) (nI k)))), (ad 3, .inl (cI, 24, .inl ga)), (ad 4, .inl (cI, 24, .inl gb)), (mo, .inr (4, [.int (nI 0), .ref (ad 1), .ref (ad 2), .ref (ad 3), .ref (ad 4), .int (nI st), .ref (ad 6), .ref (ad 7), .ref (ad 8), .ref (ad 9), .ref (ad 10), .ref (ad 11), .ref (ad 12), .ref (ad 13), .ref (ad 14), .ref (ad 15), .ref (ad 16), .ref (ad 17), .ref (ad 18), .int (nI tol), .int (nI ts), .int (nI tf), .int (nI td), .ref (ad 23), .ref (ad 24), .ref (ad 25), .ref (ad 26)])), (ad 1, .inl (cI, 4, .inl gm))]) (pc' := 106) 0 0 rfl rfl (by omega) (by omega) dX4_add_105 rfl rfl ?_
                            refine z_aload_n X (pc' := 107) dX4_add_106 rfl 1 rfl rfl ?_
                            refine z_get X (v := .ref (ad 3)) (pc' := 110) 3 rfl rfl inX4 3 (by decide) mF_X4_16 rfl dX4_add_107 rfl ?_
                            refine z_iload X (pc' := 112) dX4_add_110 0 rfl rfl ?_
                            refine z_iload_n X (pc' := 113) dX4_add_112 rfl 4 rfl rfl ?_
                            refine z_iast X (ws' := [(ad 2, .inl (cI, 24, .inl (upd gn ((6 * t) + ((P t).length)) (nI k)))), (ad 3, .inl (cI, 24, .inl (upd ga ((6 * t) + ((P t).length)) (nI a)))), (ad 4, .inl (cI, 24, .inl gb)), (mo, .inr (4, [.int (nI 0), .ref (ad 1), .ref (ad 2), .ref (ad 3), .ref (ad 4), .int (nI st), .ref (ad 6), .ref (ad 7), .ref (ad 8), .ref (ad 9), .ref (ad 10), .ref (ad 11), .ref (ad 12), .ref (ad 13), .ref (ad 14), .ref (ad 15), .ref (ad 16), .ref (ad 17), .ref (ad 18), .int (nI tol), .int (nI ts), .int (nI tf), .int (nI td), .ref (ad 23), .ref (ad 24), .ref (ad 25), .ref (ad 26)])), (ad 1, .inl (cI, 4, .inl gm))]) (pc' := 114) 1 0 rfl rfl (by omega) (by omega) dX4_add_113 rfl rfl ?_
                            refine z_aload_n X (pc' := 115) dX4_add_114 rfl 1 rfl rfl ?_
                            refine z_get X (v := .ref (ad 4)) (pc' := 118) 3 rfl rfl inX4 4 (by decide) mF_X4_19 rfl dX4_add_115 rfl ?_
                            refine z_iload X (pc' := 120) dX4_add_118 0 rfl rfl ?_
                            refine z_iload X (pc' := 122) dX4_add_120 5 rfl rfl ?_
                            refine z_iast X (ws' := [(ad 2, .inl (cI, 24, .inl (upd gn ((6 * t) + ((P t).length)) (nI k)))), (ad 3, .inl (cI, 24, .inl (upd ga ((6 * t) + ((P t).length)) (nI a)))), (ad 4, .inl (cI, 24, .inl (upd gb ((6 * t) + ((P t).length)) (nI b)))), (mo, .inr (4, [.int (nI 0), .ref (ad 1), .ref (ad 2), .ref (ad 3), .ref (ad 4), .int (nI st), .ref (ad 6), .ref (ad 7), .ref (ad 8), .ref (ad 9), .ref (ad 10), .ref (ad 11), .ref (ad 12), .ref (ad 13), .ref (ad 14), .ref (ad 15), .ref (ad 16), .ref (ad 17), .ref (ad 18), .int (nI tol), .int (nI ts), .int (nI tf), .int (nI td), .ref (ad 23), .ref (ad 24), .ref (ad 25), .ref (ad 26)])), (ad 1, .inl (cI, 4, .inl gm))]) (pc' := 123) 2 0 rfl rfl (by omega) (by omega) dX4_add_122 rfl rfl ?_
                            refine z_aload_n X (pc' := 124) dX4_add_123 rfl 1 rfl rfl ?_
                            refine z_get X (v := .ref (ad 1)) (pc' := 127) 3 rfl rfl inX4 1 (by decide) mF_X4_7 rfl dX4_add_124 rfl ?_
                            refine z_iload_n X (pc' := 128) dX4_add_127 rfl 2 rfl rfl ?_
                            refine z_dup2_11 X (pc' := 129) dX4_add_128 rfl rfl rfl ?_
                            refine z_iald X (pc' := 130) 4 0 rfl rfl (by omega) (by omega) dX4_add_129 rfl ?_
                            refine z_topi (y := nI ((P t).length)) (hQ t ht).1 ?_
                            refine z_iconst X (v := nI 1) (pc' := 131) dX4_add_130 (by decide) rfl ?_
                            refine z_iadd X (pc' := 132) dX4_add_131 rfl ?_
                            refine z_topi (y := nI (((P t).length) + 1)) (nI_add _ _) ?_
                            refine z_iast X (ws' := [(ad 2, .inl (cI, 24, .inl (upd gn ((6 * t) + ((P t).length)) (nI k)))), (ad 3, .inl (cI, 24, .inl (upd ga ((6 * t) + ((P t).length)) (nI a)))), (ad 4, .inl (cI, 24, .inl (upd gb ((6 * t) + ((P t).length)) (nI b)))), (mo, .inr (4, [.int (nI 0), .ref (ad 1), .ref (ad 2), .ref (ad 3), .ref (ad 4), .int (nI st), .ref (ad 6), .ref (ad 7), .ref (ad 8), .ref (ad 9), .ref (ad 10), .ref (ad 11), .ref (ad 12), .ref (ad 13), .ref (ad 14), .ref (ad 15), .ref (ad 16), .ref (ad 17), .ref (ad 18), .int (nI tol), .int (nI ts), .int (nI tf), .int (nI td), .ref (ad 23), .ref (ad 24), .ref (ad 25), .ref (ad 26)])), (ad 1, .inl (cI, 4, .inl (upd gm t (nI (((P t).length) + 1)))))]) (pc' := 133) 4 0 rfl rfl (by omega) (by omega) dX4_add_132 rfl rfl ?_
                            refine z_iconst X (v := nI 1) (pc' := 134) dX4_add_133 (by decide) rfl ?_
                            refine z_ws (ws' := [(mo, .inr (4, [.int (nI 0), .ref (ad 1), .ref (ad 2), .ref (ad 3), .ref (ad 4), .int (nI st), .ref (ad 6), .ref (ad 7), .ref (ad 8), .ref (ad 9), .ref (ad 10), .ref (ad 11), .ref (ad 12), .ref (ad 13), .ref (ad 14), .ref (ad 15), .ref (ad 16), .ref (ad 17), .ref (ad 18), .int (nI tol), .int (nI ts), .int (nI tf), .int (nI td), .ref (ad 23), .ref (ad 24), .ref (ad 25), .ref (ad 26)])), (ad 1, .inl (cI, 4, .inl (upd gm t (nI (((P t).length) + 1))))), (ad 2, .inl (cI, 24, .inl (upd gn ((6 * t) + ((P t).length)) (nI k)))), (ad 3, .inl (cI, 24, .inl (upd ga ((6 * t) + ((P t).length)) (nI a)))), (ad 4, .inl (cI, 24, .inl (upd gb ((6 * t) + ((P t).length)) (nI b))))]) [3, 4, 0, 1, 2] (by decide) rfl ?_
                            exact z_iret X (t1 := .boolean) rfl rfl (pAdd P t (16 * k + 4 * a + b), upd gm t (nI ((P t).length + 1)), upd gn (6 * t + (P t).length) (nI k), upd ga (6 * t + (P t).length) (nI a), upd gb (6 * t + (P t).length) (nI b)) (⟨Or.inl ⟨t, k, a, b, ⟨ht, rfl, ⟨hk7, ha, hb, fun _ => by omega, fun _ => by omega, rfl, rfl, rfl⟩, by omega, by omega⟩, rfl, rfl⟩, QRep_add hQ hP ht (by omega) hk7 ha hb⟩) rfl (Nat.le_of_ble_eq_true rfl) (Nat.le_of_ble_eq_true rfl) dX4_add_134
                          · have ha6 : a = 0 := h10
                            have hnA : ¬ ∃ t2 k2 a2 b2, canAdd P (nI t) (nI k) (nI a) (nI b) t2 k2 a2 b2 := fun ⟨t2, k2, a2, b2, q⟩ => by obtain ⟨e1, e2, e3, e4⟩ := hun t2 k2 a2 b2 q; subst e1; subst e2; subst e3; subst e4; obtain ⟨-, -, ⟨-, -, -, g1, g2, -⟩, g3, g4⟩ := q; omega
                            refine z_iconst X (v := nI 0) (pc' := 84) dX4_add_83 (by decide) rfl ?_
                            refine z_ws (ws' := [(mo, .inr (4, [.int (nI 0), .ref (ad 1), .ref (ad 2), .ref (ad 3), .ref (ad 4), .int (nI st), .ref (ad 6), .ref (ad 7), .ref (ad 8), .ref (ad 9), .ref (ad 10), .ref (ad 11), .ref (ad 12), .ref (ad 13), .ref (ad 14), .ref (ad 15), .ref (ad 16), .ref (ad 17), .ref (ad 18), .int (nI tol), .int (nI ts), .int (nI tf), .int (nI td), .ref (ad 23), .ref (ad 24), .ref (ad 25), .ref (ad 26)])), (ad 1, .inl (cI, 4, .inl gm)), (ad 2, .inl (cI, 24, .inl gn)), (ad 3, .inl (cI, 24, .inl ga)), (ad 4, .inl (cI, 24, .inl gb))]) [3, 4, 0, 1, 2] (by decide) rfl ?_
                            exact z_iret X (t1 := .boolean) rfl rfl (P, gm, gn, ga, gb) (⟨Or.inr ⟨hnA, rfl, rfl⟩, hQ⟩) rfl (Nat.le_of_ble_eq_true rfl) (Nat.le_of_ble_eq_true rfl) dX4_add_84
                      · have hk3 : k = 3 := h8
                        refine z_iload_n X (pc' := 65) dX4_add_64 rfl 3 rfl rfl ?_
                        refine z_if_gtN X (tgt := 83) (pc' := 68) (by omega) dX4_add_65 (by decide) rfl (fun h11 => ?_) (fun h11 => ?_)
                        · have ha0 : 0 < a := h11
                          have hnA : ¬ ∃ t2 k2 a2 b2, canAdd P (nI t) (nI k) (nI a) (nI b) t2 k2 a2 b2 := fun ⟨t2, k2, a2, b2, q⟩ => by obtain ⟨e1, e2, e3, e4⟩ := hun t2 k2 a2 b2 q; subst e1; subst e2; subst e3; subst e4; obtain ⟨-, -, ⟨-, -, -, g1, g2, -⟩, g3, g4⟩ := q; omega
                          refine z_iconst X (v := nI 0) (pc' := 84) dX4_add_83 (by decide) rfl ?_
                          refine z_ws (ws' := [(mo, .inr (4, [.int (nI 0), .ref (ad 1), .ref (ad 2), .ref (ad 3), .ref (ad 4), .int (nI st), .ref (ad 6), .ref (ad 7), .ref (ad 8), .ref (ad 9), .ref (ad 10), .ref (ad 11), .ref (ad 12), .ref (ad 13), .ref (ad 14), .ref (ad 15), .ref (ad 16), .ref (ad 17), .ref (ad 18), .int (nI tol), .int (nI ts), .int (nI tf), .int (nI td), .ref (ad 23), .ref (ad 24), .ref (ad 25), .ref (ad 26)])), (ad 1, .inl (cI, 4, .inl gm)), (ad 2, .inl (cI, 24, .inl gn)), (ad 3, .inl (cI, 24, .inl ga)), (ad 4, .inl (cI, 24, .inl gb))]) [3, 4, 0, 1, 2] (by decide) rfl ?_
                          exact z_iret X (t1 := .boolean) rfl rfl (P, gm, gn, ga, gb) (⟨Or.inr ⟨hnA, rfl, rfl⟩, hQ⟩) rfl (Nat.le_of_ble_eq_true rfl) (Nat.le_of_ble_eq_true rfl) dX4_add_84
                        · have ha0 : ¬ 0 < a := h11
                          refine z_iload X (pc' := 70) dX4_add_68 4 rfl rfl ?_
                          refine z_if_gtN X (tgt := 83) (pc' := 73) (by omega) dX4_add_70 (by decide) rfl (fun h12 => ?_) (fun h12 => ?_)
                          · have hb0 : 0 < b := h12
                            have hnA : ¬ ∃ t2 k2 a2 b2, canAdd P (nI t) (nI k) (nI a) (nI b) t2 k2 a2 b2 := fun ⟨t2, k2, a2, b2, q⟩ => by obtain ⟨e1, e2, e3, e4⟩ := hun t2 k2 a2 b2 q; subst e1; subst e2; subst e3; subst e4; obtain ⟨-, -, ⟨-, -, -, g1, g2, -⟩, g3, g4⟩ := q; omega
                            refine z_iconst X (v := nI 0) (pc' := 84) dX4_add_83 (by decide) rfl ?_
                            refine z_ws (ws' := [(mo, .inr (4, [.int (nI 0), .ref (ad 1), .ref (ad 2), .ref (ad 3), .ref (ad 4), .int (nI st), .ref (ad 6), .ref (ad 7), .ref (ad 8), .ref (ad 9), .ref (ad 10), .ref (ad 11), .ref (ad 12), .ref (ad 13), .ref (ad 14), .ref (ad 15), .ref (ad 16), .ref (ad 17), .ref (ad 18), .int (nI tol), .int (nI ts), .int (nI tf), .int (nI td), .ref (ad 23), .ref (ad 24), .ref (ad 25), .ref (ad 26)])), (ad 1, .inl (cI, 4, .inl gm)), (ad 2, .inl (cI, 24, .inl gn)), (ad 3, .inl (cI, 24, .inl ga)), (ad 4, .inl (cI, 24, .inl gb))]) [3, 4, 0, 1, 2] (by decide) rfl ?_
                            exact z_iret X (t1 := .boolean) rfl rfl (P, gm, gn, ga, gb) (⟨Or.inr ⟨hnA, rfl, rfl⟩, hQ⟩) rfl (Nat.le_of_ble_eq_true rfl) (Nat.le_of_ble_eq_true rfl) dX4_add_84
                          · have hb0 : ¬ 0 < b := h12
                            refine z_iload_n X (pc' := 74) dX4_add_73 rfl 2 rfl rfl ?_
                            refine z_bipush X (v := nI 6) (pc' := 76) dX4_add_74 (by decide) rfl ?_
                            refine z_icmp_neN X (tgt := 85) (pc' := 79) (by omega) (by decide) dX4_add_76 (by decide) rfl (fun h13 => ?_) (fun h13 => ?_)
                            · have hk6 : ¬ k = 6 := h13
                              refine z_bipush X (v := nI 6) (pc' := 87) dX4_add_85 (by decide) rfl ?_
                              refine z_iload_n X (pc' := 88) dX4_add_87 rfl 1 rfl rfl ?_
                              refine z_imul X (pc' := 89) dX4_add_88 rfl ?_
                              refine z_topi (y := nI (6 * t)) (pk_mul _ _) ?_
                              refine z_aload_n X (pc' := 90) dX4_add_89 rfl 0 rfl rfl ?_
                              refine z_get X (v := .ref (ad 1)) (pc' := 93) 3 rfl rfl inX4 1 (by decide) mF_X4_7 rfl dX4_add_90 rfl ?_
                              refine z_iload_n X (pc' := 94) dX4_add_93 rfl 1 rfl rfl ?_
                              refine z_iald X (pc' := 95) 4 0 rfl rfl (by omega) (by omega) dX4_add_94 rfl ?_
                              refine z_topi (y := nI ((P t).length)) (hQ t ht).1 ?_
                              refine z_iadd X (pc' := 96) dX4_add_95 rfl ?_
                              refine z_topi (y := nI ((6 * t) + ((P t).length))) (nI_add _ _) ?_
                              refine z_istore X (lv' := [(5, .int (nI ((6 * t) + ((P t).length)))), (0, .ref mo), (1, .int (nI t)), (2, .int (nI k)), (3, .int (nI a)), (4, .int (nI b))]) (pc' := 98) dX4_add_96 (by decide) rfl rfl ?_
                              refine z_aload_n X (pc' := 99) dX4_add_98 rfl 1 rfl rfl ?_
                              refine z_get X (v := .ref (ad 2)) (pc' := 102) 3 rfl rfl inX4 2 (by decide) mF_X4_13 rfl dX4_add_99 rfl ?_
                              refine z_iload X (pc' := 104) dX4_add_102 0 rfl rfl ?_
                              refine z_iload_n X (pc' := 105) dX4_add_104 rfl 3 rfl rfl ?_
                              refine z_iast X (ws' := [(ad 2, .inl (cI, 24, .inl (upd gn ((6 * t) + ((P t).length)) (nI k)))), (ad 3, .inl (cI, 24, .inl ga)), (ad 4, .inl (cI, 24, .inl gb)), (mo, .inr (4, [.int (nI 0), .ref (ad 1), .ref (ad 2), .ref (ad 3), .ref (ad 4), .int (nI st), .ref (ad 6), .ref (ad 7), .ref (ad 8), .ref (ad 9), .ref (ad 10), .ref (ad 11), .ref (ad 12), .ref (ad 13), .ref (ad 14), .ref (ad 15), .ref (ad 16), .ref (ad 17), .ref (ad 18), .int (nI tol), .int (nI ts), .int (nI tf), .int (nI td), .ref (ad 23), .ref (ad 24), .ref (ad 25), .ref (ad 26)])), (ad 1, .inl (cI, 4, .inl gm))]) (pc' := 106) 0 0 rfl rfl (by omega) (by omega) dX4_add_105 rfl rfl ?_
                              refine z_aload_n X (pc' := 107) dX4_add_106 rfl 1 rfl rfl ?_
                              refine z_get X (v := .ref (ad 3)) (pc' := 110) 3 rfl rfl inX4 3 (by decide) mF_X4_16 rfl dX4_add_107 rfl ?_
                              refine z_iload X (pc' := 112) dX4_add_110 0 rfl rfl ?_
                              refine z_iload_n X (pc' := 113) dX4_add_112 rfl 4 rfl rfl ?_
                              refine z_iast X (ws' := [(ad 2, .inl (cI, 24, .inl (upd gn ((6 * t) + ((P t).length)) (nI k)))), (ad 3, .inl (cI, 24, .inl (upd ga ((6 * t) + ((P t).length)) (nI a)))), (ad 4, .inl (cI, 24, .inl gb)), (mo, .inr (4, [.int (nI 0), .ref (ad 1), .ref (ad 2), .ref (ad 3), .ref (ad 4), .int (nI st), .ref (ad 6), .ref (ad 7), .ref (ad 8), .ref (ad 9), .ref (ad 10), .ref (ad 11), .ref (ad 12), .ref (ad 13), .ref (ad 14), .ref (ad 15), .ref (ad 16), .ref (ad 17), .ref (ad 18), .int (nI tol), .int (nI ts), .int (nI tf), .int (nI td), .ref (ad 23), .ref (ad 24), .ref (ad 25), .ref (ad 26)])), (ad 1, .inl (cI, 4, .inl gm))]) (pc' := 114) 1 0 rfl rfl (by omega) (by omega) dX4_add_113 rfl rfl ?_
                              refine z_aload_n X (pc' := 115) dX4_add_114 rfl 1 rfl rfl ?_
                              refine z_get X (v := .ref (ad 4)) (pc' := 118) 3 rfl rfl inX4 4 (by decide) mF_X4_19 rfl dX4_add_115 rfl ?_
                              refine z_iload X (pc' := 120) dX4_add_118 0 rfl rfl ?_
                              refine z_iload X (pc' := 122) dX4_add_120 5 rfl rfl ?_
                              refine z_iast X (ws' := [(ad 2, .inl (cI, 24, .inl (upd gn ((6 * t) + ((P t).length)) (nI k)))), (ad 3, .inl (cI, 24, .inl (upd ga ((6 * t) + ((P t).length)) (nI a)))), (ad 4, .inl (cI, 24, .inl (upd gb ((6 * t) + ((P t).length)) (nI b)))), (mo, .inr (4, [.int (nI 0), .ref (ad 1), .ref (ad 2), .ref (ad 3), .ref (ad 4), .int (nI st), .ref (ad 6), .ref (ad 7), .ref (ad 8), .ref (ad 9), .ref (ad 10), .ref (ad 11), .ref (ad 12), .ref (ad 13), .ref (ad 14), .ref (ad 15), .ref (ad 16), .ref (ad 17), .ref (ad 18), .int (nI tol), .int (nI ts), .int (nI tf), .int (nI td), .ref (ad 23), .ref (ad 24), .ref (ad 25), .ref (ad 26)])), (ad 1, .inl (cI, 4, .inl gm))]) (pc' := 123) 2 0 rfl rfl (by omega) (by omega) dX4_add_122 rfl rfl ?_
                              refine z_aload_n X (pc' := 124) dX4_add_123 rfl 1 rfl rfl ?_
                              refine z_get X (v := .ref (ad 1)) (pc' := 127) 3 rfl rfl inX4 1 (by decide) mF_X4_7 rfl dX4_add_124 rfl ?_
                              refine z_iload_n X (pc' := 128) dX4_add_127 rfl 2 rfl rfl ?_
                              refine z_dup2_11 X (pc' := 129) dX4_add_128 rfl rfl rfl ?_
                              refine z_iald X (pc' := 130) 4 0 rfl rfl (by omega) (by omega) dX4_add_129 rfl ?_
                              refine z_topi (y := nI ((P t).length)) (hQ t ht).1 ?_
                              refine z_iconst X (v := nI 1) (pc' := 131) dX4_add_130 (by decide) rfl ?_
                              refine z_iadd X (pc' := 132) dX4_add_131 rfl ?_
                              refine z_topi (y := nI (((P t).length) + 1)) (nI_add _ _) ?_
                              refine z_iast X (ws' := [(ad 2, .inl (cI, 24, .inl (upd gn ((6 * t) + ((P t).length)) (nI k)))), (ad 3, .inl (cI, 24, .inl (upd ga ((6 * t) + ((P t).length)) (nI a)))), (ad 4, .inl (cI, 24, .inl (upd gb ((6 * t) + ((P t).length)) (nI b)))), (mo, .inr (4, [.int (nI 0), .ref (ad 1), .ref (ad 2), .ref (ad 3), .ref (ad 4), .int (nI st), .ref (ad 6), .ref (ad 7), .ref (ad 8), .ref (ad 9), .ref (ad 10), .ref (ad 11), .ref (ad 12), .ref (ad 13), .ref (ad 14), .ref (ad 15), .ref (ad 16), .ref (ad 17), .ref (ad 18), .int (nI tol), .int (nI ts), .int (nI tf), .int (nI td), .ref (ad 23), .ref (ad 24), .ref (ad 25), .ref (ad 26)])), (ad 1, .inl (cI, 4, .inl (upd gm t (nI (((P t).length) + 1)))))]) (pc' := 133) 4 0 rfl rfl (by omega) (by omega) dX4_add_132 rfl rfl ?_
                              refine z_iconst X (v := nI 1) (pc' := 134) dX4_add_133 (by decide) rfl ?_
                              refine z_ws (ws' := [(mo, .inr (4, [.int (nI 0), .ref (ad 1), .ref (ad 2), .ref (ad 3), .ref (ad 4), .int (nI st), .ref (ad 6), .ref (ad 7), .ref (ad 8), .ref (ad 9), .ref (ad 10), .ref (ad 11), .ref (ad 12), .ref (ad 13), .ref (ad 14), .ref (ad 15), .ref (ad 16), .ref (ad 17), .ref (ad 18), .int (nI tol), .int (nI ts), .int (nI tf), .int (nI td), .ref (ad 23), .ref (ad 24), .ref (ad 25), .ref (ad 26)])), (ad 1, .inl (cI, 4, .inl (upd gm t (nI (((P t).length) + 1))))), (ad 2, .inl (cI, 24, .inl (upd gn ((6 * t) + ((P t).length)) (nI k)))), (ad 3, .inl (cI, 24, .inl (upd ga ((6 * t) + ((P t).length)) (nI a)))), (ad 4, .inl (cI, 24, .inl (upd gb ((6 * t) + ((P t).length)) (nI b))))]) [3, 4, 0, 1, 2] (by decide) rfl ?_
                              exact z_iret X (t1 := .boolean) rfl rfl (pAdd P t (16 * k + 4 * a + b), upd gm t (nI ((P t).length + 1)), upd gn (6 * t + (P t).length) (nI k), upd ga (6 * t + (P t).length) (nI a), upd gb (6 * t + (P t).length) (nI b)) (⟨Or.inl ⟨t, k, a, b, ⟨ht, rfl, ⟨hk7, ha, hb, fun _ => by omega, fun _ => by omega, rfl, rfl, rfl⟩, by omega, by omega⟩, rfl, rfl⟩, QRep_add hQ hP ht (by omega) hk7 ha hb⟩) rfl (Nat.le_of_ble_eq_true rfl) (Nat.le_of_ble_eq_true rfl) dX4_add_134
                            · have hk6 : k = 6 := h13
                              refine z_iload_n X (pc' := 80) dX4_add_79 rfl 3 rfl rfl ?_
                              refine z_if_neN X (tgt := 85) (pc' := 83) (by omega) dX4_add_80 (by decide) rfl (fun h14 => ?_) (fun h14 => ?_)
                              · have ha6 : ¬ a = 0 := h14
                                refine z_bipush X (v := nI 6) (pc' := 87) dX4_add_85 (by decide) rfl ?_
                                refine z_iload_n X (pc' := 88) dX4_add_87 rfl 1 rfl rfl ?_
                                refine z_imul X (pc' := 89) dX4_add_88 rfl ?_
                                refine z_topi (y := nI (6 * t)) (pk_mul _ _) ?_
                                refine z_aload_n X (pc' := 90) dX4_add_89 rfl 0 rfl rfl ?_
                                refine z_get X (v := .ref (ad 1)) (pc' := 93) 3 rfl rfl inX4 1 (by decide) mF_X4_7 rfl dX4_add_90 rfl ?_
                                refine z_iload_n X (pc' := 94) dX4_add_93 rfl 1 rfl rfl ?_
                                refine z_iald X (pc' := 95) 4 0 rfl rfl (by omega) (by omega) dX4_add_94 rfl ?_
                                refine z_topi (y := nI ((P t).length)) (hQ t ht).1 ?_
                                refine z_iadd X (pc' := 96) dX4_add_95 rfl ?_
                                refine z_topi (y := nI ((6 * t) + ((P t).length))) (nI_add _ _) ?_
                                refine z_istore X (lv' := [(5, .int (nI ((6 * t) + ((P t).length)))), (0, .ref mo), (1, .int (nI t)), (2, .int (nI k)), (3, .int (nI a)), (4, .int (nI b))]) (pc' := 98) dX4_add_96 (by decide) rfl rfl ?_
                                refine z_aload_n X (pc' := 99) dX4_add_98 rfl 1 rfl rfl ?_
                                refine z_get X (v := .ref (ad 2)) (pc' := 102) 3 rfl rfl inX4 2 (by decide) mF_X4_13 rfl dX4_add_99 rfl ?_
                                refine z_iload X (pc' := 104) dX4_add_102 0 rfl rfl ?_
                                refine z_iload_n X (pc' := 105) dX4_add_104 rfl 3 rfl rfl ?_
                                refine z_iast X (ws' := [(ad 2, .inl (cI, 24, .inl (upd gn ((6 * t) + ((P t).length)) (nI k)))), (ad 3, .inl (cI, 24, .inl ga)), (ad 4, .inl (cI, 24, .inl gb)), (mo, .inr (4, [.int (nI 0), .ref (ad 1), .ref (ad 2), .ref (ad 3), .ref (ad 4), .int (nI st), .ref (ad 6), .ref (ad 7), .ref (ad 8), .ref (ad 9), .ref (ad 10), .ref (ad 11), .ref (ad 12), .ref (ad 13), .ref (ad 14), .ref (ad 15), .ref (ad 16), .ref (ad 17), .ref (ad 18), .int (nI tol), .int (nI ts), .int (nI tf), .int (nI td), .ref (ad 23), .ref (ad 24), .ref (ad 25), .ref (ad 26)])), (ad 1, .inl (cI, 4, .inl gm))]) (pc' := 106) 0 0 rfl rfl (by omega) (by omega) dX4_add_105 rfl rfl ?_
                                refine z_aload_n X (pc' := 107) dX4_add_106 rfl 1 rfl rfl ?_
                                refine z_get X (v := .ref (ad 3)) (pc' := 110) 3 rfl rfl inX4 3 (by decide) mF_X4_16 rfl dX4_add_107 rfl ?_
                                refine z_iload X (pc' := 112) dX4_add_110 0 rfl rfl ?_
                                refine z_iload_n X (pc' := 113) dX4_add_112 rfl 4 rfl rfl ?_
                                refine z_iast X (ws' := [(ad 2, .inl (cI, 24, .inl (upd gn ((6 * t) + ((P t).length)) (nI k)))), (ad 3, .inl (cI, 24, .inl (upd ga ((6 * t) + ((P t).length)) (nI a)))), (ad 4, .inl (cI, 24, .inl gb)), (mo, .inr (4, [.int (nI 0), .ref (ad 1), .ref (ad 2), .ref (ad 3), .ref (ad 4), .int (nI st), .ref (ad 6), .ref (ad 7), .ref (ad 8), .ref (ad 9), .ref (ad 10), .ref (ad 11), .ref (ad 12), .ref (ad 13), .ref (ad 14), .ref (ad 15), .ref (ad 16), .ref (ad 17), .ref (ad 18), .int (nI tol), .int (nI ts), .int (nI tf), .int (nI td), .ref (ad 23), .ref (ad 24), .ref (ad 25), .ref (ad 26)])), (ad 1, .inl (cI, 4, .inl gm))]) (pc' := 114) 1 0 rfl rfl (by omega) (by omega) dX4_add_113 rfl rfl ?_
                                refine z_aload_n X (pc' := 115) dX4_add_114 rfl 1 rfl rfl ?_
                                refine z_get X (v := .ref (ad 4)) (pc' := 118) 3 rfl rfl inX4 4 (by decide) mF_X4_19 rfl dX4_add_115 rfl ?_
                                refine z_iload X (pc' := 120) dX4_add_118 0 rfl rfl ?_
                                refine z_iload X (pc' := 122) dX4_add_120 5 rfl rfl ?_
                                refine z_iast X (ws' := [(ad 2, .inl (cI, 24, .inl (upd gn ((6 * t) + ((P t).length)) (nI k)))), (ad 3, .inl (cI, 24, .inl (upd ga ((6 * t) + ((P t).length)) (nI a)))), (ad 4, .inl (cI, 24, .inl (upd gb ((6 * t) + ((P t).length)) (nI b)))), (mo, .inr (4, [.int (nI 0), .ref (ad 1), .ref (ad 2), .ref (ad 3), .ref (ad 4), .int (nI st), .ref (ad 6), .ref (ad 7), .ref (ad 8), .ref (ad 9), .ref (ad 10), .ref (ad 11), .ref (ad 12), .ref (ad 13), .ref (ad 14), .ref (ad 15), .ref (ad 16), .ref (ad 17), .ref (ad 18), .int (nI tol), .int (nI ts), .int (nI tf), .int (nI td), .ref (ad 23), .ref (ad 24), .ref (ad 25), .ref (ad 26)])), (ad 1, .inl (cI, 4, .inl gm))]) (pc' := 123) 2 0 rfl rfl (by omega) (by omega) dX4_add_122 rfl rfl ?_
                                refine z_aload_n X (pc' := 124) dX4_add_123 rfl 1 rfl rfl ?_
                                refine z_get X (v := .ref (ad 1)) (pc' := 127) 3 rfl rfl inX4 1 (by decide) mF_X4_7 rfl dX4_add_124 rfl ?_
                                refine z_iload_n X (pc' := 128) dX4_add_127 rfl 2 rfl rfl ?_
                                refine z_dup2_11 X (pc' := 129) dX4_add_128 rfl rfl rfl ?_
                                refine z_iald X (pc' := 130) 4 0 rfl rfl (by omega) (by omega) dX4_add_129 rfl ?_
                                refine z_topi (y := nI ((P t).length)) (hQ t ht).1 ?_
                                refine z_iconst X (v := nI 1) (pc' := 131) dX4_add_130 (by decide) rfl ?_
                                refine z_iadd X (pc' := 132) dX4_add_131 rfl ?_
                                refine z_topi (y := nI (((P t).length) + 1)) (nI_add _ _) ?_
                                refine z_iast X (ws' := [(ad 2, .inl (cI, 24, .inl (upd gn ((6 * t) + ((P t).length)) (nI k)))), (ad 3, .inl (cI, 24, .inl (upd ga ((6 * t) + ((P t).length)) (nI a)))), (ad 4, .inl (cI, 24, .inl (upd gb ((6 * t) + ((P t).length)) (nI b)))), (mo, .inr (4, [.int (nI 0), .ref (ad 1), .ref (ad 2), .ref (ad 3), .ref (ad 4), .int (nI st), .ref (ad 6), .ref (ad 7), .ref (ad 8), .ref (ad 9), .ref (ad 10), .ref (ad 11), .ref (ad 12), .ref (ad 13), .ref (ad 14), .ref (ad 15), .ref (ad 16), .ref (ad 17), .ref (ad 18), .int (nI tol), .int (nI ts), .int (nI tf), .int (nI td), .ref (ad 23), .ref (ad 24), .ref (ad 25), .ref (ad 26)])), (ad 1, .inl (cI, 4, .inl (upd gm t (nI (((P t).length) + 1)))))]) (pc' := 133) 4 0 rfl rfl (by omega) (by omega) dX4_add_132 rfl rfl ?_
                                refine z_iconst X (v := nI 1) (pc' := 134) dX4_add_133 (by decide) rfl ?_
                                refine z_ws (ws' := [(mo, .inr (4, [.int (nI 0), .ref (ad 1), .ref (ad 2), .ref (ad 3), .ref (ad 4), .int (nI st), .ref (ad 6), .ref (ad 7), .ref (ad 8), .ref (ad 9), .ref (ad 10), .ref (ad 11), .ref (ad 12), .ref (ad 13), .ref (ad 14), .ref (ad 15), .ref (ad 16), .ref (ad 17), .ref (ad 18), .int (nI tol), .int (nI ts), .int (nI tf), .int (nI td), .ref (ad 23), .ref (ad 24), .ref (ad 25), .ref (ad 26)])), (ad 1, .inl (cI, 4, .inl (upd gm t (nI (((P t).length) + 1))))), (ad 2, .inl (cI, 24, .inl (upd gn ((6 * t) + ((P t).length)) (nI k)))), (ad 3, .inl (cI, 24, .inl (upd ga ((6 * t) + ((P t).length)) (nI a)))), (ad 4, .inl (cI, 24, .inl (upd gb ((6 * t) + ((P t).length)) (nI b))))]) [3, 4, 0, 1, 2] (by decide) rfl ?_
                                exact z_iret X (t1 := .boolean) rfl rfl (pAdd P t (16 * k + 4 * a + b), upd gm t (nI ((P t).length + 1)), upd gn (6 * t + (P t).length) (nI k), upd ga (6 * t + (P t).length) (nI a), upd gb (6 * t + (P t).length) (nI b)) (⟨Or.inl ⟨t, k, a, b, ⟨ht, rfl, ⟨hk7, ha, hb, fun _ => by omega, fun _ => by omega, rfl, rfl, rfl⟩, by omega, by omega⟩, rfl, rfl⟩, QRep_add hQ hP ht (by omega) hk7 ha hb⟩) rfl (Nat.le_of_ble_eq_true rfl) (Nat.le_of_ble_eq_true rfl) dX4_add_134
                              · have ha6 : a = 0 := h14
                                have hnA : ¬ ∃ t2 k2 a2 b2, canAdd P (nI t) (nI k) (nI a) (nI b) t2 k2 a2 b2 := fun ⟨t2, k2, a2, b2, q⟩ => by obtain ⟨e1, e2, e3, e4⟩ := hun t2 k2 a2 b2 q; subst e1; subst e2; subst e3; subst e4; obtain ⟨-, -, ⟨-, -, -, g1, g2, -⟩, g3, g4⟩ := q; omega
                                refine z_iconst X (v := nI 0) (pc' := 84) dX4_add_83 (by decide) rfl ?_
                                refine z_ws (ws' := [(mo, .inr (4, [.int (nI 0), .ref (ad 1), .ref (ad 2), .ref (ad 3), .ref (ad 4), .int (nI st), .ref (ad 6), .ref (ad 7), .ref (ad 8), .ref (ad 9), .ref (ad 10), .ref (ad 11), .ref (ad 12), .ref (ad 13), .ref (ad 14), .ref (ad 15), .ref (ad 16), .ref (ad 17), .ref (ad 18), .int (nI tol), .int (nI ts), .int (nI tf), .int (nI td), .ref (ad 23), .ref (ad 24), .ref (ad 25), .ref (ad 26)])), (ad 1, .inl (cI, 4, .inl gm)), (ad 2, .inl (cI, 24, .inl gn)), (ad 3, .inl (cI, 24, .inl ga)), (ad 4, .inl (cI, 24, .inl gb))]) [3, 4, 0, 1, 2] (by decide) rfl ?_
                                exact z_iret X (t1 := .boolean) rfl rfl (P, gm, gn, ga, gb) (⟨Or.inr ⟨hnA, rfl, rfl⟩, hQ⟩) rfl (Nat.le_of_ble_eq_true rfl) (Nat.le_of_ble_eq_true rfl) dX4_add_84
                    · have hl12 : pTot P = 12 := h7
                      have hnA : ¬ ∃ t2 k2 a2 b2, canAdd P (nI t) (nI k) (nI a) (nI b) t2 k2 a2 b2 := fun ⟨t2, k2, a2, b2, q⟩ => by obtain ⟨e1, e2, e3, e4⟩ := hun t2 k2 a2 b2 q; subst e1; subst e2; subst e3; subst e4; obtain ⟨-, -, ⟨-, -, -, g1, g2, -⟩, g3, g4⟩ := q; omega
                      refine z_iconst X (v := nI 0) (pc' := 58) dX4_add_57 (by decide) rfl ?_
                      refine z_ws (ws' := [(mo, .inr (4, [.int (nI 0), .ref (ad 1), .ref (ad 2), .ref (ad 3), .ref (ad 4), .int (nI st), .ref (ad 6), .ref (ad 7), .ref (ad 8), .ref (ad 9), .ref (ad 10), .ref (ad 11), .ref (ad 12), .ref (ad 13), .ref (ad 14), .ref (ad 15), .ref (ad 16), .ref (ad 17), .ref (ad 18), .int (nI tol), .int (nI ts), .int (nI tf), .int (nI td), .ref (ad 23), .ref (ad 24), .ref (ad 25), .ref (ad 26)])), (ad 1, .inl (cI, 4, .inl gm)), (ad 2, .inl (cI, 24, .inl gn)), (ad 3, .inl (cI, 24, .inl ga)), (ad 4, .inl (cI, 24, .inl gb))]) [3, 4, 0, 1, 2] (by decide) rfl ?_
                      exact z_iret X (t1 := .boolean) rfl rfl (P, gm, gn, ga, gb) (⟨Or.inr ⟨hnA, rfl, rfl⟩, hQ⟩) rfl (Nat.le_of_ble_eq_true rfl) (Nat.le_of_ble_eq_true rfl) dX4_add_58
              · subst hr
                have hnA : ¬ ∃ t2 k2 a2 b2, canAdd P (nI t) (nI k) (nI a) w t2 k2 a2 b2 := fun ⟨t2, k2, a2, b2, q⟩ => hno ⟨b2, q.2.2.1.2.2.1, q.2.2.1.2.2.2.2.2.2.2⟩
                refine z_if_eqN X (tgt := 57) (pc' := 37) (by omega) dX4_add_34 (by decide) rfl (fun h15 => ?_) (fun h15 => ?_)
                · clear h15
                  refine z_iconst X (v := nI 0) (pc' := 58) dX4_add_57 (by decide) rfl ?_
                  refine z_ws (ws' := [(mo, .inr (4, [.int (nI 0), .ref (ad 1), .ref (ad 2), .ref (ad 3), .ref (ad 4), .int (nI st), .ref (ad 6), .ref (ad 7), .ref (ad 8), .ref (ad 9), .ref (ad 10), .ref (ad 11), .ref (ad 12), .ref (ad 13), .ref (ad 14), .ref (ad 15), .ref (ad 16), .ref (ad 17), .ref (ad 18), .int (nI tol), .int (nI ts), .int (nI tf), .int (nI td), .ref (ad 23), .ref (ad 24), .ref (ad 25), .ref (ad 26)])), (ad 1, .inl (cI, 4, .inl gm)), (ad 2, .inl (cI, 24, .inl gn)), (ad 3, .inl (cI, 24, .inl ga)), (ad 4, .inl (cI, 24, .inl gb))]) [0, 1, 2, 3, 4] (by decide) rfl ?_
                  exact z_iret X (t1 := .boolean) rfl rfl (P, gm, gn, ga, gb) (⟨Or.inr ⟨hnA, rfl, rfl⟩, hQ⟩) rfl (Nat.le_of_ble_eq_true rfl) (Nat.le_of_ble_eq_true rfl) dX4_add_58
                · exact absurd h15 (by decide)
          · subst hr
            have hnA : ¬ ∃ t2 k2 a2 b2, canAdd P (nI t) (nI k) z w t2 k2 a2 b2 := fun ⟨t2, k2, a2, b2, q⟩ => hno ⟨a2, q.2.2.1.2.1, q.2.2.1.2.2.2.2.2.2.1⟩
            refine z_if_eqN X (tgt := 57) (pc' := 29) (by omega) dX4_add_26 (by decide) rfl (fun h16 => ?_) (fun h16 => ?_)
            · clear h16
              refine z_iconst X (v := nI 0) (pc' := 58) dX4_add_57 (by decide) rfl ?_
              refine z_ws (ws' := [(mo, .inr (4, [.int (nI 0), .ref (ad 1), .ref (ad 2), .ref (ad 3), .ref (ad 4), .int (nI st), .ref (ad 6), .ref (ad 7), .ref (ad 8), .ref (ad 9), .ref (ad 10), .ref (ad 11), .ref (ad 12), .ref (ad 13), .ref (ad 14), .ref (ad 15), .ref (ad 16), .ref (ad 17), .ref (ad 18), .int (nI tol), .int (nI ts), .int (nI tf), .int (nI td), .ref (ad 23), .ref (ad 24), .ref (ad 25), .ref (ad 26)])), (ad 1, .inl (cI, 4, .inl gm)), (ad 2, .inl (cI, 24, .inl gn)), (ad 3, .inl (cI, 24, .inl ga)), (ad 4, .inl (cI, 24, .inl gb))]) [0, 1, 2, 3, 4] (by decide) rfl ?_
              exact z_iret X (t1 := .boolean) rfl rfl (P, gm, gn, ga, gb) (⟨Or.inr ⟨hnA, rfl, rfl⟩, hQ⟩) rfl (Nat.le_of_ble_eq_true rfl) (Nat.le_of_ble_eq_true rfl) dX4_add_58
            · exact absurd h16 (by decide)
  · subst hr
    have hnA : ¬ ∃ t2 k2 a2 b2, canAdd P x y z w t2 k2 a2 b2 := fun ⟨t2, k2, a2, b2, q⟩ => hno ⟨t2, q.1, q.2.1⟩
    refine z_if_eqN X (tgt := 57) (pc' := 12) (by omega) dX4_add_9 (by decide) rfl (fun h17 => ?_) (fun h17 => ?_)
    · clear h17
      refine z_iconst X (v := nI 0) (pc' := 58) dX4_add_57 (by decide) rfl ?_
      refine z_ws (ws' := [(mo, .inr (4, [.int (nI 0), .ref (ad 1), .ref (ad 2), .ref (ad 3), .ref (ad 4), .int (nI st), .ref (ad 6), .ref (ad 7), .ref (ad 8), .ref (ad 9), .ref (ad 10), .ref (ad 11), .ref (ad 12), .ref (ad 13), .ref (ad 14), .ref (ad 15), .ref (ad 16), .ref (ad 17), .ref (ad 18), .int (nI tol), .int (nI ts), .int (nI tf), .int (nI td), .ref (ad 23), .ref (ad 24), .ref (ad 25), .ref (ad 26)])), (ad 1, .inl (cI, 4, .inl gm)), (ad 2, .inl (cI, 24, .inl gn)), (ad 3, .inl (cI, 24, .inl ga)), (ad 4, .inl (cI, 24, .inl gb))]) [0, 1, 2, 3, 4] (by decide) rfl ?_
      exact z_iret X (t1 := .boolean) rfl rfl (P, gm, gn, ga, gb) (⟨Or.inr ⟨hnA, rfl, rfl⟩, hQ⟩) rfl (Nat.le_of_ble_eq_true rfl) (Nat.le_of_ble_eq_true rfl) dX4_add_58
    · exact absurd h17 (by decide)
set_option maxHeartbeats 4000000 in
set_option maxRecDepth 100000 in
/-- clear -/
theorem r_clear (l : Launch) (D : va_G) (cI cJ : ClassId) (sz : Nat) (mo th st tol ts tf td : Nat) (ad : Nat → Nat) (gm gn ga gb : Nat → Int32) (P : Nat → List Nat) (x : Int32) (hQ : QRep P gm gn ga gb) : KI l D cI cJ yX4_clear cX4_clear 3 (some .int) 1 20 0 0 [.ref mo, .int x] [(mo, .inr (4, [.int (nI th), .ref (ad 1), .ref (ad 2), .ref (ad 3), .ref (ad 4), .int (nI st), .ref (ad 6), .ref (ad 7), .ref (ad 8), .ref (ad 9), .ref (ad 10), .ref (ad 11), .ref (ad 12), .ref (ad 13), .ref (ad 14), .ref (ad 15), .ref (ad 16), .ref (ad 17), .ref (ad 18), .int (nI tol), .int (nI ts), .int (nI tf), .int (nI td), .ref (ad 23), .ref (ad 24), .ref (ad 25), .ref (ad 26)])), (ad 1, .inl (cI, 4, .inl gm)), (ad 2, .inl (cI, 24, .inl gn)), (ad 3, .inl (cI, 24, .inl ga)), (ad 4, .inl (cI, 24, .inl gb))] sz (S := (Nat → List Nat) × (Nat → Int32) × (Nat → Int32) × (Nat → Int32) × (Nat → Int32)) (fun r u => clearQ P x r u.1 ∧ QRep u.1 u.2.1 u.2.2.1 u.2.2.2.1 u.2.2.2.2) (fun u => [(mo, .inr (4, [.int (nI 0), .ref (ad 1), .ref (ad 2), .ref (ad 3), .ref (ad 4), .int (nI st), .ref (ad 6), .ref (ad 7), .ref (ad 8), .ref (ad 9), .ref (ad 10), .ref (ad 11), .ref (ad 12), .ref (ad 13), .ref (ad 14), .ref (ad 15), .ref (ad 16), .ref (ad 17), .ref (ad 18), .int (nI tol), .int (nI ts), .int (nI tf), .int (nI td), .ref (ad 23), .ref (ad 24), .ref (ad 25), .ref (ad 26)])), (ad 1, .inl (cI, 4, .inl u.2.1)), (ad 2, .inl (cI, 24, .inl u.2.2.1)), (ad 3, .inl (cI, 24, .inl u.2.2.2.1)), (ad 4, .inl (cI, 24, .inl u.2.2.2.2))]) := by
  refine zMetI (lv := [(0, .ref mo), (1, .int x)]) NS0_ok (by decide) rfl (Nat.le_of_ble_eq_true rfl) rfl ?_
  intro p e s m args below meth c A X hin hA
  refine z_aload_n X (pc' := 1) dX4_clear_0 rfl 0 rfl rfl ?_
  refine z_iconst X (v := nI 0) (pc' := 2) dX4_clear_1 (by decide) rfl ?_
  refine z_put X (t1 := .int) (ws' := [(mo, .inr (4, [.int (nI 0), .ref (ad 1), .ref (ad 2), .ref (ad 3), .ref (ad 4), .int (nI st), .ref (ad 6), .ref (ad 7), .ref (ad 8), .ref (ad 9), .ref (ad 10), .ref (ad 11), .ref (ad 12), .ref (ad 13), .ref (ad 14), .ref (ad 15), .ref (ad 16), .ref (ad 17), .ref (ad 18), .int (nI tol), .int (nI ts), .int (nI tf), .int (nI td), .ref (ad 23), .ref (ad 24), .ref (ad 25), .ref (ad 26)])), (ad 1, .inl (cI, 4, .inl gm)), (ad 2, .inl (cI, 24, .inl gn)), (ad 3, .inl (cI, 24, .inl ga)), (ad 4, .inl (cI, 24, .inl gb))]) (pc' := 5) 0 rfl rfl inX4 tyX4 tyX4_ok nmX4 0 (by decide) mF_X4_74 rfl (by decide +kernel) rfl rfl (Nat.le_of_ble_eq_true rfl) dX4_clear_2 rfl rfl ?_
  refine z_iload_n X (pc' := 6) dX4_clear_5 rfl 1 rfl rfl ?_
  refine z_callSi X (pc' := 9) (fun sz => r_isSmall l D cI cJ sz x) (zcwS X TTg 1 mL_X4_78 mT_X4_isSmall mN_X4 mK_X4_isSmall rfl rfl (by decide +kernel) ⟨(Nat.le_of_ble_eq_true rfl), (Nat.le_of_ble_eq_true rfl)⟩) (wr := [(mo, .inr (4, [.int (nI 0), .ref (ad 1), .ref (ad 2), .ref (ad 3), .ref (ad 4), .int (nI st), .ref (ad 6), .ref (ad 7), .ref (ad 8), .ref (ad 9), .ref (ad 10), .ref (ad 11), .ref (ad 12), .ref (ad 13), .ref (ad 14), .ref (ad 15), .ref (ad 16), .ref (ad 17), .ref (ad 18), .int (nI tol), .int (nI ts), .int (nI tf), .int (nI td), .ref (ad 23), .ref (ad 24), .ref (ad 25), .ref (ad 26)])), (ad 1, .inl (cI, 4, .inl gm)), (ad 2, .inl (cI, 24, .inl gn)), (ad 3, .inl (cI, 24, .inl ga)), (ad 4, .inl (cI, 24, .inl gb))]) [] [0, 1, 2, 3, 4] rfl rfl rfl rfl (by decide) rfl rfl (Nat.le_of_ble_eq_true rfl) dX4_clear_6 ⟨Nat.le_of_ble_eq_true rfl, Nat.le_of_ble_eq_true rfl⟩ rfl (fun r u hu => ?_)
  refine z_wse (ws' := [(mo, .inr (4, [.int (nI 0), .ref (ad 1), .ref (ad 2), .ref (ad 3), .ref (ad 4), .int (nI st), .ref (ad 6), .ref (ad 7), .ref (ad 8), .ref (ad 9), .ref (ad 10), .ref (ad 11), .ref (ad 12), .ref (ad 13), .ref (ad 14), .ref (ad 15), .ref (ad 16), .ref (ad 17), .ref (ad 18), .int (nI tol), .int (nI ts), .int (nI tf), .int (nI td), .ref (ad 23), .ref (ad 24), .ref (ad 25), .ref (ad 26)])), (ad 1, .inl (cI, 4, .inl gm)), (ad 2, .inl (cI, 24, .inl gn)), (ad 3, .inl (cI, 24, .inl ga)), (ad 4, .inl (cI, 24, .inl gb))]) rfl ?_
  rcases hu with ⟨hr, t, ht, hxt⟩ | ⟨hr, hno⟩
  · subst hr
    subst hxt
    refine z_if_neN X (tgt := 14) (pc' := 12) (by omega) dX4_clear_9 (by decide) rfl (fun h1 => ?_) (fun h1 => ?_)
    · clear h1
      refine z_aload_n X (pc' := 15) dX4_clear_14 rfl 0 rfl rfl ?_
      refine z_get X (v := .ref (ad 1)) (pc' := 18) 0 rfl rfl inX4 1 (by decide) mF_X4_7 rfl dX4_clear_15 rfl ?_
      refine z_iload_n X (pc' := 19) dX4_clear_18 rfl 1 rfl rfl ?_
      refine z_iald X (pc' := 20) 1 0 rfl rfl (by omega) (by omega) dX4_clear_19 rfl ?_
      refine z_topi (y := nI ((P t).length)) (hQ t ht).1 ?_
      refine z_istore_n X (lv' := [(2, .int (nI ((P t).length))), (0, .ref mo), (1, .int (nI t))]) (pc' := 21) dX4_clear_20 rfl (by decide) rfl rfl ?_
      refine z_aload_n X (pc' := 22) dX4_clear_21 rfl 1 rfl rfl ?_
      refine z_get X (v := .ref (ad 1)) (pc' := 25) 0 rfl rfl inX4 1 (by decide) mF_X4_7 rfl dX4_clear_22 rfl ?_
      refine z_iload_n X (pc' := 26) dX4_clear_25 rfl 2 rfl rfl ?_
      refine z_iconst X (v := nI 0) (pc' := 27) dX4_clear_26 (by decide) rfl ?_
      refine z_iast X (ws' := [(mo, .inr (4, [.int (nI 0), .ref (ad 1), .ref (ad 2), .ref (ad 3), .ref (ad 4), .int (nI st), .ref (ad 6), .ref (ad 7), .ref (ad 8), .ref (ad 9), .ref (ad 10), .ref (ad 11), .ref (ad 12), .ref (ad 13), .ref (ad 14), .ref (ad 15), .ref (ad 16), .ref (ad 17), .ref (ad 18), .int (nI tol), .int (nI ts), .int (nI tf), .int (nI td), .ref (ad 23), .ref (ad 24), .ref (ad 25), .ref (ad 26)])), (ad 1, .inl (cI, 4, .inl (upd gm t (nI 0)))), (ad 2, .inl (cI, 24, .inl gn)), (ad 3, .inl (cI, 24, .inl ga)), (ad 4, .inl (cI, 24, .inl gb))]) (pc' := 28) 1 0 rfl rfl (by omega) (by omega) dX4_clear_27 rfl rfl ?_
      refine z_iload_n X (pc' := 29) dX4_clear_28 rfl 0 rfl rfl ?_
      refine z_ws (ws' := [(mo, .inr (4, [.int (nI 0), .ref (ad 1), .ref (ad 2), .ref (ad 3), .ref (ad 4), .int (nI st), .ref (ad 6), .ref (ad 7), .ref (ad 8), .ref (ad 9), .ref (ad 10), .ref (ad 11), .ref (ad 12), .ref (ad 13), .ref (ad 14), .ref (ad 15), .ref (ad 16), .ref (ad 17), .ref (ad 18), .int (nI tol), .int (nI ts), .int (nI tf), .int (nI td), .ref (ad 23), .ref (ad 24), .ref (ad 25), .ref (ad 26)])), (ad 1, .inl (cI, 4, .inl (upd gm t (nI 0)))), (ad 2, .inl (cI, 24, .inl gn)), (ad 3, .inl (cI, 24, .inl ga)), (ad 4, .inl (cI, 24, .inl gb))]) [0, 1, 2, 3, 4] (by decide) rfl ?_
      exact z_iret X (t1 := .int) rfl rfl (pDel P t, upd gm t (nI 0), gn, ga, gb) (⟨Or.inl ⟨t, ht, rfl, rfl, rfl⟩, QRep_del hQ⟩) rfl (Nat.le_of_ble_eq_true rfl) (Nat.le_of_ble_eq_true rfl) dX4_clear_29
    · exact absurd h1 (by decide)
  · subst hr
    skip
    refine z_if_neN X (tgt := 14) (pc' := 12) (by omega) dX4_clear_9 (by decide) rfl (fun h2 => ?_) (fun h2 => ?_)
    · exact absurd h2 (by decide)
    · clear h2
      refine z_iconst X (v := (-1)) (pc' := 13) dX4_clear_12 (by decide) rfl ?_
      refine z_ws (ws' := [(mo, .inr (4, [.int (nI 0), .ref (ad 1), .ref (ad 2), .ref (ad 3), .ref (ad 4), .int (nI st), .ref (ad 6), .ref (ad 7), .ref (ad 8), .ref (ad 9), .ref (ad 10), .ref (ad 11), .ref (ad 12), .ref (ad 13), .ref (ad 14), .ref (ad 15), .ref (ad 16), .ref (ad 17), .ref (ad 18), .int (nI tol), .int (nI ts), .int (nI tf), .int (nI td), .ref (ad 23), .ref (ad 24), .ref (ad 25), .ref (ad 26)])), (ad 1, .inl (cI, 4, .inl gm)), (ad 2, .inl (cI, 24, .inl gn)), (ad 3, .inl (cI, 24, .inl ga)), (ad 4, .inl (cI, 24, .inl gb))]) [0, 1, 2, 3, 4] (by decide) rfl ?_
      exact z_iret X (t1 := .int) rfl rfl (P, gm, gn, ga, gb) (⟨Or.inr ⟨hno, rfl, rfl⟩, hQ⟩) rfl (Nat.le_of_ble_eq_true rfl) (Nat.le_of_ble_eq_true rfl) dX4_clear_13
set_option maxHeartbeats 4000000 in
set_option maxRecDepth 100000 in
/-- count -/
theorem r_count (l : Launch) (D : va_G) (cI cJ : ClassId) (sz : Nat) (mo th st tol ts tf td : Nat) (ad : Nat → Nat) (gm gn ga gb : Nat → Int32) (fo : Nat → Int64) (fn : Nat → Int32) (fy fz : Nat → Int64) (P : Nat → List Nat) (x : Int32) (hQ : QRep P gm gn ga gb) (R : BG) (T : Nat → Nat) (hg : gR R) (hR : refI R T tol ts tf td fo fn fy fz) : KI l D cI cJ yX4_count cX4_count 2 (some .int) 1 20 0 0 [.ref mo, .int x] [(mo, .inr (4, [.int (nI th), .ref (ad 1), .ref (ad 2), .ref (ad 3), .ref (ad 4), .int (nI st), .ref (ad 6), .ref (ad 7), .ref (ad 8), .ref (ad 9), .ref (ad 10), .ref (ad 11), .ref (ad 12), .ref (ad 13), .ref (ad 14), .ref (ad 15), .ref (ad 16), .ref (ad 17), .ref (ad 18), .int (nI tol), .int (nI ts), .int (nI tf), .int (nI td), .ref (ad 23), .ref (ad 24), .ref (ad 25), .ref (ad 26)])), (ad 1, .inl (cI, 4, .inl gm))] sz (S := Unit) (fun r _ => cntQ R (pTot P) x r) (fun _ => [(mo, .inr (4, [.int (nI 0), .ref (ad 1), .ref (ad 2), .ref (ad 3), .ref (ad 4), .int (nI st), .ref (ad 6), .ref (ad 7), .ref (ad 8), .ref (ad 9), .ref (ad 10), .ref (ad 11), .ref (ad 12), .ref (ad 13), .ref (ad 14), .ref (ad 15), .ref (ad 16), .ref (ad 17), .ref (ad 18), .int (nI tol), .int (nI ts), .int (nI tf), .int (nI td), .ref (ad 23), .ref (ad 24), .ref (ad 25), .ref (ad 26)])), (ad 1, .inl (cI, 4, .inl gm))]) := by
  refine zMetI (lv := [(0, .ref mo), (1, .int x)]) NS0_ok (by decide) rfl (Nat.le_of_ble_eq_true rfl) rfl ?_
  intro p e s m args below meth c A X hin hA
  refine z_aload_n X (pc' := 1) dX4_count_0 rfl 0 rfl rfl ?_
  refine z_iconst X (v := nI 0) (pc' := 2) dX4_count_1 (by decide) rfl ?_
  refine z_put X (t1 := .int) (ws' := [(mo, .inr (4, [.int (nI 0), .ref (ad 1), .ref (ad 2), .ref (ad 3), .ref (ad 4), .int (nI st), .ref (ad 6), .ref (ad 7), .ref (ad 8), .ref (ad 9), .ref (ad 10), .ref (ad 11), .ref (ad 12), .ref (ad 13), .ref (ad 14), .ref (ad 15), .ref (ad 16), .ref (ad 17), .ref (ad 18), .int (nI tol), .int (nI ts), .int (nI tf), .int (nI td), .ref (ad 23), .ref (ad 24), .ref (ad 25), .ref (ad 26)])), (ad 1, .inl (cI, 4, .inl gm))]) (pc' := 5) 0 rfl rfl inX4 tyX4 tyX4_ok nmX4 0 (by decide) mF_X4_74 rfl (by decide +kernel) rfl rfl (Nat.le_of_ble_eq_true rfl) dX4_count_2 rfl rfl ?_
  refine z_iload_n X (pc' := 6) dX4_count_5 rfl 1 rfl rfl ?_
  rcases i_sw4 x with hx | hx | hx | hx | hx | hout
  · subst hx
    refine z_tableIn X (tgt := 40) dX4_count_6 (by decide) (by decide) rfl (by decide) ?_
    refine z_aload_n X (pc' := 41) dX4_count_40 rfl 0 rfl rfl ?_
    refine z_callVi X (pc' := 44) (fun sz => r_all l D cI cJ sz mo 0 st tol ts tf td ad gm gn ga gb P hQ) (zcwV X TTg 0 mL_X4_82 mI_X4_all mS_X4_all mN_X4 mK_X4_all rfl rfl (by decide +kernel) ⟨(Nat.le_of_ble_eq_true rfl), (Nat.le_of_ble_eq_true rfl)⟩) (wr := []) [0, 1] [] rfl rfl rfl rfl (by decide) 4 0 rfl rfl rfl rfl rfl (Nat.le_of_ble_eq_true rfl) dX4_count_41 ⟨Nat.le_of_ble_eq_true rfl, Nat.le_of_ble_eq_true rfl⟩ rfl (fun r u hu => ?_)
    have hu : r = nI (pTot P) := hu
    subst hu
    refine z_wse (ws' := [(mo, .inr (4, [.int (nI 0), .ref (ad 1), .ref (ad 2), .ref (ad 3), .ref (ad 4), .int (nI st), .ref (ad 6), .ref (ad 7), .ref (ad 8), .ref (ad 9), .ref (ad 10), .ref (ad 11), .ref (ad 12), .ref (ad 13), .ref (ad 14), .ref (ad 15), .ref (ad 16), .ref (ad 17), .ref (ad 18), .int (nI tol), .int (nI ts), .int (nI tf), .int (nI td), .ref (ad 23), .ref (ad 24), .ref (ad 25), .ref (ad 26)])), (ad 1, .inl (cI, 4, .inl gm))]) rfl ?_
    refine z_ws (ws' := [(mo, .inr (4, [.int (nI 0), .ref (ad 1), .ref (ad 2), .ref (ad 3), .ref (ad 4), .int (nI st), .ref (ad 6), .ref (ad 7), .ref (ad 8), .ref (ad 9), .ref (ad 10), .ref (ad 11), .ref (ad 12), .ref (ad 13), .ref (ad 14), .ref (ad 15), .ref (ad 16), .ref (ad 17), .ref (ad 18), .int (nI tol), .int (nI ts), .int (nI tf), .int (nI td), .ref (ad 23), .ref (ad 24), .ref (ad 25), .ref (ad 26)])), (ad 1, .inl (cI, 4, .inl gm))]) [0, 1] (by decide) rfl ?_
    exact z_iret X (t1 := .int) rfl rfl () (Or.inl ⟨rfl, rfl⟩) rfl (Nat.le_of_ble_eq_true rfl) (Nat.le_of_ble_eq_true rfl) dX4_count_44
  · subst hx
    refine z_tableIn X (tgt := 45) dX4_count_6 (by decide) (by decide) rfl (by decide) ?_
    refine z_aload_n X (pc' := 46) dX4_count_45 rfl 0 rfl rfl ?_
    refine z_get X (v := .int (nI ts)) (pc' := 49) 0 rfl rfl inX4 20 (by decide) mF_X4_141 rfl dX4_count_46 rfl ?_
    refine z_ws (ws' := [(mo, .inr (4, [.int (nI 0), .ref (ad 1), .ref (ad 2), .ref (ad 3), .ref (ad 4), .int (nI st), .ref (ad 6), .ref (ad 7), .ref (ad 8), .ref (ad 9), .ref (ad 10), .ref (ad 11), .ref (ad 12), .ref (ad 13), .ref (ad 14), .ref (ad 15), .ref (ad 16), .ref (ad 17), .ref (ad 18), .int (nI tol), .int (nI ts), .int (nI tf), .int (nI td), .ref (ad 23), .ref (ad 24), .ref (ad 25), .ref (ad 26)])), (ad 1, .inl (cI, 4, .inl gm))]) [0, 1] (by decide) rfl ?_
    exact z_iret X (t1 := .int) rfl rfl () (Or.inr (Or.inl ⟨rfl, by rw [hR.2.1]⟩)) rfl (Nat.le_of_ble_eq_true rfl) (Nat.le_of_ble_eq_true rfl) dX4_count_49
  · subst hx
    refine z_tableIn X (tgt := 50) dX4_count_6 (by decide) (by decide) rfl (by decide) ?_
    refine z_aload_n X (pc' := 51) dX4_count_50 rfl 0 rfl rfl ?_
    refine z_get X (v := .int (nI tol)) (pc' := 54) 0 rfl rfl inX4 19 (by decide) mF_X4_150 rfl dX4_count_51 rfl ?_
    refine z_ws (ws' := [(mo, .inr (4, [.int (nI 0), .ref (ad 1), .ref (ad 2), .ref (ad 3), .ref (ad 4), .int (nI st), .ref (ad 6), .ref (ad 7), .ref (ad 8), .ref (ad 9), .ref (ad 10), .ref (ad 11), .ref (ad 12), .ref (ad 13), .ref (ad 14), .ref (ad 15), .ref (ad 16), .ref (ad 17), .ref (ad 18), .int (nI tol), .int (nI ts), .int (nI tf), .int (nI td), .ref (ad 23), .ref (ad 24), .ref (ad 25), .ref (ad 26)])), (ad 1, .inl (cI, 4, .inl gm))]) [0, 1] (by decide) rfl ?_
    exact z_iret X (t1 := .int) rfl rfl () (Or.inr (Or.inr (Or.inl ⟨rfl, by rw [hR.1]⟩))) rfl (Nat.le_of_ble_eq_true rfl) (Nat.le_of_ble_eq_true rfl) dX4_count_54
  · subst hx
    refine z_tableIn X (tgt := 55) dX4_count_6 (by decide) (by decide) rfl (by decide) ?_
    refine z_aload_n X (pc' := 56) dX4_count_55 rfl 0 rfl rfl ?_
    refine z_get X (v := .int (nI tf)) (pc' := 59) 0 rfl rfl inX4 21 (by decide) mF_X4_144 rfl dX4_count_56 rfl ?_
    refine z_ws (ws' := [(mo, .inr (4, [.int (nI 0), .ref (ad 1), .ref (ad 2), .ref (ad 3), .ref (ad 4), .int (nI st), .ref (ad 6), .ref (ad 7), .ref (ad 8), .ref (ad 9), .ref (ad 10), .ref (ad 11), .ref (ad 12), .ref (ad 13), .ref (ad 14), .ref (ad 15), .ref (ad 16), .ref (ad 17), .ref (ad 18), .int (nI tol), .int (nI ts), .int (nI tf), .int (nI td), .ref (ad 23), .ref (ad 24), .ref (ad 25), .ref (ad 26)])), (ad 1, .inl (cI, 4, .inl gm))]) [0, 1] (by decide) rfl ?_
    exact z_iret X (t1 := .int) rfl rfl () (Or.inr (Or.inr (Or.inr (Or.inl ⟨rfl, by rw [hR.2.2.1]⟩)))) rfl (Nat.le_of_ble_eq_true rfl) (Nat.le_of_ble_eq_true rfl) dX4_count_59
  · subst hx
    refine z_tableIn X (tgt := 60) dX4_count_6 (by decide) (by decide) rfl (by decide) ?_
    refine z_aload_n X (pc' := 61) dX4_count_60 rfl 0 rfl rfl ?_
    refine z_get X (v := .int (nI td)) (pc' := 64) 0 rfl rfl inX4 22 (by decide) mF_X4_147 rfl dX4_count_61 rfl ?_
    refine z_ws (ws' := [(mo, .inr (4, [.int (nI 0), .ref (ad 1), .ref (ad 2), .ref (ad 3), .ref (ad 4), .int (nI st), .ref (ad 6), .ref (ad 7), .ref (ad 8), .ref (ad 9), .ref (ad 10), .ref (ad 11), .ref (ad 12), .ref (ad 13), .ref (ad 14), .ref (ad 15), .ref (ad 16), .ref (ad 17), .ref (ad 18), .int (nI tol), .int (nI ts), .int (nI tf), .int (nI td), .ref (ad 23), .ref (ad 24), .ref (ad 25), .ref (ad 26)])), (ad 1, .inl (cI, 4, .inl gm))]) [0, 1] (by decide) rfl ?_
    exact z_iret X (t1 := .int) rfl rfl () (Or.inr (Or.inr (Or.inr (Or.inr (Or.inl ⟨rfl, by rw [hR.2.2.2.1]; congr 1; split; rfl; (rename_i h0; exact (gR_dep hg (by omega)).symm)⟩))))) rfl (Nat.le_of_ble_eq_true rfl) (Nat.le_of_ble_eq_true rfl) dX4_count_64
  · have hno : ¬ ∃ j, j ≤ 4 ∧ x = nI j := fun ⟨j, q1, q2⟩ => by rw [q2, nI_toInt (by omega)] at hout; omega
    refine z_tableOut X (tgt := 65) dX4_count_6 hout (by decide) ?_
    refine z_iconst X (v := (-1)) (pc' := 66) dX4_count_65 (by decide) rfl ?_
    refine z_ws (ws' := [(mo, .inr (4, [.int (nI 0), .ref (ad 1), .ref (ad 2), .ref (ad 3), .ref (ad 4), .int (nI st), .ref (ad 6), .ref (ad 7), .ref (ad 8), .ref (ad 9), .ref (ad 10), .ref (ad 11), .ref (ad 12), .ref (ad 13), .ref (ad 14), .ref (ad 15), .ref (ad 16), .ref (ad 17), .ref (ad 18), .int (nI tol), .int (nI ts), .int (nI tf), .int (nI td), .ref (ad 23), .ref (ad 24), .ref (ad 25), .ref (ad 26)])), (ad 1, .inl (cI, 4, .inl gm))]) [0, 1] (by decide) rfl ?_
    exact z_iret X (t1 := .int) rfl rfl () (Or.inr (Or.inr (Or.inr (Or.inr (Or.inr ⟨hno, rfl⟩))))) rfl (Nat.le_of_ble_eq_true rfl) (Nat.le_of_ble_eq_true rfl) dX4_count_66
set_option maxHeartbeats 4000000 in
set_option maxRecDepth 100000 in
/-- an item of an outcome -/
theorem r_part (l : Launch) (D : va_G) (cI cJ : ClassId) (sz : Nat) (mo th st tol ts tf td : Nat) (ad : Nat → Nat) (k w h : Nat) (fo : Nat → Int64) (hk : k < 20000) (hw : w < 20) (hh : h < 4 ^ 20) (hf : fo k = lN h) : KI l D cI cJ yX4_part cX4_part 3 (some .int) 0 0 0 0 [.ref mo, .int (nI k), .int (nI w)] [(mo, .inr (4, [.int (nI th), .ref (ad 1), .ref (ad 2), .ref (ad 3), .ref (ad 4), .int (nI st), .ref (ad 6), .ref (ad 7), .ref (ad 8), .ref (ad 9), .ref (ad 10), .ref (ad 11), .ref (ad 12), .ref (ad 13), .ref (ad 14), .ref (ad 15), .ref (ad 16), .ref (ad 17), .ref (ad 18), .int (nI tol), .int (nI ts), .int (nI tf), .int (nI td), .ref (ad 23), .ref (ad 24), .ref (ad 25), .ref (ad 26)])), (ad 23, .inl (cJ, 20000, .inr (.inl fo)))] sz (S := Unit) (fun r _ => r = nI (mi h w)) (fun _ => [(mo, .inr (4, [.int (nI th), .ref (ad 1), .ref (ad 2), .ref (ad 3), .ref (ad 4), .int (nI st), .ref (ad 6), .ref (ad 7), .ref (ad 8), .ref (ad 9), .ref (ad 10), .ref (ad 11), .ref (ad 12), .ref (ad 13), .ref (ad 14), .ref (ad 15), .ref (ad 16), .ref (ad 17), .ref (ad 18), .int (nI tol), .int (nI ts), .int (nI tf), .int (nI td), .ref (ad 23), .ref (ad 24), .ref (ad 25), .ref (ad 26)])), (ad 23, .inl (cJ, 20000, .inr (.inl fo)))]) := by
  refine zMetI (lv := [(0, .ref mo), (1, .int (nI k)), (2, .int (nI w))]) NS0_ok (by decide) rfl (Nat.le_of_ble_eq_true rfl) rfl ?_
  intro p e s m args below meth c A X hin hA
  refine z_aload_n X (pc' := 1) dX4_part_0 rfl 0 rfl rfl ?_
  refine z_get X (v := .ref (ad 23)) (pc' := 4) 0 rfl rfl inX4 23 (by decide) mF_X4_62 rfl dX4_part_1 rfl ?_
  refine z_iload_n X (pc' := 5) dX4_part_4 rfl 1 rfl rfl ?_
  refine z_lald X (pc' := 6) 1 1 rfl rfl (by omega) (by omega) dX4_part_5 rfl ?_
  refine z_topl (y := lN h) hf ?_
  refine z_iconst X (v := nI 2) (pc' := 7) dX4_part_6 (by decide) rfl ?_
  refine z_bipush X (v := nI 19) (pc' := 9) dX4_part_7 (by decide) rfl ?_
  refine z_iload_n X (pc' := 10) dX4_part_9 rfl 2 rfl rfl ?_
  refine z_isub X (pc' := 11) dX4_part_10 rfl ?_
  refine z_topi (y := nI (19 - w)) (pk_sub (by omega)) ?_
  refine z_imul X (pc' := 12) dX4_part_11 rfl ?_
  refine z_topi (y := nI (2 * (19 - w))) (pk_mul _ _) ?_
  refine z_lshr X (pc' := 13) dX4_part_12 rfl rfl ?_
  refine z_topl (y := lN (h / 2 ^ (2 * (19 - w)))) (ll_sar (Nat.lt_trans hh (by decide)) (by omega)) ?_
  refine z_ldc2 X (v := lN 3) (pc' := 16) mJ_X4_86 dX4_part_13 rfl ?_
  refine z_land X (pc' := 17) dX4_part_16 rfl ?_
  refine z_l2i X (pc' := 18) dX4_part_17 rfl rfl ?_
  refine z_topi (y := nI (mi h w)) (ll_dl 2 (by decide) (by unfold mi dg; rw [nb_p4])) ?_
  exact z_iret X (t1 := .int) rfl rfl () (rfl) rfl (Nat.le_of_ble_eq_true rfl) (Nat.le_of_ble_eq_true rfl) dX4_part_18
theorem ends_len {R : BG} (h : gR R) : R.2.1.length ≤ R.1.1.length := pg_hole R.1.1.length R.2.1.length (fun k => R.2.1.getD k 0) h.2.2.1 h.2.2.2.1
set_option maxHeartbeats 4000000 in
set_option maxRecDepth 100000 in
/-- outcome -/
theorem r_outcome (l : Launch) (D : va_G) (cI cJ : ClassId) (sz : Nat) (mo th st tol ts tf td : Nat) (ad : Nat → Nat) (fo : Nat → Int64) (fn : Nat → Int32) (fy fz : Nat → Int64) (R : BG) (T : Nat → Nat) (x y : Int32) (hg : gR R) (hR : refI R T tol ts tf td fo fn fy fz) : KI l D cI cJ yX4_outcome cX4_outcome 3 (some .int) 1 22 0 0 [.ref mo, .int x, .int y] [(mo, .inr (4, [.int (nI th), .ref (ad 1), .ref (ad 2), .ref (ad 3), .ref (ad 4), .int (nI st), .ref (ad 6), .ref (ad 7), .ref (ad 8), .ref (ad 9), .ref (ad 10), .ref (ad 11), .ref (ad 12), .ref (ad 13), .ref (ad 14), .ref (ad 15), .ref (ad 16), .ref (ad 17), .ref (ad 18), .int (nI tol), .int (nI ts), .int (nI tf), .int (nI td), .ref (ad 23), .ref (ad 24), .ref (ad 25), .ref (ad 26)])), (ad 23, .inl (cJ, 20000, .inr (.inl fo))), (ad 24, .inl (cI, 20000, .inl fn))] sz (S := Nat) (fun r u => (u = 1 ∧ ¬ ∃ k w, outOk R x y k w) ∨ (u = 0 ∧ ∃ k w, outOk R x y k w ∧ r = nI (outV R T k w))) (fun u => [(mo, .inr (4, [.int (nI u), .ref (ad 1), .ref (ad 2), .ref (ad 3), .ref (ad 4), .int (nI st), .ref (ad 6), .ref (ad 7), .ref (ad 8), .ref (ad 9), .ref (ad 10), .ref (ad 11), .ref (ad 12), .ref (ad 13), .ref (ad 14), .ref (ad 15), .ref (ad 16), .ref (ad 17), .ref (ad 18), .int (nI tol), .int (nI ts), .int (nI tf), .int (nI td), .ref (ad 23), .ref (ad 24), .ref (ad 25), .ref (ad 26)])), (ad 23, .inl (cJ, 20000, .inr (.inl fo))), (ad 24, .inl (cI, 20000, .inl fn))]) := by
  refine zMetI (lv := [(0, .ref mo), (1, .int x), (2, .int y)]) NS0_ok (by decide) rfl (Nat.le_of_ble_eq_true rfl) rfl ?_
  intro p e s m args below meth c A X hin hA
  have htol := hR.1
  have hRl := hg.1.1
  have hEl : R.2.1.length ≤ R.1.1.length := ends_len hg
  refine z_aload_n X (pc' := 1) dX4_outcome_0 rfl 0 rfl rfl ?_
  rcases i_cases x with hn | ⟨k, hk, he⟩
  · have hno : ¬ ∃ k2 w2, outOk R x y k2 w2 := fun ⟨k2, w2, q⟩ => i_negne hn k2 (by have := q.1; omega) q.2.1
    refine z_iload_n X (pc' := 2) dX4_outcome_1 rfl 1 rfl rfl ?_
    refine z_if_lt X (tgt := 23) (pc' := 5) dX4_outcome_2 (by decide) rfl (fun h1 => ?_) (fun h1 => ?_)
    · refine z_iconst X (v := nI 1) (pc' := 24) dX4_outcome_23 (by decide) rfl ?_
      refine z_goto X (tgt := 28) dX4_outcome_24 (by decide) ?_
      refine z_put X (t1 := .int) (ws' := [(mo, .inr (4, [.int (nI 1), .ref (ad 1), .ref (ad 2), .ref (ad 3), .ref (ad 4), .int (nI st), .ref (ad 6), .ref (ad 7), .ref (ad 8), .ref (ad 9), .ref (ad 10), .ref (ad 11), .ref (ad 12), .ref (ad 13), .ref (ad 14), .ref (ad 15), .ref (ad 16), .ref (ad 17), .ref (ad 18), .int (nI tol), .int (nI ts), .int (nI tf), .int (nI td), .ref (ad 23), .ref (ad 24), .ref (ad 25), .ref (ad 26)])), (ad 23, .inl (cJ, 20000, .inr (.inl fo))), (ad 24, .inl (cI, 20000, .inl fn))]) (pc' := 31) 0 rfl rfl inX4 tyX4 tyX4_ok nmX4 0 (by decide) mF_X4_74 rfl (by decide +kernel) rfl rfl (Nat.le_of_ble_eq_true rfl) dX4_outcome_28 rfl rfl ?_
      refine z_aload_n X (pc' := 32) dX4_outcome_31 rfl 0 rfl rfl ?_
      refine z_get X (v := .int (nI 1)) (pc' := 35) 0 rfl rfl inX4 0 (by decide) mF_X4_74 rfl dX4_outcome_32 rfl ?_
      refine z_if_leN X (tgt := 40) (pc' := 38) (by omega) dX4_outcome_35 (by decide) rfl (fun h2 => ?_) (fun h2 => ?_)
      · exact absurd h2 (by decide)
      · clear h2
        refine z_iconst X (v := nI 0) (pc' := 39) dX4_outcome_38 (by decide) rfl ?_
        refine z_ws (ws' := [(mo, .inr (4, [.int (nI 1), .ref (ad 1), .ref (ad 2), .ref (ad 3), .ref (ad 4), .int (nI st), .ref (ad 6), .ref (ad 7), .ref (ad 8), .ref (ad 9), .ref (ad 10), .ref (ad 11), .ref (ad 12), .ref (ad 13), .ref (ad 14), .ref (ad 15), .ref (ad 16), .ref (ad 17), .ref (ad 18), .int (nI tol), .int (nI ts), .int (nI tf), .int (nI td), .ref (ad 23), .ref (ad 24), .ref (ad 25), .ref (ad 26)])), (ad 23, .inl (cJ, 20000, .inr (.inl fo))), (ad 24, .inl (cI, 20000, .inl fn))]) [0, 1, 2] (by decide) rfl ?_
        exact z_iret X (t1 := .int) rfl rfl 1 (Or.inl ⟨rfl, hno⟩) rfl (Nat.le_of_ble_eq_true rfl) (Nat.le_of_ble_eq_true rfl) dX4_outcome_39
    · exact absurd hn h1
  · subst he
    refine z_iload_n X (pc' := 2) dX4_outcome_1 rfl 1 rfl rfl ?_
    refine z_if_ltN X (tgt := 23) (pc' := 5) hk dX4_outcome_2 (by decide) rfl ?_
    refine z_iload_n X (pc' := 6) dX4_outcome_5 rfl 1 rfl rfl ?_
    refine z_aload_n X (pc' := 7) dX4_outcome_6 rfl 0 rfl rfl ?_
    refine z_get X (v := .int (nI tol)) (pc' := 10) 0 rfl rfl inX4 19 (by decide) mF_X4_150 rfl dX4_outcome_7 rfl ?_
    refine z_icmp_geN X (tgt := 23) (pc' := 13) hk (by omega) dX4_outcome_10 (by decide) rfl (fun h3 => ?_) (fun h3 => ?_)
    · have hno : ¬ ∃ k2 w2, outOk R (nI k) y k2 w2 := fun ⟨k2, w2, q⟩ => by have h9 := q.1; have := (nI_eq hk (show k2 < 2 ^ 31 by omega)).mp q.2.1; omega
      refine z_iconst X (v := nI 1) (pc' := 24) dX4_outcome_23 (by decide) rfl ?_
      refine z_goto X (tgt := 28) dX4_outcome_24 (by decide) ?_
      refine z_put X (t1 := .int) (ws' := [(mo, .inr (4, [.int (nI 1), .ref (ad 1), .ref (ad 2), .ref (ad 3), .ref (ad 4), .int (nI st), .ref (ad 6), .ref (ad 7), .ref (ad 8), .ref (ad 9), .ref (ad 10), .ref (ad 11), .ref (ad 12), .ref (ad 13), .ref (ad 14), .ref (ad 15), .ref (ad 16), .ref (ad 17), .ref (ad 18), .int (nI tol), .int (nI ts), .int (nI tf), .int (nI td), .ref (ad 23), .ref (ad 24), .ref (ad 25), .ref (ad 26)])), (ad 23, .inl (cJ, 20000, .inr (.inl fo))), (ad 24, .inl (cI, 20000, .inl fn))]) (pc' := 31) 0 rfl rfl inX4 tyX4 tyX4_ok nmX4 0 (by decide) mF_X4_74 rfl (by decide +kernel) rfl rfl (Nat.le_of_ble_eq_true rfl) dX4_outcome_28 rfl rfl ?_
      refine z_aload_n X (pc' := 32) dX4_outcome_31 rfl 0 rfl rfl ?_
      refine z_get X (v := .int (nI 1)) (pc' := 35) 0 rfl rfl inX4 0 (by decide) mF_X4_74 rfl dX4_outcome_32 rfl ?_
      refine z_if_leN X (tgt := 40) (pc' := 38) (by omega) dX4_outcome_35 (by decide) rfl (fun h4 => ?_) (fun h4 => ?_)
      · exact absurd h4 (by decide)
      · clear h4
        refine z_iconst X (v := nI 0) (pc' := 39) dX4_outcome_38 (by decide) rfl ?_
        refine z_ws (ws' := [(mo, .inr (4, [.int (nI 1), .ref (ad 1), .ref (ad 2), .ref (ad 3), .ref (ad 4), .int (nI st), .ref (ad 6), .ref (ad 7), .ref (ad 8), .ref (ad 9), .ref (ad 10), .ref (ad 11), .ref (ad 12), .ref (ad 13), .ref (ad 14), .ref (ad 15), .ref (ad 16), .ref (ad 17), .ref (ad 18), .int (nI tol), .int (nI ts), .int (nI tf), .int (nI td), .ref (ad 23), .ref (ad 24), .ref (ad 25), .ref (ad 26)])), (ad 23, .inl (cJ, 20000, .inr (.inl fo))), (ad 24, .inl (cI, 20000, .inl fn))]) [0, 1, 2] (by decide) rfl ?_
        exact z_iret X (t1 := .int) rfl rfl 1 (Or.inl ⟨rfl, hno⟩) rfl (Nat.le_of_ble_eq_true rfl) (Nat.le_of_ble_eq_true rfl) dX4_outcome_39
    · have hkn : k < R.2.1.length := by omega
      have hTl := gR_T hg hR.2.2.2.2.2.1 k hkn
      have hrp := hR.2.2.2.2.1 k hkn
      rcases i_cases y with hn | ⟨w, hw, he⟩
      · have hno : ¬ ∃ k2 w2, outOk R (nI k) y k2 w2 := fun ⟨k2, w2, q⟩ => i_negne hn w2 (by have := q.2.2.1; omega) q.2.2.2
        refine z_iload_n X (pc' := 14) dX4_outcome_13 rfl 2 rfl rfl ?_
        refine z_if_lt X (tgt := 23) (pc' := 17) dX4_outcome_14 (by decide) rfl (fun h5 => ?_) (fun h5 => ?_)
        · refine z_iconst X (v := nI 1) (pc' := 24) dX4_outcome_23 (by decide) rfl ?_
          refine z_goto X (tgt := 28) dX4_outcome_24 (by decide) ?_
          refine z_put X (t1 := .int) (ws' := [(mo, .inr (4, [.int (nI 1), .ref (ad 1), .ref (ad 2), .ref (ad 3), .ref (ad 4), .int (nI st), .ref (ad 6), .ref (ad 7), .ref (ad 8), .ref (ad 9), .ref (ad 10), .ref (ad 11), .ref (ad 12), .ref (ad 13), .ref (ad 14), .ref (ad 15), .ref (ad 16), .ref (ad 17), .ref (ad 18), .int (nI tol), .int (nI ts), .int (nI tf), .int (nI td), .ref (ad 23), .ref (ad 24), .ref (ad 25), .ref (ad 26)])), (ad 23, .inl (cJ, 20000, .inr (.inl fo))), (ad 24, .inl (cI, 20000, .inl fn))]) (pc' := 31) 0 rfl rfl inX4 tyX4 tyX4_ok nmX4 0 (by decide) mF_X4_74 rfl (by decide +kernel) rfl rfl (Nat.le_of_ble_eq_true rfl) dX4_outcome_28 rfl rfl ?_
          refine z_aload_n X (pc' := 32) dX4_outcome_31 rfl 0 rfl rfl ?_
          refine z_get X (v := .int (nI 1)) (pc' := 35) 0 rfl rfl inX4 0 (by decide) mF_X4_74 rfl dX4_outcome_32 rfl ?_
          refine z_if_leN X (tgt := 40) (pc' := 38) (by omega) dX4_outcome_35 (by decide) rfl (fun h6 => ?_) (fun h6 => ?_)
          · exact absurd h6 (by decide)
          · clear h6
            refine z_iconst X (v := nI 0) (pc' := 39) dX4_outcome_38 (by decide) rfl ?_
            refine z_ws (ws' := [(mo, .inr (4, [.int (nI 1), .ref (ad 1), .ref (ad 2), .ref (ad 3), .ref (ad 4), .int (nI st), .ref (ad 6), .ref (ad 7), .ref (ad 8), .ref (ad 9), .ref (ad 10), .ref (ad 11), .ref (ad 12), .ref (ad 13), .ref (ad 14), .ref (ad 15), .ref (ad 16), .ref (ad 17), .ref (ad 18), .int (nI tol), .int (nI ts), .int (nI tf), .int (nI td), .ref (ad 23), .ref (ad 24), .ref (ad 25), .ref (ad 26)])), (ad 23, .inl (cJ, 20000, .inr (.inl fo))), (ad 24, .inl (cI, 20000, .inl fn))]) [0, 1, 2] (by decide) rfl ?_
            exact z_iret X (t1 := .int) rfl rfl 1 (Or.inl ⟨rfl, hno⟩) rfl (Nat.le_of_ble_eq_true rfl) (Nat.le_of_ble_eq_true rfl) dX4_outcome_39
        · exact absurd hn h5
      · subst he
        refine z_iload_n X (pc' := 14) dX4_outcome_13 rfl 2 rfl rfl ?_
        refine z_if_ltN X (tgt := 23) (pc' := 17) hw dX4_outcome_14 (by decide) rfl ?_
        refine z_iload_n X (pc' := 18) dX4_outcome_17 rfl 2 rfl rfl ?_
        refine z_bipush X (v := nI 20) (pc' := 20) dX4_outcome_18 (by decide) rfl ?_
        refine z_icmp_leN X (tgt := 27) (pc' := 23) hw (by decide) dX4_outcome_20 (by decide) rfl (fun h7 => ?_) (fun h7 => ?_)
        · have hw20 : w ≤ 20 := h7
          refine z_iconst X (v := nI 0) (pc' := 28) dX4_outcome_27 (by decide) rfl ?_
          refine z_put X (t1 := .int) (ws' := [(mo, .inr (4, [.int (nI 0), .ref (ad 1), .ref (ad 2), .ref (ad 3), .ref (ad 4), .int (nI st), .ref (ad 6), .ref (ad 7), .ref (ad 8), .ref (ad 9), .ref (ad 10), .ref (ad 11), .ref (ad 12), .ref (ad 13), .ref (ad 14), .ref (ad 15), .ref (ad 16), .ref (ad 17), .ref (ad 18), .int (nI tol), .int (nI ts), .int (nI tf), .int (nI td), .ref (ad 23), .ref (ad 24), .ref (ad 25), .ref (ad 26)])), (ad 23, .inl (cJ, 20000, .inr (.inl fo))), (ad 24, .inl (cI, 20000, .inl fn))]) (pc' := 31) 0 rfl rfl inX4 tyX4 tyX4_ok nmX4 0 (by decide) mF_X4_74 rfl (by decide +kernel) rfl rfl (Nat.le_of_ble_eq_true rfl) dX4_outcome_28 rfl rfl ?_
          refine z_aload_n X (pc' := 32) dX4_outcome_31 rfl 0 rfl rfl ?_
          refine z_get X (v := .int (nI 0)) (pc' := 35) 0 rfl rfl inX4 0 (by decide) mF_X4_74 rfl dX4_outcome_32 rfl ?_
          refine z_if_leN X (tgt := 40) (pc' := 38) (by omega) dX4_outcome_35 (by decide) rfl (fun h8 => ?_) (fun h8 => ?_)
          · clear h8
            refine z_iload_n X (pc' := 41) dX4_outcome_40 rfl 2 rfl rfl ?_
            refine z_bipush X (v := nI 20) (pc' := 43) dX4_outcome_41 (by decide) rfl ?_
            refine z_icmp_neN X (tgt := 55) (pc' := 46) hw (by decide) dX4_outcome_43 (by decide) rfl (fun h9 => ?_) (fun h9 => ?_)
            · have he : ¬ w = 20 := h9
              refine z_aload_n X (pc' := 56) dX4_outcome_55 rfl 0 rfl rfl ?_
              refine z_iload_n X (pc' := 57) dX4_outcome_56 rfl 1 rfl rfl ?_
              refine z_iload_n X (pc' := 58) dX4_outcome_57 rfl 2 rfl rfl ?_
              refine z_callVi X (pc' := 61) (fun sz => r_part l D cI cJ sz mo 0 st tol ts tf td ad k w (KDr R (T k)) fo (by omega) (by omega) (hg.2.2.2.2.2 _ hTl) hrp.1) (zcwV X TTg 2 mL_X4_169 mI_X4_part mS_X4_part mN_X4 mK_X4_part rfl rfl (by decide +kernel) ⟨(Nat.le_of_ble_eq_true rfl), (Nat.le_of_ble_eq_true rfl)⟩) (wr := [(ad 24, .inl (cI, 20000, .inl fn))]) [0, 1] [2] rfl rfl rfl rfl (by decide) 4 0 rfl rfl rfl rfl rfl (Nat.le_of_ble_eq_true rfl) dX4_outcome_58 ⟨Nat.le_of_ble_eq_true rfl, Nat.le_of_ble_eq_true rfl⟩ rfl (fun r u hu => ?_)
              have hu : r = nI (mi (KDr R (T k)) w) := hu
              have hu : r = nI (outV R T k w) := by rw [hu]; unfold outV; rw [if_neg he]
              subst hu
              refine z_wse (ws' := [(ad 24, .inl (cI, 20000, .inl fn)), (mo, .inr (4, [.int (nI 0), .ref (ad 1), .ref (ad 2), .ref (ad 3), .ref (ad 4), .int (nI st), .ref (ad 6), .ref (ad 7), .ref (ad 8), .ref (ad 9), .ref (ad 10), .ref (ad 11), .ref (ad 12), .ref (ad 13), .ref (ad 14), .ref (ad 15), .ref (ad 16), .ref (ad 17), .ref (ad 18), .int (nI tol), .int (nI ts), .int (nI tf), .int (nI td), .ref (ad 23), .ref (ad 24), .ref (ad 25), .ref (ad 26)])), (ad 23, .inl (cJ, 20000, .inr (.inl fo)))]) rfl ?_
              refine z_ws (ws' := [(mo, .inr (4, [.int (nI 0), .ref (ad 1), .ref (ad 2), .ref (ad 3), .ref (ad 4), .int (nI st), .ref (ad 6), .ref (ad 7), .ref (ad 8), .ref (ad 9), .ref (ad 10), .ref (ad 11), .ref (ad 12), .ref (ad 13), .ref (ad 14), .ref (ad 15), .ref (ad 16), .ref (ad 17), .ref (ad 18), .int (nI tol), .int (nI ts), .int (nI tf), .int (nI td), .ref (ad 23), .ref (ad 24), .ref (ad 25), .ref (ad 26)])), (ad 23, .inl (cJ, 20000, .inr (.inl fo))), (ad 24, .inl (cI, 20000, .inl fn))]) [1, 2, 0] (by decide) rfl ?_
              exact z_iret X (t1 := .int) rfl rfl 0 (Or.inr ⟨rfl, k, w, ⟨hkn, rfl, hw20, rfl⟩, rfl⟩) rfl (Nat.le_of_ble_eq_true rfl) (Nat.le_of_ble_eq_true rfl) dX4_outcome_61
            · have he : w = 20 := h9
              refine z_aload_n X (pc' := 47) dX4_outcome_46 rfl 0 rfl rfl ?_
              refine z_get X (v := .ref (ad 24)) (pc' := 50) 0 rfl rfl inX4 24 (by decide) mF_X4_65 rfl dX4_outcome_47 rfl ?_
              refine z_iload_n X (pc' := 51) dX4_outcome_50 rfl 1 rfl rfl ?_
              refine z_iald X (pc' := 52) 2 0 rfl rfl (by omega) (by omega) dX4_outcome_51 rfl ?_
              refine z_topi (y := nI (outV R T k w)) (hrp.2.1.trans (by rw [he, gR_out hg hTl])) ?_
              refine z_goto X (tgt := 61) dX4_outcome_52 (by decide) ?_
              refine z_ws (ws' := [(mo, .inr (4, [.int (nI 0), .ref (ad 1), .ref (ad 2), .ref (ad 3), .ref (ad 4), .int (nI st), .ref (ad 6), .ref (ad 7), .ref (ad 8), .ref (ad 9), .ref (ad 10), .ref (ad 11), .ref (ad 12), .ref (ad 13), .ref (ad 14), .ref (ad 15), .ref (ad 16), .ref (ad 17), .ref (ad 18), .int (nI tol), .int (nI ts), .int (nI tf), .int (nI td), .ref (ad 23), .ref (ad 24), .ref (ad 25), .ref (ad 26)])), (ad 23, .inl (cJ, 20000, .inr (.inl fo))), (ad 24, .inl (cI, 20000, .inl fn))]) [0, 1, 2] (by decide) rfl ?_
              exact z_iret X (t1 := .int) rfl rfl 0 (Or.inr ⟨rfl, k, w, ⟨hkn, rfl, hw20, rfl⟩, rfl⟩) rfl (Nat.le_of_ble_eq_true rfl) (Nat.le_of_ble_eq_true rfl) dX4_outcome_61
          · exact absurd h8 (by decide)
        · have hno : ¬ ∃ k2 w2, outOk R (nI k) (nI w) k2 w2 := fun ⟨k2, w2, q⟩ => by have h9 := q.2.2.1; have := (nI_eq hw (show w2 < 2 ^ 31 by omega)).mp q.2.2.2; omega
          refine z_iconst X (v := nI 1) (pc' := 24) dX4_outcome_23 (by decide) rfl ?_
          refine z_goto X (tgt := 28) dX4_outcome_24 (by decide) ?_
          refine z_put X (t1 := .int) (ws' := [(mo, .inr (4, [.int (nI 1), .ref (ad 1), .ref (ad 2), .ref (ad 3), .ref (ad 4), .int (nI st), .ref (ad 6), .ref (ad 7), .ref (ad 8), .ref (ad 9), .ref (ad 10), .ref (ad 11), .ref (ad 12), .ref (ad 13), .ref (ad 14), .ref (ad 15), .ref (ad 16), .ref (ad 17), .ref (ad 18), .int (nI tol), .int (nI ts), .int (nI tf), .int (nI td), .ref (ad 23), .ref (ad 24), .ref (ad 25), .ref (ad 26)])), (ad 23, .inl (cJ, 20000, .inr (.inl fo))), (ad 24, .inl (cI, 20000, .inl fn))]) (pc' := 31) 0 rfl rfl inX4 tyX4 tyX4_ok nmX4 0 (by decide) mF_X4_74 rfl (by decide +kernel) rfl rfl (Nat.le_of_ble_eq_true rfl) dX4_outcome_28 rfl rfl ?_
          refine z_aload_n X (pc' := 32) dX4_outcome_31 rfl 0 rfl rfl ?_
          refine z_get X (v := .int (nI 1)) (pc' := 35) 0 rfl rfl inX4 0 (by decide) mF_X4_74 rfl dX4_outcome_32 rfl ?_
          refine z_if_leN X (tgt := 40) (pc' := 38) (by omega) dX4_outcome_35 (by decide) rfl (fun h10 => ?_) (fun h10 => ?_)
          · exact absurd h10 (by decide)
          · clear h10
            refine z_iconst X (v := nI 0) (pc' := 39) dX4_outcome_38 (by decide) rfl ?_
            refine z_ws (ws' := [(mo, .inr (4, [.int (nI 1), .ref (ad 1), .ref (ad 2), .ref (ad 3), .ref (ad 4), .int (nI st), .ref (ad 6), .ref (ad 7), .ref (ad 8), .ref (ad 9), .ref (ad 10), .ref (ad 11), .ref (ad 12), .ref (ad 13), .ref (ad 14), .ref (ad 15), .ref (ad 16), .ref (ad 17), .ref (ad 18), .int (nI tol), .int (nI ts), .int (nI tf), .int (nI td), .ref (ad 23), .ref (ad 24), .ref (ad 25), .ref (ad 26)])), (ad 23, .inl (cJ, 20000, .inr (.inl fo))), (ad 24, .inl (cI, 20000, .inl fn))]) [0, 1, 2] (by decide) rfl ?_
            exact z_iret X (t1 := .int) rfl rfl 1 (Or.inl ⟨rfl, hno⟩) rfl (Nat.le_of_ble_eq_true rfl) (Nat.le_of_ble_eq_true rfl) dX4_outcome_39
theorem wyA_lt (F : Nat → Nat) (i : Nat) : wyA F i < 2 ^ 63 := by
  have h := wz_lt (mvA_lt F i) (min 12 (dpt F i)) 0
  have h2 : (32 : Nat) ^ min 12 (dpt F i) ≤ 32 ^ 12 := Nat.pow_le_pow_right (by decide) (by omega)
  have h3 : (32 : Nat) ^ 12 < 2 ^ 63 := by decide
  unfold wyA
  omega
theorem rsA_lt (F : Nat → Nat) (i : Nat) (hd : dpt F i ≤ 24) : rsA F i < 2 ^ 63 := by
  have h := wz_lt (mvA_lt F i) (dpt F i - 12) 12
  have h2 : (32 : Nat) ^ (dpt F i - 12) ≤ 32 ^ 12 := Nat.pow_le_pow_right (by decide) (by omega)
  have h3 : (32 : Nat) ^ 12 < 2 ^ 63 := by decide
  unfold rsA
  omega
theorem wyA_dg {F : Nat → Nat} {i k : Nat} (h : k < min 12 (dpt F i)) : wyA F i / 32 ^ k % 32 = mvA F i k := by
  have := wz_dg (mvA_lt F i) k (min 12 (dpt F i)) 0 h
  rw [Nat.zero_add] at this
  exact this
theorem rsA_dg {F : Nat → Nat} {i k : Nat} (h : k < dpt F i) (h12 : 12 ≤ k) : rsA F i / 32 ^ (k - 12) % 32 = mvA F i k := by
  have := wz_dg (mvA_lt F i) (k - 12) (dpt F i - 12) 12 (by omega)
  rw [show 12 + (k - 12) = k by omega] at this
  exact this
set_option maxHeartbeats 4000000 in
set_option maxRecDepth 100000 in
/-- move -/
theorem r_move (l : Launch) (D : va_G) (cI cJ : ClassId) (sz : Nat) (mo th st tol ts tf td : Nat) (ad : Nat → Nat) (fo : Nat → Int64) (fn : Nat → Int32) (fy fz : Nat → Int64) (R : BG) (T : Nat → Nat) (x y : Int32) (hg : gR R) (hR : refI R T tol ts tf td fo fn fy fz) : KI l D cI cJ yX4_move cX4_move 3 (some .int) 0 0 0 0 [.ref mo, .int x, .int y] [(mo, .inr (4, [.int (nI th), .ref (ad 1), .ref (ad 2), .ref (ad 3), .ref (ad 4), .int (nI st), .ref (ad 6), .ref (ad 7), .ref (ad 8), .ref (ad 9), .ref (ad 10), .ref (ad 11), .ref (ad 12), .ref (ad 13), .ref (ad 14), .ref (ad 15), .ref (ad 16), .ref (ad 17), .ref (ad 18), .int (nI tol), .int (nI ts), .int (nI tf), .int (nI td), .ref (ad 23), .ref (ad 24), .ref (ad 25), .ref (ad 26)])), (ad 24, .inl (cI, 20000, .inl fn)), (ad 25, .inl (cJ, 20000, .inr (.inl fy))), (ad 26, .inl (cJ, 20000, .inr (.inl fz)))] sz (S := Nat) (fun r u => (u = 1 ∧ ¬ ∃ k i, movOk R T x y k i) ∨ (u = 0 ∧ ∃ k i, movOk R T x y k i ∧ r = nI (movV R T k i))) (fun u => [(mo, .inr (4, [.int (nI u), .ref (ad 1), .ref (ad 2), .ref (ad 3), .ref (ad 4), .int (nI st), .ref (ad 6), .ref (ad 7), .ref (ad 8), .ref (ad 9), .ref (ad 10), .ref (ad 11), .ref (ad 12), .ref (ad 13), .ref (ad 14), .ref (ad 15), .ref (ad 16), .ref (ad 17), .ref (ad 18), .int (nI tol), .int (nI ts), .int (nI tf), .int (nI td), .ref (ad 23), .ref (ad 24), .ref (ad 25), .ref (ad 26)])), (ad 24, .inl (cI, 20000, .inl fn)), (ad 25, .inl (cJ, 20000, .inr (.inl fy))), (ad 26, .inl (cJ, 20000, .inr (.inl fz)))]) := by
  refine zMetI (lv := [(0, .ref mo), (1, .int x), (2, .int y)]) NS0_ok (by decide) rfl (Nat.le_of_ble_eq_true rfl) rfl ?_
  intro p e s m args below meth c A X hin hA
  have htol := hR.1
  have hRl := hg.1.1
  have hEl : R.2.1.length ≤ R.1.1.length := ends_len hg
  refine z_aload_n X (pc' := 1) dX4_move_0 rfl 0 rfl rfl ?_
  rcases i_cases x with hn | ⟨k, hk, he⟩
  · have hno : ¬ ∃ k2 i2, movOk R T x y k2 i2 := fun ⟨k2, i2, q⟩ => i_negne hn k2 (by have := q.1; omega) q.2.1
    refine z_iload_n X (pc' := 2) dX4_move_1 rfl 1 rfl rfl ?_
    refine z_if_lt X (tgt := 43) (pc' := 5) dX4_move_2 (by decide) rfl (fun h1 => ?_) (fun h1 => ?_)
    · refine z_iconst X (v := nI 1) (pc' := 44) dX4_move_43 (by decide) rfl ?_
      refine z_goto X (tgt := 48) dX4_move_44 (by decide) ?_
      refine z_put X (t1 := .int) (ws' := [(mo, .inr (4, [.int (nI 1), .ref (ad 1), .ref (ad 2), .ref (ad 3), .ref (ad 4), .int (nI st), .ref (ad 6), .ref (ad 7), .ref (ad 8), .ref (ad 9), .ref (ad 10), .ref (ad 11), .ref (ad 12), .ref (ad 13), .ref (ad 14), .ref (ad 15), .ref (ad 16), .ref (ad 17), .ref (ad 18), .int (nI tol), .int (nI ts), .int (nI tf), .int (nI td), .ref (ad 23), .ref (ad 24), .ref (ad 25), .ref (ad 26)])), (ad 24, .inl (cI, 20000, .inl fn)), (ad 25, .inl (cJ, 20000, .inr (.inl fy))), (ad 26, .inl (cJ, 20000, .inr (.inl fz)))]) (pc' := 51) 0 rfl rfl inX4 tyX4 tyX4_ok nmX4 0 (by decide) mF_X4_74 rfl (by decide +kernel) rfl rfl (Nat.le_of_ble_eq_true rfl) dX4_move_48 rfl rfl ?_
      refine z_aload_n X (pc' := 52) dX4_move_51 rfl 0 rfl rfl ?_
      refine z_get X (v := .int (nI 1)) (pc' := 55) 0 rfl rfl inX4 0 (by decide) mF_X4_74 rfl dX4_move_52 rfl ?_
      refine z_if_leN X (tgt := 60) (pc' := 58) (by omega) dX4_move_55 (by decide) rfl (fun h2 => ?_) (fun h2 => ?_)
      · exact absurd h2 (by decide)
      · clear h2
        refine z_iconst X (v := nI 0) (pc' := 59) dX4_move_58 (by decide) rfl ?_
        refine z_ws (ws' := [(mo, .inr (4, [.int (nI 1), .ref (ad 1), .ref (ad 2), .ref (ad 3), .ref (ad 4), .int (nI st), .ref (ad 6), .ref (ad 7), .ref (ad 8), .ref (ad 9), .ref (ad 10), .ref (ad 11), .ref (ad 12), .ref (ad 13), .ref (ad 14), .ref (ad 15), .ref (ad 16), .ref (ad 17), .ref (ad 18), .int (nI tol), .int (nI ts), .int (nI tf), .int (nI td), .ref (ad 23), .ref (ad 24), .ref (ad 25), .ref (ad 26)])), (ad 24, .inl (cI, 20000, .inl fn)), (ad 25, .inl (cJ, 20000, .inr (.inl fy))), (ad 26, .inl (cJ, 20000, .inr (.inl fz)))]) [0, 1, 2, 3] (by decide) rfl ?_
        exact z_iret X (t1 := .int) rfl rfl 1 (Or.inl ⟨rfl, hno⟩) rfl (Nat.le_of_ble_eq_true rfl) (Nat.le_of_ble_eq_true rfl) dX4_move_59
    · exact absurd hn h1
  · subst he
    refine z_iload_n X (pc' := 2) dX4_move_1 rfl 1 rfl rfl ?_
    refine z_if_ltN X (tgt := 43) (pc' := 5) hk dX4_move_2 (by decide) rfl ?_
    refine z_iload_n X (pc' := 6) dX4_move_5 rfl 1 rfl rfl ?_
    refine z_aload_n X (pc' := 7) dX4_move_6 rfl 0 rfl rfl ?_
    refine z_get X (v := .int (nI tol)) (pc' := 10) 0 rfl rfl inX4 19 (by decide) mF_X4_150 rfl dX4_move_7 rfl ?_
    refine z_icmp_geN X (tgt := 43) (pc' := 13) hk (by omega) dX4_move_10 (by decide) rfl (fun h3 => ?_) (fun h3 => ?_)
    · have hno : ¬ ∃ k2 i2, movOk R T (nI k) y k2 i2 := fun ⟨k2, i2, q⟩ => by have h9 := q.1; have := (nI_eq hk (show k2 < 2 ^ 31 by omega)).mp q.2.1; omega
      refine z_iconst X (v := nI 1) (pc' := 44) dX4_move_43 (by decide) rfl ?_
      refine z_goto X (tgt := 48) dX4_move_44 (by decide) ?_
      refine z_put X (t1 := .int) (ws' := [(mo, .inr (4, [.int (nI 1), .ref (ad 1), .ref (ad 2), .ref (ad 3), .ref (ad 4), .int (nI st), .ref (ad 6), .ref (ad 7), .ref (ad 8), .ref (ad 9), .ref (ad 10), .ref (ad 11), .ref (ad 12), .ref (ad 13), .ref (ad 14), .ref (ad 15), .ref (ad 16), .ref (ad 17), .ref (ad 18), .int (nI tol), .int (nI ts), .int (nI tf), .int (nI td), .ref (ad 23), .ref (ad 24), .ref (ad 25), .ref (ad 26)])), (ad 24, .inl (cI, 20000, .inl fn)), (ad 25, .inl (cJ, 20000, .inr (.inl fy))), (ad 26, .inl (cJ, 20000, .inr (.inl fz)))]) (pc' := 51) 0 rfl rfl inX4 tyX4 tyX4_ok nmX4 0 (by decide) mF_X4_74 rfl (by decide +kernel) rfl rfl (Nat.le_of_ble_eq_true rfl) dX4_move_48 rfl rfl ?_
      refine z_aload_n X (pc' := 52) dX4_move_51 rfl 0 rfl rfl ?_
      refine z_get X (v := .int (nI 1)) (pc' := 55) 0 rfl rfl inX4 0 (by decide) mF_X4_74 rfl dX4_move_52 rfl ?_
      refine z_if_leN X (tgt := 60) (pc' := 58) (by omega) dX4_move_55 (by decide) rfl (fun h4 => ?_) (fun h4 => ?_)
      · exact absurd h4 (by decide)
      · clear h4
        refine z_iconst X (v := nI 0) (pc' := 59) dX4_move_58 (by decide) rfl ?_
        refine z_ws (ws' := [(mo, .inr (4, [.int (nI 1), .ref (ad 1), .ref (ad 2), .ref (ad 3), .ref (ad 4), .int (nI st), .ref (ad 6), .ref (ad 7), .ref (ad 8), .ref (ad 9), .ref (ad 10), .ref (ad 11), .ref (ad 12), .ref (ad 13), .ref (ad 14), .ref (ad 15), .ref (ad 16), .ref (ad 17), .ref (ad 18), .int (nI tol), .int (nI ts), .int (nI tf), .int (nI td), .ref (ad 23), .ref (ad 24), .ref (ad 25), .ref (ad 26)])), (ad 24, .inl (cI, 20000, .inl fn)), (ad 25, .inl (cJ, 20000, .inr (.inl fy))), (ad 26, .inl (cJ, 20000, .inr (.inl fz)))]) [0, 1, 2, 3] (by decide) rfl ?_
        exact z_iret X (t1 := .int) rfl rfl 1 (Or.inl ⟨rfl, hno⟩) rfl (Nat.le_of_ble_eq_true rfl) (Nat.le_of_ble_eq_true rfl) dX4_move_59
    · have hkn : k < R.2.1.length := by omega
      have hTl := gR_T hg hR.2.2.2.2.2.1 k hkn
      have hrp := hR.2.2.2.2.1 k hkn
      have hd24 := hg.2.1 _ hTl
      have hde := gR_dep hg hTl
      rcases i_cases y with hn | ⟨i, hi, he⟩
      · have hno : ¬ ∃ k2 i2, movOk R T (nI k) y k2 i2 := fun ⟨k2, i2, q⟩ => by have h9 := dep_le (fun i => R.1.2.1.getD i 0) 24 (T k2); exact i_negne hn i2 (by have := q.2.2.1; omega) q.2.2.2
        refine z_iload_n X (pc' := 14) dX4_move_13 rfl 2 rfl rfl ?_
        refine z_if_lt X (tgt := 43) (pc' := 17) dX4_move_14 (by decide) rfl (fun h5 => ?_) (fun h5 => ?_)
        · refine z_iconst X (v := nI 1) (pc' := 44) dX4_move_43 (by decide) rfl ?_
          refine z_goto X (tgt := 48) dX4_move_44 (by decide) ?_
          refine z_put X (t1 := .int) (ws' := [(mo, .inr (4, [.int (nI 1), .ref (ad 1), .ref (ad 2), .ref (ad 3), .ref (ad 4), .int (nI st), .ref (ad 6), .ref (ad 7), .ref (ad 8), .ref (ad 9), .ref (ad 10), .ref (ad 11), .ref (ad 12), .ref (ad 13), .ref (ad 14), .ref (ad 15), .ref (ad 16), .ref (ad 17), .ref (ad 18), .int (nI tol), .int (nI ts), .int (nI tf), .int (nI td), .ref (ad 23), .ref (ad 24), .ref (ad 25), .ref (ad 26)])), (ad 24, .inl (cI, 20000, .inl fn)), (ad 25, .inl (cJ, 20000, .inr (.inl fy))), (ad 26, .inl (cJ, 20000, .inr (.inl fz)))]) (pc' := 51) 0 rfl rfl inX4 tyX4 tyX4_ok nmX4 0 (by decide) mF_X4_74 rfl (by decide +kernel) rfl rfl (Nat.le_of_ble_eq_true rfl) dX4_move_48 rfl rfl ?_
          refine z_aload_n X (pc' := 52) dX4_move_51 rfl 0 rfl rfl ?_
          refine z_get X (v := .int (nI 1)) (pc' := 55) 0 rfl rfl inX4 0 (by decide) mF_X4_74 rfl dX4_move_52 rfl ?_
          refine z_if_leN X (tgt := 60) (pc' := 58) (by omega) dX4_move_55 (by decide) rfl (fun h6 => ?_) (fun h6 => ?_)
          · exact absurd h6 (by decide)
          · clear h6
            refine z_iconst X (v := nI 0) (pc' := 59) dX4_move_58 (by decide) rfl ?_
            refine z_ws (ws' := [(mo, .inr (4, [.int (nI 1), .ref (ad 1), .ref (ad 2), .ref (ad 3), .ref (ad 4), .int (nI st), .ref (ad 6), .ref (ad 7), .ref (ad 8), .ref (ad 9), .ref (ad 10), .ref (ad 11), .ref (ad 12), .ref (ad 13), .ref (ad 14), .ref (ad 15), .ref (ad 16), .ref (ad 17), .ref (ad 18), .int (nI tol), .int (nI ts), .int (nI tf), .int (nI td), .ref (ad 23), .ref (ad 24), .ref (ad 25), .ref (ad 26)])), (ad 24, .inl (cI, 20000, .inl fn)), (ad 25, .inl (cJ, 20000, .inr (.inl fy))), (ad 26, .inl (cJ, 20000, .inr (.inl fz)))]) [0, 1, 2, 3] (by decide) rfl ?_
            exact z_iret X (t1 := .int) rfl rfl 1 (Or.inl ⟨rfl, hno⟩) rfl (Nat.le_of_ble_eq_true rfl) (Nat.le_of_ble_eq_true rfl) dX4_move_59
        · exact absurd hn h5
      · subst he
        refine z_iload_n X (pc' := 14) dX4_move_13 rfl 2 rfl rfl ?_
        refine z_if_ltN X (tgt := 43) (pc' := 17) hi dX4_move_14 (by decide) rfl ?_
        refine z_iload_n X (pc' := 18) dX4_move_17 rfl 2 rfl rfl ?_
        refine z_aload_n X (pc' := 19) dX4_move_18 rfl 0 rfl rfl ?_
        refine z_get X (v := .ref (ad 24)) (pc' := 22) 0 rfl rfl inX4 24 (by decide) mF_X4_65 rfl dX4_move_19 rfl ?_
        refine z_iload_n X (pc' := 23) dX4_move_22 rfl 1 rfl rfl ?_
        refine z_if_ltN X (tgt := 34) (pc' := 26) hk dX4_move_23 (by decide) rfl ?_
        refine z_iload_n X (pc' := 27) dX4_move_26 rfl 1 rfl rfl ?_
        refine z_aload_n X (pc' := 28) dX4_move_27 rfl 0 rfl rfl ?_
        refine z_get X (v := .int (nI tol)) (pc' := 31) 0 rfl rfl inX4 19 (by decide) mF_X4_150 rfl dX4_move_28 rfl ?_
        refine z_icmp_ltN X (tgt := 38) (pc' := 34) hk (by omega) dX4_move_31 (by decide) rfl (fun h7 => ?_) (fun h7 => ?_)
        · clear h7
          refine z_iload_n X (pc' := 39) dX4_move_38 rfl 1 rfl rfl ?_
          refine z_iald X (pc' := 40) 1 0 rfl rfl (by omega) (by omega) dX4_move_39 rfl ?_
          refine z_topi (y := nI (dpt (FDr R) (T k))) hrp.2.1 ?_
          refine z_icmp_ltN X (tgt := 47) (pc' := 43) hi (by omega) dX4_move_40 (by decide) rfl (fun h8 => ?_) (fun h8 => ?_)
          · have hid : i < dpt (FDr R) (T k) := h8
            refine z_iconst X (v := nI 0) (pc' := 48) dX4_move_47 (by decide) rfl ?_
            refine z_put X (t1 := .int) (ws' := [(mo, .inr (4, [.int (nI 0), .ref (ad 1), .ref (ad 2), .ref (ad 3), .ref (ad 4), .int (nI st), .ref (ad 6), .ref (ad 7), .ref (ad 8), .ref (ad 9), .ref (ad 10), .ref (ad 11), .ref (ad 12), .ref (ad 13), .ref (ad 14), .ref (ad 15), .ref (ad 16), .ref (ad 17), .ref (ad 18), .int (nI tol), .int (nI ts), .int (nI tf), .int (nI td), .ref (ad 23), .ref (ad 24), .ref (ad 25), .ref (ad 26)])), (ad 24, .inl (cI, 20000, .inl fn)), (ad 25, .inl (cJ, 20000, .inr (.inl fy))), (ad 26, .inl (cJ, 20000, .inr (.inl fz)))]) (pc' := 51) 0 rfl rfl inX4 tyX4 tyX4_ok nmX4 0 (by decide) mF_X4_74 rfl (by decide +kernel) rfl rfl (Nat.le_of_ble_eq_true rfl) dX4_move_48 rfl rfl ?_
            refine z_aload_n X (pc' := 52) dX4_move_51 rfl 0 rfl rfl ?_
            refine z_get X (v := .int (nI 0)) (pc' := 55) 0 rfl rfl inX4 0 (by decide) mF_X4_74 rfl dX4_move_52 rfl ?_
            refine z_if_leN X (tgt := 60) (pc' := 58) (by omega) dX4_move_55 (by decide) rfl (fun h9 => ?_) (fun h9 => ?_)
            · clear h9
              refine z_iload_n X (pc' := 61) dX4_move_60 rfl 2 rfl rfl ?_
              refine z_bipush X (v := nI 12) (pc' := 63) dX4_move_61 (by decide) rfl ?_
              refine z_icmp_geN X (tgt := 79) (pc' := 66) (by omega) (by decide) dX4_move_63 (by decide) rfl (fun h10 => ?_) (fun h10 => ?_)
              · have hi12 : ¬ i < 12 := by omega
                refine z_aload_n X (pc' := 80) dX4_move_79 rfl 0 rfl rfl ?_
                refine z_get X (v := .ref (ad 26)) (pc' := 83) 0 rfl rfl inX4 26 (by decide) mF_X4_71 rfl dX4_move_80 rfl ?_
                refine z_iload_n X (pc' := 84) dX4_move_83 rfl 1 rfl rfl ?_
                refine z_lald X (pc' := 85) 3 1 rfl rfl (by omega) (by omega) dX4_move_84 rfl ?_
                refine z_topl (y := lN (rsA (FDr R) (T k))) hrp.2.2.2 ?_
                refine z_iconst X (v := nI 5) (pc' := 86) dX4_move_85 (by decide) rfl ?_
                refine z_iload_n X (pc' := 87) dX4_move_86 rfl 2 rfl rfl ?_
                refine z_bipush X (v := nI 12) (pc' := 89) dX4_move_87 (by decide) rfl ?_
                refine z_isub X (pc' := 90) dX4_move_89 rfl ?_
                refine z_topi (y := nI (i - 12)) (pk_sub (by omega)) ?_
                refine z_imul X (pc' := 91) dX4_move_90 rfl ?_
                refine z_topi (y := nI (5 * (i - 12))) (pk_mul _ _) ?_
                refine z_lshr X (pc' := 92) dX4_move_91 rfl rfl ?_
                refine z_topl (y := lN (rsA (FDr R) (T k) / 32 ^ (i - 12))) ((ll_sar (rsA_lt _ _ (by omega)) (by omega)).trans (by rw [p32])) ?_
                refine z_ldc2 X (v := lN 31) (pc' := 95) mJ_X4_172 dX4_move_92 rfl ?_
                refine z_land X (pc' := 96) dX4_move_95 rfl ?_
                refine z_l2i X (pc' := 97) dX4_move_96 rfl rfl ?_
                refine z_topi (y := nI (movV R T k i)) (ll_dl 5 (by decide) (by rw [gR_mov hg hTl]; exact rsA_dg (by omega) (by omega))) ?_
                refine z_ws (ws' := [(mo, .inr (4, [.int (nI 0), .ref (ad 1), .ref (ad 2), .ref (ad 3), .ref (ad 4), .int (nI st), .ref (ad 6), .ref (ad 7), .ref (ad 8), .ref (ad 9), .ref (ad 10), .ref (ad 11), .ref (ad 12), .ref (ad 13), .ref (ad 14), .ref (ad 15), .ref (ad 16), .ref (ad 17), .ref (ad 18), .int (nI tol), .int (nI ts), .int (nI tf), .int (nI td), .ref (ad 23), .ref (ad 24), .ref (ad 25), .ref (ad 26)])), (ad 24, .inl (cI, 20000, .inl fn)), (ad 25, .inl (cJ, 20000, .inr (.inl fy))), (ad 26, .inl (cJ, 20000, .inr (.inl fz)))]) [0, 1, 2, 3] (by decide) rfl ?_
                exact z_iret X (t1 := .int) rfl rfl 0 (Or.inr ⟨rfl, k, i, ⟨hkn, rfl, (by show i < dep (FDr R) 24 (T k); rw [hde]; exact hid), rfl⟩, rfl⟩) rfl (Nat.le_of_ble_eq_true rfl) (Nat.le_of_ble_eq_true rfl) dX4_move_97
              · have hi12 : i < 12 := by omega
                refine z_aload_n X (pc' := 67) dX4_move_66 rfl 0 rfl rfl ?_
                refine z_get X (v := .ref (ad 25)) (pc' := 70) 0 rfl rfl inX4 25 (by decide) mF_X4_68 rfl dX4_move_67 rfl ?_
                refine z_iload_n X (pc' := 71) dX4_move_70 rfl 1 rfl rfl ?_
                refine z_lald X (pc' := 72) 2 1 rfl rfl (by omega) (by omega) dX4_move_71 rfl ?_
                refine z_topl (y := lN (wyA (FDr R) (T k))) hrp.2.2.1 ?_
                refine z_iconst X (v := nI 5) (pc' := 73) dX4_move_72 (by decide) rfl ?_
                refine z_iload_n X (pc' := 74) dX4_move_73 rfl 2 rfl rfl ?_
                refine z_imul X (pc' := 75) dX4_move_74 rfl ?_
                refine z_topi (y := nI (5 * i)) (pk_mul _ _) ?_
                refine z_lshr X (pc' := 76) dX4_move_75 rfl rfl ?_
                refine z_topl (y := lN (wyA (FDr R) (T k) / 32 ^ i)) ((ll_sar (wyA_lt _ _) (by omega)).trans (by rw [p32])) ?_
                refine z_goto X (tgt := 92) dX4_move_76 (by decide) ?_
                refine z_ldc2 X (v := lN 31) (pc' := 95) mJ_X4_172 dX4_move_92 rfl ?_
                refine z_land X (pc' := 96) dX4_move_95 rfl ?_
                refine z_l2i X (pc' := 97) dX4_move_96 rfl rfl ?_
                refine z_topi (y := nI (movV R T k i)) (ll_dl 5 (by decide) (by rw [gR_mov hg hTl]; exact wyA_dg (by omega))) ?_
                refine z_ws (ws' := [(mo, .inr (4, [.int (nI 0), .ref (ad 1), .ref (ad 2), .ref (ad 3), .ref (ad 4), .int (nI st), .ref (ad 6), .ref (ad 7), .ref (ad 8), .ref (ad 9), .ref (ad 10), .ref (ad 11), .ref (ad 12), .ref (ad 13), .ref (ad 14), .ref (ad 15), .ref (ad 16), .ref (ad 17), .ref (ad 18), .int (nI tol), .int (nI ts), .int (nI tf), .int (nI td), .ref (ad 23), .ref (ad 24), .ref (ad 25), .ref (ad 26)])), (ad 24, .inl (cI, 20000, .inl fn)), (ad 25, .inl (cJ, 20000, .inr (.inl fy))), (ad 26, .inl (cJ, 20000, .inr (.inl fz)))]) [0, 1, 2, 3] (by decide) rfl ?_
                exact z_iret X (t1 := .int) rfl rfl 0 (Or.inr ⟨rfl, k, i, ⟨hkn, rfl, (by show i < dep (FDr R) 24 (T k); rw [hde]; exact hid), rfl⟩, rfl⟩) rfl (Nat.le_of_ble_eq_true rfl) (Nat.le_of_ble_eq_true rfl) dX4_move_97
            · exact absurd h9 (by decide)
          · have hno : ¬ ∃ k2 i2, movOk R T (nI k) (nI i) k2 i2 := fun ⟨k2, i2, q⟩ => by have g8 := dep_le (fun i => R.1.2.1.getD i 0) 24 (T k2); have g9 := q.2.2.1; have hq1 := q.1; have e1 := (nI_eq (show k < 2 ^ 31 by omega) (show k2 < 2 ^ 31 by omega)).mp q.2.1; have e2 := (nI_eq hi (show i2 < 2 ^ 31 by omega)).mp q.2.2.2; subst e1; subst e2; have g9 : i < dep (FDr R) 24 (T k) := g9; rw [hde] at g9; exact h8 g9
            refine z_iconst X (v := nI 1) (pc' := 44) dX4_move_43 (by decide) rfl ?_
            refine z_goto X (tgt := 48) dX4_move_44 (by decide) ?_
            refine z_put X (t1 := .int) (ws' := [(mo, .inr (4, [.int (nI 1), .ref (ad 1), .ref (ad 2), .ref (ad 3), .ref (ad 4), .int (nI st), .ref (ad 6), .ref (ad 7), .ref (ad 8), .ref (ad 9), .ref (ad 10), .ref (ad 11), .ref (ad 12), .ref (ad 13), .ref (ad 14), .ref (ad 15), .ref (ad 16), .ref (ad 17), .ref (ad 18), .int (nI tol), .int (nI ts), .int (nI tf), .int (nI td), .ref (ad 23), .ref (ad 24), .ref (ad 25), .ref (ad 26)])), (ad 24, .inl (cI, 20000, .inl fn)), (ad 25, .inl (cJ, 20000, .inr (.inl fy))), (ad 26, .inl (cJ, 20000, .inr (.inl fz)))]) (pc' := 51) 0 rfl rfl inX4 tyX4 tyX4_ok nmX4 0 (by decide) mF_X4_74 rfl (by decide +kernel) rfl rfl (Nat.le_of_ble_eq_true rfl) dX4_move_48 rfl rfl ?_
            refine z_aload_n X (pc' := 52) dX4_move_51 rfl 0 rfl rfl ?_
            refine z_get X (v := .int (nI 1)) (pc' := 55) 0 rfl rfl inX4 0 (by decide) mF_X4_74 rfl dX4_move_52 rfl ?_
            refine z_if_leN X (tgt := 60) (pc' := 58) (by omega) dX4_move_55 (by decide) rfl (fun h11 => ?_) (fun h11 => ?_)
            · exact absurd h11 (by decide)
            · clear h11
              refine z_iconst X (v := nI 0) (pc' := 59) dX4_move_58 (by decide) rfl ?_
              refine z_ws (ws' := [(mo, .inr (4, [.int (nI 1), .ref (ad 1), .ref (ad 2), .ref (ad 3), .ref (ad 4), .int (nI st), .ref (ad 6), .ref (ad 7), .ref (ad 8), .ref (ad 9), .ref (ad 10), .ref (ad 11), .ref (ad 12), .ref (ad 13), .ref (ad 14), .ref (ad 15), .ref (ad 16), .ref (ad 17), .ref (ad 18), .int (nI tol), .int (nI ts), .int (nI tf), .int (nI td), .ref (ad 23), .ref (ad 24), .ref (ad 25), .ref (ad 26)])), (ad 24, .inl (cI, 20000, .inl fn)), (ad 25, .inl (cJ, 20000, .inr (.inl fy))), (ad 26, .inl (cJ, 20000, .inr (.inl fz)))]) [0, 1, 2, 3] (by decide) rfl ?_
              exact z_iret X (t1 := .int) rfl rfl 1 (Or.inl ⟨rfl, hno⟩) rfl (Nat.le_of_ble_eq_true rfl) (Nat.le_of_ble_eq_true rfl) dX4_move_59
        · exact absurd (by omega) h7
set_option maxHeartbeats 4000000 in
set_option maxRecDepth 100000 in
/-- may -/
theorem r_may (l : Launch) (D : va_G) (cI cJ : ClassId) (sz : Nat) (mo th st tol ts tf td : Nat) (ad : Nat → Nat) (fo : Nat → Int64) (fn : Nat → Int32) (fy fz : Nat → Int64) (R : BG) (T : Nat → Nat) (x v : Int32) (hg : gR R) (hR : refI R T tol ts tf td fo fn fy fz) : KI l D cI cJ yX4_may cX4_may 5 (some .int) 1 22 0 0 [.ref mo, .int x, .int v] [(mo, .inr (4, [.int (nI th), .ref (ad 1), .ref (ad 2), .ref (ad 3), .ref (ad 4), .int (nI st), .ref (ad 6), .ref (ad 7), .ref (ad 8), .ref (ad 9), .ref (ad 10), .ref (ad 11), .ref (ad 12), .ref (ad 13), .ref (ad 14), .ref (ad 15), .ref (ad 16), .ref (ad 17), .ref (ad 18), .int (nI tol), .int (nI ts), .int (nI tf), .int (nI td), .ref (ad 23), .ref (ad 24), .ref (ad 25), .ref (ad 26)])), (ad 23, .inl (cJ, 20000, .inr (.inl fo)))] sz (S := Unit) (fun r _ => mayQ R.2.1.length (fun k => (R.1.1.getD (T k) (0, 0)).1) x v r) (fun _ => [(mo, .inr (4, [.int (nI 0), .ref (ad 1), .ref (ad 2), .ref (ad 3), .ref (ad 4), .int (nI st), .ref (ad 6), .ref (ad 7), .ref (ad 8), .ref (ad 9), .ref (ad 10), .ref (ad 11), .ref (ad 12), .ref (ad 13), .ref (ad 14), .ref (ad 15), .ref (ad 16), .ref (ad 17), .ref (ad 18), .int (nI tol), .int (nI ts), .int (nI tf), .int (nI td), .ref (ad 23), .ref (ad 24), .ref (ad 25), .ref (ad 26)])), (ad 23, .inl (cJ, 20000, .inr (.inl fo)))]) := by
  refine zMetI (lv := [(0, .ref mo), (1, .int x), (2, .int v)]) NS0_ok (by decide) rfl (Nat.le_of_ble_eq_true rfl) rfl ?_
  intro p e s m args below meth c A X hin hA
  have htol := hR.1
  have hRl := hg.1.1
  have hEl : R.2.1.length ≤ R.1.1.length := ends_len hg
  refine z_aload_n X (pc' := 1) dX4_may_0 rfl 0 rfl rfl ?_
  refine z_iconst X (v := nI 0) (pc' := 2) dX4_may_1 (by decide) rfl ?_
  refine z_put X (t1 := .int) (ws' := [(mo, .inr (4, [.int (nI 0), .ref (ad 1), .ref (ad 2), .ref (ad 3), .ref (ad 4), .int (nI st), .ref (ad 6), .ref (ad 7), .ref (ad 8), .ref (ad 9), .ref (ad 10), .ref (ad 11), .ref (ad 12), .ref (ad 13), .ref (ad 14), .ref (ad 15), .ref (ad 16), .ref (ad 17), .ref (ad 18), .int (nI tol), .int (nI ts), .int (nI tf), .int (nI td), .ref (ad 23), .ref (ad 24), .ref (ad 25), .ref (ad 26)])), (ad 23, .inl (cJ, 20000, .inr (.inl fo)))]) (pc' := 5) 0 rfl rfl inX4 tyX4 tyX4_ok nmX4 0 (by decide) mF_X4_74 rfl (by decide +kernel) rfl rfl (Nat.le_of_ble_eq_true rfl) dX4_may_2 rfl rfl ?_
  rcases i_cases x with hn | ⟨w, hw, he⟩
  · have hno : ¬ ∃ w, w < 20 ∧ x = nI w := fun ⟨w, q1, q2⟩ => i_negne hn w (by omega) q2
    refine z_iload_n X (pc' := 6) dX4_may_5 rfl 1 rfl rfl ?_
    refine z_if_lt X (tgt := 15) (pc' := 9) dX4_may_6 (by decide) rfl (fun h1 => ?_) (fun h1 => ?_)
    · refine z_iconst X (v := (-1)) (pc' := 16) dX4_may_15 (by decide) rfl ?_
      refine z_ws (ws' := [(mo, .inr (4, [.int (nI 0), .ref (ad 1), .ref (ad 2), .ref (ad 3), .ref (ad 4), .int (nI st), .ref (ad 6), .ref (ad 7), .ref (ad 8), .ref (ad 9), .ref (ad 10), .ref (ad 11), .ref (ad 12), .ref (ad 13), .ref (ad 14), .ref (ad 15), .ref (ad 16), .ref (ad 17), .ref (ad 18), .int (nI tol), .int (nI ts), .int (nI tf), .int (nI td), .ref (ad 23), .ref (ad 24), .ref (ad 25), .ref (ad 26)])), (ad 23, .inl (cJ, 20000, .inr (.inl fo)))]) [0, 1] (by decide) rfl ?_
      exact z_iret X (t1 := .int) rfl rfl () (Or.inr ⟨hno, rfl⟩) rfl (Nat.le_of_ble_eq_true rfl) (Nat.le_of_ble_eq_true rfl) dX4_may_16
    · exact absurd hn h1
  · subst he
    refine z_iload_n X (pc' := 6) dX4_may_5 rfl 1 rfl rfl ?_
    refine z_if_ltN X (tgt := 15) (pc' := 9) hw dX4_may_6 (by decide) rfl ?_
    refine z_iload_n X (pc' := 10) dX4_may_9 rfl 1 rfl rfl ?_
    refine z_bipush X (v := nI 19) (pc' := 12) dX4_may_10 (by decide) rfl ?_
    refine z_icmp_leN X (tgt := 17) (pc' := 15) hw (by decide) dX4_may_12 (by decide) rfl (fun h2 => ?_) (fun h2 => ?_)
    · have hw20 : w < 20 := by omega
      refine z_iconst X (v := nI 0) (pc' := 18) dX4_may_17 (by decide) rfl ?_
      refine z_istore_n X (lv' := [(3, .int (nI 0)), (0, .ref mo), (1, .int (nI w)), (2, .int v)]) (pc' := 19) dX4_may_18 rfl (by decide) rfl rfl ?_
      refine z_iconst X (v := nI 0) (pc' := 20) dX4_may_19 (by decide) rfl ?_
      refine z_istore X (lv' := [(4, .int (nI 0)), (3, .int (nI 0)), (0, .ref mo), (1, .int (nI w)), (2, .int v)]) (pc' := 22) dX4_may_20 (by decide) rfl rfl ?_
      refine z_lv (lv' := [(4, .int (nI 0)), (3, .int (nI 0)), (0, .ref mo), (1, .int (nI w)), (2, .int v)]) [0, 1, 2, 3, 4] rfl ?_
      refine z_loop (σ := Nat) (fun k => k ≤ R.2.1.length) (fun k => R.2.1.length - k) (fun k => [(4, .int (nI k)), (3, .int (nI (mayN (fun k => (R.1.1.getD (T k) (0, 0)).1) w v k))), (0, .ref mo), (1, .int (nI w)), (2, .int v)]) (fun k => [(mo, .inr (4, [.int (nI 0), .ref (ad 1), .ref (ad 2), .ref (ad 3), .ref (ad 4), .int (nI st), .ref (ad 6), .ref (ad 7), .ref (ad 8), .ref (ad 9), .ref (ad 10), .ref (ad 11), .ref (ad 12), .ref (ad 13), .ref (ad 14), .ref (ad 15), .ref (ad 16), .ref (ad 17), .ref (ad 18), .int (nI tol), .int (nI ts), .int (nI tf), .int (nI td), .ref (ad 23), .ref (ad 24), .ref (ad 25), .ref (ad 26)])), (ad 23, .inl (cJ, 20000, .inr (.inl fo)))]) (fun k => 0) (fun k => 0) 0 (Nat.zero_le _) ?_
      intro k hI ih
      show Z _ _ _ _ _ _ _ _ _ _ _ _ _ _ _ 22 [(4, .int (nI k)), (3, .int (nI (mayN (fun k => (R.1.1.getD (T k) (0, 0)).1) w v k))), (0, .ref mo), (1, .int (nI w)), (2, .int v)] [] [(mo, .inr (4, [.int (nI 0), .ref (ad 1), .ref (ad 2), .ref (ad 3), .ref (ad 4), .int (nI st), .ref (ad 6), .ref (ad 7), .ref (ad 8), .ref (ad 9), .ref (ad 10), .ref (ad 11), .ref (ad 12), .ref (ad 13), .ref (ad 14), .ref (ad 15), .ref (ad 16), .ref (ad 17), .ref (ad 18), .int (nI tol), .int (nI ts), .int (nI tf), .int (nI td), .ref (ad 23), .ref (ad 24), .ref (ad 25), .ref (ad 26)])), (ad 23, .inl (cJ, 20000, .inr (.inl fo)))] 0 0
      refine z_iload X (pc' := 24) dX4_may_22 0 rfl rfl ?_
      refine z_aload_n X (pc' := 25) dX4_may_24 rfl 2 rfl rfl ?_
      refine z_get X (v := .int (nI tol)) (pc' := 28) 0 rfl rfl inX4 19 (by decide) mF_X4_150 rfl dX4_may_25 rfl ?_
      refine z_icmp_geN X (tgt := 56) (pc' := 31) (by omega) (by omega) dX4_may_28 (by decide) rfl (fun h3 => ?_) (fun h3 => ?_)
      · have hke : k = R.2.1.length := by omega
        refine z_iload_n X (pc' := 57) dX4_may_56 rfl 1 rfl rfl ?_
        refine z_ws (ws' := [(mo, .inr (4, [.int (nI 0), .ref (ad 1), .ref (ad 2), .ref (ad 3), .ref (ad 4), .int (nI st), .ref (ad 6), .ref (ad 7), .ref (ad 8), .ref (ad 9), .ref (ad 10), .ref (ad 11), .ref (ad 12), .ref (ad 13), .ref (ad 14), .ref (ad 15), .ref (ad 16), .ref (ad 17), .ref (ad 18), .int (nI tol), .int (nI ts), .int (nI tf), .int (nI td), .ref (ad 23), .ref (ad 24), .ref (ad 25), .ref (ad 26)])), (ad 23, .inl (cJ, 20000, .inr (.inl fo)))]) [0, 1] (by decide) rfl ?_
        exact z_iret X (t1 := .int) rfl rfl () (Or.inl ⟨w, hw20, rfl, by rw [hke]⟩) rfl (Nat.le_of_ble_eq_true rfl) (Nat.le_of_ble_eq_true rfl) dX4_may_57
      · have hke : k < R.2.1.length := by omega
        have hTl := gR_T hg hR.2.2.2.2.2.1 k hke
        have hrp := hR.2.2.2.2.1 k hke
        refine z_iload_n X (pc' := 32) dX4_may_31 rfl 1 rfl rfl ?_
        refine z_aload_n X (pc' := 33) dX4_may_32 rfl 2 rfl rfl ?_
        refine z_iload X (pc' := 35) dX4_may_33 0 rfl rfl ?_
        refine z_iload_n X (pc' := 36) dX4_may_35 rfl 3 rfl rfl ?_
        refine z_callVi X (pc' := 39) (fun sz => r_part l D cI cJ sz mo 0 st tol ts tf td ad k w (KDr R (T k)) fo (by omega) hw20 (hg.2.2.2.2.2 _ hTl) hrp.1) (zcwV X TTg 2 mL_X4_169 mI_X4_part mS_X4_part mN_X4 mK_X4_part rfl rfl (by decide +kernel) ⟨(Nat.le_of_ble_eq_true rfl), (Nat.le_of_ble_eq_true rfl)⟩) (wr := []) [0, 1] [] rfl rfl rfl rfl (by decide) 4 0 rfl rfl rfl rfl rfl (Nat.le_of_ble_eq_true rfl) dX4_may_36 ⟨Nat.le_of_ble_eq_true rfl, Nat.le_of_ble_eq_true rfl⟩ rfl (fun r u hu => ?_)
        have hu : r = nI (mi (R.1.1.getD (T k) (0, 0)).1 w) := hu
        subst hu
        refine z_wse (ws' := [(mo, .inr (4, [.int (nI 0), .ref (ad 1), .ref (ad 2), .ref (ad 3), .ref (ad 4), .int (nI st), .ref (ad 6), .ref (ad 7), .ref (ad 8), .ref (ad 9), .ref (ad 10), .ref (ad 11), .ref (ad 12), .ref (ad 13), .ref (ad 14), .ref (ad 15), .ref (ad 16), .ref (ad 17), .ref (ad 18), .int (nI tol), .int (nI ts), .int (nI tf), .int (nI td), .ref (ad 23), .ref (ad 24), .ref (ad 25), .ref (ad 26)])), (ad 23, .inl (cJ, 20000, .inr (.inl fo)))]) rfl ?_
        refine z_iload_n X (pc' := 40) dX4_may_39 rfl 4 rfl rfl ?_
        refine z_icmp_ne X (tgt := 47) (pc' := 43) dX4_may_40 (by decide) rfl (fun h4 => ?_) (fun h4 => ?_)
        · have hmy : mayN (fun k => (R.1.1.getD (T k) (0, 0)).1) w v k + 0 = mayN (fun k => (R.1.1.getD (T k) (0, 0)).1) w v (k + 1) := by show _ = _ + (if nI (mi (R.1.1.getD (T k) (0, 0)).1 w) = v then 1 else 0); rw [if_neg h4]
          refine z_iconst X (v := nI 0) (pc' := 48) dX4_may_47 (by decide) rfl ?_
          refine z_iadd X (pc' := 49) dX4_may_48 rfl ?_
          refine z_topi (y := nI ((mayN (fun k => (R.1.1.getD (T k) (0, 0)).1) w v k) + 0)) (nI_add _ _) ?_
          refine z_istore_n X (lv' := [(3, .int (nI ((mayN (fun k => (R.1.1.getD (T k) (0, 0)).1) w v k) + 0))), (4, .int (nI k)), (0, .ref mo), (1, .int (nI w)), (2, .int v)]) (pc' := 50) dX4_may_49 rfl (by decide) rfl rfl ?_
          refine z_iinc X (v := nI (k + 1)) (lv' := [(4, .int (nI (k + 1))), (3, .int (nI ((mayN (fun k => (R.1.1.getD (T k) (0, 0)).1) w v k) + 0))), (0, .ref mo), (1, .int (nI w)), (2, .int v)]) (k := 1) (pc' := 53) dX4_may_50 rfl (nI_1 _) (by decide) rfl rfl ?_
          refine z_goto X (tgt := 22) dX4_may_53 (by decide) ?_
          refine z_lve (lv' := [(4, .int (nI (k + 1))), (3, .int (nI (mayN (fun k => (R.1.1.getD (T k) (0, 0)).1) w v (k + 1)))), (0, .ref mo), (1, .int (nI w)), (2, .int v)]) (by rw [hmy]) ?_
          refine z_lv (lv' := [(4, .int (nI (k + 1))), (3, .int (nI (mayN (fun k => (R.1.1.getD (T k) (0, 0)).1) w v (k + 1)))), (0, .ref mo), (1, .int (nI w)), (2, .int v)]) [0, 1, 2, 3, 4] rfl ?_
          exact ih (k + 1) (show k + 1 ≤ R.2.1.length by omega) (by omega)
        · have hmy : mayN (fun k => (R.1.1.getD (T k) (0, 0)).1) w v k + 1 = mayN (fun k => (R.1.1.getD (T k) (0, 0)).1) w v (k + 1) := by show _ = _ + (if nI (mi (R.1.1.getD (T k) (0, 0)).1 w) = v then 1 else 0); rw [if_pos h4]
          refine z_iconst X (v := nI 1) (pc' := 44) dX4_may_43 (by decide) rfl ?_
          refine z_goto X (tgt := 48) dX4_may_44 (by decide) ?_
          refine z_iadd X (pc' := 49) dX4_may_48 rfl ?_
          refine z_topi (y := nI ((mayN (fun k => (R.1.1.getD (T k) (0, 0)).1) w v k) + 1)) (nI_add _ _) ?_
          refine z_istore_n X (lv' := [(3, .int (nI ((mayN (fun k => (R.1.1.getD (T k) (0, 0)).1) w v k) + 1))), (4, .int (nI k)), (0, .ref mo), (1, .int (nI w)), (2, .int v)]) (pc' := 50) dX4_may_49 rfl (by decide) rfl rfl ?_
          refine z_iinc X (v := nI (k + 1)) (lv' := [(4, .int (nI (k + 1))), (3, .int (nI ((mayN (fun k => (R.1.1.getD (T k) (0, 0)).1) w v k) + 1))), (0, .ref mo), (1, .int (nI w)), (2, .int v)]) (k := 1) (pc' := 53) dX4_may_50 rfl (nI_1 _) (by decide) rfl rfl ?_
          refine z_goto X (tgt := 22) dX4_may_53 (by decide) ?_
          refine z_lve (lv' := [(4, .int (nI (k + 1))), (3, .int (nI (mayN (fun k => (R.1.1.getD (T k) (0, 0)).1) w v (k + 1)))), (0, .ref mo), (1, .int (nI w)), (2, .int v)]) (by rw [hmy]) ?_
          refine z_lv (lv' := [(4, .int (nI (k + 1))), (3, .int (nI (mayN (fun k => (R.1.1.getD (T k) (0, 0)).1) w v (k + 1)))), (0, .ref mo), (1, .int (nI w)), (2, .int v)]) [0, 1, 2, 3, 4] rfl ?_
          exact ih (k + 1) (show k + 1 ≤ R.2.1.length by omega) (by omega)
    · have hno : ¬ ∃ w2, w2 < 20 ∧ nI w = nI w2 := fun ⟨w2, q1, q2⟩ => by have := (nI_eq hw (show w2 < 2 ^ 31 by omega)).mp q2; omega
      refine z_iconst X (v := (-1)) (pc' := 16) dX4_may_15 (by decide) rfl ?_
      refine z_ws (ws' := [(mo, .inr (4, [.int (nI 0), .ref (ad 1), .ref (ad 2), .ref (ad 3), .ref (ad 4), .int (nI st), .ref (ad 6), .ref (ad 7), .ref (ad 8), .ref (ad 9), .ref (ad 10), .ref (ad 11), .ref (ad 12), .ref (ad 13), .ref (ad 14), .ref (ad 15), .ref (ad 16), .ref (ad 17), .ref (ad 18), .int (nI tol), .int (nI ts), .int (nI tf), .int (nI td), .ref (ad 23), .ref (ad 24), .ref (ad 25), .ref (ad 26)])), (ad 23, .inl (cJ, 20000, .inr (.inl fo)))]) [0, 1] (by decide) rfl ?_
      exact z_iret X (t1 := .int) rfl rfl () (Or.inr ⟨hno, rfl⟩) rfl (Nat.le_of_ble_eq_true rfl) (Nat.le_of_ble_eq_true rfl) dX4_may_16
set_option maxHeartbeats 4000000 in
set_option maxRecDepth 100000 in
/-- a new reference -/
theorem r_init (l : Launch) (D : va_G) (cI cJ : ClassId) (sz : Nat) (mo : Nat) : KV l D cI cJ yX4_init cX4_init 1 none 1 20 21 220120 [.ref mo] [(mo, .inr (4, [.int (nI 0), .null, .null, .null, .null, .int (nI 0), .null, .null, .null, .null, .null, .null, .null, .null, .null, .null, .null, .null, .null, .int (nI 0), .int (nI 0), .int (nI 0), .int (nI 0), .null, .null, .null, .null]))] sz (S := Nat → Nat) (fun _ => True) (fun u => [(mo, .inr (4, [.int (nI 0), .ref (u 1), .ref (u 2), .ref (u 3), .ref (u 4), .int (nI 0), .ref (u 6), .ref (u 7), .ref (u 8), .ref (u 9), .ref (u 10), .ref (u 11), .ref (u 12), .ref (u 13), .ref (u 14), .ref (u 15), .ref (u 16), .ref (u 17), .ref (u 18), .int (nI 0), .int (nI 0), .int (nI 0), .int (nI 0), .ref (u 23), .ref (u 24), .ref (u 25), .ref (u 26)])), (u 1, .inl (cI, 4, .inl (fun _ => 0))), (u 2, .inl (cI, 24, .inl (fun _ => 0))), (u 3, .inl (cI, 24, .inl (fun _ => 0))), (u 4, .inl (cI, 24, .inl (fun _ => 0))), (u 6, .inl (cJ, 20000, .inr (.inl (fun _ => 0)))), (u 7, .inl (cJ, 20000, .inr (.inl (fun _ => 0)))), (u 8, .inl (cI, 20000, .inl (fun _ => 0))), (u 9, .inl (cI, 20000, .inl (fun _ => 0))), (u 10, .inl (cI, 20000, .inl (fun _ => 0))), (u 11, .inl (cI, 20000, .inl (fun _ => 0))), (u 12, .inl (cI, 20000, .inl (fun _ => 0))), (u 13, .inl (cI, 4, .inl (fun _ => 0))), (u 14, .inl (cI, 16, .inl (fun _ => 0))), (u 15, .inl (cI, 4, .inl (fun _ => 0))), (u 16, .inl (cI, 4, .inl (fun _ => 0))), (u 17, .inl (cI, 8, .inl (fun _ => 0))), (u 18, .inl (cI, 8, .inl (fun _ => 0))), (u 23, .inl (cJ, 20000, .inr (.inl (fun _ => 0)))), (u 24, .inl (cI, 20000, .inl (fun _ => 0))), (u 25, .inl (cJ, 20000, .inr (.inl (fun _ => 0)))), (u 26, .inl (cJ, 20000, .inr (.inl (fun _ => 0))))]) := by
  refine zMetV (lv := [(0, .ref mo)]) NS0_ok (by decide) rfl (Nat.le_of_ble_eq_true rfl) rfl ?_
  intro p e s m args below meth c A X hin hA
  refine z_aload_n X (pc' := 1) dX4_init_0 rfl 0 rfl rfl ?_
  refine z_objInit X (pc' := 4) mL_X4_1 mI_Object_init mK_Object_init dX4_init_1 (Nat.le_of_ble_eq_true rfl) (Nat.le_of_ble_eq_true rfl) rfl ?_
  refine z_aload_n X (pc' := 5) dX4_init_4 rfl 0 rfl rfl ?_
  refine z_iconst X (v := nI 4) (pc' := 6) dX4_init_5 (by decide) rfl ?_
  refine z_newi X (pc' := 8) 0 rfl mR_int (by decide) (Nat.le_of_ble_eq_true rfl) (Nat.le_of_ble_eq_true rfl) dX4_init_6 rfl (fun q6 => ?_)
  refine z_wse (ws' := [(mo, .inr (4, [.int (nI 0), .null, .null, .null, .null, .int (nI 0), .null, .null, .null, .null, .null, .null, .null, .null, .null, .null, .null, .null, .null, .int (nI 0), .int (nI 0), .int (nI 0), .int (nI 0), .null, .null, .null, .null])), (q6, .inl (cI, 4, .inl (fun _ => 0)))]) rfl ?_
  refine z_putF X hin (t1 := (.array .int)) (ws' := [(mo, .inr (4, [.int (nI 0), .ref q6, .null, .null, .null, .int (nI 0), .null, .null, .null, .null, .null, .null, .null, .null, .null, .null, .null, .null, .null, .int (nI 0), .int (nI 0), .int (nI 0), .int (nI 0), .null, .null, .null, .null])), (q6, .inl (cI, 4, .inl (fun _ => 0)))]) (pc' := 11) 0 rfl rfl inX4 tyX4 tyX4_ok nmX4 1 (by decide) mF_X4_7 rfl rfl (by decide +kernel) rfl rfl (Nat.le_of_ble_eq_true rfl) dX4_init_8 rfl rfl ?_
  refine z_aload_n X (pc' := 12) dX4_init_11 rfl 0 rfl rfl ?_
  refine z_bipush X (v := nI 24) (pc' := 14) dX4_init_12 (by decide) rfl ?_
  refine z_newi X (pc' := 16) 0 rfl mR_int (by decide) (Nat.le_of_ble_eq_true rfl) (Nat.le_of_ble_eq_true rfl) dX4_init_14 rfl (fun q14 => ?_)
  refine z_wse (ws' := [(mo, .inr (4, [.int (nI 0), .ref q6, .null, .null, .null, .int (nI 0), .null, .null, .null, .null, .null, .null, .null, .null, .null, .null, .null, .null, .null, .int (nI 0), .int (nI 0), .int (nI 0), .int (nI 0), .null, .null, .null, .null])), (q6, .inl (cI, 4, .inl (fun _ => 0))), (q14, .inl (cI, 24, .inl (fun _ => 0)))]) rfl ?_
  refine z_putF X hin (t1 := (.array .int)) (ws' := [(mo, .inr (4, [.int (nI 0), .ref q6, .ref q14, .null, .null, .int (nI 0), .null, .null, .null, .null, .null, .null, .null, .null, .null, .null, .null, .null, .null, .int (nI 0), .int (nI 0), .int (nI 0), .int (nI 0), .null, .null, .null, .null])), (q6, .inl (cI, 4, .inl (fun _ => 0))), (q14, .inl (cI, 24, .inl (fun _ => 0)))]) (pc' := 19) 0 rfl rfl inX4 tyX4 tyX4_ok nmX4 2 (by decide) mF_X4_13 rfl rfl (by decide +kernel) rfl rfl (Nat.le_of_ble_eq_true rfl) dX4_init_16 rfl rfl ?_
  refine z_aload_n X (pc' := 20) dX4_init_19 rfl 0 rfl rfl ?_
  refine z_bipush X (v := nI 24) (pc' := 22) dX4_init_20 (by decide) rfl ?_
  refine z_newi X (pc' := 24) 0 rfl mR_int (by decide) (Nat.le_of_ble_eq_true rfl) (Nat.le_of_ble_eq_true rfl) dX4_init_22 rfl (fun q22 => ?_)
  refine z_wse (ws' := [(mo, .inr (4, [.int (nI 0), .ref q6, .ref q14, .null, .null, .int (nI 0), .null, .null, .null, .null, .null, .null, .null, .null, .null, .null, .null, .null, .null, .int (nI 0), .int (nI 0), .int (nI 0), .int (nI 0), .null, .null, .null, .null])), (q6, .inl (cI, 4, .inl (fun _ => 0))), (q14, .inl (cI, 24, .inl (fun _ => 0))), (q22, .inl (cI, 24, .inl (fun _ => 0)))]) rfl ?_
  refine z_putF X hin (t1 := (.array .int)) (ws' := [(mo, .inr (4, [.int (nI 0), .ref q6, .ref q14, .ref q22, .null, .int (nI 0), .null, .null, .null, .null, .null, .null, .null, .null, .null, .null, .null, .null, .null, .int (nI 0), .int (nI 0), .int (nI 0), .int (nI 0), .null, .null, .null, .null])), (q6, .inl (cI, 4, .inl (fun _ => 0))), (q14, .inl (cI, 24, .inl (fun _ => 0))), (q22, .inl (cI, 24, .inl (fun _ => 0)))]) (pc' := 27) 0 rfl rfl inX4 tyX4 tyX4_ok nmX4 3 (by decide) mF_X4_16 rfl rfl (by decide +kernel) rfl rfl (Nat.le_of_ble_eq_true rfl) dX4_init_24 rfl rfl ?_
  refine z_aload_n X (pc' := 28) dX4_init_27 rfl 0 rfl rfl ?_
  refine z_bipush X (v := nI 24) (pc' := 30) dX4_init_28 (by decide) rfl ?_
  refine z_newi X (pc' := 32) 0 rfl mR_int (by decide) (Nat.le_of_ble_eq_true rfl) (Nat.le_of_ble_eq_true rfl) dX4_init_30 rfl (fun q30 => ?_)
  refine z_wse (ws' := [(mo, .inr (4, [.int (nI 0), .ref q6, .ref q14, .ref q22, .null, .int (nI 0), .null, .null, .null, .null, .null, .null, .null, .null, .null, .null, .null, .null, .null, .int (nI 0), .int (nI 0), .int (nI 0), .int (nI 0), .null, .null, .null, .null])), (q6, .inl (cI, 4, .inl (fun _ => 0))), (q14, .inl (cI, 24, .inl (fun _ => 0))), (q22, .inl (cI, 24, .inl (fun _ => 0))), (q30, .inl (cI, 24, .inl (fun _ => 0)))]) rfl ?_
  refine z_putF X hin (t1 := (.array .int)) (ws' := [(mo, .inr (4, [.int (nI 0), .ref q6, .ref q14, .ref q22, .ref q30, .int (nI 0), .null, .null, .null, .null, .null, .null, .null, .null, .null, .null, .null, .null, .null, .int (nI 0), .int (nI 0), .int (nI 0), .int (nI 0), .null, .null, .null, .null])), (q6, .inl (cI, 4, .inl (fun _ => 0))), (q14, .inl (cI, 24, .inl (fun _ => 0))), (q22, .inl (cI, 24, .inl (fun _ => 0))), (q30, .inl (cI, 24, .inl (fun _ => 0)))]) (pc' := 35) 0 rfl rfl inX4 tyX4 tyX4_ok nmX4 4 (by decide) mF_X4_19 rfl rfl (by decide +kernel) rfl rfl (Nat.le_of_ble_eq_true rfl) dX4_init_32 rfl rfl ?_
  refine z_aload_n X (pc' := 36) dX4_init_35 rfl 0 rfl rfl ?_
  refine z_sipush X (v := nI 20000) (pc' := 39) dX4_init_36 (by decide) rfl ?_
  refine z_newl X (pc' := 41) 1 rfl mR_long (by decide) (Nat.le_of_ble_eq_true rfl) (Nat.le_of_ble_eq_true rfl) dX4_init_39 rfl (fun q39 => ?_)
  refine z_wse (ws' := [(mo, .inr (4, [.int (nI 0), .ref q6, .ref q14, .ref q22, .ref q30, .int (nI 0), .null, .null, .null, .null, .null, .null, .null, .null, .null, .null, .null, .null, .null, .int (nI 0), .int (nI 0), .int (nI 0), .int (nI 0), .null, .null, .null, .null])), (q6, .inl (cI, 4, .inl (fun _ => 0))), (q14, .inl (cI, 24, .inl (fun _ => 0))), (q22, .inl (cI, 24, .inl (fun _ => 0))), (q30, .inl (cI, 24, .inl (fun _ => 0))), (q39, .inl (cJ, 20000, .inr (.inl (fun _ => 0))))]) rfl ?_
  refine z_putF X hin (t1 := (.array .long)) (ws' := [(mo, .inr (4, [.int (nI 0), .ref q6, .ref q14, .ref q22, .ref q30, .int (nI 0), .ref q39, .null, .null, .null, .null, .null, .null, .null, .null, .null, .null, .null, .null, .int (nI 0), .int (nI 0), .int (nI 0), .int (nI 0), .null, .null, .null, .null])), (q6, .inl (cI, 4, .inl (fun _ => 0))), (q14, .inl (cI, 24, .inl (fun _ => 0))), (q22, .inl (cI, 24, .inl (fun _ => 0))), (q30, .inl (cI, 24, .inl (fun _ => 0))), (q39, .inl (cJ, 20000, .inr (.inl (fun _ => 0))))]) (pc' := 44) 0 rfl rfl inX4 tyX4 tyX4_ok nmX4 6 (by decide) mF_X4_22 rfl rfl (by decide +kernel) rfl rfl (Nat.le_of_ble_eq_true rfl) dX4_init_41 rfl rfl ?_
  refine z_aload_n X (pc' := 45) dX4_init_44 rfl 0 rfl rfl ?_
  refine z_sipush X (v := nI 20000) (pc' := 48) dX4_init_45 (by decide) rfl ?_
  refine z_newl X (pc' := 50) 1 rfl mR_long (by decide) (Nat.le_of_ble_eq_true rfl) (Nat.le_of_ble_eq_true rfl) dX4_init_48 rfl (fun q48 => ?_)
  refine z_wse (ws' := [(mo, .inr (4, [.int (nI 0), .ref q6, .ref q14, .ref q22, .ref q30, .int (nI 0), .ref q39, .null, .null, .null, .null, .null, .null, .null, .null, .null, .null, .null, .null, .int (nI 0), .int (nI 0), .int (nI 0), .int (nI 0), .null, .null, .null, .null])), (q6, .inl (cI, 4, .inl (fun _ => 0))), (q14, .inl (cI, 24, .inl (fun _ => 0))), (q22, .inl (cI, 24, .inl (fun _ => 0))), (q30, .inl (cI, 24, .inl (fun _ => 0))), (q39, .inl (cJ, 20000, .inr (.inl (fun _ => 0)))), (q48, .inl (cJ, 20000, .inr (.inl (fun _ => 0))))]) rfl ?_
  refine z_putF X hin (t1 := (.array .long)) (ws' := [(mo, .inr (4, [.int (nI 0), .ref q6, .ref q14, .ref q22, .ref q30, .int (nI 0), .ref q39, .ref q48, .null, .null, .null, .null, .null, .null, .null, .null, .null, .null, .null, .int (nI 0), .int (nI 0), .int (nI 0), .int (nI 0), .null, .null, .null, .null])), (q6, .inl (cI, 4, .inl (fun _ => 0))), (q14, .inl (cI, 24, .inl (fun _ => 0))), (q22, .inl (cI, 24, .inl (fun _ => 0))), (q30, .inl (cI, 24, .inl (fun _ => 0))), (q39, .inl (cJ, 20000, .inr (.inl (fun _ => 0)))), (q48, .inl (cJ, 20000, .inr (.inl (fun _ => 0))))]) (pc' := 53) 0 rfl rfl inX4 tyX4 tyX4_ok nmX4 7 (by decide) mF_X4_26 rfl rfl (by decide +kernel) rfl rfl (Nat.le_of_ble_eq_true rfl) dX4_init_50 rfl rfl ?_
  refine z_aload_n X (pc' := 54) dX4_init_53 rfl 0 rfl rfl ?_
  refine z_sipush X (v := nI 20000) (pc' := 57) dX4_init_54 (by decide) rfl ?_
  refine z_newi X (pc' := 59) 0 rfl mR_int (by decide) (Nat.le_of_ble_eq_true rfl) (Nat.le_of_ble_eq_true rfl) dX4_init_57 rfl (fun q57 => ?_)
  refine z_wse (ws' := [(mo, .inr (4, [.int (nI 0), .ref q6, .ref q14, .ref q22, .ref q30, .int (nI 0), .ref q39, .ref q48, .null, .null, .null, .null, .null, .null, .null, .null, .null, .null, .null, .int (nI 0), .int (nI 0), .int (nI 0), .int (nI 0), .null, .null, .null, .null])), (q6, .inl (cI, 4, .inl (fun _ => 0))), (q14, .inl (cI, 24, .inl (fun _ => 0))), (q22, .inl (cI, 24, .inl (fun _ => 0))), (q30, .inl (cI, 24, .inl (fun _ => 0))), (q39, .inl (cJ, 20000, .inr (.inl (fun _ => 0)))), (q48, .inl (cJ, 20000, .inr (.inl (fun _ => 0)))), (q57, .inl (cI, 20000, .inl (fun _ => 0)))]) rfl ?_
  refine z_putF X hin (t1 := (.array .int)) (ws' := [(mo, .inr (4, [.int (nI 0), .ref q6, .ref q14, .ref q22, .ref q30, .int (nI 0), .ref q39, .ref q48, .ref q57, .null, .null, .null, .null, .null, .null, .null, .null, .null, .null, .int (nI 0), .int (nI 0), .int (nI 0), .int (nI 0), .null, .null, .null, .null])), (q6, .inl (cI, 4, .inl (fun _ => 0))), (q14, .inl (cI, 24, .inl (fun _ => 0))), (q22, .inl (cI, 24, .inl (fun _ => 0))), (q30, .inl (cI, 24, .inl (fun _ => 0))), (q39, .inl (cJ, 20000, .inr (.inl (fun _ => 0)))), (q48, .inl (cJ, 20000, .inr (.inl (fun _ => 0)))), (q57, .inl (cI, 20000, .inl (fun _ => 0)))]) (pc' := 62) 0 rfl rfl inX4 tyX4 tyX4_ok nmX4 8 (by decide) mF_X4_29 rfl rfl (by decide +kernel) rfl rfl (Nat.le_of_ble_eq_true rfl) dX4_init_59 rfl rfl ?_
  refine z_aload_n X (pc' := 63) dX4_init_62 rfl 0 rfl rfl ?_
  refine z_sipush X (v := nI 20000) (pc' := 66) dX4_init_63 (by decide) rfl ?_
  refine z_newi X (pc' := 68) 0 rfl mR_int (by decide) (Nat.le_of_ble_eq_true rfl) (Nat.le_of_ble_eq_true rfl) dX4_init_66 rfl (fun q66 => ?_)
  refine z_wse (ws' := [(mo, .inr (4, [.int (nI 0), .ref q6, .ref q14, .ref q22, .ref q30, .int (nI 0), .ref q39, .ref q48, .ref q57, .null, .null, .null, .null, .null, .null, .null, .null, .null, .null, .int (nI 0), .int (nI 0), .int (nI 0), .int (nI 0), .null, .null, .null, .null])), (q6, .inl (cI, 4, .inl (fun _ => 0))), (q14, .inl (cI, 24, .inl (fun _ => 0))), (q22, .inl (cI, 24, .inl (fun _ => 0))), (q30, .inl (cI, 24, .inl (fun _ => 0))), (q39, .inl (cJ, 20000, .inr (.inl (fun _ => 0)))), (q48, .inl (cJ, 20000, .inr (.inl (fun _ => 0)))), (q57, .inl (cI, 20000, .inl (fun _ => 0))), (q66, .inl (cI, 20000, .inl (fun _ => 0)))]) rfl ?_
  refine z_putF X hin (t1 := (.array .int)) (ws' := [(mo, .inr (4, [.int (nI 0), .ref q6, .ref q14, .ref q22, .ref q30, .int (nI 0), .ref q39, .ref q48, .ref q57, .ref q66, .null, .null, .null, .null, .null, .null, .null, .null, .null, .int (nI 0), .int (nI 0), .int (nI 0), .int (nI 0), .null, .null, .null, .null])), (q6, .inl (cI, 4, .inl (fun _ => 0))), (q14, .inl (cI, 24, .inl (fun _ => 0))), (q22, .inl (cI, 24, .inl (fun _ => 0))), (q30, .inl (cI, 24, .inl (fun _ => 0))), (q39, .inl (cJ, 20000, .inr (.inl (fun _ => 0)))), (q48, .inl (cJ, 20000, .inr (.inl (fun _ => 0)))), (q57, .inl (cI, 20000, .inl (fun _ => 0))), (q66, .inl (cI, 20000, .inl (fun _ => 0)))]) (pc' := 71) 0 rfl rfl inX4 tyX4 tyX4_ok nmX4 9 (by decide) mF_X4_32 rfl rfl (by decide +kernel) rfl rfl (Nat.le_of_ble_eq_true rfl) dX4_init_68 rfl rfl ?_
  refine z_aload_n X (pc' := 72) dX4_init_71 rfl 0 rfl rfl ?_
  refine z_sipush X (v := nI 20000) (pc' := 75) dX4_init_72 (by decide) rfl ?_
  refine z_newi X (pc' := 77) 0 rfl mR_int (by decide) (Nat.le_of_ble_eq_true rfl) (Nat.le_of_ble_eq_true rfl) dX4_init_75 rfl (fun q75 => ?_)
  refine z_wse (ws' := [(mo, .inr (4, [.int (nI 0), .ref q6, .ref q14, .ref q22, .ref q30, .int (nI 0), .ref q39, .ref q48, .ref q57, .ref q66, .null, .null, .null, .null, .null, .null, .null, .null, .null, .int (nI 0), .int (nI 0), .int (nI 0), .int (nI 0), .null, .null, .null, .null])), (q6, .inl (cI, 4, .inl (fun _ => 0))), (q14, .inl (cI, 24, .inl (fun _ => 0))), (q22, .inl (cI, 24, .inl (fun _ => 0))), (q30, .inl (cI, 24, .inl (fun _ => 0))), (q39, .inl (cJ, 20000, .inr (.inl (fun _ => 0)))), (q48, .inl (cJ, 20000, .inr (.inl (fun _ => 0)))), (q57, .inl (cI, 20000, .inl (fun _ => 0))), (q66, .inl (cI, 20000, .inl (fun _ => 0))), (q75, .inl (cI, 20000, .inl (fun _ => 0)))]) rfl ?_
  refine z_putF X hin (t1 := (.array .int)) (ws' := [(mo, .inr (4, [.int (nI 0), .ref q6, .ref q14, .ref q22, .ref q30, .int (nI 0), .ref q39, .ref q48, .ref q57, .ref q66, .ref q75, .null, .null, .null, .null, .null, .null, .null, .null, .int (nI 0), .int (nI 0), .int (nI 0), .int (nI 0), .null, .null, .null, .null])), (q6, .inl (cI, 4, .inl (fun _ => 0))), (q14, .inl (cI, 24, .inl (fun _ => 0))), (q22, .inl (cI, 24, .inl (fun _ => 0))), (q30, .inl (cI, 24, .inl (fun _ => 0))), (q39, .inl (cJ, 20000, .inr (.inl (fun _ => 0)))), (q48, .inl (cJ, 20000, .inr (.inl (fun _ => 0)))), (q57, .inl (cI, 20000, .inl (fun _ => 0))), (q66, .inl (cI, 20000, .inl (fun _ => 0))), (q75, .inl (cI, 20000, .inl (fun _ => 0)))]) (pc' := 80) 0 rfl rfl inX4 tyX4 tyX4_ok nmX4 10 (by decide) mF_X4_35 rfl rfl (by decide +kernel) rfl rfl (Nat.le_of_ble_eq_true rfl) dX4_init_77 rfl rfl ?_
  refine z_aload_n X (pc' := 81) dX4_init_80 rfl 0 rfl rfl ?_
  refine z_sipush X (v := nI 20000) (pc' := 84) dX4_init_81 (by decide) rfl ?_
  refine z_newi X (pc' := 86) 0 rfl mR_int (by decide) (Nat.le_of_ble_eq_true rfl) (Nat.le_of_ble_eq_true rfl) dX4_init_84 rfl (fun q84 => ?_)
  refine z_wse (ws' := [(mo, .inr (4, [.int (nI 0), .ref q6, .ref q14, .ref q22, .ref q30, .int (nI 0), .ref q39, .ref q48, .ref q57, .ref q66, .ref q75, .null, .null, .null, .null, .null, .null, .null, .null, .int (nI 0), .int (nI 0), .int (nI 0), .int (nI 0), .null, .null, .null, .null])), (q6, .inl (cI, 4, .inl (fun _ => 0))), (q14, .inl (cI, 24, .inl (fun _ => 0))), (q22, .inl (cI, 24, .inl (fun _ => 0))), (q30, .inl (cI, 24, .inl (fun _ => 0))), (q39, .inl (cJ, 20000, .inr (.inl (fun _ => 0)))), (q48, .inl (cJ, 20000, .inr (.inl (fun _ => 0)))), (q57, .inl (cI, 20000, .inl (fun _ => 0))), (q66, .inl (cI, 20000, .inl (fun _ => 0))), (q75, .inl (cI, 20000, .inl (fun _ => 0))), (q84, .inl (cI, 20000, .inl (fun _ => 0)))]) rfl ?_
  refine z_putF X hin (t1 := (.array .int)) (ws' := [(mo, .inr (4, [.int (nI 0), .ref q6, .ref q14, .ref q22, .ref q30, .int (nI 0), .ref q39, .ref q48, .ref q57, .ref q66, .ref q75, .ref q84, .null, .null, .null, .null, .null, .null, .null, .int (nI 0), .int (nI 0), .int (nI 0), .int (nI 0), .null, .null, .null, .null])), (q6, .inl (cI, 4, .inl (fun _ => 0))), (q14, .inl (cI, 24, .inl (fun _ => 0))), (q22, .inl (cI, 24, .inl (fun _ => 0))), (q30, .inl (cI, 24, .inl (fun _ => 0))), (q39, .inl (cJ, 20000, .inr (.inl (fun _ => 0)))), (q48, .inl (cJ, 20000, .inr (.inl (fun _ => 0)))), (q57, .inl (cI, 20000, .inl (fun _ => 0))), (q66, .inl (cI, 20000, .inl (fun _ => 0))), (q75, .inl (cI, 20000, .inl (fun _ => 0))), (q84, .inl (cI, 20000, .inl (fun _ => 0)))]) (pc' := 89) 0 rfl rfl inX4 tyX4 tyX4_ok nmX4 11 (by decide) mF_X4_38 rfl rfl (by decide +kernel) rfl rfl (Nat.le_of_ble_eq_true rfl) dX4_init_86 rfl rfl ?_
  refine z_aload_n X (pc' := 90) dX4_init_89 rfl 0 rfl rfl ?_
  refine z_sipush X (v := nI 20000) (pc' := 93) dX4_init_90 (by decide) rfl ?_
  refine z_newi X (pc' := 95) 0 rfl mR_int (by decide) (Nat.le_of_ble_eq_true rfl) (Nat.le_of_ble_eq_true rfl) dX4_init_93 rfl (fun q93 => ?_)
  refine z_wse (ws' := [(mo, .inr (4, [.int (nI 0), .ref q6, .ref q14, .ref q22, .ref q30, .int (nI 0), .ref q39, .ref q48, .ref q57, .ref q66, .ref q75, .ref q84, .null, .null, .null, .null, .null, .null, .null, .int (nI 0), .int (nI 0), .int (nI 0), .int (nI 0), .null, .null, .null, .null])), (q6, .inl (cI, 4, .inl (fun _ => 0))), (q14, .inl (cI, 24, .inl (fun _ => 0))), (q22, .inl (cI, 24, .inl (fun _ => 0))), (q30, .inl (cI, 24, .inl (fun _ => 0))), (q39, .inl (cJ, 20000, .inr (.inl (fun _ => 0)))), (q48, .inl (cJ, 20000, .inr (.inl (fun _ => 0)))), (q57, .inl (cI, 20000, .inl (fun _ => 0))), (q66, .inl (cI, 20000, .inl (fun _ => 0))), (q75, .inl (cI, 20000, .inl (fun _ => 0))), (q84, .inl (cI, 20000, .inl (fun _ => 0))), (q93, .inl (cI, 20000, .inl (fun _ => 0)))]) rfl ?_
  refine z_putF X hin (t1 := (.array .int)) (ws' := [(mo, .inr (4, [.int (nI 0), .ref q6, .ref q14, .ref q22, .ref q30, .int (nI 0), .ref q39, .ref q48, .ref q57, .ref q66, .ref q75, .ref q84, .ref q93, .null, .null, .null, .null, .null, .null, .int (nI 0), .int (nI 0), .int (nI 0), .int (nI 0), .null, .null, .null, .null])), (q6, .inl (cI, 4, .inl (fun _ => 0))), (q14, .inl (cI, 24, .inl (fun _ => 0))), (q22, .inl (cI, 24, .inl (fun _ => 0))), (q30, .inl (cI, 24, .inl (fun _ => 0))), (q39, .inl (cJ, 20000, .inr (.inl (fun _ => 0)))), (q48, .inl (cJ, 20000, .inr (.inl (fun _ => 0)))), (q57, .inl (cI, 20000, .inl (fun _ => 0))), (q66, .inl (cI, 20000, .inl (fun _ => 0))), (q75, .inl (cI, 20000, .inl (fun _ => 0))), (q84, .inl (cI, 20000, .inl (fun _ => 0))), (q93, .inl (cI, 20000, .inl (fun _ => 0)))]) (pc' := 98) 0 rfl rfl inX4 tyX4 tyX4_ok nmX4 12 (by decide) mF_X4_41 rfl rfl (by decide +kernel) rfl rfl (Nat.le_of_ble_eq_true rfl) dX4_init_95 rfl rfl ?_
  refine z_aload_n X (pc' := 99) dX4_init_98 rfl 0 rfl rfl ?_
  refine z_iconst X (v := nI 4) (pc' := 100) dX4_init_99 (by decide) rfl ?_
  refine z_newi X (pc' := 102) 0 rfl mR_int (by decide) (Nat.le_of_ble_eq_true rfl) (Nat.le_of_ble_eq_true rfl) dX4_init_100 rfl (fun q100 => ?_)
  refine z_wse (ws' := [(mo, .inr (4, [.int (nI 0), .ref q6, .ref q14, .ref q22, .ref q30, .int (nI 0), .ref q39, .ref q48, .ref q57, .ref q66, .ref q75, .ref q84, .ref q93, .null, .null, .null, .null, .null, .null, .int (nI 0), .int (nI 0), .int (nI 0), .int (nI 0), .null, .null, .null, .null])), (q6, .inl (cI, 4, .inl (fun _ => 0))), (q14, .inl (cI, 24, .inl (fun _ => 0))), (q22, .inl (cI, 24, .inl (fun _ => 0))), (q30, .inl (cI, 24, .inl (fun _ => 0))), (q39, .inl (cJ, 20000, .inr (.inl (fun _ => 0)))), (q48, .inl (cJ, 20000, .inr (.inl (fun _ => 0)))), (q57, .inl (cI, 20000, .inl (fun _ => 0))), (q66, .inl (cI, 20000, .inl (fun _ => 0))), (q75, .inl (cI, 20000, .inl (fun _ => 0))), (q84, .inl (cI, 20000, .inl (fun _ => 0))), (q93, .inl (cI, 20000, .inl (fun _ => 0))), (q100, .inl (cI, 4, .inl (fun _ => 0)))]) rfl ?_
  refine z_putF X hin (t1 := (.array .int)) (ws' := [(mo, .inr (4, [.int (nI 0), .ref q6, .ref q14, .ref q22, .ref q30, .int (nI 0), .ref q39, .ref q48, .ref q57, .ref q66, .ref q75, .ref q84, .ref q93, .ref q100, .null, .null, .null, .null, .null, .int (nI 0), .int (nI 0), .int (nI 0), .int (nI 0), .null, .null, .null, .null])), (q6, .inl (cI, 4, .inl (fun _ => 0))), (q14, .inl (cI, 24, .inl (fun _ => 0))), (q22, .inl (cI, 24, .inl (fun _ => 0))), (q30, .inl (cI, 24, .inl (fun _ => 0))), (q39, .inl (cJ, 20000, .inr (.inl (fun _ => 0)))), (q48, .inl (cJ, 20000, .inr (.inl (fun _ => 0)))), (q57, .inl (cI, 20000, .inl (fun _ => 0))), (q66, .inl (cI, 20000, .inl (fun _ => 0))), (q75, .inl (cI, 20000, .inl (fun _ => 0))), (q84, .inl (cI, 20000, .inl (fun _ => 0))), (q93, .inl (cI, 20000, .inl (fun _ => 0))), (q100, .inl (cI, 4, .inl (fun _ => 0)))]) (pc' := 105) 0 rfl rfl inX4 tyX4 tyX4_ok nmX4 13 (by decide) mF_X4_44 rfl rfl (by decide +kernel) rfl rfl (Nat.le_of_ble_eq_true rfl) dX4_init_102 rfl rfl ?_
  refine z_aload_n X (pc' := 106) dX4_init_105 rfl 0 rfl rfl ?_
  refine z_bipush X (v := nI 16) (pc' := 108) dX4_init_106 (by decide) rfl ?_
  refine z_newi X (pc' := 110) 0 rfl mR_int (by decide) (Nat.le_of_ble_eq_true rfl) (Nat.le_of_ble_eq_true rfl) dX4_init_108 rfl (fun q108 => ?_)
  refine z_wse (ws' := [(mo, .inr (4, [.int (nI 0), .ref q6, .ref q14, .ref q22, .ref q30, .int (nI 0), .ref q39, .ref q48, .ref q57, .ref q66, .ref q75, .ref q84, .ref q93, .ref q100, .null, .null, .null, .null, .null, .int (nI 0), .int (nI 0), .int (nI 0), .int (nI 0), .null, .null, .null, .null])), (q6, .inl (cI, 4, .inl (fun _ => 0))), (q14, .inl (cI, 24, .inl (fun _ => 0))), (q22, .inl (cI, 24, .inl (fun _ => 0))), (q30, .inl (cI, 24, .inl (fun _ => 0))), (q39, .inl (cJ, 20000, .inr (.inl (fun _ => 0)))), (q48, .inl (cJ, 20000, .inr (.inl (fun _ => 0)))), (q57, .inl (cI, 20000, .inl (fun _ => 0))), (q66, .inl (cI, 20000, .inl (fun _ => 0))), (q75, .inl (cI, 20000, .inl (fun _ => 0))), (q84, .inl (cI, 20000, .inl (fun _ => 0))), (q93, .inl (cI, 20000, .inl (fun _ => 0))), (q100, .inl (cI, 4, .inl (fun _ => 0))), (q108, .inl (cI, 16, .inl (fun _ => 0)))]) rfl ?_
  refine z_putF X hin (t1 := (.array .int)) (ws' := [(mo, .inr (4, [.int (nI 0), .ref q6, .ref q14, .ref q22, .ref q30, .int (nI 0), .ref q39, .ref q48, .ref q57, .ref q66, .ref q75, .ref q84, .ref q93, .ref q100, .ref q108, .null, .null, .null, .null, .int (nI 0), .int (nI 0), .int (nI 0), .int (nI 0), .null, .null, .null, .null])), (q6, .inl (cI, 4, .inl (fun _ => 0))), (q14, .inl (cI, 24, .inl (fun _ => 0))), (q22, .inl (cI, 24, .inl (fun _ => 0))), (q30, .inl (cI, 24, .inl (fun _ => 0))), (q39, .inl (cJ, 20000, .inr (.inl (fun _ => 0)))), (q48, .inl (cJ, 20000, .inr (.inl (fun _ => 0)))), (q57, .inl (cI, 20000, .inl (fun _ => 0))), (q66, .inl (cI, 20000, .inl (fun _ => 0))), (q75, .inl (cI, 20000, .inl (fun _ => 0))), (q84, .inl (cI, 20000, .inl (fun _ => 0))), (q93, .inl (cI, 20000, .inl (fun _ => 0))), (q100, .inl (cI, 4, .inl (fun _ => 0))), (q108, .inl (cI, 16, .inl (fun _ => 0)))]) (pc' := 113) 0 rfl rfl inX4 tyX4 tyX4_ok nmX4 14 (by decide) mF_X4_47 rfl rfl (by decide +kernel) rfl rfl (Nat.le_of_ble_eq_true rfl) dX4_init_110 rfl rfl ?_
  refine z_aload_n X (pc' := 114) dX4_init_113 rfl 0 rfl rfl ?_
  refine z_iconst X (v := nI 4) (pc' := 115) dX4_init_114 (by decide) rfl ?_
  refine z_newi X (pc' := 117) 0 rfl mR_int (by decide) (Nat.le_of_ble_eq_true rfl) (Nat.le_of_ble_eq_true rfl) dX4_init_115 rfl (fun q115 => ?_)
  refine z_wse (ws' := [(mo, .inr (4, [.int (nI 0), .ref q6, .ref q14, .ref q22, .ref q30, .int (nI 0), .ref q39, .ref q48, .ref q57, .ref q66, .ref q75, .ref q84, .ref q93, .ref q100, .ref q108, .null, .null, .null, .null, .int (nI 0), .int (nI 0), .int (nI 0), .int (nI 0), .null, .null, .null, .null])), (q6, .inl (cI, 4, .inl (fun _ => 0))), (q14, .inl (cI, 24, .inl (fun _ => 0))), (q22, .inl (cI, 24, .inl (fun _ => 0))), (q30, .inl (cI, 24, .inl (fun _ => 0))), (q39, .inl (cJ, 20000, .inr (.inl (fun _ => 0)))), (q48, .inl (cJ, 20000, .inr (.inl (fun _ => 0)))), (q57, .inl (cI, 20000, .inl (fun _ => 0))), (q66, .inl (cI, 20000, .inl (fun _ => 0))), (q75, .inl (cI, 20000, .inl (fun _ => 0))), (q84, .inl (cI, 20000, .inl (fun _ => 0))), (q93, .inl (cI, 20000, .inl (fun _ => 0))), (q100, .inl (cI, 4, .inl (fun _ => 0))), (q108, .inl (cI, 16, .inl (fun _ => 0))), (q115, .inl (cI, 4, .inl (fun _ => 0)))]) rfl ?_
  refine z_putF X hin (t1 := (.array .int)) (ws' := [(mo, .inr (4, [.int (nI 0), .ref q6, .ref q14, .ref q22, .ref q30, .int (nI 0), .ref q39, .ref q48, .ref q57, .ref q66, .ref q75, .ref q84, .ref q93, .ref q100, .ref q108, .ref q115, .null, .null, .null, .int (nI 0), .int (nI 0), .int (nI 0), .int (nI 0), .null, .null, .null, .null])), (q6, .inl (cI, 4, .inl (fun _ => 0))), (q14, .inl (cI, 24, .inl (fun _ => 0))), (q22, .inl (cI, 24, .inl (fun _ => 0))), (q30, .inl (cI, 24, .inl (fun _ => 0))), (q39, .inl (cJ, 20000, .inr (.inl (fun _ => 0)))), (q48, .inl (cJ, 20000, .inr (.inl (fun _ => 0)))), (q57, .inl (cI, 20000, .inl (fun _ => 0))), (q66, .inl (cI, 20000, .inl (fun _ => 0))), (q75, .inl (cI, 20000, .inl (fun _ => 0))), (q84, .inl (cI, 20000, .inl (fun _ => 0))), (q93, .inl (cI, 20000, .inl (fun _ => 0))), (q100, .inl (cI, 4, .inl (fun _ => 0))), (q108, .inl (cI, 16, .inl (fun _ => 0))), (q115, .inl (cI, 4, .inl (fun _ => 0)))]) (pc' := 120) 0 rfl rfl inX4 tyX4 tyX4_ok nmX4 15 (by decide) mF_X4_50 rfl rfl (by decide +kernel) rfl rfl (Nat.le_of_ble_eq_true rfl) dX4_init_117 rfl rfl ?_
  refine z_aload_n X (pc' := 121) dX4_init_120 rfl 0 rfl rfl ?_
  refine z_iconst X (v := nI 4) (pc' := 122) dX4_init_121 (by decide) rfl ?_
  refine z_newi X (pc' := 124) 0 rfl mR_int (by decide) (Nat.le_of_ble_eq_true rfl) (Nat.le_of_ble_eq_true rfl) dX4_init_122 rfl (fun q122 => ?_)
  refine z_wse (ws' := [(mo, .inr (4, [.int (nI 0), .ref q6, .ref q14, .ref q22, .ref q30, .int (nI 0), .ref q39, .ref q48, .ref q57, .ref q66, .ref q75, .ref q84, .ref q93, .ref q100, .ref q108, .ref q115, .null, .null, .null, .int (nI 0), .int (nI 0), .int (nI 0), .int (nI 0), .null, .null, .null, .null])), (q6, .inl (cI, 4, .inl (fun _ => 0))), (q14, .inl (cI, 24, .inl (fun _ => 0))), (q22, .inl (cI, 24, .inl (fun _ => 0))), (q30, .inl (cI, 24, .inl (fun _ => 0))), (q39, .inl (cJ, 20000, .inr (.inl (fun _ => 0)))), (q48, .inl (cJ, 20000, .inr (.inl (fun _ => 0)))), (q57, .inl (cI, 20000, .inl (fun _ => 0))), (q66, .inl (cI, 20000, .inl (fun _ => 0))), (q75, .inl (cI, 20000, .inl (fun _ => 0))), (q84, .inl (cI, 20000, .inl (fun _ => 0))), (q93, .inl (cI, 20000, .inl (fun _ => 0))), (q100, .inl (cI, 4, .inl (fun _ => 0))), (q108, .inl (cI, 16, .inl (fun _ => 0))), (q115, .inl (cI, 4, .inl (fun _ => 0))), (q122, .inl (cI, 4, .inl (fun _ => 0)))]) rfl ?_
  refine z_putF X hin (t1 := (.array .int)) (ws' := [(mo, .inr (4, [.int (nI 0), .ref q6, .ref q14, .ref q22, .ref q30, .int (nI 0), .ref q39, .ref q48, .ref q57, .ref q66, .ref q75, .ref q84, .ref q93, .ref q100, .ref q108, .ref q115, .ref q122, .null, .null, .int (nI 0), .int (nI 0), .int (nI 0), .int (nI 0), .null, .null, .null, .null])), (q6, .inl (cI, 4, .inl (fun _ => 0))), (q14, .inl (cI, 24, .inl (fun _ => 0))), (q22, .inl (cI, 24, .inl (fun _ => 0))), (q30, .inl (cI, 24, .inl (fun _ => 0))), (q39, .inl (cJ, 20000, .inr (.inl (fun _ => 0)))), (q48, .inl (cJ, 20000, .inr (.inl (fun _ => 0)))), (q57, .inl (cI, 20000, .inl (fun _ => 0))), (q66, .inl (cI, 20000, .inl (fun _ => 0))), (q75, .inl (cI, 20000, .inl (fun _ => 0))), (q84, .inl (cI, 20000, .inl (fun _ => 0))), (q93, .inl (cI, 20000, .inl (fun _ => 0))), (q100, .inl (cI, 4, .inl (fun _ => 0))), (q108, .inl (cI, 16, .inl (fun _ => 0))), (q115, .inl (cI, 4, .inl (fun _ => 0))), (q122, .inl (cI, 4, .inl (fun _ => 0)))]) (pc' := 127) 0 rfl rfl inX4 tyX4 tyX4_ok nmX4 16 (by decide) mF_X4_53 rfl rfl (by decide +kernel) rfl rfl (Nat.le_of_ble_eq_true rfl) dX4_init_124 rfl rfl ?_
  refine z_aload_n X (pc' := 128) dX4_init_127 rfl 0 rfl rfl ?_
  refine z_bipush X (v := nI 8) (pc' := 130) dX4_init_128 (by decide) rfl ?_
  refine z_newi X (pc' := 132) 0 rfl mR_int (by decide) (Nat.le_of_ble_eq_true rfl) (Nat.le_of_ble_eq_true rfl) dX4_init_130 rfl (fun q130 => ?_)
  refine z_wse (ws' := [(mo, .inr (4, [.int (nI 0), .ref q6, .ref q14, .ref q22, .ref q30, .int (nI 0), .ref q39, .ref q48, .ref q57, .ref q66, .ref q75, .ref q84, .ref q93, .ref q100, .ref q108, .ref q115, .ref q122, .null, .null, .int (nI 0), .int (nI 0), .int (nI 0), .int (nI 0), .null, .null, .null, .null])), (q6, .inl (cI, 4, .inl (fun _ => 0))), (q14, .inl (cI, 24, .inl (fun _ => 0))), (q22, .inl (cI, 24, .inl (fun _ => 0))), (q30, .inl (cI, 24, .inl (fun _ => 0))), (q39, .inl (cJ, 20000, .inr (.inl (fun _ => 0)))), (q48, .inl (cJ, 20000, .inr (.inl (fun _ => 0)))), (q57, .inl (cI, 20000, .inl (fun _ => 0))), (q66, .inl (cI, 20000, .inl (fun _ => 0))), (q75, .inl (cI, 20000, .inl (fun _ => 0))), (q84, .inl (cI, 20000, .inl (fun _ => 0))), (q93, .inl (cI, 20000, .inl (fun _ => 0))), (q100, .inl (cI, 4, .inl (fun _ => 0))), (q108, .inl (cI, 16, .inl (fun _ => 0))), (q115, .inl (cI, 4, .inl (fun _ => 0))), (q122, .inl (cI, 4, .inl (fun _ => 0))), (q130, .inl (cI, 8, .inl (fun _ => 0)))]) rfl ?_
  refine z_putF X hin (t1 := (.array .int)) (ws' := [(mo, .inr (4, [.int (nI 0), .ref q6, .ref q14, .ref q22, .ref q30, .int (nI 0), .ref q39, .ref q48, .ref q57, .ref q66, .ref q75, .ref q84, .ref q93, .ref q100, .ref q108, .ref q115, .ref q122, .ref q130, .null, .int (nI 0), .int (nI 0), .int (nI 0), .int (nI 0), .null, .null, .null, .null])), (q6, .inl (cI, 4, .inl (fun _ => 0))), (q14, .inl (cI, 24, .inl (fun _ => 0))), (q22, .inl (cI, 24, .inl (fun _ => 0))), (q30, .inl (cI, 24, .inl (fun _ => 0))), (q39, .inl (cJ, 20000, .inr (.inl (fun _ => 0)))), (q48, .inl (cJ, 20000, .inr (.inl (fun _ => 0)))), (q57, .inl (cI, 20000, .inl (fun _ => 0))), (q66, .inl (cI, 20000, .inl (fun _ => 0))), (q75, .inl (cI, 20000, .inl (fun _ => 0))), (q84, .inl (cI, 20000, .inl (fun _ => 0))), (q93, .inl (cI, 20000, .inl (fun _ => 0))), (q100, .inl (cI, 4, .inl (fun _ => 0))), (q108, .inl (cI, 16, .inl (fun _ => 0))), (q115, .inl (cI, 4, .inl (fun _ => 0))), (q122, .inl (cI, 4, .inl (fun _ => 0))), (q130, .inl (cI, 8, .inl (fun _ => 0)))]) (pc' := 135) 0 rfl rfl inX4 tyX4 tyX4_ok nmX4 17 (by decide) mF_X4_56 rfl rfl (by decide +kernel) rfl rfl (Nat.le_of_ble_eq_true rfl) dX4_init_132 rfl rfl ?_
  refine z_aload_n X (pc' := 136) dX4_init_135 rfl 0 rfl rfl ?_
  refine z_bipush X (v := nI 8) (pc' := 138) dX4_init_136 (by decide) rfl ?_
  refine z_newi X (pc' := 140) 0 rfl mR_int (by decide) (Nat.le_of_ble_eq_true rfl) (Nat.le_of_ble_eq_true rfl) dX4_init_138 rfl (fun q138 => ?_)
  refine z_wse (ws' := [(mo, .inr (4, [.int (nI 0), .ref q6, .ref q14, .ref q22, .ref q30, .int (nI 0), .ref q39, .ref q48, .ref q57, .ref q66, .ref q75, .ref q84, .ref q93, .ref q100, .ref q108, .ref q115, .ref q122, .ref q130, .null, .int (nI 0), .int (nI 0), .int (nI 0), .int (nI 0), .null, .null, .null, .null])), (q6, .inl (cI, 4, .inl (fun _ => 0))), (q14, .inl (cI, 24, .inl (fun _ => 0))), (q22, .inl (cI, 24, .inl (fun _ => 0))), (q30, .inl (cI, 24, .inl (fun _ => 0))), (q39, .inl (cJ, 20000, .inr (.inl (fun _ => 0)))), (q48, .inl (cJ, 20000, .inr (.inl (fun _ => 0)))), (q57, .inl (cI, 20000, .inl (fun _ => 0))), (q66, .inl (cI, 20000, .inl (fun _ => 0))), (q75, .inl (cI, 20000, .inl (fun _ => 0))), (q84, .inl (cI, 20000, .inl (fun _ => 0))), (q93, .inl (cI, 20000, .inl (fun _ => 0))), (q100, .inl (cI, 4, .inl (fun _ => 0))), (q108, .inl (cI, 16, .inl (fun _ => 0))), (q115, .inl (cI, 4, .inl (fun _ => 0))), (q122, .inl (cI, 4, .inl (fun _ => 0))), (q130, .inl (cI, 8, .inl (fun _ => 0))), (q138, .inl (cI, 8, .inl (fun _ => 0)))]) rfl ?_
  refine z_putF X hin (t1 := (.array .int)) (ws' := [(mo, .inr (4, [.int (nI 0), .ref q6, .ref q14, .ref q22, .ref q30, .int (nI 0), .ref q39, .ref q48, .ref q57, .ref q66, .ref q75, .ref q84, .ref q93, .ref q100, .ref q108, .ref q115, .ref q122, .ref q130, .ref q138, .int (nI 0), .int (nI 0), .int (nI 0), .int (nI 0), .null, .null, .null, .null])), (q6, .inl (cI, 4, .inl (fun _ => 0))), (q14, .inl (cI, 24, .inl (fun _ => 0))), (q22, .inl (cI, 24, .inl (fun _ => 0))), (q30, .inl (cI, 24, .inl (fun _ => 0))), (q39, .inl (cJ, 20000, .inr (.inl (fun _ => 0)))), (q48, .inl (cJ, 20000, .inr (.inl (fun _ => 0)))), (q57, .inl (cI, 20000, .inl (fun _ => 0))), (q66, .inl (cI, 20000, .inl (fun _ => 0))), (q75, .inl (cI, 20000, .inl (fun _ => 0))), (q84, .inl (cI, 20000, .inl (fun _ => 0))), (q93, .inl (cI, 20000, .inl (fun _ => 0))), (q100, .inl (cI, 4, .inl (fun _ => 0))), (q108, .inl (cI, 16, .inl (fun _ => 0))), (q115, .inl (cI, 4, .inl (fun _ => 0))), (q122, .inl (cI, 4, .inl (fun _ => 0))), (q130, .inl (cI, 8, .inl (fun _ => 0))), (q138, .inl (cI, 8, .inl (fun _ => 0)))]) (pc' := 143) 0 rfl rfl inX4 tyX4 tyX4_ok nmX4 18 (by decide) mF_X4_59 rfl rfl (by decide +kernel) rfl rfl (Nat.le_of_ble_eq_true rfl) dX4_init_140 rfl rfl ?_
  refine z_aload_n X (pc' := 144) dX4_init_143 rfl 0 rfl rfl ?_
  refine z_sipush X (v := nI 20000) (pc' := 147) dX4_init_144 (by decide) rfl ?_
  refine z_newl X (pc' := 149) 1 rfl mR_long (by decide) (Nat.le_of_ble_eq_true rfl) (Nat.le_of_ble_eq_true rfl) dX4_init_147 rfl (fun q147 => ?_)
  refine z_wse (ws' := [(mo, .inr (4, [.int (nI 0), .ref q6, .ref q14, .ref q22, .ref q30, .int (nI 0), .ref q39, .ref q48, .ref q57, .ref q66, .ref q75, .ref q84, .ref q93, .ref q100, .ref q108, .ref q115, .ref q122, .ref q130, .ref q138, .int (nI 0), .int (nI 0), .int (nI 0), .int (nI 0), .null, .null, .null, .null])), (q6, .inl (cI, 4, .inl (fun _ => 0))), (q14, .inl (cI, 24, .inl (fun _ => 0))), (q22, .inl (cI, 24, .inl (fun _ => 0))), (q30, .inl (cI, 24, .inl (fun _ => 0))), (q39, .inl (cJ, 20000, .inr (.inl (fun _ => 0)))), (q48, .inl (cJ, 20000, .inr (.inl (fun _ => 0)))), (q57, .inl (cI, 20000, .inl (fun _ => 0))), (q66, .inl (cI, 20000, .inl (fun _ => 0))), (q75, .inl (cI, 20000, .inl (fun _ => 0))), (q84, .inl (cI, 20000, .inl (fun _ => 0))), (q93, .inl (cI, 20000, .inl (fun _ => 0))), (q100, .inl (cI, 4, .inl (fun _ => 0))), (q108, .inl (cI, 16, .inl (fun _ => 0))), (q115, .inl (cI, 4, .inl (fun _ => 0))), (q122, .inl (cI, 4, .inl (fun _ => 0))), (q130, .inl (cI, 8, .inl (fun _ => 0))), (q138, .inl (cI, 8, .inl (fun _ => 0))), (q147, .inl (cJ, 20000, .inr (.inl (fun _ => 0))))]) rfl ?_
  refine z_putF X hin (t1 := (.array .long)) (ws' := [(mo, .inr (4, [.int (nI 0), .ref q6, .ref q14, .ref q22, .ref q30, .int (nI 0), .ref q39, .ref q48, .ref q57, .ref q66, .ref q75, .ref q84, .ref q93, .ref q100, .ref q108, .ref q115, .ref q122, .ref q130, .ref q138, .int (nI 0), .int (nI 0), .int (nI 0), .int (nI 0), .ref q147, .null, .null, .null])), (q6, .inl (cI, 4, .inl (fun _ => 0))), (q14, .inl (cI, 24, .inl (fun _ => 0))), (q22, .inl (cI, 24, .inl (fun _ => 0))), (q30, .inl (cI, 24, .inl (fun _ => 0))), (q39, .inl (cJ, 20000, .inr (.inl (fun _ => 0)))), (q48, .inl (cJ, 20000, .inr (.inl (fun _ => 0)))), (q57, .inl (cI, 20000, .inl (fun _ => 0))), (q66, .inl (cI, 20000, .inl (fun _ => 0))), (q75, .inl (cI, 20000, .inl (fun _ => 0))), (q84, .inl (cI, 20000, .inl (fun _ => 0))), (q93, .inl (cI, 20000, .inl (fun _ => 0))), (q100, .inl (cI, 4, .inl (fun _ => 0))), (q108, .inl (cI, 16, .inl (fun _ => 0))), (q115, .inl (cI, 4, .inl (fun _ => 0))), (q122, .inl (cI, 4, .inl (fun _ => 0))), (q130, .inl (cI, 8, .inl (fun _ => 0))), (q138, .inl (cI, 8, .inl (fun _ => 0))), (q147, .inl (cJ, 20000, .inr (.inl (fun _ => 0))))]) (pc' := 152) 0 rfl rfl inX4 tyX4 tyX4_ok nmX4 23 (by decide) mF_X4_62 rfl rfl (by decide +kernel) rfl rfl (Nat.le_of_ble_eq_true rfl) dX4_init_149 rfl rfl ?_
  refine z_aload_n X (pc' := 153) dX4_init_152 rfl 0 rfl rfl ?_
  refine z_sipush X (v := nI 20000) (pc' := 156) dX4_init_153 (by decide) rfl ?_
  refine z_newi X (pc' := 158) 0 rfl mR_int (by decide) (Nat.le_of_ble_eq_true rfl) (Nat.le_of_ble_eq_true rfl) dX4_init_156 rfl (fun q156 => ?_)
  refine z_wse (ws' := [(mo, .inr (4, [.int (nI 0), .ref q6, .ref q14, .ref q22, .ref q30, .int (nI 0), .ref q39, .ref q48, .ref q57, .ref q66, .ref q75, .ref q84, .ref q93, .ref q100, .ref q108, .ref q115, .ref q122, .ref q130, .ref q138, .int (nI 0), .int (nI 0), .int (nI 0), .int (nI 0), .ref q147, .null, .null, .null])), (q6, .inl (cI, 4, .inl (fun _ => 0))), (q14, .inl (cI, 24, .inl (fun _ => 0))), (q22, .inl (cI, 24, .inl (fun _ => 0))), (q30, .inl (cI, 24, .inl (fun _ => 0))), (q39, .inl (cJ, 20000, .inr (.inl (fun _ => 0)))), (q48, .inl (cJ, 20000, .inr (.inl (fun _ => 0)))), (q57, .inl (cI, 20000, .inl (fun _ => 0))), (q66, .inl (cI, 20000, .inl (fun _ => 0))), (q75, .inl (cI, 20000, .inl (fun _ => 0))), (q84, .inl (cI, 20000, .inl (fun _ => 0))), (q93, .inl (cI, 20000, .inl (fun _ => 0))), (q100, .inl (cI, 4, .inl (fun _ => 0))), (q108, .inl (cI, 16, .inl (fun _ => 0))), (q115, .inl (cI, 4, .inl (fun _ => 0))), (q122, .inl (cI, 4, .inl (fun _ => 0))), (q130, .inl (cI, 8, .inl (fun _ => 0))), (q138, .inl (cI, 8, .inl (fun _ => 0))), (q147, .inl (cJ, 20000, .inr (.inl (fun _ => 0)))), (q156, .inl (cI, 20000, .inl (fun _ => 0)))]) rfl ?_
  refine z_putF X hin (t1 := (.array .int)) (ws' := [(mo, .inr (4, [.int (nI 0), .ref q6, .ref q14, .ref q22, .ref q30, .int (nI 0), .ref q39, .ref q48, .ref q57, .ref q66, .ref q75, .ref q84, .ref q93, .ref q100, .ref q108, .ref q115, .ref q122, .ref q130, .ref q138, .int (nI 0), .int (nI 0), .int (nI 0), .int (nI 0), .ref q147, .ref q156, .null, .null])), (q6, .inl (cI, 4, .inl (fun _ => 0))), (q14, .inl (cI, 24, .inl (fun _ => 0))), (q22, .inl (cI, 24, .inl (fun _ => 0))), (q30, .inl (cI, 24, .inl (fun _ => 0))), (q39, .inl (cJ, 20000, .inr (.inl (fun _ => 0)))), (q48, .inl (cJ, 20000, .inr (.inl (fun _ => 0)))), (q57, .inl (cI, 20000, .inl (fun _ => 0))), (q66, .inl (cI, 20000, .inl (fun _ => 0))), (q75, .inl (cI, 20000, .inl (fun _ => 0))), (q84, .inl (cI, 20000, .inl (fun _ => 0))), (q93, .inl (cI, 20000, .inl (fun _ => 0))), (q100, .inl (cI, 4, .inl (fun _ => 0))), (q108, .inl (cI, 16, .inl (fun _ => 0))), (q115, .inl (cI, 4, .inl (fun _ => 0))), (q122, .inl (cI, 4, .inl (fun _ => 0))), (q130, .inl (cI, 8, .inl (fun _ => 0))), (q138, .inl (cI, 8, .inl (fun _ => 0))), (q147, .inl (cJ, 20000, .inr (.inl (fun _ => 0)))), (q156, .inl (cI, 20000, .inl (fun _ => 0)))]) (pc' := 161) 0 rfl rfl inX4 tyX4 tyX4_ok nmX4 24 (by decide) mF_X4_65 rfl rfl (by decide +kernel) rfl rfl (Nat.le_of_ble_eq_true rfl) dX4_init_158 rfl rfl ?_
  refine z_aload_n X (pc' := 162) dX4_init_161 rfl 0 rfl rfl ?_
  refine z_sipush X (v := nI 20000) (pc' := 165) dX4_init_162 (by decide) rfl ?_
  refine z_newl X (pc' := 167) 1 rfl mR_long (by decide) (Nat.le_of_ble_eq_true rfl) (Nat.le_of_ble_eq_true rfl) dX4_init_165 rfl (fun q165 => ?_)
  refine z_wse (ws' := [(mo, .inr (4, [.int (nI 0), .ref q6, .ref q14, .ref q22, .ref q30, .int (nI 0), .ref q39, .ref q48, .ref q57, .ref q66, .ref q75, .ref q84, .ref q93, .ref q100, .ref q108, .ref q115, .ref q122, .ref q130, .ref q138, .int (nI 0), .int (nI 0), .int (nI 0), .int (nI 0), .ref q147, .ref q156, .null, .null])), (q6, .inl (cI, 4, .inl (fun _ => 0))), (q14, .inl (cI, 24, .inl (fun _ => 0))), (q22, .inl (cI, 24, .inl (fun _ => 0))), (q30, .inl (cI, 24, .inl (fun _ => 0))), (q39, .inl (cJ, 20000, .inr (.inl (fun _ => 0)))), (q48, .inl (cJ, 20000, .inr (.inl (fun _ => 0)))), (q57, .inl (cI, 20000, .inl (fun _ => 0))), (q66, .inl (cI, 20000, .inl (fun _ => 0))), (q75, .inl (cI, 20000, .inl (fun _ => 0))), (q84, .inl (cI, 20000, .inl (fun _ => 0))), (q93, .inl (cI, 20000, .inl (fun _ => 0))), (q100, .inl (cI, 4, .inl (fun _ => 0))), (q108, .inl (cI, 16, .inl (fun _ => 0))), (q115, .inl (cI, 4, .inl (fun _ => 0))), (q122, .inl (cI, 4, .inl (fun _ => 0))), (q130, .inl (cI, 8, .inl (fun _ => 0))), (q138, .inl (cI, 8, .inl (fun _ => 0))), (q147, .inl (cJ, 20000, .inr (.inl (fun _ => 0)))), (q156, .inl (cI, 20000, .inl (fun _ => 0))), (q165, .inl (cJ, 20000, .inr (.inl (fun _ => 0))))]) rfl ?_
  refine z_putF X hin (t1 := (.array .long)) (ws' := [(mo, .inr (4, [.int (nI 0), .ref q6, .ref q14, .ref q22, .ref q30, .int (nI 0), .ref q39, .ref q48, .ref q57, .ref q66, .ref q75, .ref q84, .ref q93, .ref q100, .ref q108, .ref q115, .ref q122, .ref q130, .ref q138, .int (nI 0), .int (nI 0), .int (nI 0), .int (nI 0), .ref q147, .ref q156, .ref q165, .null])), (q6, .inl (cI, 4, .inl (fun _ => 0))), (q14, .inl (cI, 24, .inl (fun _ => 0))), (q22, .inl (cI, 24, .inl (fun _ => 0))), (q30, .inl (cI, 24, .inl (fun _ => 0))), (q39, .inl (cJ, 20000, .inr (.inl (fun _ => 0)))), (q48, .inl (cJ, 20000, .inr (.inl (fun _ => 0)))), (q57, .inl (cI, 20000, .inl (fun _ => 0))), (q66, .inl (cI, 20000, .inl (fun _ => 0))), (q75, .inl (cI, 20000, .inl (fun _ => 0))), (q84, .inl (cI, 20000, .inl (fun _ => 0))), (q93, .inl (cI, 20000, .inl (fun _ => 0))), (q100, .inl (cI, 4, .inl (fun _ => 0))), (q108, .inl (cI, 16, .inl (fun _ => 0))), (q115, .inl (cI, 4, .inl (fun _ => 0))), (q122, .inl (cI, 4, .inl (fun _ => 0))), (q130, .inl (cI, 8, .inl (fun _ => 0))), (q138, .inl (cI, 8, .inl (fun _ => 0))), (q147, .inl (cJ, 20000, .inr (.inl (fun _ => 0)))), (q156, .inl (cI, 20000, .inl (fun _ => 0))), (q165, .inl (cJ, 20000, .inr (.inl (fun _ => 0))))]) (pc' := 170) 0 rfl rfl inX4 tyX4 tyX4_ok nmX4 25 (by decide) mF_X4_68 rfl rfl (by decide +kernel) rfl rfl (Nat.le_of_ble_eq_true rfl) dX4_init_167 rfl rfl ?_
  refine z_aload_n X (pc' := 171) dX4_init_170 rfl 0 rfl rfl ?_
  refine z_sipush X (v := nI 20000) (pc' := 174) dX4_init_171 (by decide) rfl ?_
  refine z_newl X (pc' := 176) 1 rfl mR_long (by decide) (Nat.le_of_ble_eq_true rfl) (Nat.le_of_ble_eq_true rfl) dX4_init_174 rfl (fun q174 => ?_)
  refine z_wse (ws' := [(mo, .inr (4, [.int (nI 0), .ref q6, .ref q14, .ref q22, .ref q30, .int (nI 0), .ref q39, .ref q48, .ref q57, .ref q66, .ref q75, .ref q84, .ref q93, .ref q100, .ref q108, .ref q115, .ref q122, .ref q130, .ref q138, .int (nI 0), .int (nI 0), .int (nI 0), .int (nI 0), .ref q147, .ref q156, .ref q165, .null])), (q6, .inl (cI, 4, .inl (fun _ => 0))), (q14, .inl (cI, 24, .inl (fun _ => 0))), (q22, .inl (cI, 24, .inl (fun _ => 0))), (q30, .inl (cI, 24, .inl (fun _ => 0))), (q39, .inl (cJ, 20000, .inr (.inl (fun _ => 0)))), (q48, .inl (cJ, 20000, .inr (.inl (fun _ => 0)))), (q57, .inl (cI, 20000, .inl (fun _ => 0))), (q66, .inl (cI, 20000, .inl (fun _ => 0))), (q75, .inl (cI, 20000, .inl (fun _ => 0))), (q84, .inl (cI, 20000, .inl (fun _ => 0))), (q93, .inl (cI, 20000, .inl (fun _ => 0))), (q100, .inl (cI, 4, .inl (fun _ => 0))), (q108, .inl (cI, 16, .inl (fun _ => 0))), (q115, .inl (cI, 4, .inl (fun _ => 0))), (q122, .inl (cI, 4, .inl (fun _ => 0))), (q130, .inl (cI, 8, .inl (fun _ => 0))), (q138, .inl (cI, 8, .inl (fun _ => 0))), (q147, .inl (cJ, 20000, .inr (.inl (fun _ => 0)))), (q156, .inl (cI, 20000, .inl (fun _ => 0))), (q165, .inl (cJ, 20000, .inr (.inl (fun _ => 0)))), (q174, .inl (cJ, 20000, .inr (.inl (fun _ => 0))))]) rfl ?_
  refine z_putF X hin (t1 := (.array .long)) (ws' := [(mo, .inr (4, [.int (nI 0), .ref q6, .ref q14, .ref q22, .ref q30, .int (nI 0), .ref q39, .ref q48, .ref q57, .ref q66, .ref q75, .ref q84, .ref q93, .ref q100, .ref q108, .ref q115, .ref q122, .ref q130, .ref q138, .int (nI 0), .int (nI 0), .int (nI 0), .int (nI 0), .ref q147, .ref q156, .ref q165, .ref q174])), (q6, .inl (cI, 4, .inl (fun _ => 0))), (q14, .inl (cI, 24, .inl (fun _ => 0))), (q22, .inl (cI, 24, .inl (fun _ => 0))), (q30, .inl (cI, 24, .inl (fun _ => 0))), (q39, .inl (cJ, 20000, .inr (.inl (fun _ => 0)))), (q48, .inl (cJ, 20000, .inr (.inl (fun _ => 0)))), (q57, .inl (cI, 20000, .inl (fun _ => 0))), (q66, .inl (cI, 20000, .inl (fun _ => 0))), (q75, .inl (cI, 20000, .inl (fun _ => 0))), (q84, .inl (cI, 20000, .inl (fun _ => 0))), (q93, .inl (cI, 20000, .inl (fun _ => 0))), (q100, .inl (cI, 4, .inl (fun _ => 0))), (q108, .inl (cI, 16, .inl (fun _ => 0))), (q115, .inl (cI, 4, .inl (fun _ => 0))), (q122, .inl (cI, 4, .inl (fun _ => 0))), (q130, .inl (cI, 8, .inl (fun _ => 0))), (q138, .inl (cI, 8, .inl (fun _ => 0))), (q147, .inl (cJ, 20000, .inr (.inl (fun _ => 0)))), (q156, .inl (cI, 20000, .inl (fun _ => 0))), (q165, .inl (cJ, 20000, .inr (.inl (fun _ => 0)))), (q174, .inl (cJ, 20000, .inr (.inl (fun _ => 0))))]) (pc' := 179) 0 rfl rfl inX4 tyX4 tyX4_ok nmX4 26 (by decide) mF_X4_71 rfl rfl (by decide +kernel) rfl rfl (Nat.le_of_ble_eq_true rfl) dX4_init_176 rfl rfl ?_
  exact z_vret X (fun k => [0, q6, q14, q22, q30, 0, q39, q48, q57, q66, q75, q84, q93, q100, q108, q115, q122, q130, q138, 0, 0, 0, 0, q147, q156, q165, q174].getD k 0) (trivial) rfl (Nat.le_of_ble_eq_true rfl) (Nat.le_of_ble_eq_true rfl) dX4_init_179


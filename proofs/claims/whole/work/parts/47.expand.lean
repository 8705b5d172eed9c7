theorem bf_cnt_le (stp : Nat → Option (Nat × Nat)) : ∀ j, bf_cnt stp j ≤ j := by
  intro j
  induction j with
  | zero => exact Nat.le_refl _
  | succ j ih =>
    show bf_cnt stp j + (if (stp j).isSome then 1 else 0) ≤ j + 1
    split <;> omega
theorem bf_vis_stuck {q : Nat × Nat} {o : Nat} {B : BB} (h : B.2.2 = false) : bf_vis q o B = B := by unfold bf_vis; rw [if_pos h]
theorem bf_row_none {stp : Nat → Option (Nat × Nat)} {base j : Nat} {B : BB} (h : stp j = none) : bf_row stp base (j + 1) B = bf_row stp base j B ∧ bf_cnt stp (j + 1) = bf_cnt stp j := by
  constructor
  · show (match stp j with | none => bf_row stp base j B | some q => bf_vis q (base + j) (bf_row stp base j B)) = _
    rw [h]
  · show bf_cnt stp j + (if (stp j).isSome then 1 else 0) = _
    rw [h]; rfl
theorem bf_row_some {stp : Nat → Option (Nat × Nat)} {base j : Nat} {B : BB} {q : Nat × Nat} (h : stp j = some q) : bf_row stp base (j + 1) B = bf_vis q (base + j) (bf_row stp base j B) ∧ bf_cnt stp (j + 1) = bf_cnt stp j + 1 := by
  constructor
  · show (match stp j with | none => bf_row stp base j B | some q => bf_vis q (base + j) (bf_row stp base j B)) = _
    rw [h]
  · show bf_cnt stp j + (if (stp j).isSome then 1 else 0) = _
    rw [h]; rfl
theorem bf_row_stuck {stp : Nat → Option (Nat × Nat)} {base : Nat} {B : BB} {j : Nat} (h : (bf_row stp base j B).2.2 = false) : ∀ d, bf_row stp base (j + d) B = bf_row stp base j B := by
  intro d
  induction d with
  | zero => rfl
  | succ d ih =>
    show bf_row stp base (j + d + 1) B = _
    cases hs : stp (j + d) with
    | none => rw [(bf_row_none hs).1]; exact ih
    | some q => rw [(bf_row_some hs).1, ih]; exact bf_vis_stuck h
theorem BB_eta {B : BB} (h : B.2.2 = true) : (B.1, B.2.1, true) = B := by rw [← h]
theorem bf_row_get {stp : Nat → Option (Nat × Nat)} {base j i : Nat} {B : BB} (h : i < B.1.length) : (bf_row stp base j B).1.getD i (0, 0) = B.1.getD i (0, 0) ∧ i < (bf_row stp base j B).1.length := by
  obtain ⟨⟨t, e⟩, -⟩ := bf_row_pre (stp := stp) (base := base) (B := B) j
  rw [e]
  exact ⟨by rw [List.getD_eq_getElem?_getD, List.getElem?_append_left h, ← List.getD_eq_getElem?_getD], by rw [List.length_append]; omega⟩
theorem bf_vis_sok {P : Nat → List Nat} {q : Nat × Nat} {o : Nat} {B : BB} (h : ∀ x ∈ B.1, Sok P x.1 x.2) (hq : Sok P q.1 q.2) : ∀ x ∈ (bf_vis q o B).1, Sok P x.1 x.2 := by
  unfold bf_vis
  split
  · exact h
  · split
    · exact h
    · split
      · exact h
      · intro x hx
        rcases List.mem_append.mp hx with g | g
        · exact h x g
        · rw [List.mem_singleton.mp g]; exact hq
theorem Sok_small {P : Nat → List Nat} {q : Nat × Nat} (h : Sok P q.1 q.2) : small q := ⟨Nat.lt_trans h.1 (by decide), Nat.lt_trans h.2.1 (by decide)⟩
/-- the row of outcomes as a list -/
def eL (E : List Nat) (fE : Nat → Int32) : Prop := ∀ j, j < E.length → fE j = nI (E.getD j 0)
theorem eL_push {E : List Nat} {fE : Nat → Int32} {i : Nat} (h : eL E fE) : eL (E ++ [i]) (upd fE E.length (nI i)) := by
  intro j hj
  rw [List.length_append, List.length_singleton] at hj
  rcases Nat.lt_or_ge j E.length with g | g
  · rw [pk_un (by omega), getD_l g]; exact h j g
  · have e : j = E.length := by omega
    rw [e, pk_us, getD_r]
theorem rm_mono {a b : Nat} (h : a ≤ b) : rmF a ≤ rmF b := by
  rcases rm_cases a with q | q | q | q | q <;> rcases rm_cases b with p | p | p | p | p <;> omega
theorem gc_mono {a b : Nat} (h : a ≤ b) : gc a ≤ gc b := by
  unfold gc
  by_cases h1 : b < 80
  · rw [if_pos h1, if_pos (by omega)]; exact Nat.le_refl _
  · repeat' split
    all_goals omega
theorem gs_mono {a b : Nat} (h : a ≤ b) : gs a ≤ gs b := by
  unfold gs
  by_cases h1 : b < 80
  · rw [if_pos h1, if_pos (by omega)]; exact Nat.le_refl _
  · repeat' split
    all_goals omega
theorem bf_row_len (stp : Nat → Option (Nat × Nat)) (base : Nat) (B : BB) {j j' : Nat} (h : j ≤ j') : (bf_row stp base j B).1.length ≤ (bf_row stp base j' B).1.length := by
  obtain ⟨d, rfl⟩ : ∃ d, j' = j + d := ⟨j' - j, by omega⟩
  induction d with
  | zero => exact Nat.le_refl _
  | succ d ih =>
    refine Nat.le_trans (ih (by omega)) ?_
    show (bf_row stp base (j + d) B).1.length ≤ (bf_row stp base (j + d + 1) B).1.length
    cases hs : stp (j + d) with
    | none => rw [(bf_row_none hs).1]; exact Nat.le_refl _
    | some q =>
      rw [(bf_row_some hs).1]
      obtain ⟨⟨t, e⟩, -⟩ := bf_vis_pre (q := q) (o := base + (j + d)) (B := bf_row stp base (j + d) B)
      rw [e, List.length_append]; omega
set_option maxHeartbeats 4000000 in
set_option maxRecDepth 100000 in
/-- the moves of a state -/
theorem c_expand (l : Launch) (D : va_G) (cI cJ : ClassId) (sz : Nat) (sp ah al af ae ta cap tl br i sh sn a pr cd ln tot md : Nat) (m1 m2 : Int64) (fH fL : Nat → Int64) (fF fE fT f g : Nat → Int32) (S : List (Nat × Nat)) (F E : List Nat) (P : Nat → List Nat) (hI : spI S F cap tl fH fL fF fT) (hE : eL E fE) (hEl : E.length ≤ i) (hi : i < S.length) (hqi : S.getD i (0, 0) = (sh, sn)) (hS : ∀ q ∈ S, Sok P q.1 q.2) (hmd : md < 3) (hP : Pok P) (hR : PRep P f g) : KI l D cI cJ yX2_expand cX2_expand 5 (some .boolean) 4 104 (gc (max cap (rmF (bf_row (st_step P md (sh, sn)) (20 * i) 20 (S, F, true)).1.length)) - gc cap) (gs (max cap (rmF (bf_row (st_step P md (sh, sn)) (20 * i) 20 (S, F, true)).1.length)) - gs cap) [.ref sp, .int (nI i), .ref a] [(sp, .inr (2, [.ref ah, .ref al, .ref af, .ref ae, .ref ta, .int (nI (rmF S.length)), .int (nI (nsF S.length)), .int (nI S.length), .int (nI E.length), .int (nI br)])), (ah, .inl (cJ, cap, .inr (.inl fH))), (al, .inl (cJ, cap, .inr (.inl fL))), (af, .inl (cI, cap, .inl fF)), (ae, .inl (cI, cap, .inl fE)), (ta, .inl (cI, tl, .inl fT)), (a, .inr (0, [.ref pr, .int (nI md), .long m1, .long m2])), (pr, .inr (1, [.ref cd, .ref ln, .int (nI tot)])), (cd, .inl (cI, 24, .inl f)), (ln, .inl (cI, 4, .inl g))] sz (S := BB × SpT × List Nat × Nat × Int64 × Int64) (fun r u => u.1 = bf_row (st_step P md (sh, sn)) (20 * i) 20 (S, F, true) ∧ spI u.1.1 u.1.2.1 u.2.1.1 u.2.1.2.1 u.2.1.2.2.2.2.2.2.2.1 u.2.1.2.2.2.2.2.2.2.2.1 u.2.1.2.2.2.2.2.2.2.2.2.1 u.2.1.2.2.2.2.2.2.2.2.2.2.2 ∧ u.2.1.1 = max cap (rmF u.1.1.length) ∧ (∀ q ∈ u.1.1, Sok P q.1 q.2) ∧ eL u.2.2.1 u.2.1.2.2.2.2.2.2.2.2.2.2.1 ∧ (u.1.2.2 = true ∧ r = nI 1 ∧ u.2.2.1 = (if bf_cnt (st_step P md (sh, sn)) 20 = 0 then E ++ [i] else E) ∧ u.2.2.2.1 = (if 1 < bf_cnt (st_step P md (sh, sn)) 20 then br + 1 else br) ∨ u.1.2.2 = false ∧ r = nI 0 ∧ u.2.2.1 = E ∧ u.2.2.2.1 = br)) (fun u => [(sp, .inr (2, [.ref u.2.1.2.2.1, .ref u.2.1.2.2.2.1, .ref u.2.1.2.2.2.2.1, .ref u.2.1.2.2.2.2.2.1, .ref u.2.1.2.2.2.2.2.2.1, .int (nI (rmF u.1.1.length)), .int (nI (nsF u.1.1.length)), .int (nI u.1.1.length), .int (nI u.2.2.1.length), .int (nI u.2.2.2.1)])), (u.2.1.2.2.1, .inl (cJ, u.2.1.1, .inr (.inl u.2.1.2.2.2.2.2.2.2.1))), (u.2.1.2.2.2.1, .inl (cJ, u.2.1.1, .inr (.inl u.2.1.2.2.2.2.2.2.2.2.1))), (u.2.1.2.2.2.2.1, .inl (cI, u.2.1.1, .inl u.2.1.2.2.2.2.2.2.2.2.2.1)), (u.2.1.2.2.2.2.2.1, .inl (cI, u.2.1.1, .inl u.2.1.2.2.2.2.2.2.2.2.2.2.1)), (u.2.1.2.2.2.2.2.2.1, .inl (cI, u.2.1.2.1, .inl u.2.1.2.2.2.2.2.2.2.2.2.2.2)), (a, .inr (0, [.ref pr, .int (nI md), .long u.2.2.2.2.1, .long u.2.2.2.2.2])), (pr, .inr (1, [.ref cd, .ref ln, .int (nI tot)])), (cd, .inl (cI, 24, .inl f)), (ln, .inl (cI, 4, .inl g))]) := by
  refine zMetI (lv := [(0, .ref sp), (1, .int (nI i)), (2, .ref a)]) NS0_ok (by decide) rfl (Nat.le_of_ble_eq_true rfl) rfl ?_
  intro p e s m args below meth c A X hin hA
  refine z_iconst X (v := nI 0) (pc' := 1) dX2_expand_0 (by decide) rfl ?_
  refine z_istore_n X (lv' := [(3, .int (nI 0)), (0, .ref sp), (1, .int (nI i)), (2, .ref a)]) (pc' := 2) dX2_expand_1 rfl (by decide) rfl rfl ?_
  refine z_iconst X (v := nI 0) (pc' := 3) dX2_expand_2 (by decide) rfl ?_
  refine z_istore X (lv' := [(4, .int (nI 0)), (3, .int (nI 0)), (0, .ref sp), (1, .int (nI i)), (2, .ref a)]) (pc' := 5) dX2_expand_3 (by decide) rfl rfl ?_
  refine z_widen (k := gc (max cap (rmF S.length)) - gc cap) (n := gs (max cap (rmF S.length)) - gs cap) (Nat.zero_le _) (Nat.zero_le _) ?_
  refine z_lv (lv' := [(4, .int (nI 0)), (3, .int (nI 0)), (0, .ref sp), (1, .int (nI i)), (2, .ref a)]) [0, 1, 2, 3, 4] rfl ?_
  refine z_loop (σ := Nat × SpT × Int64 × Int64) (fun x => x.1 ≤ 20 ∧ (bf_row (st_step P md (sh, sn)) (20 * i) x.1 (S, F, true)).2.2 = true ∧ spI (bf_row (st_step P md (sh, sn)) (20 * i) x.1 (S, F, true)).1 (bf_row (st_step P md (sh, sn)) (20 * i) x.1 (S, F, true)).2.1 x.2.1.1 (x.2.1.2.1) (x.2.1.2.2.2.2.2.2.2.1) (x.2.1.2.2.2.2.2.2.2.2.1) (x.2.1.2.2.2.2.2.2.2.2.2.1) (x.2.1.2.2.2.2.2.2.2.2.2.2.2) ∧ x.2.1.1 = max cap (rmF (bf_row (st_step P md (sh, sn)) (20 * i) x.1 (S, F, true)).1.length) ∧ (∀ q ∈ (bf_row (st_step P md (sh, sn)) (20 * i) x.1 (S, F, true)).1, Sok P q.1 q.2) ∧ eL E (x.2.1.2.2.2.2.2.2.2.2.2.2.1)) (fun x => 20 - x.1) (fun x => [(4, .int (nI x.1)), (3, .int (nI (bf_cnt (st_step P md (sh, sn)) x.1))), (0, .ref sp), (1, .int (nI i)), (2, .ref a)]) (fun x => [(sp, .inr (2, [.ref x.2.1.2.2.1, .ref x.2.1.2.2.2.1, .ref x.2.1.2.2.2.2.1, .ref x.2.1.2.2.2.2.2.1, .ref x.2.1.2.2.2.2.2.2.1, .int (nI (rmF ((bf_row (st_step P md (sh, sn)) (20 * i) x.1 (S, F, true)).1.length))), .int (nI (nsF ((bf_row (st_step P md (sh, sn)) (20 * i) x.1 (S, F, true)).1.length))), .int (nI ((bf_row (st_step P md (sh, sn)) (20 * i) x.1 (S, F, true)).1.length)), .int (nI E.length), .int (nI br)])), (x.2.1.2.2.1, .inl (cJ, x.2.1.1, .inr (.inl x.2.1.2.2.2.2.2.2.2.1))), (x.2.1.2.2.2.1, .inl (cJ, x.2.1.1, .inr (.inl x.2.1.2.2.2.2.2.2.2.2.1))), (x.2.1.2.2.2.2.1, .inl (cI, x.2.1.1, .inl x.2.1.2.2.2.2.2.2.2.2.2.1)), (x.2.1.2.2.2.2.2.1, .inl (cI, x.2.1.1, .inl x.2.1.2.2.2.2.2.2.2.2.2.2.1)), (x.2.1.2.2.2.2.2.2.1, .inl (cI, x.2.1.2.1, .inl x.2.1.2.2.2.2.2.2.2.2.2.2.2)), (a, .inr (0, [.ref pr, .int (nI md), .long x.2.2.1, .long x.2.2.2])), (pr, .inr (1, [.ref cd, .ref ln, .int (nI tot)])), (cd, .inl (cI, 24, .inl f)), (ln, .inl (cI, 4, .inl g))]) (fun x => gc (max cap (rmF (bf_row (st_step P md (sh, sn)) (20 * i) x.1 (S, F, true)).1.length)) - gc cap) (fun x => gs (max cap (rmF (bf_row (st_step P md (sh, sn)) (20 * i) x.1 (S, F, true)).1.length)) - gs cap) ((0, (cap, tl, ah, al, af, ae, ta, fH, fL, fF, fE, fT), m1, m2)) ⟨Nat.zero_le _, rfl, hI, by show cap = max cap (rmF S.length); have := hI.2.1; omega, hS, hE⟩ ?_
  intro x hI2 ih
  obtain ⟨i1, i2, i3, i4, i5, i6⟩ := hI2
  obtain ⟨hg1, hg2⟩ := bf_row_get (stp := st_step P md (sh, sn)) (base := 20 * i) (j := x.1) (B := (S, F, true)) hi
  rw [show (S, F, true).1.getD i (0, 0) = (sh, sn) from hqi] at hg1
  have hrow := i3.2.2.2.2.2.2.1 i hg2
  rw [hg1] at hrow
  have hcl := cap_le i3.1
  have hrl := i3.2.1
  have hsl := i3.2.2.1
  have hrf := rm_facts hsl
  have hcn := bf_cnt_le (st_step P md (sh, sn)) x.1
  show Z _ _ _ _ _ _ _ _ _ _ _ _ _ _ _ 5 [(4, .int (nI x.1)), (3, .int (nI (bf_cnt (st_step P md (sh, sn)) x.1))), (0, .ref sp), (1, .int (nI i)), (2, .ref a)] [] [(sp, .inr (2, [.ref x.2.1.2.2.1, .ref x.2.1.2.2.2.1, .ref x.2.1.2.2.2.2.1, .ref x.2.1.2.2.2.2.2.1, .ref x.2.1.2.2.2.2.2.2.1, .int (nI (rmF ((bf_row (st_step P md (sh, sn)) (20 * i) x.1 (S, F, true)).1.length))), .int (nI (nsF ((bf_row (st_step P md (sh, sn)) (20 * i) x.1 (S, F, true)).1.length))), .int (nI ((bf_row (st_step P md (sh, sn)) (20 * i) x.1 (S, F, true)).1.length)), .int (nI E.length), .int (nI br)])), (x.2.1.2.2.1, .inl (cJ, x.2.1.1, .inr (.inl x.2.1.2.2.2.2.2.2.2.1))), (x.2.1.2.2.2.1, .inl (cJ, x.2.1.1, .inr (.inl x.2.1.2.2.2.2.2.2.2.2.1))), (x.2.1.2.2.2.2.1, .inl (cI, x.2.1.1, .inl x.2.1.2.2.2.2.2.2.2.2.2.1)), (x.2.1.2.2.2.2.2.1, .inl (cI, x.2.1.1, .inl x.2.1.2.2.2.2.2.2.2.2.2.2.1)), (x.2.1.2.2.2.2.2.2.1, .inl (cI, x.2.1.2.1, .inl x.2.1.2.2.2.2.2.2.2.2.2.2.2)), (a, .inr (0, [.ref pr, .int (nI md), .long x.2.2.1, .long x.2.2.2])), (pr, .inr (1, [.ref cd, .ref ln, .int (nI tot)])), (cd, .inl (cI, 24, .inl f)), (ln, .inl (cI, 4, .inl g))] (gc (max cap (rmF (bf_row (st_step P md (sh, sn)) (20 * i) x.1 (S, F, true)).1.length)) - gc cap) (gs (max cap (rmF (bf_row (st_step P md (sh, sn)) (20 * i) x.1 (S, F, true)).1.length)) - gs cap)
  refine z_iload X (pc' := 7) dX2_expand_5 0 rfl rfl ?_
  refine z_bipush X (v := nI 20) (pc' := 9) dX2_expand_7 (by decide) rfl ?_
  refine z_icmp_geN X (tgt := 66) (pc' := 12) (by omega) (by decide) dX2_expand_9 (by decide) rfl (fun h1 => ?_) (fun h1 => ?_)
  · have hx20 : x.1 = 20 := by omega
    rw [hx20] at i2 i3 i4 i5 hcn
    refine z_lve (lv' := [(4, .int (nI 20)), (3, .int (nI (bf_cnt (st_step P md (sh, sn)) 20))), (0, .ref sp), (1, .int (nI i)), (2, .ref a)]) (by rw [hx20]) ?_
    refine z_wse (ws' := [(sp, .inr (2, [.ref x.2.1.2.2.1, .ref x.2.1.2.2.2.1, .ref x.2.1.2.2.2.2.1, .ref x.2.1.2.2.2.2.2.1, .ref x.2.1.2.2.2.2.2.2.1, .int (nI (rmF ((bf_row (st_step P md (sh, sn)) (20 * i) 20 (S, F, true)).1.length))), .int (nI (nsF ((bf_row (st_step P md (sh, sn)) (20 * i) 20 (S, F, true)).1.length))), .int (nI ((bf_row (st_step P md (sh, sn)) (20 * i) 20 (S, F, true)).1.length)), .int (nI E.length), .int (nI br)])), (x.2.1.2.2.1, .inl (cJ, x.2.1.1, .inr (.inl x.2.1.2.2.2.2.2.2.2.1))), (x.2.1.2.2.2.1, .inl (cJ, x.2.1.1, .inr (.inl x.2.1.2.2.2.2.2.2.2.2.1))), (x.2.1.2.2.2.2.1, .inl (cI, x.2.1.1, .inl x.2.1.2.2.2.2.2.2.2.2.2.1)), (x.2.1.2.2.2.2.2.1, .inl (cI, x.2.1.1, .inl x.2.1.2.2.2.2.2.2.2.2.2.2.1)), (x.2.1.2.2.2.2.2.2.1, .inl (cI, x.2.1.2.1, .inl x.2.1.2.2.2.2.2.2.2.2.2.2.2)), (a, .inr (0, [.ref pr, .int (nI md), .long x.2.2.1, .long x.2.2.2])), (pr, .inr (1, [.ref cd, .ref ln, .int (nI tot)])), (cd, .inl (cI, 24, .inl f)), (ln, .inl (cI, 4, .inl g))]) (by rw [hx20]) ?_
    refine z_widen (k := gc (max cap (rmF (bf_row (st_step P md (sh, sn)) (20 * i) 20 (S, F, true)).1.length)) - gc cap) (n := gs (max cap (rmF (bf_row (st_step P md (sh, sn)) (20 * i) 20 (S, F, true)).1.length)) - gs cap) (by rw [hx20]; exact Nat.le_refl _) (by rw [hx20]; exact Nat.le_refl _) ?_
    refine z_iload_n X (pc' := 67) dX2_expand_66 rfl 1 rfl rfl ?_
    refine z_iconst X (v := nI 1) (pc' := 68) dX2_expand_67 (by decide) rfl ?_
    refine z_icmp_leN X (tgt := 81) (pc' := 71) (by omega) (by decide) dX2_expand_68 (by decide) rfl (fun h2 => ?_) (fun h2 => ?_)
    · have hmany : ¬ 1 < bf_cnt (st_step P md (sh, sn)) 20 := by omega
      refine z_iload_n X (pc' := 82) dX2_expand_81 rfl 1 rfl rfl ?_
      refine z_if_neN X (tgt := 105) (pc' := 85) (by omega) dX2_expand_82 (by decide) rfl (fun h3 => ?_) (fun h3 => ?_)
      · have hzero : ¬ bf_cnt (st_step P md (sh, sn)) 20 = 0 := h3
        refine z_iconst X (v := nI 1) (pc' := 106) dX2_expand_105 (by decide) rfl ?_
        refine z_ws (ws' := [(sp, .inr (2, [.ref x.2.1.2.2.1, .ref x.2.1.2.2.2.1, .ref x.2.1.2.2.2.2.1, .ref x.2.1.2.2.2.2.2.1, .ref x.2.1.2.2.2.2.2.2.1, .int (nI (rmF ((bf_row (st_step P md (sh, sn)) (20 * i) 20 (S, F, true)).1.length))), .int (nI (nsF ((bf_row (st_step P md (sh, sn)) (20 * i) 20 (S, F, true)).1.length))), .int (nI ((bf_row (st_step P md (sh, sn)) (20 * i) 20 (S, F, true)).1.length)), .int (nI E.length), .int (nI br)])), (x.2.1.2.2.1, .inl (cJ, x.2.1.1, .inr (.inl x.2.1.2.2.2.2.2.2.2.1))), (x.2.1.2.2.2.1, .inl (cJ, x.2.1.1, .inr (.inl x.2.1.2.2.2.2.2.2.2.2.1))), (x.2.1.2.2.2.2.1, .inl (cI, x.2.1.1, .inl x.2.1.2.2.2.2.2.2.2.2.2.1)), (x.2.1.2.2.2.2.2.1, .inl (cI, x.2.1.1, .inl x.2.1.2.2.2.2.2.2.2.2.2.2.1)), (x.2.1.2.2.2.2.2.2.1, .inl (cI, x.2.1.2.1, .inl x.2.1.2.2.2.2.2.2.2.2.2.2.2)), (a, .inr (0, [.ref pr, .int (nI md), .long x.2.2.1, .long x.2.2.2])), (pr, .inr (1, [.ref cd, .ref ln, .int (nI tot)])), (cd, .inl (cI, 24, .inl f)), (ln, .inl (cI, 4, .inl g))]) [0, 1, 2, 3, 4, 5, 6, 7, 8, 9] (by decide) rfl ?_
        exact z_iret X (t1 := .boolean) rfl rfl (bf_row (st_step P md (sh, sn)) (20 * i) 20 (S, F, true), (x.2.1.1, x.2.1.2.1, x.2.1.2.2.1, x.2.1.2.2.2.1, x.2.1.2.2.2.2.1, x.2.1.2.2.2.2.2.1, x.2.1.2.2.2.2.2.2.1, x.2.1.2.2.2.2.2.2.2.1, x.2.1.2.2.2.2.2.2.2.2.1, x.2.1.2.2.2.2.2.2.2.2.2.1, (x.2.1.2.2.2.2.2.2.2.2.2.2.1), x.2.1.2.2.2.2.2.2.2.2.2.2.2), E, br, x.2.2.1, x.2.2.2) ⟨rfl, i3, i4, i5, i6, Or.inl ⟨i2, rfl, by show _ = (if bf_cnt (st_step P md (sh, sn)) 20 = 0 then E ++ [i] else E); rw [if_neg hzero], by show _ = (if 1 < bf_cnt (st_step P md (sh, sn)) 20 then br + 1 else br); rw [if_neg hmany]⟩⟩ rfl (Nat.le_refl _) (Nat.le_refl _) dX2_expand_106
      · have hzero : bf_cnt (st_step P md (sh, sn)) 20 = 0 := h3
        refine z_aload_n X (pc' := 86) dX2_expand_85 rfl 2 rfl rfl ?_
        refine z_get X (v := .ref x.2.1.2.2.2.2.2.1) (pc' := 89) 0 rfl rfl inX2 3 (by decide) mF_X2_22 rfl dX2_expand_86 rfl ?_
        refine z_aload_n X (pc' := 90) dX2_expand_89 rfl 2 rfl rfl ?_
        refine z_get X (v := .int (nI E.length)) (pc' := 93) 0 rfl rfl inX2 8 (by decide) mF_X2_38 rfl dX2_expand_90 rfl ?_
        refine z_iload_n X (pc' := 94) dX2_expand_93 rfl 3 rfl rfl ?_
        refine z_iast X (ws' := [(sp, .inr (2, [.ref x.2.1.2.2.1, .ref x.2.1.2.2.2.1, .ref x.2.1.2.2.2.2.1, .ref x.2.1.2.2.2.2.2.1, .ref x.2.1.2.2.2.2.2.2.1, .int (nI (rmF ((bf_row (st_step P md (sh, sn)) (20 * i) 20 (S, F, true)).1.length))), .int (nI (nsF ((bf_row (st_step P md (sh, sn)) (20 * i) 20 (S, F, true)).1.length))), .int (nI ((bf_row (st_step P md (sh, sn)) (20 * i) 20 (S, F, true)).1.length)), .int (nI E.length), .int (nI br)])), (x.2.1.2.2.1, .inl (cJ, x.2.1.1, .inr (.inl x.2.1.2.2.2.2.2.2.2.1))), (x.2.1.2.2.2.1, .inl (cJ, x.2.1.1, .inr (.inl x.2.1.2.2.2.2.2.2.2.2.1))), (x.2.1.2.2.2.2.1, .inl (cI, x.2.1.1, .inl x.2.1.2.2.2.2.2.2.2.2.2.1)), (x.2.1.2.2.2.2.2.1, .inl (cI, x.2.1.1, .inl (upd x.2.1.2.2.2.2.2.2.2.2.2.2.1 E.length (nI i)))), (x.2.1.2.2.2.2.2.2.1, .inl (cI, x.2.1.2.1, .inl x.2.1.2.2.2.2.2.2.2.2.2.2.2)), (a, .inr (0, [.ref pr, .int (nI md), .long x.2.2.1, .long x.2.2.2])), (pr, .inr (1, [.ref cd, .ref ln, .int (nI tot)])), (cd, .inl (cI, 24, .inl f)), (ln, .inl (cI, 4, .inl g))]) (pc' := 95) 4 0 rfl rfl (by omega) (by omega) dX2_expand_94 rfl rfl ?_
        refine z_aload_n X (pc' := 96) dX2_expand_95 rfl 2 rfl rfl ?_
        refine z_dup X (pc' := 97) dX2_expand_96 rfl rfl ?_
        refine z_get X (v := .int (nI E.length)) (pc' := 100) 0 rfl rfl inX2 8 (by decide) mF_X2_38 rfl dX2_expand_97 rfl ?_
        refine z_iconst X (v := nI 1) (pc' := 101) dX2_expand_100 (by decide) rfl ?_
        refine z_iadd X (pc' := 102) dX2_expand_101 rfl ?_
        refine z_topi (y := nI (E.length + 1)) (nI_add _ _) ?_
        refine z_put X (t1 := .int) (ws' := [(sp, .inr (2, [.ref x.2.1.2.2.1, .ref x.2.1.2.2.2.1, .ref x.2.1.2.2.2.2.1, .ref x.2.1.2.2.2.2.2.1, .ref x.2.1.2.2.2.2.2.2.1, .int (nI (rmF ((bf_row (st_step P md (sh, sn)) (20 * i) 20 (S, F, true)).1.length))), .int (nI (nsF ((bf_row (st_step P md (sh, sn)) (20 * i) 20 (S, F, true)).1.length))), .int (nI ((bf_row (st_step P md (sh, sn)) (20 * i) 20 (S, F, true)).1.length)), .int (nI (E.length + 1)), .int (nI br)])), (x.2.1.2.2.1, .inl (cJ, x.2.1.1, .inr (.inl x.2.1.2.2.2.2.2.2.2.1))), (x.2.1.2.2.2.1, .inl (cJ, x.2.1.1, .inr (.inl x.2.1.2.2.2.2.2.2.2.2.1))), (x.2.1.2.2.2.2.1, .inl (cI, x.2.1.1, .inl x.2.1.2.2.2.2.2.2.2.2.2.1)), (x.2.1.2.2.2.2.2.1, .inl (cI, x.2.1.1, .inl (upd x.2.1.2.2.2.2.2.2.2.2.2.2.1 E.length (nI i)))), (x.2.1.2.2.2.2.2.2.1, .inl (cI, x.2.1.2.1, .inl x.2.1.2.2.2.2.2.2.2.2.2.2.2)), (a, .inr (0, [.ref pr, .int (nI md), .long x.2.2.1, .long x.2.2.2])), (pr, .inr (1, [.ref cd, .ref ln, .int (nI tot)])), (cd, .inl (cI, 24, .inl f)), (ln, .inl (cI, 4, .inl g))]) (pc' := 105) 0 rfl rfl inX2 tyX2 tyX2_ok nmX2 8 (by decide) mF_X2_38 rfl (by decide +kernel) rfl rfl (Nat.le_of_ble_eq_true rfl) dX2_expand_102 rfl rfl ?_
        refine z_iconst X (v := nI 1) (pc' := 106) dX2_expand_105 (by decide) rfl ?_
        refine z_ws (ws' := [(sp, .inr (2, [.ref x.2.1.2.2.1, .ref x.2.1.2.2.2.1, .ref x.2.1.2.2.2.2.1, .ref x.2.1.2.2.2.2.2.1, .ref x.2.1.2.2.2.2.2.2.1, .int (nI (rmF ((bf_row (st_step P md (sh, sn)) (20 * i) 20 (S, F, true)).1.length))), .int (nI (nsF ((bf_row (st_step P md (sh, sn)) (20 * i) 20 (S, F, true)).1.length))), .int (nI ((bf_row (st_step P md (sh, sn)) (20 * i) 20 (S, F, true)).1.length)), .int (nI (E.length + 1)), .int (nI br)])), (x.2.1.2.2.1, .inl (cJ, x.2.1.1, .inr (.inl x.2.1.2.2.2.2.2.2.2.1))), (x.2.1.2.2.2.1, .inl (cJ, x.2.1.1, .inr (.inl x.2.1.2.2.2.2.2.2.2.2.1))), (x.2.1.2.2.2.2.1, .inl (cI, x.2.1.1, .inl x.2.1.2.2.2.2.2.2.2.2.2.1)), (x.2.1.2.2.2.2.2.1, .inl (cI, x.2.1.1, .inl (upd x.2.1.2.2.2.2.2.2.2.2.2.2.1 E.length (nI i)))), (x.2.1.2.2.2.2.2.2.1, .inl (cI, x.2.1.2.1, .inl x.2.1.2.2.2.2.2.2.2.2.2.2.2)), (a, .inr (0, [.ref pr, .int (nI md), .long x.2.2.1, .long x.2.2.2])), (pr, .inr (1, [.ref cd, .ref ln, .int (nI tot)])), (cd, .inl (cI, 24, .inl f)), (ln, .inl (cI, 4, .inl g))]) [0, 1, 2, 3, 4, 5, 6, 7, 8, 9] (by decide) rfl ?_
        refine z_wse (ws' := [(sp, .inr (2, [.ref x.2.1.2.2.1, .ref x.2.1.2.2.2.1, .ref x.2.1.2.2.2.2.1, .ref x.2.1.2.2.2.2.2.1, .ref x.2.1.2.2.2.2.2.2.1, .int (nI (rmF ((bf_row (st_step P md (sh, sn)) (20 * i) 20 (S, F, true)).1.length))), .int (nI (nsF ((bf_row (st_step P md (sh, sn)) (20 * i) 20 (S, F, true)).1.length))), .int (nI ((bf_row (st_step P md (sh, sn)) (20 * i) 20 (S, F, true)).1.length)), .int (nI ((E ++ [i]).length)), .int (nI br)])), (x.2.1.2.2.1, .inl (cJ, x.2.1.1, .inr (.inl x.2.1.2.2.2.2.2.2.2.1))), (x.2.1.2.2.2.1, .inl (cJ, x.2.1.1, .inr (.inl x.2.1.2.2.2.2.2.2.2.2.1))), (x.2.1.2.2.2.2.1, .inl (cI, x.2.1.1, .inl x.2.1.2.2.2.2.2.2.2.2.2.1)), (x.2.1.2.2.2.2.2.1, .inl (cI, x.2.1.1, .inl (upd x.2.1.2.2.2.2.2.2.2.2.2.2.1 E.length (nI i)))), (x.2.1.2.2.2.2.2.2.1, .inl (cI, x.2.1.2.1, .inl x.2.1.2.2.2.2.2.2.2.2.2.2.2)), (a, .inr (0, [.ref pr, .int (nI md), .long x.2.2.1, .long x.2.2.2])), (pr, .inr (1, [.ref cd, .ref ln, .int (nI tot)])), (cd, .inl (cI, 24, .inl f)), (ln, .inl (cI, 4, .inl g))]) (by rw [List.length_append, List.length_singleton]) ?_
        exact z_iret X (t1 := .boolean) rfl rfl (bf_row (st_step P md (sh, sn)) (20 * i) 20 (S, F, true), (x.2.1.1, x.2.1.2.1, x.2.1.2.2.1, x.2.1.2.2.2.1, x.2.1.2.2.2.2.1, x.2.1.2.2.2.2.2.1, x.2.1.2.2.2.2.2.2.1, x.2.1.2.2.2.2.2.2.2.1, x.2.1.2.2.2.2.2.2.2.2.1, x.2.1.2.2.2.2.2.2.2.2.2.1, (upd x.2.1.2.2.2.2.2.2.2.2.2.2.1 E.length (nI i)), x.2.1.2.2.2.2.2.2.2.2.2.2.2), E ++ [i], br, x.2.2.1, x.2.2.2) ⟨rfl, i3, i4, i5, eL_push i6, Or.inl ⟨i2, rfl, by show _ = (if bf_cnt (st_step P md (sh, sn)) 20 = 0 then E ++ [i] else E); rw [if_pos hzero], by show _ = (if 1 < bf_cnt (st_step P md (sh, sn)) 20 then br + 1 else br); rw [if_neg hmany]⟩⟩ rfl (Nat.le_refl _) (Nat.le_refl _) dX2_expand_106
    · have hmany : 1 < bf_cnt (st_step P md (sh, sn)) 20 := by omega
      refine z_aload_n X (pc' := 72) dX2_expand_71 rfl 2 rfl rfl ?_
      refine z_dup X (pc' := 73) dX2_expand_72 rfl rfl ?_
      refine z_get X (v := .int (nI br)) (pc' := 76) 0 rfl rfl inX2 9 (by decide) mF_X2_41 rfl dX2_expand_73 rfl ?_
      refine z_iconst X (v := nI 1) (pc' := 77) dX2_expand_76 (by decide) rfl ?_
      refine z_iadd X (pc' := 78) dX2_expand_77 rfl ?_
      refine z_topi (y := nI (br + 1)) (nI_add _ _) ?_
      refine z_put X (t1 := .int) (ws' := [(sp, .inr (2, [.ref x.2.1.2.2.1, .ref x.2.1.2.2.2.1, .ref x.2.1.2.2.2.2.1, .ref x.2.1.2.2.2.2.2.1, .ref x.2.1.2.2.2.2.2.2.1, .int (nI (rmF ((bf_row (st_step P md (sh, sn)) (20 * i) 20 (S, F, true)).1.length))), .int (nI (nsF ((bf_row (st_step P md (sh, sn)) (20 * i) 20 (S, F, true)).1.length))), .int (nI ((bf_row (st_step P md (sh, sn)) (20 * i) 20 (S, F, true)).1.length)), .int (nI E.length), .int (nI (br + 1))])), (x.2.1.2.2.1, .inl (cJ, x.2.1.1, .inr (.inl x.2.1.2.2.2.2.2.2.2.1))), (x.2.1.2.2.2.1, .inl (cJ, x.2.1.1, .inr (.inl x.2.1.2.2.2.2.2.2.2.2.1))), (x.2.1.2.2.2.2.1, .inl (cI, x.2.1.1, .inl x.2.1.2.2.2.2.2.2.2.2.2.1)), (x.2.1.2.2.2.2.2.1, .inl (cI, x.2.1.1, .inl x.2.1.2.2.2.2.2.2.2.2.2.2.1)), (x.2.1.2.2.2.2.2.2.1, .inl (cI, x.2.1.2.1, .inl x.2.1.2.2.2.2.2.2.2.2.2.2.2)), (a, .inr (0, [.ref pr, .int (nI md), .long x.2.2.1, .long x.2.2.2])), (pr, .inr (1, [.ref cd, .ref ln, .int (nI tot)])), (cd, .inl (cI, 24, .inl f)), (ln, .inl (cI, 4, .inl g))]) (pc' := 81) 0 rfl rfl inX2 tyX2 tyX2_ok nmX2 9 (by decide) mF_X2_41 rfl (by decide +kernel) rfl rfl (Nat.le_of_ble_eq_true rfl) dX2_expand_78 rfl rfl ?_
      refine z_iload_n X (pc' := 82) dX2_expand_81 rfl 1 rfl rfl ?_
      refine z_if_neN X (tgt := 105) (pc' := 85) (by omega) dX2_expand_82 (by decide) rfl (fun h4 => ?_) (fun h4 => ?_)
      · have hzero : ¬ bf_cnt (st_step P md (sh, sn)) 20 = 0 := h4
        refine z_iconst X (v := nI 1) (pc' := 106) dX2_expand_105 (by decide) rfl ?_
        refine z_ws (ws' := [(sp, .inr (2, [.ref x.2.1.2.2.1, .ref x.2.1.2.2.2.1, .ref x.2.1.2.2.2.2.1, .ref x.2.1.2.2.2.2.2.1, .ref x.2.1.2.2.2.2.2.2.1, .int (nI (rmF ((bf_row (st_step P md (sh, sn)) (20 * i) 20 (S, F, true)).1.length))), .int (nI (nsF ((bf_row (st_step P md (sh, sn)) (20 * i) 20 (S, F, true)).1.length))), .int (nI ((bf_row (st_step P md (sh, sn)) (20 * i) 20 (S, F, true)).1.length)), .int (nI E.length), .int (nI (br + 1))])), (x.2.1.2.2.1, .inl (cJ, x.2.1.1, .inr (.inl x.2.1.2.2.2.2.2.2.2.1))), (x.2.1.2.2.2.1, .inl (cJ, x.2.1.1, .inr (.inl x.2.1.2.2.2.2.2.2.2.2.1))), (x.2.1.2.2.2.2.1, .inl (cI, x.2.1.1, .inl x.2.1.2.2.2.2.2.2.2.2.2.1)), (x.2.1.2.2.2.2.2.1, .inl (cI, x.2.1.1, .inl x.2.1.2.2.2.2.2.2.2.2.2.2.1)), (x.2.1.2.2.2.2.2.2.1, .inl (cI, x.2.1.2.1, .inl x.2.1.2.2.2.2.2.2.2.2.2.2.2)), (a, .inr (0, [.ref pr, .int (nI md), .long x.2.2.1, .long x.2.2.2])), (pr, .inr (1, [.ref cd, .ref ln, .int (nI tot)])), (cd, .inl (cI, 24, .inl f)), (ln, .inl (cI, 4, .inl g))]) [0, 1, 2, 3, 4, 5, 6, 7, 8, 9] (by decide) rfl ?_
        exact z_iret X (t1 := .boolean) rfl rfl (bf_row (st_step P md (sh, sn)) (20 * i) 20 (S, F, true), (x.2.1.1, x.2.1.2.1, x.2.1.2.2.1, x.2.1.2.2.2.1, x.2.1.2.2.2.2.1, x.2.1.2.2.2.2.2.1, x.2.1.2.2.2.2.2.2.1, x.2.1.2.2.2.2.2.2.2.1, x.2.1.2.2.2.2.2.2.2.2.1, x.2.1.2.2.2.2.2.2.2.2.2.1, (x.2.1.2.2.2.2.2.2.2.2.2.2.1), x.2.1.2.2.2.2.2.2.2.2.2.2.2), E, br + 1, x.2.2.1, x.2.2.2) ⟨rfl, i3, i4, i5, i6, Or.inl ⟨i2, rfl, by show _ = (if bf_cnt (st_step P md (sh, sn)) 20 = 0 then E ++ [i] else E); rw [if_neg hzero], by show _ = (if 1 < bf_cnt (st_step P md (sh, sn)) 20 then br + 1 else br); rw [if_pos hmany]⟩⟩ rfl (Nat.le_refl _) (Nat.le_refl _) dX2_expand_106
      · exact absurd h4 (by omega)
  · have hx20 : x.1 < 20 := by omega
    refine z_aload_n X (pc' := 13) dX2_expand_12 rfl 4 rfl rfl ?_
    refine z_aload_n X (pc' := 14) dX2_expand_13 rfl 2 rfl rfl ?_
    refine z_get X (v := .ref x.2.1.2.2.1) (pc' := 17) 0 rfl rfl inX2 0 (by decide) mF_X2_9 rfl dX2_expand_14 rfl ?_
    refine z_iload_n X (pc' := 18) dX2_expand_17 rfl 3 rfl rfl ?_
    refine z_lald X (pc' := 19) 1 1 rfl rfl (by omega) (by omega) dX2_expand_18 rfl ?_
    refine z_topl (y := lN sh) hrow.1 ?_
    refine z_aload_n X (pc' := 20) dX2_expand_19 rfl 2 rfl rfl ?_
    refine z_get X (v := .ref x.2.1.2.2.2.1) (pc' := 23) 0 rfl rfl inX2 1 (by decide) mF_X2_15 rfl dX2_expand_20 rfl ?_
    refine z_iload_n X (pc' := 24) dX2_expand_23 rfl 3 rfl rfl ?_
    refine z_lald X (pc' := 25) 2 1 rfl rfl (by omega) (by omega) dX2_expand_24 rfl ?_
    refine z_topl (y := lN sn) hrow.2 ?_
    refine z_iload X (pc' := 27) dX2_expand_25 0 rfl rfl ?_
    have hSq : Sok P sh sn := by have := i5 _ (getD_mem hg2); rw [hg1] at this; exact this
    have hlast : max cap (rmF (bf_row (st_step P md (sh, sn)) (20 * i) x.1 (S, F, true)).1.length) ≤ max cap (rmF (bf_row (st_step P md (sh, sn)) (20 * i) 20 (S, F, true)).1.length) := by have := rm_mono (bf_row_len (st_step P md (sh, sn)) (20 * i) (S, F, true) (show x.1 ≤ 20 by omega)); omega
    have hgc := gc_mono hlast
    have hgs := gs_mono hlast
    refine z_callVi X (pc' := 30) (fun sz => c_step l D cI cJ sz a pr cd ln tot md sh sn x.1 x.2.2.1 x.2.2.2 f g P hmd hSq hP hR (by omega)) (zcwV X TTg 3 mL_X2_59 mI_X0_step mS_X0_step mN_X0 mK_X0_step rfl rfl (by decide +kernel) ⟨(Nat.le_of_ble_eq_true rfl), (Nat.le_of_ble_eq_true rfl)⟩) (wr := [(sp, .inr (2, [.ref x.2.1.2.2.1, .ref x.2.1.2.2.2.1, .ref x.2.1.2.2.2.2.1, .ref x.2.1.2.2.2.2.2.1, .ref x.2.1.2.2.2.2.2.2.1, .int (nI (rmF ((bf_row (st_step P md (sh, sn)) (20 * i) x.1 (S, F, true)).1.length))), .int (nI (nsF ((bf_row (st_step P md (sh, sn)) (20 * i) x.1 (S, F, true)).1.length))), .int (nI ((bf_row (st_step P md (sh, sn)) (20 * i) x.1 (S, F, true)).1.length)), .int (nI E.length), .int (nI br)])), (x.2.1.2.2.1, .inl (cJ, x.2.1.1, .inr (.inl x.2.1.2.2.2.2.2.2.2.1))), (x.2.1.2.2.2.1, .inl (cJ, x.2.1.1, .inr (.inl x.2.1.2.2.2.2.2.2.2.2.1))), (x.2.1.2.2.2.2.1, .inl (cI, x.2.1.1, .inl x.2.1.2.2.2.2.2.2.2.2.2.1)), (x.2.1.2.2.2.2.2.1, .inl (cI, x.2.1.1, .inl x.2.1.2.2.2.2.2.2.2.2.2.2.1)), (x.2.1.2.2.2.2.2.2.1, .inl (cI, x.2.1.2.1, .inl x.2.1.2.2.2.2.2.2.2.2.2.2.2))]) [6, 7, 8, 9] [0, 1, 2, 3, 4, 5] rfl rfl rfl rfl (by decide) 0 6 rfl rfl rfl rfl rfl (Nat.le_of_ble_eq_true rfl) dX2_expand_27 ⟨by show _ - _ + 0 ≤ _ - _; omega, by show _ - _ + 0 ≤ _ - _; omega⟩ rfl (fun r v hu => ?_)
    refine z_wse (ws' := [(sp, .inr (2, [.ref x.2.1.2.2.1, .ref x.2.1.2.2.2.1, .ref x.2.1.2.2.2.2.1, .ref x.2.1.2.2.2.2.2.1, .ref x.2.1.2.2.2.2.2.2.1, .int (nI (rmF ((bf_row (st_step P md (sh, sn)) (20 * i) x.1 (S, F, true)).1.length))), .int (nI (nsF ((bf_row (st_step P md (sh, sn)) (20 * i) x.1 (S, F, true)).1.length))), .int (nI ((bf_row (st_step P md (sh, sn)) (20 * i) x.1 (S, F, true)).1.length)), .int (nI E.length), .int (nI br)])), (x.2.1.2.2.1, .inl (cJ, x.2.1.1, .inr (.inl x.2.1.2.2.2.2.2.2.2.1))), (x.2.1.2.2.2.1, .inl (cJ, x.2.1.1, .inr (.inl x.2.1.2.2.2.2.2.2.2.2.1))), (x.2.1.2.2.2.2.1, .inl (cI, x.2.1.1, .inl x.2.1.2.2.2.2.2.2.2.2.2.1)), (x.2.1.2.2.2.2.2.1, .inl (cI, x.2.1.1, .inl x.2.1.2.2.2.2.2.2.2.2.2.2.1)), (x.2.1.2.2.2.2.2.2.1, .inl (cI, x.2.1.2.1, .inl x.2.1.2.2.2.2.2.2.2.2.2.2.2)), (a, .inr (0, [.ref pr, .int (nI md), .long (lN v.1), .long (lN v.2)])), (pr, .inr (1, [.ref cd, .ref ln, .int (nI tot)])), (cd, .inl (cI, 24, .inl f)), (ln, .inl (cI, 4, .inl g))]) rfl ?_
    rcases hso : st_step P md (sh, sn) x.1 with _ | ⟨h1, n1⟩
    · rw [hso] at hu
      have hu : r = nI 0 := hu
      subst hu
      obtain ⟨hB1, hC1⟩ := bf_row_none (base := 20 * i) (B := (S, F, true)) hso
      have hce1 : gc (max cap (rmF (bf_row (st_step P md (sh, sn)) (20 * i) x.1 (S, F, true)).1.length)) - gc cap + 0 = gc (max cap (rmF (bf_row (st_step P md (sh, sn)) (20 * i) x.1 (S, F, true)).1.length)) - gc cap := Nat.add_zero _
      have hse1 : gs (max cap (rmF (bf_row (st_step P md (sh, sn)) (20 * i) x.1 (S, F, true)).1.length)) - gs cap + 0 = gs (max cap (rmF (bf_row (st_step P md (sh, sn)) (20 * i) x.1 (S, F, true)).1.length)) - gs cap := Nat.add_zero _
      refine z_if_eqN X (tgt := 60) (pc' := 33) (by omega) dX2_expand_30 (by decide) rfl (fun h5 => ?_) (fun h5 => ?_)
      · clear h5
        refine z_iinc X (v := nI (x.1 + 1)) (lv' := [(4, .int (nI (x.1 + 1))), (3, .int (nI (bf_cnt (st_step P md (sh, sn)) x.1))), (0, .ref sp), (1, .int (nI i)), (2, .ref a)]) (k := 0) (pc' := 63) dX2_expand_60 rfl (nI_1 _) (by decide) rfl rfl ?_
        refine z_goto X (tgt := 5) dX2_expand_63 (by decide) ?_
        refine z_lve (lv' := [(4, .int (nI (x.1 + 1))), (3, .int (nI (bf_cnt (st_step P md (sh, sn)) (x.1 + 1)))), (0, .ref sp), (1, .int (nI i)), (2, .ref a)]) (by rw [hC1]) ?_
        refine z_wse (ws' := [(sp, .inr (2, [.ref x.2.1.2.2.1, .ref x.2.1.2.2.2.1, .ref x.2.1.2.2.2.2.1, .ref x.2.1.2.2.2.2.2.1, .ref x.2.1.2.2.2.2.2.2.1, .int (nI (rmF ((bf_row (st_step P md (sh, sn)) (20 * i) (x.1 + 1) (S, F, true)).1.length))), .int (nI (nsF ((bf_row (st_step P md (sh, sn)) (20 * i) (x.1 + 1) (S, F, true)).1.length))), .int (nI ((bf_row (st_step P md (sh, sn)) (20 * i) (x.1 + 1) (S, F, true)).1.length)), .int (nI E.length), .int (nI br)])), (x.2.1.2.2.1, .inl (cJ, x.2.1.1, .inr (.inl x.2.1.2.2.2.2.2.2.2.1))), (x.2.1.2.2.2.1, .inl (cJ, x.2.1.1, .inr (.inl x.2.1.2.2.2.2.2.2.2.2.1))), (x.2.1.2.2.2.2.1, .inl (cI, x.2.1.1, .inl x.2.1.2.2.2.2.2.2.2.2.2.1)), (x.2.1.2.2.2.2.2.1, .inl (cI, x.2.1.1, .inl x.2.1.2.2.2.2.2.2.2.2.2.2.1)), (x.2.1.2.2.2.2.2.2.1, .inl (cI, x.2.1.2.1, .inl x.2.1.2.2.2.2.2.2.2.2.2.2.2)), (a, .inr (0, [.ref pr, .int (nI md), .long (lN v.1), .long (lN v.2)])), (pr, .inr (1, [.ref cd, .ref ln, .int (nI tot)])), (cd, .inl (cI, 24, .inl f)), (ln, .inl (cI, 4, .inl g))]) (by rw [hB1]) ?_
        refine z_widen (k := gc (max cap (rmF (bf_row (st_step P md (sh, sn)) (20 * i) (x.1 + 1) (S, F, true)).1.length)) - gc cap) (n := gs (max cap (rmF (bf_row (st_step P md (sh, sn)) (20 * i) (x.1 + 1) (S, F, true)).1.length)) - gs cap) (by rw [hB1]; exact Nat.le_of_eq hce1) (by rw [hB1]; exact Nat.le_of_eq hse1) ?_
        refine z_lv (lv' := [(4, .int (nI (x.1 + 1))), (3, .int (nI (bf_cnt (st_step P md (sh, sn)) (x.1 + 1)))), (0, .ref sp), (1, .int (nI i)), (2, .ref a)]) [0, 1, 2, 3, 4] rfl ?_
        exact ih ((x.1 + 1, x.2.1, lN v.1, lN v.2)) ⟨by show x.1 + 1 ≤ 20; omega, by rw [hB1]; exact i2, by rw [hB1]; exact i3, by rw [hB1]; exact i4, by rw [hB1]; exact i5, i6⟩ (by show 20 - (x.1 + 1) < 20 - x.1; omega)
      · exact absurd h5 (by decide)
    · rw [hso] at hu
      obtain ⟨hr1, hu1⟩ : r = nI 1 ∧ v = (h1, n1) := hu
      subst hr1
      subst hu1
      refine z_wse (ws' := [(sp, .inr (2, [.ref x.2.1.2.2.1, .ref x.2.1.2.2.2.1, .ref x.2.1.2.2.2.2.1, .ref x.2.1.2.2.2.2.2.1, .ref x.2.1.2.2.2.2.2.2.1, .int (nI (rmF ((bf_row (st_step P md (sh, sn)) (20 * i) x.1 (S, F, true)).1.length))), .int (nI (nsF ((bf_row (st_step P md (sh, sn)) (20 * i) x.1 (S, F, true)).1.length))), .int (nI ((bf_row (st_step P md (sh, sn)) (20 * i) x.1 (S, F, true)).1.length)), .int (nI E.length), .int (nI br)])), (x.2.1.2.2.1, .inl (cJ, x.2.1.1, .inr (.inl x.2.1.2.2.2.2.2.2.2.1))), (x.2.1.2.2.2.1, .inl (cJ, x.2.1.1, .inr (.inl x.2.1.2.2.2.2.2.2.2.2.1))), (x.2.1.2.2.2.2.1, .inl (cI, x.2.1.1, .inl x.2.1.2.2.2.2.2.2.2.2.2.1)), (x.2.1.2.2.2.2.2.1, .inl (cI, x.2.1.1, .inl x.2.1.2.2.2.2.2.2.2.2.2.2.1)), (x.2.1.2.2.2.2.2.2.1, .inl (cI, x.2.1.2.1, .inl x.2.1.2.2.2.2.2.2.2.2.2.2.2)), (a, .inr (0, [.ref pr, .int (nI md), .long (lN h1), .long (lN n1)])), (pr, .inr (1, [.ref cd, .ref ln, .int (nI tot)])), (cd, .inl (cI, 24, .inl f)), (ln, .inl (cI, 4, .inl g))]) rfl ?_
      obtain ⟨hB1, hC1⟩ := bf_row_some (base := 20 * i) (B := (S, F, true)) hso
      have hSn : Sok P h1 n1 := Sok_step (q := (h1, n1)) hP hSq (by omega) hso
      refine z_if_eqN X (tgt := 60) (pc' := 33) (by omega) dX2_expand_30 (by decide) rfl (fun h6 => ?_) (fun h6 => ?_)
      · exact absurd h6 (by decide)
      · clear h6
        refine z_iinc X (v := nI (bf_cnt (st_step P md (sh, sn)) (x.1 + 1))) (lv' := [(3, .int (nI (bf_cnt (st_step P md (sh, sn)) (x.1 + 1)))), (4, .int (nI x.1)), (0, .ref sp), (1, .int (nI i)), (2, .ref a)]) (k := 1) (pc' := 36) dX2_expand_33 rfl (by rw [hC1]; exact nI_1 _) (by decide) rfl rfl ?_
        refine z_aload_n X (pc' := 37) dX2_expand_36 rfl 2 rfl rfl ?_
        refine z_aload_n X (pc' := 38) dX2_expand_37 rfl 4 rfl rfl ?_
        refine z_get X (v := .long (lN h1)) (pc' := 41) 6 rfl rfl inX0 2 (by decide) mF_X2_64 rfl dX2_expand_38 rfl ?_
        refine z_aload_n X (pc' := 42) dX2_expand_41 rfl 4 rfl rfl ?_
        refine z_get X (v := .long (lN n1)) (pc' := 45) 6 rfl rfl inX0 3 (by decide) mF_X2_67 rfl dX2_expand_42 rfl ?_
        refine z_iload_n X (pc' := 46) dX2_expand_45 rfl 3 rfl rfl ?_
        refine z_bipush X (v := nI 20) (pc' := 48) dX2_expand_46 (by decide) rfl ?_
        refine z_imul X (pc' := 49) dX2_expand_48 rfl ?_
        refine z_topi (y := nI (i * 20)) (pk_mul _ _) ?_
        refine z_iload X (pc' := 51) dX2_expand_49 1 rfl rfl ?_
        refine z_iadd X (pc' := 52) dX2_expand_51 rfl ?_
        refine z_topi (y := nI ((i * 20) + x.1)) (nI_add _ _) ?_
        refine z_topi (y := nI (20 * i + x.1)) (by rw [Nat.mul_comm]) ?_
        have hvis : bf_vis (h1, n1) (20 * i + x.1) ((bf_row (st_step P md (sh, sn)) (20 * i) x.1 (S, F, true)).1, (bf_row (st_step P md (sh, sn)) (20 * i) x.1 (S, F, true)).2.1, true) = bf_row (st_step P md (sh, sn)) (20 * i) (x.1 + 1) (S, F, true) := by rw [hB1, BB_eta i2]
        have hlm : (bf_row (st_step P md (sh, sn)) (20 * i) x.1 (S, F, true)).1.length ≤ (bf_vis (h1, n1) (20 * i + x.1) ((bf_row (st_step P md (sh, sn)) (20 * i) x.1 (S, F, true)).1, (bf_row (st_step P md (sh, sn)) (20 * i) x.1 (S, F, true)).2.1, true)).1.length := by rw [hvis]; exact bf_row_len (st_step P md (sh, sn)) (20 * i) (S, F, true) (Nat.le_succ _)
        have hcm : max x.2.1.1 (rmF (bf_vis (h1, n1) (20 * i + x.1) ((bf_row (st_step P md (sh, sn)) (20 * i) x.1 (S, F, true)).1, (bf_row (st_step P md (sh, sn)) (20 * i) x.1 (S, F, true)).2.1, true)).1.length) = max cap (rmF (bf_vis (h1, n1) (20 * i + x.1) ((bf_row (st_step P md (sh, sn)) (20 * i) x.1 (S, F, true)).1, (bf_row (st_step P md (sh, sn)) (20 * i) x.1 (S, F, true)).2.1, true)).1.length) := by have := rm_mono hlm; rw [i4]; omega
        have hc1 : gc x.2.1.1 = gc (max cap (rmF (bf_row (st_step P md (sh, sn)) (20 * i) x.1 (S, F, true)).1.length)) := by rw [i4]
        have hs1 : gs x.2.1.1 = gs (max cap (rmF (bf_row (st_step P md (sh, sn)) (20 * i) x.1 (S, F, true)).1.length)) := by rw [i4]
        have hm1 : gc (max cap (rmF (bf_row (st_step P md (sh, sn)) (20 * i) x.1 (S, F, true)).1.length)) ≤ gc (max cap (rmF (bf_vis (h1, n1) (20 * i + x.1) ((bf_row (st_step P md (sh, sn)) (20 * i) x.1 (S, F, true)).1, (bf_row (st_step P md (sh, sn)) (20 * i) x.1 (S, F, true)).2.1, true)).1.length)) ∧ gs (max cap (rmF (bf_row (st_step P md (sh, sn)) (20 * i) x.1 (S, F, true)).1.length)) ≤ gs (max cap (rmF (bf_vis (h1, n1) (20 * i + x.1) ((bf_row (st_step P md (sh, sn)) (20 * i) x.1 (S, F, true)).1, (bf_row (st_step P md (sh, sn)) (20 * i) x.1 (S, F, true)).2.1, true)).1.length)) := by have := rm_mono hlm; exact ⟨gc_mono (by omega), gs_mono (by omega)⟩
        have hm0 : gc cap ≤ gc (max cap (rmF (bf_row (st_step P md (sh, sn)) (20 * i) x.1 (S, F, true)).1.length)) ∧ gs cap ≤ gs (max cap (rmF (bf_row (st_step P md (sh, sn)) (20 * i) x.1 (S, F, true)).1.length)) := ⟨gc_mono (by omega), gs_mono (by omega)⟩
        have hm2 : gc (max cap (rmF (bf_vis (h1, n1) (20 * i + x.1) ((bf_row (st_step P md (sh, sn)) (20 * i) x.1 (S, F, true)).1, (bf_row (st_step P md (sh, sn)) (20 * i) x.1 (S, F, true)).2.1, true)).1.length)) ≤ gc (max cap (rmF (bf_row (st_step P md (sh, sn)) (20 * i) 20 (S, F, true)).1.length)) ∧ gs (max cap (rmF (bf_vis (h1, n1) (20 * i + x.1) ((bf_row (st_step P md (sh, sn)) (20 * i) x.1 (S, F, true)).1, (bf_row (st_step P md (sh, sn)) (20 * i) x.1 (S, F, true)).2.1, true)).1.length)) ≤ gs (max cap (rmF (bf_row (st_step P md (sh, sn)) (20 * i) 20 (S, F, true)).1.length)) := by rw [hvis]; have := rm_mono (bf_row_len (st_step P md (sh, sn)) (20 * i) (S, F, true) (show x.1 + 1 ≤ 20 by omega)); exact ⟨gc_mono (by omega), gs_mono (by omega)⟩
        rw [← hcm] at hm1 hm2
        refine z_callVi X (pc' := 55) (fun sz => c_meet l D cI cJ sz sp (x.2.1.2.2.1) (x.2.1.2.2.2.1) (x.2.1.2.2.2.2.1) (x.2.1.2.2.2.2.2.1) (x.2.1.2.2.2.2.2.2.1) x.2.1.1 (x.2.1.2.1) E.length br h1 n1 (20 * i + x.1) (x.2.1.2.2.2.2.2.2.2.1) (x.2.1.2.2.2.2.2.2.2.2.1) (x.2.1.2.2.2.2.2.2.2.2.2.1) (x.2.1.2.2.2.2.2.2.2.2.2.2.1) (x.2.1.2.2.2.2.2.2.2.2.2.2.2) (bf_row (st_step P md (sh, sn)) (20 * i) x.1 (S, F, true)).1 (bf_row (st_step P md (sh, sn)) (20 * i) x.1 (S, F, true)).2.1 i3 (Sok_small (q := (h1, n1)) hSn) (by omega)) (zcwV X TTg 3 mL_X2_48 mI_X2_meet mS_X2_meet mN_X2 mK_X2_meet rfl rfl (by decide +kernel) ⟨(Nat.le_of_ble_eq_true rfl), (Nat.le_of_ble_eq_true rfl)⟩) (wr := [(a, .inr (0, [.ref pr, .int (nI md), .long (lN h1), .long (lN n1)])), (pr, .inr (1, [.ref cd, .ref ln, .int (nI tot)])), (cd, .inl (cI, 24, .inl f)), (ln, .inl (cI, 4, .inl g))]) [0, 1, 2, 3, 4, 5] [6, 7, 8, 9] rfl rfl rfl rfl (by decide) 2 0 rfl rfl rfl rfl rfl (Nat.le_of_ble_eq_true rfl) dX2_expand_52 ⟨by show _ - _ + 0 + _ ≤ _ - _; omega, by show _ - _ + 0 + _ ≤ _ - _; omega⟩ rfl (fun r w hw => ?_)
        obtain ⟨p1, p2, p3, p4, p6⟩ := hw
        have p1 : w.1 = bf_vis (h1, n1) (20 * i + x.1) ((bf_row (st_step P md (sh, sn)) (20 * i) x.1 (S, F, true)).1, (bf_row (st_step P md (sh, sn)) (20 * i) x.1 (S, F, true)).2.1, true) := p1
        have hce : gc (max cap (rmF (bf_row (st_step P md (sh, sn)) (20 * i) x.1 (S, F, true)).1.length)) - gc cap + 0 + (gc (max x.2.1.1 (rmF (bf_vis (h1, n1) (20 * i + x.1) ((bf_row (st_step P md (sh, sn)) (20 * i) x.1 (S, F, true)).1, (bf_row (st_step P md (sh, sn)) (20 * i) x.1 (S, F, true)).2.1, true)).1.length)) - gc x.2.1.1) = gc (max cap (rmF w.1.1.length)) - gc cap := by rw [p1, ← hcm]; omega
        have hse : gs (max cap (rmF (bf_row (st_step P md (sh, sn)) (20 * i) x.1 (S, F, true)).1.length)) - gs cap + 0 + (gs (max x.2.1.1 (rmF (bf_vis (h1, n1) (20 * i + x.1) ((bf_row (st_step P md (sh, sn)) (20 * i) x.1 (S, F, true)).1, (bf_row (st_step P md (sh, sn)) (20 * i) x.1 (S, F, true)).2.1, true)).1.length)) - gs x.2.1.1) = gs (max cap (rmF w.1.1.length)) - gs cap := by rw [p1, ← hcm]; omega
        have hB1 : bf_row (st_step P md (sh, sn)) (20 * i) (x.1 + 1) (S, F, true) = w.1 := by rw [p1, hvis]
        have p4x : w.2.1 = max cap (rmF w.1.1.length) := by rw [p4, p1, hcm]
        have p5 : ∀ q ∈ w.1.1, Sok P q.1 q.2 := by rw [p1]; exact bf_vis_sok (B := ((bf_row (st_step P md (sh, sn)) (20 * i) x.1 (S, F, true)).1, (bf_row (st_step P md (sh, sn)) (20 * i) x.1 (S, F, true)).2.1, true)) i5 hSn
        have p6 : eL E (w.2.2.2.2.2.2.2.2.2.2.2.1) := fun j hj => by rw [p6 j (by omega)]; exact i6 j hj
        have p2 : r = (if w.1.2.2 = true then nI 1 else nI 0) := p2
        refine z_wse (ws' := [(a, .inr (0, [.ref pr, .int (nI md), .long (lN h1), .long (lN n1)])), (pr, .inr (1, [.ref cd, .ref ln, .int (nI tot)])), (cd, .inl (cI, 24, .inl f)), (ln, .inl (cI, 4, .inl g)), (sp, .inr (2, [.ref w.2.2.2.1, .ref w.2.2.2.2.1, .ref w.2.2.2.2.2.1, .ref w.2.2.2.2.2.2.1, .ref w.2.2.2.2.2.2.2.1, .int (nI (rmF w.1.1.length)), .int (nI (nsF w.1.1.length)), .int (nI w.1.1.length), .int (nI E.length), .int (nI br)])), (w.2.2.2.1, .inl (cJ, w.2.1, .inr (.inl w.2.2.2.2.2.2.2.2.1))), (w.2.2.2.2.1, .inl (cJ, w.2.1, .inr (.inl w.2.2.2.2.2.2.2.2.2.1))), (w.2.2.2.2.2.1, .inl (cI, w.2.1, .inl w.2.2.2.2.2.2.2.2.2.2.1)), (w.2.2.2.2.2.2.1, .inl (cI, w.2.1, .inl w.2.2.2.2.2.2.2.2.2.2.2.1)), (w.2.2.2.2.2.2.2.1, .inl (cI, w.2.2.1, .inl w.2.2.2.2.2.2.2.2.2.2.2.2))]) rfl ?_
        rcases hok : w.1.2.2 with _ | _
        · rw [hok] at p2
          have p2 : r = nI 0 := p2
          subst p2
          refine z_if_neN X (tgt := 60) (pc' := 58) (by omega) dX2_expand_55 (by decide) rfl (fun h7 => ?_) (fun h7 => ?_)
          · exact absurd h7 (by decide)
          · clear h7
            refine z_iconst X (v := nI 0) (pc' := 59) dX2_expand_58 (by decide) rfl ?_
            have hfin : bf_row (st_step P md (sh, sn)) (20 * i) 20 (S, F, true) = w.1 := by rw [← hB1]; have := bf_row_stuck (stp := st_step P md (sh, sn)) (base := 20 * i) (B := (S, F, true)) (j := x.1 + 1) (by rw [hB1]; exact hok) (20 - (x.1 + 1)); rw [show x.1 + 1 + (20 - (x.1 + 1)) = 20 by omega] at this; exact this
            refine z_ws (ws' := [(sp, .inr (2, [.ref w.2.2.2.1, .ref w.2.2.2.2.1, .ref w.2.2.2.2.2.1, .ref w.2.2.2.2.2.2.1, .ref w.2.2.2.2.2.2.2.1, .int (nI (rmF w.1.1.length)), .int (nI (nsF w.1.1.length)), .int (nI w.1.1.length), .int (nI E.length), .int (nI br)])), (w.2.2.2.1, .inl (cJ, w.2.1, .inr (.inl w.2.2.2.2.2.2.2.2.1))), (w.2.2.2.2.1, .inl (cJ, w.2.1, .inr (.inl w.2.2.2.2.2.2.2.2.2.1))), (w.2.2.2.2.2.1, .inl (cI, w.2.1, .inl w.2.2.2.2.2.2.2.2.2.2.1)), (w.2.2.2.2.2.2.1, .inl (cI, w.2.1, .inl w.2.2.2.2.2.2.2.2.2.2.2.1)), (w.2.2.2.2.2.2.2.1, .inl (cI, w.2.2.1, .inl w.2.2.2.2.2.2.2.2.2.2.2.2)), (a, .inr (0, [.ref pr, .int (nI md), .long (lN h1), .long (lN n1)])), (pr, .inr (1, [.ref cd, .ref ln, .int (nI tot)])), (cd, .inl (cI, 24, .inl f)), (ln, .inl (cI, 4, .inl g))]) [4, 5, 6, 7, 8, 9, 0, 1, 2, 3] (by decide) rfl ?_
            exact z_iret X (t1 := .boolean) rfl rfl (w.1, w.2, E, br, lN h1, lN n1) ⟨hfin.symm, p3, p4x, p5, p6, Or.inr ⟨hok, rfl, rfl, rfl⟩⟩ rfl (by rw [hfin]; exact Nat.le_of_eq hce) (by rw [hfin]; exact Nat.le_of_eq hse) dX2_expand_59
        · rw [hok] at p2
          have p2 : r = nI 1 := p2
          subst p2
          refine z_if_neN X (tgt := 60) (pc' := 58) (by omega) dX2_expand_55 (by decide) rfl (fun h8 => ?_) (fun h8 => ?_)
          · clear h8
            refine z_iinc X (v := nI (x.1 + 1)) (lv' := [(4, .int (nI (x.1 + 1))), (3, .int (nI (bf_cnt (st_step P md (sh, sn)) (x.1 + 1)))), (0, .ref sp), (1, .int (nI i)), (2, .ref a)]) (k := 1) (pc' := 63) dX2_expand_60 rfl (nI_1 _) (by decide) rfl rfl ?_
            refine z_goto X (tgt := 5) dX2_expand_63 (by decide) ?_
            refine z_wse (ws' := [(a, .inr (0, [.ref pr, .int (nI md), .long (lN h1), .long (lN n1)])), (pr, .inr (1, [.ref cd, .ref ln, .int (nI tot)])), (cd, .inl (cI, 24, .inl f)), (ln, .inl (cI, 4, .inl g)), (sp, .inr (2, [.ref w.2.2.2.1, .ref w.2.2.2.2.1, .ref w.2.2.2.2.2.1, .ref w.2.2.2.2.2.2.1, .ref w.2.2.2.2.2.2.2.1, .int (nI (rmF ((bf_row (st_step P md (sh, sn)) (20 * i) (x.1 + 1) (S, F, true)).1.length))), .int (nI (nsF ((bf_row (st_step P md (sh, sn)) (20 * i) (x.1 + 1) (S, F, true)).1.length))), .int (nI ((bf_row (st_step P md (sh, sn)) (20 * i) (x.1 + 1) (S, F, true)).1.length)), .int (nI E.length), .int (nI br)])), (w.2.2.2.1, .inl (cJ, w.2.1, .inr (.inl w.2.2.2.2.2.2.2.2.1))), (w.2.2.2.2.1, .inl (cJ, w.2.1, .inr (.inl w.2.2.2.2.2.2.2.2.2.1))), (w.2.2.2.2.2.1, .inl (cI, w.2.1, .inl w.2.2.2.2.2.2.2.2.2.2.1)), (w.2.2.2.2.2.2.1, .inl (cI, w.2.1, .inl w.2.2.2.2.2.2.2.2.2.2.2.1)), (w.2.2.2.2.2.2.2.1, .inl (cI, w.2.2.1, .inl w.2.2.2.2.2.2.2.2.2.2.2.2))]) (by rw [hB1]) ?_
            refine z_widen (k := gc (max cap (rmF (bf_row (st_step P md (sh, sn)) (20 * i) (x.1 + 1) (S, F, true)).1.length)) - gc cap) (n := gs (max cap (rmF (bf_row (st_step P md (sh, sn)) (20 * i) (x.1 + 1) (S, F, true)).1.length)) - gs cap) (by rw [hB1]; exact Nat.le_of_eq hce) (by rw [hB1]; exact Nat.le_of_eq hse) ?_
            refine z_lv (lv' := [(4, .int (nI (x.1 + 1))), (3, .int (nI (bf_cnt (st_step P md (sh, sn)) (x.1 + 1)))), (0, .ref sp), (1, .int (nI i)), (2, .ref a)]) [0, 1, 2, 3, 4] rfl ?_
            refine z_ws (ws' := [(sp, .inr (2, [.ref w.2.2.2.1, .ref w.2.2.2.2.1, .ref w.2.2.2.2.2.1, .ref w.2.2.2.2.2.2.1, .ref w.2.2.2.2.2.2.2.1, .int (nI (rmF ((bf_row (st_step P md (sh, sn)) (20 * i) (x.1 + 1) (S, F, true)).1.length))), .int (nI (nsF ((bf_row (st_step P md (sh, sn)) (20 * i) (x.1 + 1) (S, F, true)).1.length))), .int (nI ((bf_row (st_step P md (sh, sn)) (20 * i) (x.1 + 1) (S, F, true)).1.length)), .int (nI E.length), .int (nI br)])), (w.2.2.2.1, .inl (cJ, w.2.1, .inr (.inl w.2.2.2.2.2.2.2.2.1))), (w.2.2.2.2.1, .inl (cJ, w.2.1, .inr (.inl w.2.2.2.2.2.2.2.2.2.1))), (w.2.2.2.2.2.1, .inl (cI, w.2.1, .inl w.2.2.2.2.2.2.2.2.2.2.1)), (w.2.2.2.2.2.2.1, .inl (cI, w.2.1, .inl w.2.2.2.2.2.2.2.2.2.2.2.1)), (w.2.2.2.2.2.2.2.1, .inl (cI, w.2.2.1, .inl w.2.2.2.2.2.2.2.2.2.2.2.2)), (a, .inr (0, [.ref pr, .int (nI md), .long (lN h1), .long (lN n1)])), (pr, .inr (1, [.ref cd, .ref ln, .int (nI tot)])), (cd, .inl (cI, 24, .inl f)), (ln, .inl (cI, 4, .inl g))]) [4, 5, 6, 7, 8, 9, 0, 1, 2, 3] (by decide) rfl ?_
            exact ih ((x.1 + 1, w.2, lN h1, lN n1)) ⟨by show x.1 + 1 ≤ 20; omega, by rw [hB1]; exact hok, by rw [hB1]; exact p3, by rw [hB1]; exact p4x, by rw [hB1]; exact p5, p6⟩ (by show 20 - (x.1 + 1) < 20 - x.1; omega)
          · exact absurd h8 (by decide)


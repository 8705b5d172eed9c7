/-! the machine of the threads, on numbers: held is h (20 digits to the base 4), lanes is n (4 digits to the base 8192) -/
def Lok (x : Nat) : Prop := wt x ≤ 2 ∧ x < 2 ^ (5 + 4 * wt x)
def Sok (P : Nat → List Nat) (h n : Nat) : Prop := h < 4 ^ 20 ∧ n < 8192 ^ 4 ∧ ∀ t, t < 4 → Lok (ml n t) ∧ pl (ml n t) ≤ (P t).length
def Pok (P : Nat → List Nat) : Prop := ∀ t, t < 4 → (P t).length ≤ 6 ∧ ∀ c ∈ P t, c < 112
def st_store (md h n t w v : Nat) : Option (Nat × Nat) :=
  if md = 0 then some (mw h (16 + w) v, n) else if 2 ≤ wt (ml n t) then none else some (h, mx n t (ml n t + 8 + (4 * w + v) * 2 ^ (5 + 4 * wt (ml n t))))
def st_seen (h x w : Nat) : Nat := if 2 ≤ wt x ∧ en x 1 / 4 = w then en x 1 % 4 else if 1 ≤ wt x ∧ en x 0 / 4 = w then en x 0 % 4 else mi h (16 + w)
def st_once (k h w r : Nat) : Nat := if k = 4 then mw (mw h (16 + w) (mi h r)) r (mi h (16 + w)) else if k = 5 then mw (mw h (16 + w) ((mi h (16 + w) + 1) % 4)) r (mi h (16 + w)) else h
def st_fin (t q : Nat) (s : Nat × Nat) : Nat × Nat := (s.1, mx s.2 t (ml s.2 t / 8 * 8 + q))
def st_do (md h n t c len : Nat) : Option (Nat × Nat) :=
  if c / 16 = 0 then (st_store md h n t (c / 4 % 4) (c % 4)).map (st_fin t (min (pl (ml n t) + 1) len))
  else if c / 16 = 1 then (st_store md h n t (c / 4 % 4) (mi h (4 * t + c % 4))).map (st_fin t (min (pl (ml n t) + 1) len))
  else if c / 16 = 2 then some (st_fin t (min (pl (ml n t) + 1) len) (mw h (4 * t + c % 4) (st_seen h (ml n t) (c / 4 % 4)), n))
  else if c / 16 = 6 then some (st_fin t (min (pl (ml n t) + 1 + (if mi h (4 * t + c % 4) = 0 then c / 4 % 4 else 0)) len) (h, n))
  else if 0 < wt (ml n t) then none
  else some (st_fin t (min (pl (ml n t) + 1) len) (st_once (c / 16) h (c / 4 % 4) (4 * t + c % 4), n))
def st_go (P : Nat → List Nat) (md h n t : Nat) : Option (Nat × Nat) := match (P t)[pl (ml n t)]? with
  | none => none
  | some c => st_do md h n t c (P t).length
def st_wo (x i : Nat) : Nat := pl x + (wt x - 1) * 8 + en x (1 - i) * 32
def st_rel (md h n t w : Nat) : Option (Nat × Nat) :=
  if 1 ≤ wt (ml n t) ∧ en (ml n t) 0 / 4 = w then some (mw h (16 + w) (en (ml n t) 0 % 4), mx n t (st_wo (ml n t) 0))
  else if md ≠ 1 ∧ 2 ≤ wt (ml n t) ∧ en (ml n t) 1 / 4 = w then some (mw h (16 + w) (en (ml n t) 1 % 4), mx n t (st_wo (ml n t) 1))
  else none
def st_step (P : Nat → List Nat) (md : Nat) (q : Nat × Nat) (k : Nat) : Option (Nat × Nat) := if k < 4 then st_go P md q.1 q.2 k else st_rel md q.1 q.2 ((k - 4) / 4) ((k - 4) % 4)
theorem Lok_lt {x : Nat} (h : Lok x) : x < 8192 := by
  obtain ⟨h1, h2⟩ := h
  rcases (show wt x = 0 ∨ wt x = 1 ∨ wt x = 2 by omega) with e | e | e <;> rw [e] at h2 <;> omega
theorem mi_lt (h i : Nat) : mi h i < 4 := dg_lt (by decide) _ _
theorem ml_lt (n t : Nat) : ml n t < 8192 := dg_lt (by decide) _ _
theorem mw_lt {h i v : Nat} (hh : h < 4 ^ 20) (hi : i < 20) (hv : v < 4) : mw h i v < 4 ^ 20 := ds_lt hv (by omega) hh
theorem mx_lt {n t x : Nat} (hn : n < 8192 ^ 4) (ht : t < 4) (hx : x < 8192) : mx n t x < 8192 ^ 4 := ds_lt hx ht hn
theorem mi_mw {h i v : Nat} (hv : v < 4) : mi (mw h i v) i = v := dg_ds_eq hv
theorem mi_mw_ne {h i j v : Nat} (hv : v < 4) (hi : i < 20) (hj : j < 20) (hne : j ≠ i) : mi (mw h i v) j = mi h j := dg_ds_ne hv (by omega)
theorem ml_mx {n t x : Nat} (hx : x < 8192) : ml (mx n t x) t = x := dg_ds_eq hx
theorem ml_mx_ne {n t t' x : Nat} (hx : x < 8192) (h : t' ≠ t) : ml (mx n t x) t' = ml n t' := dg_ds_ne hx h
theorem pl_lt (x : Nat) : pl x < 8 := Nat.mod_lt _ (by decide)
theorem wt_lt (x : Nat) : wt x < 4 := Nat.mod_lt _ (by decide)
theorem en_lt (x i : Nat) : en x i < 16 := Nat.mod_lt _ (by decide)
theorem Lok_place {x p : Nat} (h : Lok x) (hp : p < 8) : Lok (x / 8 * 8 + p) ∧ pl (x / 8 * 8 + p) = p := by
  obtain ⟨h1, h2⟩ := h
  have e1 : (x / 8 * 8 + p) / 8 = x / 8 := by omega
  have e2 : wt (x / 8 * 8 + p) = wt x := by unfold wt; rw [e1]
  refine ⟨⟨by rw [e2]; exact h1, ?_⟩, by unfold pl; omega⟩
  rw [e2]
  rcases (show wt x = 0 ∨ wt x = 1 ∨ wt x = 2 by omega) with e | e | e <;> rw [e] at h2 ⊢ <;> omega
theorem Lok_put {x b : Nat} (h : Lok x) (hw : ¬ 2 ≤ wt x) (hb : b < 16) : Lok (x + 8 + b * 2 ^ (5 + 4 * wt x)) ∧ pl (x + 8 + b * 2 ^ (5 + 4 * wt x)) = pl x ∧ x + 8 + b * 2 ^ (5 + 4 * wt x) < 8192 := by
  obtain ⟨h1, h2⟩ := h
  rcases (show wt x = 0 ∨ wt x = 1 by omega) with e | e
  · rw [e] at h2 ⊢
    have e0 : x / 8 % 4 = 0 := e
    have e2 : wt (x + 8 + b * 2 ^ (5 + 4 * 0)) = 1 := by unfold wt; omega
    refine ⟨⟨by rw [e2]; decide, by rw [e2]; omega⟩, by unfold pl; omega, by omega⟩
  · rw [e] at h2 ⊢
    have e0 : x / 8 % 4 = 1 := e
    have e2 : wt (x + 8 + b * 2 ^ (5 + 4 * 1)) = 2 := by unfold wt; omega
    refine ⟨⟨by rw [e2]; decide, by rw [e2]; omega⟩, by unfold pl; omega, by omega⟩
theorem Lok_wo {x i : Nat} (h : Lok x) (hi : i < wt x) : Lok (st_wo x i) ∧ pl (st_wo x i) = pl x ∧ st_wo x i < 8192 := by
  obtain ⟨h1, h2⟩ := h
  have hl := en_lt x (1 - i)
  have hp := pl_lt x
  rcases (show wt x = 1 ∨ wt x = 2 by omega) with e | e
  · have hi0 : i = 0 := by omega
    subst hi0
    have e1 : en x (1 - 0) = 0 := by
      rw [e] at h2
      show x / 2 ^ (5 + 4 * 1) % 16 = 0
      omega
    have e3 : st_wo x 0 = pl x := by unfold st_wo; rw [e, e1]; omega
    rw [e3]
    have e2 : wt (pl x) = 0 := by unfold wt; omega
    refine ⟨⟨by rw [e2]; decide, by rw [e2]; omega⟩, by unfold pl; omega, by omega⟩
  · have e3 : st_wo x i = pl x + 8 + en x (1 - i) * 32 := by unfold st_wo; rw [e]
    rw [e3]
    have e2 : wt (pl x + 8 + en x (1 - i) * 32) = 1 := by unfold wt; omega
    refine ⟨⟨by rw [e2]; decide, by rw [e2]; omega⟩, ?_, by omega⟩
    show (pl x + 8 + en x (1 - i) * 32) % 8 = pl x
    omega
theorem Sok_held {P : Nat → List Nat} {h h' n : Nat} (H : Sok P h n) (hh : h' < 4 ^ 20) : Sok P h' n := ⟨hh, H.2⟩
theorem Sok_lane {P : Nat → List Nat} {h n t x : Nat} (H : Sok P h n) (ht : t < 4) (hx : Lok x) (hp : pl x ≤ (P t).length) : Sok P h (mx n t x) := by
  have hl := Lok_lt hx
  refine ⟨H.1, mx_lt H.2.1 ht hl, fun t' ht' => ?_⟩
  by_cases e : t' = t
  · subst e
    rw [ml_mx hl]
    exact ⟨hx, hp⟩
  · rw [ml_mx_ne hl e]
    exact H.2.2 t' ht'
theorem Sok_fin {P : Nat → List Nat} {h n t q : Nat} (H : Sok P h n) (hP : Pok P) (ht : t < 4) (hq : q ≤ (P t).length) : Sok P (st_fin t q (h, n)).1 (st_fin t q (h, n)).2 := by
  have h6 := (hP t ht).1
  obtain ⟨h1, h2⟩ := Lok_place (H.2.2 t ht).1 (show q < 8 by omega)
  exact Sok_lane H ht h1 (by rw [h2]; exact hq)
theorem Sok_store {P : Nat → List Nat} {md h n t w v : Nat} {q : Nat × Nat} (H : Sok P h n) (ht : t < 4) (hw : w < 4) (hv : v < 4) (e : st_store md h n t w v = some q) : Sok P q.1 q.2 ∧ pl (ml q.2 t) = pl (ml n t) := by
  unfold st_store at e
  split at e
  · cases e; exact ⟨Sok_held H (mw_lt H.1 (by omega) hv), rfl⟩
  · split at e
    · cases e
    · cases e
      rename_i h1 h2
      obtain ⟨g1, g2, g3⟩ := Lok_put (H.2.2 t ht).1 h2 (show 4 * w + v < 16 by omega)
      refine ⟨Sok_lane H ht g1 (by rw [g2]; exact (H.2.2 t ht).2), ?_⟩
      show pl (ml (mx n t _) t) = _
      rw [ml_mx g3, g2]
theorem st_seen_lt (h x w : Nat) : st_seen h x w < 4 := by
  unfold st_seen
  split
  · exact Nat.mod_lt _ (by decide)
  · split
    · exact Nat.mod_lt _ (by decide)
    · exact mi_lt _ _
theorem st_once_lt {k h w r : Nat} (hh : h < 4 ^ 20) (hw : w < 4) (hr : r < 16) : st_once k h w r < 4 ^ 20 := by
  unfold st_once
  split
  · exact mw_lt (mw_lt hh (by omega) (mi_lt _ _)) (by omega) (mi_lt _ _)
  · split
    · exact mw_lt (mw_lt hh (by omega) (Nat.mod_lt _ (by decide))) (by omega) (mi_lt _ _)
    · exact hh
theorem Sok_do {P : Nat → List Nat} {md h n t c : Nat} {q : Nat × Nat} (hP : Pok P) (H : Sok P h n) (ht : t < 4) (e : st_do md h n t c (P t).length = some q) : Sok P q.1 q.2 := by
  have hb : c % 4 < 4 := Nat.mod_lt _ (by decide)
  have ha : c / 4 % 4 < 4 := Nat.mod_lt _ (by decide)
  unfold st_do at e
  split at e
  · obtain ⟨q1, e1, rfl⟩ := Option.map_eq_some_iff.mp e
    exact Sok_fin (Sok_store H ht ha hb e1).1 hP ht (Nat.min_le_right _ _)
  · split at e
    · obtain ⟨q1, e1, rfl⟩ := Option.map_eq_some_iff.mp e
      exact Sok_fin (Sok_store H ht ha (mi_lt _ _) e1).1 hP ht (Nat.min_le_right _ _)
    · split at e
      · cases e
        exact Sok_fin (Sok_held H (mw_lt H.1 (by omega) (st_seen_lt _ _ _))) hP ht (Nat.min_le_right _ _)
      · split at e
        · cases e
          exact Sok_fin H hP ht (Nat.min_le_right _ _)
        · split at e
          · cases e
          · cases e
            exact Sok_fin (Sok_held H (st_once_lt H.1 ha (by omega))) hP ht (Nat.min_le_right _ _)
theorem Sok_rel {P : Nat → List Nat} {md h n t w : Nat} {q : Nat × Nat} (H : Sok P h n) (ht : t < 4) (hw : w < 4) (e : st_rel md h n t w = some q) : Sok P q.1 q.2 := by
  unfold st_rel at e
  have hm : ∀ y : Nat, y % 4 < 4 := fun y => Nat.mod_lt _ (by decide)
  split at e
  · rename_i h1
    cases e
    obtain ⟨g1, g2, g3⟩ := Lok_wo (i := 0) (H.2.2 t ht).1 (by omega)
    exact Sok_lane (Sok_held H (mw_lt H.1 (by omega) (hm _))) ht g1 (by rw [g2]; exact (H.2.2 t ht).2)
  · split at e
    · rename_i h1 h2
      cases e
      obtain ⟨g1, g2, g3⟩ := Lok_wo (i := 1) (H.2.2 t ht).1 (by omega)
      exact Sok_lane (Sok_held H (mw_lt H.1 (by omega) (hm _))) ht g1 (by rw [g2]; exact (H.2.2 t ht).2)
    · cases e
theorem Sok_step {P : Nat → List Nat} {md k : Nat} {s q : Nat × Nat} (hP : Pok P) (H : Sok P s.1 s.2) (hk : k < 20) (e : st_step P md s k = some q) : Sok P q.1 q.2 := by
  unfold st_step at e
  split at e
  · rename_i h4
    unfold st_go at e
    split at e
    · cases e
    · exact Sok_do hP H h4 e
  · exact Sok_rel H (by omega) (by omega) e
theorem Sok_0 (P : Nat → List Nat) : Sok P 0 0 := by
  refine ⟨by decide, by decide, fun t _ => ?_⟩
  have e : ml 0 t = 0 := dg_zero 8192 t
  rw [e]
  exact ⟨⟨by decide, by decide⟩, Nat.zero_le _⟩

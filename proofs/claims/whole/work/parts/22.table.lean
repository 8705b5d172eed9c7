/-! the table of found states: one probe after the other with n slots; tv s: 1 more than the place of the state that slot s holds, or 0; hs: where the search of a state begins -/
theorem pg_hole : ∀ (m n : Nat) (f : Nat → Nat), (∀ s, s < n → f s < m) → (∀ s s', s < n → s' < n → f s = f s' → s = s') → n ≤ m := by
  intro m
  induction m with
  | zero =>
    intro n f h _
    rcases Nat.eq_zero_or_pos n with q | q
    · omega
    · exact absurd (h 0 q) (by omega)
  | succ m ih =>
    intro n f h hi
    cases n with
    | zero => omega
    | succ n =>
      have hk : n ≤ m := by
        refine ih n (fun s => if f s = m then f n else f s) ?_ ?_
        · intro s hs
          have h1 := h s (by omega)
          have h2 := h n (by omega)
          have h3 : f s ≠ f n := fun e => by have := hi s n (by omega) (by omega) e; omega
          show (if f s = m then f n else f s) < m
          by_cases h4 : f s = m
          · rw [if_pos h4]; omega
          · rw [if_neg h4]; omega
        · intro s s' hs hs' he
          have he : (if f s = m then f n else f s) = (if f s' = m then f n else f s') := he
          have n1 : f s ≠ f n := fun e => by have := hi s n (by omega) (by omega) e; omega
          have n2 : f s' ≠ f n := fun e => by have := hi s' n (by omega) (by omega) e; omega
          by_cases h4 : f s = m <;> by_cases h5 : f s' = m
          · exact hi s s' (by omega) (by omega) (by omega)
          · rw [if_pos h4, if_neg h5] at he; exact absurd he.symm n2
          · rw [if_neg h4, if_pos h5] at he; exact absurd he n1
          · rw [if_neg h4, if_neg h5] at he; exact hi s s' (by omega) (by omega) he
      omega
def tb_ok (hs : Nat × Nat → Nat) (n : Nat) (tv : Nat → Nat) (S : List (Nat × Nat)) : Prop :=
  (∀ s, s < n → tv s ≤ S.length) ∧ (∀ s s', s < n → s' < n → tv s = tv s' → tv s ≠ 0 → s = s') ∧
  ∀ (j : Nat) (q : Nat × Nat), S[j]? = some q → ∃ d, d < n ∧ tv ((hs q + d) % n) = j + 1 ∧ ∀ e, e < d → tv ((hs q + e) % n) ≠ 0
/-- the slots before the d-th of q's search are taken, by others than q -/
def tb_seen (hs : Nat × Nat → Nat) (n : Nat) (tv : Nat → Nat) (S : List (Nat × Nat)) (q : Nat × Nat) (d : Nat) : Prop :=
  ∀ e, e < d → tv ((hs q + e) % n) ≠ 0 ∧ S[tv ((hs q + e) % n) - 1]? ≠ some q
theorem tb_seen_0 {hs : Nat × Nat → Nat} {n : Nat} {tv : Nat → Nat} {S : List (Nat × Nat)} {q : Nat × Nat} : tb_seen hs n tv S q 0 := fun e h => absurd h (Nat.not_lt_zero e)
theorem tb_seen_1 {hs : Nat × Nat → Nat} {n : Nat} {tv : Nat → Nat} {S : List (Nat × Nat)} {q : Nat × Nat} {d : Nat} (h : tb_seen hs n tv S q d) (h1 : tv ((hs q + d) % n) ≠ 0) (h2 : S[tv ((hs q + d) % n) - 1]? ≠ some q) : tb_seen hs n tv S q (d + 1) := by
  intro e he
  rcases Nat.lt_or_ge e d with q1 | q1
  · exact h e q1
  · rw [show e = d by omega]; exact ⟨h1, h2⟩
theorem tb_free {hs : Nat × Nat → Nat} {n : Nat} {tv : Nat → Nat} {S : List (Nat × Nat)} (h : tb_ok hs n tv S) (hn : S.length < n) : ∃ s, s < n ∧ tv s = 0 := by
  apply Classical.byContradiction
  intro hc
  have hne : ∀ s, s < n → tv s ≠ 0 := fun s hs e => hc ⟨s, hs, e⟩
  have := pg_hole S.length n (fun s => tv s - 1) (fun s hs => by have := hne s hs; have := h.1 s hs; show tv s - 1 < S.length; omega) (fun s s' hs hs' e => by
    have e : tv s - 1 = tv s' - 1 := e
    have := hne s hs; have := hne s' hs'
    exact h.2.1 s s' hs hs' (by omega) (hne s hs))
  omega
theorem tb_all {n s x : Nat} (hs : s < n) : ∃ e, e < n ∧ (x + e) % n = s := by
  have hn : 0 < n := by omega
  have hx : x % n < n := Nat.mod_lt _ hn
  have ex : x = n * (x / n) + x % n := (Nat.div_add_mod x n).symm
  rcases Nat.lt_or_ge s (x % n) with h | h
  · refine ⟨s + n - x % n, by omega, ?_⟩
    rw [show x + (s + n - x % n) = s + n * (x / n + 1) by rw [Nat.mul_add]; omega, Nat.add_mul_mod_self_left, Nat.mod_eq_of_lt hs]
  · refine ⟨s - x % n, by omega, ?_⟩
    rw [show x + (s - x % n) = s + n * (x / n) by omega, Nat.add_mul_mod_self_left, Nat.mod_eq_of_lt hs]
theorem tb_full {hs : Nat × Nat → Nat} {n : Nat} {tv : Nat → Nat} {S : List (Nat × Nat)} {q : Nat × Nat} (h : tb_ok hs n tv S) (hn : S.length < n) (hf : tb_seen hs n tv S q n) : False := by
  obtain ⟨s, h1, h2⟩ := tb_free h hn
  obtain ⟨e, h3, h4⟩ := tb_all (x := hs q) h1
  exact (hf e h3).1 (by rw [h4]; exact h2)
theorem tb_miss {hs : Nat × Nat → Nat} {n : Nat} {tv : Nat → Nat} {S : List (Nat × Nat)} {q : Nat × Nat} {d : Nat} (h : tb_ok hs n tv S) (hf : tb_seen hs n tv S q d) (h0 : tv ((hs q + d) % n) = 0) : q ∉ S := by
  intro hq
  obtain ⟨j, hj⟩ := List.getElem?_of_mem hq
  obtain ⟨d', h1, h2, h3⟩ := h.2.2 j q hj
  rcases Nat.lt_or_ge d' d with q1 | q1
  · have := (hf d' q1).2
    rw [h2, Nat.add_sub_cancel] at this
    exact this hj
  · rcases Nat.lt_or_ge d d' with q2 | q2
    · exact h3 d q2 h0
    · rw [show d' = d by omega, h0] at h2; omega
theorem tb_put {hs : Nat × Nat → Nat} {n : Nat} {tv : Nat → Nat} {S : List (Nat × Nat)} {q : Nat × Nat} {d : Nat} (h : tb_ok hs n tv S) (hd : d < n) (hf : tb_seen hs n tv S q d) (h0 : tv ((hs q + d) % n) = 0) :
    tb_ok hs n (fun s => if s = (hs q + d) % n then S.length + 1 else tv s) (S ++ [q]) := by
  have hn : 0 < n := by omega
  have hp : (hs q + d) % n < n := Nat.mod_lt _ hn
  refine ⟨fun s h1 => ?_, fun s s' h1 h2 he hz => ?_, fun j r hj => ?_⟩
  · have := h.1 s h1
    show (if s = (hs q + d) % n then S.length + 1 else tv s) ≤ (S ++ [q]).length
    rw [List.length_append, List.length_singleton]
    split <;> omega
  · have he : (if s = (hs q + d) % n then S.length + 1 else tv s) = (if s' = (hs q + d) % n then S.length + 1 else tv s') := he
    have hz : (if s = (hs q + d) % n then S.length + 1 else tv s) ≠ 0 := hz
    have l1 := h.1 s h1
    have l2 := h.1 s' h2
    by_cases e1 : s = (hs q + d) % n <;> by_cases e2 : s' = (hs q + d) % n
    · omega
    · rw [if_pos e1, if_neg e2] at he; omega
    · rw [if_neg e1, if_pos e2] at he; omega
    · rw [if_neg e1, if_neg e2] at he; rw [if_neg e1] at hz; exact h.2.1 s s' h1 h2 he hz
  · rcases Nat.lt_or_ge j S.length with q1 | q1
    · rw [List.getElem?_append_left q1] at hj
      obtain ⟨d', g1, g2, g3⟩ := h.2.2 j r hj
      have ne : ∀ e, e ≤ d' → (hs r + e) % n ≠ (hs q + d) % n := by
        intro e he e1
        rcases Nat.lt_or_ge e d' with q2 | q2
        · exact g3 e q2 (by rw [e1]; exact h0)
        · rw [show e = d' by omega] at e1
          rw [e1, h0] at g2; omega
      refine ⟨d', g1, ?_, fun e he => ?_⟩
      · show (if (hs r + d') % n = (hs q + d) % n then S.length + 1 else tv ((hs r + d') % n)) = j + 1
        rw [if_neg (ne d' (Nat.le_refl _))]; exact g2
      · show (if (hs r + e) % n = (hs q + d) % n then S.length + 1 else tv ((hs r + e) % n)) ≠ 0
        rw [if_neg (ne e (by omega))]; exact g3 e he
    · rw [List.getElem?_append_right q1] at hj
      have hj0 : j - S.length = 0 := by
        rcases Nat.eq_zero_or_pos (j - S.length) with q2 | q2
        · exact q2
        · rw [List.getElem?_eq_none (by rw [List.length_singleton]; omega)] at hj; cases hj
      rw [hj0] at hj
      have hr : r = q := by simpa using hj.symm
      subst hr
      refine ⟨d, hd, ?_, fun e he => ?_⟩
      · show (if (hs r + d) % n = (hs r + d) % n then S.length + 1 else tv ((hs r + d) % n)) = j + 1
        rw [if_pos rfl]; omega
      · show (if (hs r + e) % n = (hs r + d) % n then S.length + 1 else tv ((hs r + e) % n)) ≠ 0
        split
        · omega
        · exact (hf e he).1
theorem tb_nil (hs : Nat × Nat → Nat) (n : Nat) {tv : Nat → Nat} (h : ∀ s, s < n → tv s = 0) : tb_ok hs n tv [] :=
  ⟨fun s q => by rw [h s q]; exact Nat.zero_le _, fun s s' q _ _ hz => absurd (h s q) hz, fun j q hj => by simp at hj⟩

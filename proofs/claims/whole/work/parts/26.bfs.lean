/-! the search: found states S in their order, where each one came from (20 times the place of the state before it, plus the move), and whether there was room -/
abbrev BB : Type := List (Nat × Nat) × List Nat × Bool
def bf_vis (q : Nat × Nat) (o : Nat) (B : BB) : BB :=
  if B.2.2 = false then B else if q ∈ B.1 then B else if 20000 ≤ B.1.length then (B.1, B.2.1, false) else (B.1 ++ [q], B.2.1 ++ [o], true)
/-- the first j moves of a state -/
def bf_row (stp : Nat → Option (Nat × Nat)) (base : Nat) : Nat → BB → BB
  | 0, B => B
  | j + 1, B => match stp j with
    | none => bf_row stp base j B
    | some q => bf_vis q (base + j) (bf_row stp base j B)
/-- how many of the first j moves can be made -/
def bf_cnt (stp : Nat → Option (Nat × Nat)) : Nat → Nat
  | 0 => 0
  | j + 1 => bf_cnt stp j + (if (stp j).isSome then 1 else 0)
/-- the states before place i are done: what was found, the outcomes, how many have more than one move -/
def bf_go (stp : Nat × Nat → Nat → Option (Nat × Nat)) : Nat → BB × List Nat × Nat
  | 0 => (([(0, 0)], [0], true), [], 0)
  | i + 1 =>
    let r := bf_go stp i
    if r.1.2.2 = false then r else
    match r.1.1[i]? with
    | none => r
    | some q =>
      let B := bf_row (stp q) (20 * i) 20 r.1
      if B.2.2 = false then (B, r.2.1, r.2.2) else (B, (if bf_cnt (stp q) 20 = 0 then r.2.1 ++ [i] else r.2.1), (if 1 < bf_cnt (stp q) 20 then r.2.2 + 1 else r.2.2))
def bf_ok (P : Nat → List Nat) (md : Nat) (S : List (Nat × Nat)) (F : List Nat) : Prop :=
  S.length = F.length ∧ S.length ≤ 20000 ∧ S.Nodup ∧ (∀ q ∈ S, Sok P q.1 q.2) ∧
  ∀ i, 0 < i → i < S.length → F.getD i 0 / 20 < i ∧ st_step P md (S.getD (F.getD i 0 / 20) (0, 0)) (F.getD i 0 % 20) = some (S.getD i (0, 0))
theorem bf_vis_ok {P : Nat → List Nat} {md o : Nat} {q : Nat × Nat} {B : BB} (h : bf_ok P md B.1 B.2.1) (hq : Sok P q.1 q.2) (h1 : o / 20 < B.1.length) (h2 : st_step P md (B.1.getD (o / 20) (0, 0)) (o % 20) = some q) : bf_ok P md (bf_vis q o B).1 (bf_vis q o B).2.1 := by
  unfold bf_vis
  split
  · exact h
  · split
    · exact h
    · split
      · exact h
      · rename_i a1 a2 a3
        obtain ⟨e1, e2, e3, e4, e5⟩ := h
        refine ⟨by simp [e1], by simp; omega, ?_, ?_, ?_⟩
        · rw [List.nodup_append]
          refine ⟨e3, by simp, fun x hx y hy => ?_⟩
          rw [List.mem_singleton] at hy
          intro hxy
          exact a2 (by rw [← hy, ← hxy]; exact hx)
        · intro x hx
          rcases List.mem_append.mp hx with hx | hx
          · exact e4 x hx
          · rw [List.mem_singleton] at hx
            rw [hx]; exact hq
        · intro i h0 hi
          have hi' : i < B.1.length + 1 := by simpa using hi
          show (B.2.1 ++ [o]).getD i 0 / 20 < i ∧ _
          rcases Nat.lt_or_ge i B.1.length with q1 | q1
          · have f1 : (B.2.1 ++ [o]).getD i 0 = B.2.1.getD i 0 := by
              rw [List.getD_eq_getElem?_getD, List.getElem?_append_left (by omega), ← List.getD_eq_getElem?_getD]
            have g1 := e5 i h0 q1
            have f2 : (B.1 ++ [q]).getD (B.2.1.getD i 0 / 20) (0, 0) = B.1.getD (B.2.1.getD i 0 / 20) (0, 0) := by
              rw [List.getD_eq_getElem?_getD, List.getElem?_append_left (by omega), ← List.getD_eq_getElem?_getD]
            have f3 : (B.1 ++ [q]).getD i (0, 0) = B.1.getD i (0, 0) := by
              rw [List.getD_eq_getElem?_getD, List.getElem?_append_left (by omega), ← List.getD_eq_getElem?_getD]
            rw [f1, f2, f3]
            exact g1
          · have hi2 : i = B.1.length := by omega
            have f1 : (B.2.1 ++ [o]).getD i 0 = o := by
              rw [List.getD_eq_getElem?_getD, List.getElem?_append_right (by omega), show i - B.2.1.length = 0 by omega]; rfl
            have f2 : (B.1 ++ [q]).getD (o / 20) (0, 0) = B.1.getD (o / 20) (0, 0) := by
              rw [List.getD_eq_getElem?_getD, List.getElem?_append_left (by omega), ← List.getD_eq_getElem?_getD]
            have f3 : (B.1 ++ [q]).getD i (0, 0) = q := by
              rw [List.getD_eq_getElem?_getD, List.getElem?_append_right (by omega), show i - B.1.length = 0 by omega]; rfl
            rw [f1, f2, f3]
            exact ⟨by omega, h2⟩
/-- what was found before stays where it is -/
theorem bf_vis_pre {o : Nat} {q : Nat × Nat} {B : BB} : (∃ t, (bf_vis q o B).1 = B.1 ++ t) ∧ ∃ t, (bf_vis q o B).2.1 = B.2.1 ++ t := by
  unfold bf_vis
  split
  · exact ⟨⟨[], by simp⟩, ⟨[], by simp⟩⟩
  · split
    · exact ⟨⟨[], by simp⟩, ⟨[], by simp⟩⟩
    · split
      · exact ⟨⟨[], by simp⟩, ⟨[], by simp⟩⟩
      · exact ⟨⟨[q], rfl⟩, ⟨[o], rfl⟩⟩
theorem bf_row_pre {stp : Nat → Option (Nat × Nat)} {base : Nat} {B : BB} : ∀ j, (∃ t, (bf_row stp base j B).1 = B.1 ++ t) ∧ ∃ t, (bf_row stp base j B).2.1 = B.2.1 ++ t := by
  intro j
  induction j with
  | zero => exact ⟨⟨[], by simp [bf_row]⟩, ⟨[], by simp [bf_row]⟩⟩
  | succ j ih =>
    unfold bf_row
    split
    · exact ih
    · rename_i q _
      obtain ⟨⟨t1, e1⟩, ⟨t2, e2⟩⟩ := ih
      obtain ⟨⟨t3, e3⟩, ⟨t4, e4⟩⟩ := bf_vis_pre (o := base + j) (q := q) (B := bf_row stp base j B)
      exact ⟨⟨t1 ++ t3, by rw [e3, e1, List.append_assoc]⟩, ⟨t2 ++ t4, by rw [e4, e2, List.append_assoc]⟩⟩

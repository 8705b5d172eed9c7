/-! sorting by a heap: E holds the elements, K is their key -/
def sw (E : Nat → Nat) (i j : Nat) : Nat → Nat := fun k => if k = j then E i else if k = i then E j else E k
def hs_inj (E : Nat → Nat) (n : Nat) : Prop := ∀ i j, i < n → j < n → E i = E j → i = j
def hs_same (E E0 : Nat → Nat) (n : Nat) : Prop := (∀ i, i < n → ∃ j, j < n ∧ E i = E0 j) ∧ (∀ j, j < n → ∃ i, i < n ∧ E i = E0 j)
theorem hs_same_rf {E : Nat → Nat} {n : Nat} : hs_same E E n := ⟨fun i h => ⟨i, h, rfl⟩, fun i h => ⟨i, h, rfl⟩⟩
theorem hs_same_tr {E E1 E2 : Nat → Nat} {n : Nat} (h1 : hs_same E E1 n) (h2 : hs_same E1 E2 n) : hs_same E E2 n := by
  refine ⟨fun i hi => ?_, fun j hj => ?_⟩
  · obtain ⟨a, b, c⟩ := h1.1 i hi
    obtain ⟨a', b', c'⟩ := h2.1 a b
    exact ⟨a', b', c.trans c'⟩
  · obtain ⟨a, b, c⟩ := h2.2 j hj
    obtain ⟨a', b', c'⟩ := h1.2 a b
    exact ⟨a', b', c'.trans c⟩
/-- a longer row, the rest as it was -/
theorem hs_same_up {E E0 : Nat → Nat} {m n : Nat} (h : hs_same E E0 m) (hr : ∀ k, m ≤ k → E k = E0 k) : hs_same E E0 n ∨ n < m := by
  rcases Nat.lt_or_ge n m with q | q
  · exact Or.inr q
  · refine Or.inl ⟨fun i hi => ?_, fun j hj => ?_⟩
    · rcases Nat.lt_or_ge i m with q1 | q1
      · obtain ⟨a, b, c⟩ := h.1 i q1
        exact ⟨a, by omega, c⟩
      · exact ⟨i, hi, hr i q1⟩
    · rcases Nat.lt_or_ge j m with q1 | q1
      · obtain ⟨a, b, c⟩ := h.2 j q1
        exact ⟨a, by omega, c⟩
      · exact ⟨j, hj, hr j q1⟩
theorem sw_same {E : Nat → Nat} {n i j : Nat} (hi : i < n) (hj : j < n) : hs_same (sw E i j) E n := by
  refine ⟨fun k hk => ?_, fun k hk => ?_⟩
  · unfold sw
    by_cases h1 : k = j
    · exact ⟨i, hi, by rw [if_pos h1]⟩
    · by_cases h2 : k = i
      · exact ⟨j, hj, by rw [if_neg h1, if_pos h2]⟩
      · exact ⟨k, hk, by rw [if_neg h1, if_neg h2]⟩
  · unfold sw
    by_cases h1 : k = i
    · exact ⟨j, hj, by rw [if_pos rfl, h1]⟩
    · by_cases h2 : k = j
      · refine ⟨i, hi, ?_⟩
        by_cases h3 : i = j
        · rw [if_pos h3, h3, h2]
        · rw [if_neg h3, if_pos rfl, h2]
      · exact ⟨k, hk, by rw [if_neg h2, if_neg h1]⟩
/-- elements that are apart stay apart: as many places, the same elements -/
theorem sw_inj {E : Nat → Nat} {n i j : Nat} (h : hs_inj E n) (hi : i < n) (hj : j < n) : hs_inj (sw E i j) n := by
  intro a b ha hb e
  unfold sw at e
  by_cases a1 : a = j <;> by_cases b1 : b = j
  · omega
  · rw [if_pos a1, if_neg b1] at e
    by_cases b2 : b = i
    · rw [if_pos b2] at e
      have := h i j hi hj e
      omega
    · rw [if_neg b2] at e
      have := h i b hi hb e
      omega
  · rw [if_neg a1, if_pos b1] at e
    by_cases a2 : a = i
    · rw [if_pos a2] at e
      have := h j i hj hi e
      omega
    · rw [if_neg a2] at e
      have := h a i ha hi e
      omega
  · rw [if_neg a1, if_neg b1] at e
    by_cases a2 : a = i <;> by_cases b2 : b = i
    · omega
    · rw [if_pos a2, if_neg b2] at e
      have := h j b hj hb e
      omega
    · rw [if_neg a2, if_pos b2] at e
      have := h a j ha hj e
      omega
    · rw [if_neg a2, if_neg b2] at e
      exact h a b ha hb e
def hp_ch (i c : Nat) : Prop := c = 2 * i + 1 ∨ c = 2 * i + 2
def hp_ok (K E : Nat → Nat) (n lo : Nat) : Prop := ∀ i c, lo ≤ i → hp_ch i c → c < n → K (E c) ≤ K (E i)
def hp_but (K E : Nat → Nat) (n lo x : Nat) : Prop := (∀ i c, lo ≤ i → i ≠ x → hp_ch i c → c < n → K (E c) ≤ K (E i)) ∧ ∀ p c, lo ≤ p → hp_ch p x → hp_ch x c → c < n → K (E c) ≤ K (E p)
theorem hp_begin {K E : Nat → Nat} {n lo : Nat} (h : hp_ok K E n (lo + 1)) : hp_but K E n lo lo :=
  ⟨fun i c h1 h2 h3 h4 => h i c (by omega) h3 h4, fun p c h1 h2 h3 h4 => by unfold hp_ch at h2; omega⟩
theorem hp_step {K E : Nat → Nat} {n lo x c : Nat} (h : hp_but K E n lo x) (hlo : lo ≤ x) (hc : hp_ch x c) (hn : c < n) (hm : ∀ d, hp_ch x d → d < n → K (E d) ≤ K (E c)) (hg : K (E x) ≤ K (E c)) : hp_but K (sw E x c) n lo c := by
  have hxc : x ≠ c := by unfold hp_ch at hc; omega
  have s1 : sw E x c x = E c := by unfold sw; rw [if_neg hxc, if_pos rfl]
  have s2 : sw E x c c = E x := by unfold sw; rw [if_pos rfl]
  have s3 : ∀ k, k ≠ x → k ≠ c → sw E x c k = E k := fun k h1 h2 => by unfold sw; rw [if_neg h2, if_neg h1]
  refine ⟨fun i d h1 h2 h3 h4 => ?_, fun p d h1 h2 h3 h4 => ?_⟩
  · by_cases e1 : i = x
    · subst e1
      rw [s1]
      by_cases e2 : d = c
      · rw [e2, s2]; exact hg
      · rw [s3 d (by unfold hp_ch at h3; omega) e2]; exact hm d h3 h4
    · rw [s3 i e1 h2]
      by_cases e2 : d = x
      · rw [e2, s1]
        exact h.2 i c h1 (by rw [← e2]; exact h3) hc hn
      · by_cases e3 : d = c
        · unfold hp_ch at h3 hc; omega
        · rw [s3 d e2 e3]; exact h.1 i d h1 e1 h3 h4
  · have e1 : p = x := by unfold hp_ch at h2 hc; omega
    subst e1
    rw [s1, s3 d (by unfold hp_ch at h3 hc; omega) (by unfold hp_ch at h3; omega)]
    exact h.1 c d (by unfold hp_ch at hc; omega) (by omega) h3 h4
theorem hp_done {K E : Nat → Nat} {n lo x : Nat} (h : hp_but K E n lo x) (hm : ∀ d, hp_ch x d → d < n → K (E d) ≤ K (E x)) : hp_ok K E n lo := by
  intro i c h1 h2 h3
  by_cases e : i = x
  · subst e; exact hm c h2 h3
  · exact h.1 i c h1 e h2 h3
theorem hp_top {K E : Nat → Nat} {n : Nat} (h : hp_ok K E n 0) : ∀ i, i < n → K (E i) ≤ K (E 0) := by
  intro i
  induction i using Nat.strongRecOn with
  | _ i ih =>
    intro hi
    rcases Nat.eq_zero_or_pos i with q | q
    · rw [q]; exact Nat.le_refl _
    · have hc : hp_ch ((i - 1) / 2) i := by unfold hp_ch; omega
      exact Nat.le_trans (h _ i (Nat.zero_le _) hc hi) (ih ((i - 1) / 2) (by omega) (by omega))
/-- from m on the row is sorted, and nothing before is greater -/
def hp_tail (K E : Nat → Nat) (m n : Nat) : Prop := (∀ i j, i < m → m ≤ j → j < n → K (E i) ≤ K (E j)) ∧ ∀ i j, m ≤ i → i < j → j < n → K (E i) ≤ K (E j)
theorem hp_tail_0 {K E : Nat → Nat} {n : Nat} : hp_tail K E n n := ⟨fun i j h1 h2 h3 => by omega, fun i j h1 h2 h3 => by omega⟩
theorem hp_tail_1 {K E E2 : Nat → Nat} {m n : Nat} (hm : m < n) (h : hp_tail K E (m + 1) n) (ho : hp_ok K E (m + 1) 0) (hs : hs_same E2 (sw E 0 m) m) (hr : ∀ k, m ≤ k → E2 k = sw E 0 m k) : hp_tail K E2 m n := by
  have hx := hp_top ho
  have q1 : E2 m = E 0 := by rw [hr m (Nat.le_refl _)]; unfold sw; rw [if_pos rfl]
  have q2 : ∀ k, m < k → E2 k = E k := fun k hk => by
    rw [hr k (by omega)]; unfold sw; rw [if_neg (by omega), if_neg (by omega)]
  have q3 : ∀ i, i < m → ∃ j, j < m + 1 ∧ E2 i = E j := fun i hi => by
    obtain ⟨a, b, c⟩ := hs.1 i hi
    obtain ⟨a', b', c'⟩ := (sw_same (E := E) (n := m + 1) (i := 0) (j := m) (by omega) (by omega)).1 a (by omega)
    exact ⟨a', b', c.trans c'⟩
  refine ⟨fun i j h1 h2 h3 => ?_, fun i j h1 h2 h3 => ?_⟩
  · obtain ⟨a, b, c⟩ := q3 i h1
    rw [c]
    rcases Nat.eq_or_lt_of_le h2 with q | q
    · rw [← q, q1]; exact hx a b
    · rw [q2 j q]; exact h.1 a j b (by omega) h3
  · rcases Nat.eq_or_lt_of_le h1 with q | q
    · rw [← q, q1, q2 j (by omega)]; exact h.1 0 j (by omega) (by omega) h3
    · rw [q2 i q, q2 j (by omega)]; exact h.2 i j (by omega) h2 h3
theorem hp_sorted {K E : Nat → Nat} {m n : Nat} (h : hp_tail K E m n) (hm : m ≤ 1) : ∀ i j, i < j → j < n → K (E i) ≤ K (E j) := by
  intro i j h1 h2
  rcases Nat.lt_or_ge i m with q | q
  · exact h.1 i j q (by omega) h2
  · exact h.2 i j q h1 h2

/-! the reference's tree of the states that were found -/
def bes (x y x' y' : Int64) : Int32 := if x * (-7046029254386353131) = x' * (-7046029254386353131) then (if y < y' then -1 else if y' < y then 1 else 0) else if x * (-7046029254386353131) < x' * (-7046029254386353131) then -1 else 1
def bq (q r : Nat × Nat) : Int32 := bes (lN (pk1 q)) (lN (pk2 q)) (lN (pk1 r)) (lN (pk2 r))
def sml (q : Nat × Nat) : Prop := q.1 < 4 ^ 20 ∧ q.2 < 8192 ^ 4
theorem bq_self (q : Nat × Nat) : bq q q = 0 := by
  unfold bq bes
  rw [if_pos rfl, if_neg Int64.lt_irrefl, if_neg Int64.lt_irrefl]
theorem ck_inj {x y : Int64} (h : x * (-7046029254386353131) = y * (-7046029254386353131)) : x = y := by
  have e : (-7046029254386353131 : Int64) * (-1018231460777725123) = 1 := by decide
  have h2 : x * (-7046029254386353131) * (-1018231460777725123) = y * (-7046029254386353131) * (-1018231460777725123) := by rw [h]
  rw [Int64.mul_assoc, Int64.mul_assoc, e, Int64.mul_one, Int64.mul_one] at h2
  exact h2
theorem bq_0 {q r : Nat × Nat} (hq : sml q) (hr : sml r) (h : bq q r = 0) : q = r := by
  have a1 := pk1_lt hq.1
  have a2 := pk1_lt hr.1
  have a3 := pk2_lt q
  have a4 := pk2_lt r
  unfold bq bes at h
  split at h
  · rename_i h1
    have e1 : pk1 q = pk1 r := (ll_eq (by omega) (by omega)).mp (ck_inj h1)
    split at h
    · exact absurd h (by decide)
    · split at h
      · exact absurd h (by decide)
      · rename_i h2 h3
        rw [ll_lt (by omega) (by omega)] at h2 h3
        exact pk_inj hq.1 hr.1 hq.2 hr.2 e1 (by omega)
  · split at h
    · exact absurd h (by decide)
    · exact absurd h (by decide)
/-- the child to which a state goes from the place s: 0 is none -/
def chd (S : List (Nat × Nat)) (C : Bool → Nat → Nat) (q : Nat × Nat) (s : Nat) : Nat := if bq q (S.getD s (0, 0)) < 0 then C true s else if bq q (S.getD s (0, 0)) = 0 then 0 else C false s
def tpos (S : List (Nat × Nat)) (C : Bool → Nat → Nat) (q : Nat × Nat) : Nat → Nat
  | 0 => 0
  | d + 1 => if chd S C q (tpos S C q d) = 0 then tpos S C q d else chd S C q (tpos S C q d)
def trOk (S : List (Nat × Nat)) (C : Bool → Nat → Nat) : Prop := (∀ b s, s < S.length → C b s = 0 ∨ (s < C b s ∧ C b s < S.length)) ∧ ∀ j, j < S.length → ∃ d, tpos S C (S.getD j (0, 0)) d = j
theorem tpos_stay {S : List (Nat × Nat)} {C : Bool → Nat → Nat} {q : Nat × Nat} {d : Nat} (h : chd S C q (tpos S C q d) = 0) : ∀ e, tpos S C q (d + e) = tpos S C q d := by
  intro e
  induction e with
  | zero => rfl
  | succ e ih =>
    show (if chd S C q (tpos S C q (d + e)) = 0 then tpos S C q (d + e) else chd S C q (tpos S C q (d + e))) = _
    rw [ih, if_pos h]
theorem chd_lt {S : List (Nat × Nat)} {C : Bool → Nat → Nat} {q : Nat × Nat} {s : Nat} (h : trOk S C) (hs : s < S.length) : chd S C q s = 0 ∨ (s < chd S C q s ∧ chd S C q s < S.length) := by
  unfold chd
  split
  · exact h.1 true s hs
  · split
    · exact Or.inl rfl
    · exact h.1 false s hs
theorem tpos_lt {S : List (Nat × Nat)} {C : Bool → Nat → Nat} {q : Nat × Nat} (h : trOk S C) (h0 : 0 < S.length) : ∀ d, tpos S C q d < S.length := by
  intro d
  induction d with
  | zero => exact h0
  | succ d ih =>
    show (if chd S C q (tpos S C q d) = 0 then tpos S C q d else chd S C q (tpos S C q d)) < _
    split
    · exact ih
    · rename_i hz
      rcases chd_lt (q := q) h ih with e | e
      · exact absurd e hz
      · exact e.2
/-- on its way: q comes to s, by lesser places -/
def tway (S : List (Nat × Nat)) (C : Bool → Nat → Nat) (q : Nat × Nat) (s : Nat) : Prop := ∃ d, tpos S C q d = s ∧ ∀ e, e < d → tpos S C q e < s
theorem tway_0 (S : List (Nat × Nat)) (C : Bool → Nat → Nat) (q : Nat × Nat) : tway S C q 0 := ⟨0, rfl, fun e h => absurd h (Nat.not_lt_zero e)⟩
theorem tway_1 {S : List (Nat × Nat)} {C : Bool → Nat → Nat} {q : Nat × Nat} {s : Nat} (h : trOk S C) (hs : s < S.length) (hw : tway S C q s) (hz : chd S C q s ≠ 0) : tway S C q (chd S C q s) ∧ s < chd S C q s ∧ chd S C q s < S.length := by
  obtain ⟨d, e1, e2⟩ := hw
  rcases chd_lt (q := q) h hs with q1 | q1
  · exact absurd q1 hz
  · refine ⟨⟨d + 1, ?_, fun e he => ?_⟩, q1⟩
    · show (if chd S C q (tpos S C q d) = 0 then tpos S C q d else chd S C q (tpos S C q d)) = _
      rw [e1, if_neg hz]
    · rcases Nat.eq_or_lt_of_le (Nat.le_of_lt_succ he) with q2 | q2
      · rw [q2, e1]; exact q1.1
      · have := e2 e q2; omega
theorem tr_miss {S : List (Nat × Nat)} {C : Bool → Nat → Nat} {q : Nat × Nat} {s : Nat} (h : trOk S C) (hw : tway S C q s) (hz : chd S C q s = 0) (hb : bq q (S.getD s (0, 0)) ≠ 0) : q ∉ S := by
  intro hq
  obtain ⟨j, hj, e⟩ := List.getElem_of_mem hq
  have ej : S.getD j (0, 0) = q := by rw [List.getD_eq_getElem?_getD, List.getElem?_eq_getElem hj]; exact e
  obtain ⟨d2, e2⟩ := h.2 j hj
  rw [ej] at e2
  obtain ⟨d, e1, -⟩ := hw
  have hj0 : chd S C q j = 0 := by
    unfold chd
    rw [ej, bq_self, if_neg (by decide), if_pos rfl]
  have : s = j := by
    rcases Nat.le_total d d2 with q1 | q1
    · have := tpos_stay (S := S) (C := C) (q := q) (d := d) (by rw [e1]; exact hz) (d2 - d)
      rw [show d + (d2 - d) = d2 by omega, e1, e2] at this
      exact this.symm
    · have := tpos_stay (S := S) (C := C) (q := q) (d := d2) (by rw [e2]; exact hj0) (d - d2)
      rw [show d2 + (d - d2) = d by omega, e1, e2] at this
      exact this
  exact hb (by rw [this, ej]; exact bq_self q)
def tside (b : Bool) (k : Int32) : Prop := (b = true ∧ k < 0) ∨ (b = false ∧ ¬ k < 0 ∧ k ≠ 0)
def tput (C : Bool → Nat → Nat) (b : Bool) (s m : Nat) : Bool → Nat → Nat := fun d j => if j = m then 0 else if d = b ∧ j = s then m else C d j
theorem tr_same {S : List (Nat × Nat)} {C : Bool → Nat → Nat} {q K : Nat × Nat} {s : Nat} {b : Bool} (h : trOk S C) (hs : s < S.length) : ∀ d, (∀ e, e < d → ¬ (tpos S C K e = s ∧ tside b (bq K (S.getD s (0, 0))))) → ∀ e, e ≤ d → tpos (S ++ [q]) (tput C b s S.length) K e = tpos S C K e := by
  intro d hd e
  induction e with
  | zero => intro _; rfl
  | succ e ih =>
    intro he
    have i1 := ih (by omega)
    have hlt := tpos_lt (q := K) h (Nat.lt_of_le_of_lt (Nat.zero_le _) hs) e
    have hg : (S ++ [q]).getD (tpos S C K e) (0, 0) = S.getD (tpos S C K e) (0, 0) := by
      rw [List.getD_eq_getElem?_getD, List.getElem?_append_left hlt, ← List.getD_eq_getElem?_getD]
    have hc : chd (S ++ [q]) (tput C b s S.length) K (tpos S C K e) = chd S C K (tpos S C K e) := by
      have hn := hd e (by omega)
      have hT : ∀ x, tside x (bq K (S.getD (tpos S C K e) (0, 0))) → tput C b s S.length x (tpos S C K e) = C x (tpos S C K e) := by
        intro x hx
        unfold tput
        rw [if_neg (by omega), if_neg]
        rintro ⟨rfl, q2⟩
        exact hn ⟨q2, by rw [← q2]; exact hx⟩
      unfold chd
      rw [hg]
      split
      · rename_i h1
        exact hT true (Or.inl ⟨rfl, h1⟩)
      · split
        · rfl
        · rename_i h1 h2
          exact hT false (Or.inr ⟨rfl, h1, h2⟩)
    show (if chd (S ++ [q]) (tput C b s S.length) K (tpos (S ++ [q]) (tput C b s S.length) K e) = 0 then tpos (S ++ [q]) (tput C b s S.length) K e else chd (S ++ [q]) (tput C b s S.length) K (tpos (S ++ [q]) (tput C b s S.length) K e)) = (if chd S C K (tpos S C K e) = 0 then tpos S C K e else chd S C K (tpos S C K e))
    rw [i1, hc]
theorem tr_put {S : List (Nat × Nat)} {C : Bool → Nat → Nat} {q : Nat × Nat} {s : Nat} {b : Bool} (h : trOk S C) (hs : s < S.length) (hw : tway S C q s) (hb : tside b (bq q (S.getD s (0, 0)))) (hz : C b s = 0) : trOk (S ++ [q]) (tput C b s S.length) := by
  have hch : ∀ K, tside b (bq K (S.getD s (0, 0))) → chd S C K s = 0 := by
    intro K hK
    unfold chd
    rcases hK with ⟨rfl, h1⟩ | ⟨rfl, h1, h2⟩
    · rw [if_pos h1]; exact hz
    · rw [if_neg h1, if_neg h2]; exact hz
  constructor
  · intro d j hj
    rw [List.length_append, List.length_singleton] at hj ⊢
    unfold tput
    split
    · exact Or.inl rfl
    · rename_i h1
      split
      · rename_i h2; rw [h2.2]; exact Or.inr ⟨hs, by omega⟩
      · rcases h.1 d j (by omega) with e | e
        · exact Or.inl e
        · exact Or.inr ⟨e.1, by omega⟩
  · intro j hj
    rw [List.length_append, List.length_singleton] at hj
    rcases Nat.lt_or_ge j S.length with q1 | q1
    · have hg : (S ++ [q]).getD j (0, 0) = S.getD j (0, 0) := by
        rw [List.getD_eq_getElem?_getD, List.getElem?_append_left q1, ← List.getD_eq_getElem?_getD]
      obtain ⟨d, e⟩ := h.2 j q1
      rw [hg]
      refine ⟨d, (tr_same (q := q) (b := b) h hs d (fun e1 he hc => ?_) d (Nat.le_refl d)).trans e⟩
      have := tpos_stay (S := S) (C := C) (d := e1) (by rw [hc.1]; exact hch _ hc.2) (d - e1)
      rw [show e1 + (d - e1) = d by omega, e, hc.1] at this
      have hk := hc.2
      rw [← this, bq_self] at hk
      rcases hk with ⟨-, k1⟩ | ⟨-, -, k1⟩
      · exact absurd k1 (by decide)
      · exact k1 rfl
    · have hj2 : j = S.length := by omega
      have hg : (S ++ [q]).getD j (0, 0) = q := by
        rw [List.getD_eq_getElem?_getD, List.getElem?_append_right q1, hj2, Nat.sub_self]; rfl
      rw [hg]
      obtain ⟨d, e1, e2⟩ := hw
      have i1 := tr_same (q := q) (K := q) (b := b) h hs d (fun e he hc => by have := e2 e he; omega) d (Nat.le_refl d)
      rw [e1] at i1
      refine ⟨d + 1, ?_⟩
      have hgs : (S ++ [q]).getD s (0, 0) = S.getD s (0, 0) := by
        rw [List.getD_eq_getElem?_getD, List.getElem?_append_left hs, ← List.getD_eq_getElem?_getD]
      have hc : chd (S ++ [q]) (tput C b s S.length) q s = S.length := by
        unfold chd
        rw [hgs]
        have ht : tput C b s S.length b s = S.length := by unfold tput; rw [if_neg (by omega), if_pos ⟨rfl, rfl⟩]
        rcases hb with ⟨rfl, h1⟩ | ⟨rfl, h1, h2⟩
        · rw [if_pos h1]; exact ht
        · rw [if_neg h1, if_neg h2]; exact ht
      show (if chd (S ++ [q]) (tput C b s S.length) q (tpos (S ++ [q]) (tput C b s S.length) q d) = 0 then _ else chd (S ++ [q]) (tput C b s S.length) q (tpos (S ++ [q]) (tput C b s S.length) q d)) = j
      rw [i1, hc, if_neg (by omega), hj2]
theorem tr_one (q : Nat × Nat) : trOk [q] (fun _ _ => 0) := by
  refine ⟨fun _ _ _ => Or.inl rfl, fun j hj => ⟨0, ?_⟩⟩
  have : j < 1 := hj
  show 0 = j
  omega
/-- a row of children -/
def cRep (m : Nat) (L : Nat → Nat) (f : Nat → Int32) : Prop := ∀ s, s < m → f s = if L s = 0 then -1 else nI (L s)
/-! how deep a state lies: the fuel that is enough -/
theorem dep_0 (F : Nat → Nat) (k : Nat) : dep F k 0 = 0 := by cases k <;> rfl
theorem dep_s (F : Nat → Nat) {i : Nat} (k : Nat) (h : 0 < i) : dep F (k + 1) i = dep F k (F i / 20) + 1 := by
  show (if i = 0 then 0 else dep F k (F i / 20) + 1) = _
  rw [if_neg (by omega)]
theorem dep_any {F : Nat → Nat} {n : Nat} (hF : ∀ i, 0 < i → i < n → F i / 20 < i) : ∀ b i, i ≤ b → i < n → ∀ k k', i ≤ k → i ≤ k' → dep F k i = dep F k' i := by
  intro b
  induction b with
  | zero => intro i h _ k k' _ _; rw [show i = 0 by omega, dep_0, dep_0]
  | succ b ih =>
    intro i hb hi k k' h1 h2
    rcases Nat.eq_zero_or_pos i with z | z
    · rw [z, dep_0, dep_0]
    · have hp := hF i z hi
      obtain ⟨k1, rfl⟩ : ∃ x, k = x + 1 := ⟨k - 1, by omega⟩
      obtain ⟨k2, rfl⟩ : ∃ x, k' = x + 1 := ⟨k' - 1, by omega⟩
      rw [dep_s F k1 z, dep_s F k2 z, ih (F i / 20) (by omega) (by omega) k1 k2 (by omega) (by omega)]
/-- the depth of the state i -/
def dpt (F : Nat → Nat) (i : Nat) : Nat := dep F i i
theorem dpt_s {F : Nat → Nat} {n i : Nat} (hF : ∀ i, 0 < i → i < n → F i / 20 < i) (h0 : 0 < i) (hi : i < n) : dpt F i = dpt F (F i / 20) + 1 := by
  have hp := hF i h0 hi
  unfold dpt
  obtain ⟨k, rfl⟩ : ∃ x, i = x + 1 := ⟨i - 1, by omega⟩
  rw [dep_s F k h0, dep_any hF k _ (by omega) (by omega) k _ (by omega) (Nat.le_refl _)]
theorem dpt_le {F : Nat → Nat} {n : Nat} (hF : ∀ i, 0 < i → i < n → F i / 20 < i) (i : Nat) (hi : i < n) : dpt F i ≤ i := dep_le F i i
theorem dep_min {F : Nat → Nat} {n : Nat} (hF : ∀ i, 0 < i → i < n → F i / 20 < i) : ∀ k i, i < n → dpt F i ≤ k → dep F k i = dpt F i := by
  intro k
  induction k with
  | zero => intro i _ h; show 0 = _; omega
  | succ k ih =>
    intro i hi h
    rcases Nat.eq_zero_or_pos i with z | z
    · rw [z, dep_0]; rfl
    · have e := dpt_s hF z hi
      have hp := hF i z hi
      rw [dep_s F k z, ih _ (by omega) (by omega), e]
/-- the rows of the reference that the search fills -/
def rI (S : List (Nat × Nat)) (F : List Nat) (C : Bool → Nat → Nat) (f1 f2 : Nat → Int64) (ff fm fb fl fg : Nat → Int32) : Prop :=
  S.length ≤ 20000 ∧ F.length = S.length ∧ (∀ q ∈ S, sml q) ∧ (∀ i, i < S.length → f1 i = lN (pk1 (S.getD i (0, 0))) ∧ f2 i = lN (pk2 (S.getD i (0, 0))) ∧ ff i = nI (dpt (fun j => F.getD j 0) i)) ∧
  (∀ i, 0 < i → i < S.length → fm i = nI (F.getD i 0 / 20) ∧ fb i = nI (F.getD i 0 % 20) ∧ F.getD i 0 / 20 < i) ∧ cRep S.length (C true) fl ∧ cRep S.length (C false) fg ∧ trOk S C
theorem gdl {α : Type} {S : List α} {q d : α} {i : Nat} (h : i < S.length) : (S ++ [q]).getD i d = S.getD i d := by
  rw [List.getD_eq_getElem?_getD, List.getElem?_append_left h, ← List.getD_eq_getElem?_getD]
theorem gdr {α : Type} {S : List α} {q d : α} {i : Nat} (h : i = S.length) : (S ++ [q]).getD i d = q := by
  rw [List.getD_eq_getElem?_getD, List.getElem?_append_right (by omega), h, Nat.sub_self]; rfl
theorem dpt_app {F : List Nat} {o : Nat} : ∀ i, i < F.length → (∀ j, 0 < j → j < F.length → F.getD j 0 / 20 < j) → dpt (fun j => (F ++ [o]).getD j 0) i = dpt (fun j => F.getD j 0) i := by
  intro i
  have key : ∀ b i, i ≤ b → i < F.length → (∀ j, 0 < j → j < F.length → F.getD j 0 / 20 < j) → ∀ k, dep (fun j => (F ++ [o]).getD j 0) k i = dep (fun j => F.getD j 0) k i := by
    intro b
    induction b with
    | zero => intro i h _ _ k; rw [show i = 0 by omega, dep_0, dep_0]
    | succ b ih =>
      intro i hb hi hF k
      rcases Nat.eq_zero_or_pos i with z | z
      · rw [z, dep_0, dep_0]
      · cases k with
        | zero => rfl
        | succ k =>
          have hp := hF i z hi
          rw [dep_s _ k z, dep_s _ k z]
          show dep _ k ((F ++ [o]).getD i 0 / 20) + 1 = dep _ k (F.getD i 0 / 20) + 1
          rw [gdl hi, ih _ (by omega) (by omega) hF k]
  exact fun hi hF => key i i (Nat.le_refl i) hi hF i
/-- one state more -/
theorem rI_put {S : List (Nat × Nat)} {F : List Nat} {C : Bool → Nat → Nat} {f1 f2 : Nat → Int64} {ff fm fb fl fg : Nat → Int32} {q : Nat × Nat} {s p k : Nat} {b : Bool} (h : rI S F C f1 f2 ff fm fb fl fg) (hs : s < S.length) (hw : tway S C q s) (hb : tside b (bq q (S.getD s (0, 0)))) (hz : C b s = 0) (hq : sml q) (hl : ¬ 20000 ≤ S.length) (hp : p < S.length) (hk : k < 20) :
    rI (S ++ [q]) (F ++ [20 * p + k]) (tput C b s S.length) (vp_updL f1 S.length (lN (pk1 q))) (vp_updL f2 S.length (lN (pk2 q))) (upd ff S.length (nI (dpt (fun j => F.getD j 0) p + 1))) (upd fm S.length (nI p)) (upd fb S.length (nI k))
      (upd (if b = true then upd fl s (nI S.length) else fl) S.length (-1)) (upd (if b = true then fg else upd fg s (nI S.length)) S.length (-1)) := by
  obtain ⟨h1, h2, h3, h4, h5, h6, h7, h8⟩ := h
  have hF : ∀ j, 0 < j → j < F.length → F.getD j 0 / 20 < j := fun j a c => (h5 j a (by omega)).2.2
  have hF2 : ∀ j, 0 < j → j < (F ++ [20 * p + k]).length → (F ++ [20 * p + k]).getD j 0 / 20 < j := fun j a c => by
    rw [List.length_append, List.length_singleton] at c
    rcases Nat.lt_or_ge j F.length with e | e
    · rw [gdl e]; exact hF j a e
    · rw [gdr (by omega)]; omega
  have hcr : ∀ d f, cRep S.length (C d) f → cRep (S.length + 1) (tput C b s S.length d) (upd (if d = b then upd f s (nI S.length) else f) S.length (-1)) := by
    intro d f hf j hj
    by_cases e : j = S.length
    · rw [show tput C b s S.length d j = 0 from if_pos e, if_pos rfl, e, pk_us]
    · rw [pk_un e]
      by_cases e2 : d = b
      · rw [if_pos e2]
        by_cases e3 : j = s
        · rw [show tput C b s S.length d j = S.length by unfold tput; rw [if_neg e, if_pos ⟨e2, e3⟩], if_neg (by omega), e3, pk_us]
        · rw [show tput C b s S.length d j = C d j by unfold tput; rw [if_neg e, if_neg (fun x => e3 x.2)], pk_un e3]; exact hf j (by omega)
      · rw [if_neg e2, show tput C b s S.length d j = C d j by unfold tput; rw [if_neg e, if_neg (fun x => e2 x.1)]]; exact hf j (by omega)
  refine ⟨by rw [List.length_append, List.length_singleton]; omega, by simp [h2], fun x hx => ?_, fun i hi => ?_, fun i h0 hi => ?_, ?_, ?_, tr_put h8 hs hw hb hz⟩
  · rcases List.mem_append.mp hx with e | e
    · exact h3 x e
    · rw [List.mem_singleton.mp e]; exact hq
  · rw [List.length_append, List.length_singleton] at hi
    rcases Nat.lt_or_ge i S.length with e | e
    · rw [gdl e, pk_uLn (by omega), pk_uLn (by omega), pk_un (by omega), dpt_app i (by omega) hF]
      exact h4 i e
    · have e2 : i = S.length := by omega
      rw [gdr e2, e2, pk_uLs, pk_uLs, pk_us]
      refine ⟨rfl, rfl, ?_⟩
      rw [dpt_s (n := S.length + 1) (fun j a c => hF2 j a (by rw [List.length_append, List.length_singleton]; omega)) (by omega) (by omega)]
      show nI (dpt _ p + 1) = nI (dpt _ ((F ++ [20 * p + k]).getD S.length 0 / 20) + 1)
      rw [gdr (by omega), show (20 * p + k) / 20 = p by omega, dpt_app p (by omega) hF]
  · rw [List.length_append, List.length_singleton] at hi
    rcases Nat.lt_or_ge i S.length with e | e
    · rw [gdl (by omega), pk_un (by omega), pk_un (by omega)]
      exact h5 i h0 e
    · have e2 : i = S.length := by omega
      rw [gdr (by omega), e2, pk_us, pk_us, show (20 * p + k) / 20 = p by omega, show (20 * p + k) % 20 = k by omega]
      exact ⟨rfl, rfl, hp⟩
  · rw [List.length_append, List.length_singleton]
    have := hcr true fl h6
    cases b
    · rw [if_neg (by decide)] at this; exact this
    · rw [if_pos rfl] at this; exact this
  · rw [List.length_append, List.length_singleton]
    have := hcr false fg h7
    cases b
    · rw [if_pos rfl] at this; exact this
    · rw [if_neg (by decide)] at this; exact this
/-- the first state -/
theorem rI_one {q : Nat × Nat} {f1 f2 : Nat → Int64} {ff fm fb fl fg : Nat → Int32} (hq : sml q) : rI [q] [0] (fun _ _ => 0) (vp_updL f1 0 (lN (pk1 q))) (vp_updL f2 0 (lN (pk2 q))) (upd ff 0 (nI 0)) fm fb (upd fl 0 (-1)) (upd fg 0 (-1)) := by
  refine ⟨(show 1 ≤ 20000 by decide), rfl, fun x hx => by rw [List.mem_singleton.mp hx]; exact hq, fun i hi => ?_, fun i h0 hi => ?_, fun s hs => ?_, fun s hs => ?_, tr_one q⟩
  · have e : i = 0 := by have : i < 1 := hi; omega
    subst e
    exact ⟨pk_uLs, pk_uLs, pk_us⟩
  · have : i < 1 := hi; omega
  · have e : s = 0 := by have : s < 1 := hs; omega
    subst e; exact pk_us
  · have e : s = 0 := by have : s < 1 := hs; omega
    subst e; exact pk_us

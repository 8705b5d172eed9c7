/-! every move takes something away: how deep a state can lie -/
def po (P : Nat → List Nat) (n t : Nat) : Nat := 2 * ((P t).length - pl (ml n t)) + wt (ml n t)
def pot (P : Nat → List Nat) (n : Nat) : Nat := po P n 0 + po P n 1 + po P n 2 + po P n 3
theorem pot_lt {P : Nat → List Nat} {n n' t : Nat} (ht : t < 4) (h1 : po P n' t < po P n t) (h2 : ∀ s, s < 4 → s ≠ t → ml n' s = ml n s) : pot P n' < pot P n := by
  have e : ∀ s, s < 4 → s ≠ t → po P n' s = po P n s := fun s hs hn => by unfold po; rw [h2 s hs hn]
  unfold pot
  rcases (show t = 0 ∨ t = 1 ∨ t = 2 ∨ t = 3 by omega) with rfl | rfl | rfl | rfl
  · have a := e 1 (by decide) (by decide); have b := e 2 (by decide) (by decide); have c := e 3 (by decide) (by decide); omega
  · have a := e 0 (by decide) (by decide); have b := e 2 (by decide) (by decide); have c := e 3 (by decide) (by decide); omega
  · have a := e 0 (by decide) (by decide); have b := e 1 (by decide) (by decide); have c := e 3 (by decide) (by decide); omega
  · have a := e 0 (by decide) (by decide); have b := e 1 (by decide) (by decide); have c := e 2 (by decide) (by decide); omega
theorem po_fin {P : Nat → List Nat} {n n1 t q : Nat} (h' : Nat) (h1 : ∀ s, s < 4 → s ≠ t → ml n1 s = ml n s) (h2 : wt (ml n1 t) ≤ wt (ml n t) + 1) (hq : pl (ml n t) < q) (hq2 : q ≤ (P t).length) (h8 : (P t).length ≤ 6) (ht : t < 4) : pot P (st_fin t q (h', n1)).2 < pot P n := by
  have hl := ml_lt n1 t
  have e := en_place (x := ml n1 t) (p := q) (by omega) 0 (by decide)
  refine pot_lt ht ?_ fun s hs hn => ?_
  · unfold po
    show 2 * ((P t).length - pl (ml (mx n1 t (ml n1 t / 8 * 8 + q)) t)) + wt (ml (mx n1 t (ml n1 t / 8 * 8 + q)) t) < _
    rw [ml_mx (by omega), e.2.1, e.2.2]
    omega
  · show ml (mx n1 t (ml n1 t / 8 * 8 + q)) s = ml n s
    rw [ml_mx_ne (by omega) hn]; exact h1 s hs hn
theorem store_lane {P : Nat → List Nat} {md h n t w v : Nat} {q : Nat × Nat} (hL : Lok (ml n t)) (hw : w < 4) (hv : v < 4) (e : st_store md h n t w v = some q) : (∀ s, s < 4 → s ≠ t → ml q.2 s = ml n s) ∧ wt (ml q.2 t) ≤ wt (ml n t) + 1 := by
  unfold st_store at e
  split at e
  · cases e; exact ⟨fun _ _ _ => rfl, by show wt (ml n t) ≤ _; omega⟩
  · split at e
    · cases e
    · rename_i h2
      cases e
      obtain ⟨-, g2, g3⟩ := Lok_put hL h2 (show 4 * w + v < 16 by omega)
      obtain ⟨f1, -, -⟩ := put_fields hL h2 (show 4 * w + v < 16 by omega)
      refine ⟨fun s _ hn => ml_mx_ne g3 hn, ?_⟩
      show wt (ml (mx n t _) t) ≤ _
      rw [ml_mx g3, f1]
      exact Nat.le_refl _
theorem pot_step {P : Nat → List Nat} {md k : Nat} {s q : Nat × Nat} (hP : Pok P) (H : Sok P s.1 s.2) (hk : k < 20) (e : st_step P md s k = some q) : pot P q.2 < pot P s.2 := by
  unfold st_step at e
  split at e
  · rename_i h4
    unfold st_go at e
    split at e
    · cases e
    · rename_i c hc
      have hlt : pl (ml s.2 k) < (P k).length := (List.getElem?_eq_some_iff.mp hc).1
      have h6 := (hP k h4).1
      have hb : c % 4 < 4 := Nat.mod_lt _ (by decide)
      have ha : c / 4 % 4 < 4 := Nat.mod_lt _ (by decide)
      have key : ∀ (h' n1 y : Nat), (∀ t, t < 4 → t ≠ k → ml n1 t = ml s.2 t) → wt (ml n1 k) ≤ wt (ml s.2 k) + 1 → pot P (st_fin k (min (pl (ml s.2 k) + 1 + y) (P k).length) (h', n1)).2 < pot P s.2 := fun h' n1 y a1 a2 => po_fin h' a1 a2 (by omega) (by omega) h6 h4
      unfold st_do at e
      split at e
      · obtain ⟨q1, e1, rfl⟩ := Option.map_eq_some_iff.mp e
        obtain ⟨g1, g2⟩ := store_lane (P := P) (H.2.2 k h4).1 ha hb e1
        exact key q1.1 q1.2 0 g1 g2
      · split at e
        · obtain ⟨q1, e1, rfl⟩ := Option.map_eq_some_iff.mp e
          obtain ⟨g1, g2⟩ := store_lane (P := P) (H.2.2 k h4).1 ha (mi_lt _ _) e1
          exact key q1.1 q1.2 0 g1 g2
        · split at e
          · cases e
            exact key _ s.2 0 (fun _ _ _ => rfl) (by omega)
          · split at e
            · cases e
              exact key _ s.2 _ (fun _ _ _ => rfl) (by omega)
            · split at e
              · cases e
              · cases e
                exact key _ s.2 0 (fun _ _ _ => rfl) (by omega)
  · have ht : (k - 4) / 4 < 4 := by omega
    have key : ∀ i (h' : Nat), i < wt (ml s.2 ((k - 4) / 4)) → pot P (mx s.2 ((k - 4) / 4) (st_wo (ml s.2 ((k - 4) / 4)) i)) < pot P s.2 := by
      intro i h' hi
      obtain ⟨-, g2, g3⟩ := Lok_wo (i := i) (H.2.2 _ ht).1 hi
      obtain ⟨f1, -⟩ := st_wo_fields (i := i) (H.2.2 _ ht).1 hi
      refine pot_lt ht ?_ (fun t _ hn => ml_mx_ne g3 hn)
      unfold po
      rw [ml_mx g3, g2, f1]
      omega
    unfold st_rel at e
    split at e
    · cases e
      exact key 0 0 (by omega)
    · split at e
      · cases e
        exact key 1 0 (by omega)
      · cases e
theorem pot_0 {P : Nat → List Nat} (h : pTot P ≤ 12) : pot P 0 ≤ 24 := by
  have e : ∀ t, po P 0 t = 2 * (P t).length := fun t => by unfold po; rw [show ml 0 t = 0 from dg_zero 8192 t]; rfl
  unfold pot
  rw [e, e, e, e]
  unfold pTot at h
  omega
/-! the search's result -/
theorem bf_row_ok {P : Nat → List Nat} {md i : Nat} {B : BB} (hP : Pok P) (hB : bf_ok P md B.1 B.2.1) (hi : i < B.1.length) : ∀ j, j ≤ 20 → bf_ok P md (bf_row (st_step P md (B.1.getD i (0, 0))) (20 * i) j B).1 (bf_row (st_step P md (B.1.getD i (0, 0))) (20 * i) j B).2.1 := by
  intro j
  induction j with
  | zero => intro _; exact hB
  | succ j ih =>
    intro hj
    have h1 := ih (by omega)
    unfold bf_row
    split
    · exact h1
    · rename_i q hq
      obtain ⟨g1, g2⟩ := bf_row_get (stp := st_step P md (B.1.getD i (0, 0))) (base := 20 * i) (j := j) hi
      refine bf_vis_ok h1 (Sok_step hP (hB.2.2.2.1 _ (getD_mem hi)) (by omega) hq) (by rw [show (20 * i + j) / 20 = i by omega]; exact g2) ?_
      rw [show (20 * i + j) / 20 = i by omega, show (20 * i + j) % 20 = j by omega, g1]
      exact hq
theorem bf_go_ok {P : Nat → List Nat} {md : Nat} (hP : Pok P) : ∀ i, bf_ok P md (bf_go (st_step P md) i).1.1 (bf_go (st_step P md) i).1.2.1 ∧ (bf_go (st_step P md) i).1.2.1.getD 0 0 = 0 ∧ (bf_go (st_step P md) i).1.1.getD 0 (0, 0) = (0, 0) := by
  intro i
  induction i with
  | zero =>
    refine ⟨⟨rfl, (show 1 ≤ 20000 by decide), by simp [bf_go], fun q hq => ?_, fun i h0 hi => ?_⟩, rfl, rfl⟩
    · have hq : q ∈ [((0 : Nat), (0 : Nat))] := hq
      rw [List.mem_singleton.mp hq]; exact Sok_0 P
    · have : i < 1 := hi
      omega
  | succ i ih =>
    obtain ⟨h1, h2, h3⟩ := ih
    rw [bf_go_s]
    split
    · exact ⟨h1, h2, h3⟩
    · split
      · exact ⟨h1, h2, h3⟩
      · rename_i q hq
        have hi : i < (bf_go (st_step P md) i).1.1.length := (List.getElem?_eq_some_iff.mp hq).1
        have hqe : (bf_go (st_step P md) i).1.1.getD i (0, 0) = q := by rw [List.getD_eq_getElem?_getD, hq]; rfl
        have hrow := bf_row_ok hP h1 hi 20 (Nat.le_refl _)
        rw [hqe] at hrow
        have h00 : 0 < (bf_go (st_step P md) i).1.1.length := by omega
        have key : (bf_row (st_step P md q) (20 * i) 20 (bf_go (st_step P md) i).1).2.1.getD 0 0 = 0 ∧ (bf_row (st_step P md q) (20 * i) 20 (bf_go (st_step P md) i).1).1.getD 0 (0, 0) = (0, 0) := by
          obtain ⟨⟨t1, e1⟩, ⟨t2, e2⟩⟩ := bf_row_pre (stp := st_step P md q) (base := 20 * i) (B := (bf_go (st_step P md) i).1) 20
          rw [e1, e2]
          have hl := h1.1
          refine ⟨?_, ?_⟩
          · rw [List.getD_eq_getElem?_getD, List.getElem?_append_left (by omega), ← List.getD_eq_getElem?_getD]; exact h2
          · rw [List.getD_eq_getElem?_getD, List.getElem?_append_left h00, ← List.getD_eq_getElem?_getD]; exact h3
        split
        · exact ⟨hrow, key⟩
        · exact ⟨hrow, key⟩
theorem go_rOk {P : Nat → List Nat} {md : Nat} (hP : Pok P) (i : Nat) : rOk (bf_go (st_step P md) i) := by
  obtain ⟨⟨h1, h2, h3, h4, h5⟩, h6, -⟩ := bf_go_ok (md := md) hP i
  refine ⟨h2, fun j hj => ⟨?_, fun h0 => (h5 j h0 hj).1⟩, by rw [h6]⟩
  rcases Nat.eq_zero_or_pos j with z | z
  · rw [z, h6]; decide
  · have := (h5 j z hj).1
    omega
theorem go_dpt {P : Nat → List Nat} {md i : Nat} (hP : Pok P) (hT : pTot P ≤ 12) : ∀ j, j < (bf_go (st_step P md) i).1.1.length → dpt (fun k => (bf_go (st_step P md) i).1.2.1.getD k 0) j ≤ 24 := by
  obtain ⟨⟨h1, h2, h3, h4, h5⟩, h6, h7⟩ := bf_go_ok (md := md) hP i
  have hF : ∀ j, 0 < j → j < (bf_go (st_step P md) i).1.1.length → (bf_go (st_step P md) i).1.2.1.getD j 0 / 20 < j := fun j a b => (h5 j a b).1
  have key : ∀ b j, j ≤ b → j < (bf_go (st_step P md) i).1.1.length → dpt (fun k => (bf_go (st_step P md) i).1.2.1.getD k 0) j + pot P ((bf_go (st_step P md) i).1.1.getD j (0, 0)).2 ≤ 24 := by
    intro b
    induction b with
    | zero =>
      intro j hb hj
      rw [show j = 0 by omega, h7]
      have := pot_0 hT
      show 0 + pot P 0 ≤ 24
      omega
    | succ b ih =>
      intro j hb hj
      rcases Nat.eq_zero_or_pos j with z | z
      · rw [z, h7]
        have := pot_0 hT
        show 0 + pot P 0 ≤ 24
        omega
      · obtain ⟨g1, g2⟩ := h5 j z hj
        have e := dpt_s (F := fun k => (bf_go (st_step P md) i).1.2.1.getD k 0) hF z hj
        have i1 := ih ((bf_go (st_step P md) i).1.2.1.getD j 0 / 20) (by omega) (by omega)
        have i2 := pot_step hP (h4 _ (getD_mem (by omega))) (Nat.mod_lt _ (by decide)) g2
        have e : dpt (fun k => (bf_go (st_step P md) i).1.2.1.getD k 0) j = dpt (fun k => (bf_go (st_step P md) i).1.2.1.getD k 0) ((bf_go (st_step P md) i).1.2.1.getD j 0 / 20) + 1 := e
        omega
  intro j hj
  have := key j j (Nat.le_refl j) hj
  omega
theorem bf_go_pre (stp : Nat × Nat → Nat → Option (Nat × Nat)) (i : Nat) : ∀ d, (∃ t, (bf_go stp (i + d)).1.1 = (bf_go stp i).1.1 ++ t) := by
  intro d
  induction d with
  | zero => exact ⟨[], by simp⟩
  | succ d ih =>
    obtain ⟨t, e⟩ := ih
    show ∃ t, (bf_go stp (i + d + 1)).1.1 = _
    rw [bf_go_s]
    split
    · exact ⟨t, e⟩
    · split
      · exact ⟨t, e⟩
      · rename_i q _
        obtain ⟨⟨t1, e1⟩, -⟩ := bf_row_pre (stp := stp q) (base := 20 * (i + d)) (B := (bf_go stp (i + d)).1) 20
        split
        · exact ⟨t ++ t1, by show (bf_row _ _ _ _).1 = _; rw [e1, e, List.append_assoc]⟩
        · exact ⟨t ++ t1, by show (bf_row _ _ _ _).1 = _; rw [e1, e, List.append_assoc]⟩
/-- the outcomes among the first i of the found states -/
def endL (stp : Nat × Nat → Nat → Option (Nat × Nat)) (S : List (Nat × Nat)) : Nat → List Nat
  | 0 => []
  | i + 1 => if bf_cnt (stp (S.getD i (0, 0))) 20 = 0 then endL stp S i ++ [i] else endL stp S i
theorem go_flag {stp : Nat × Nat → Nat → Option (Nat × Nat)} {i j : Nat} (h : i ≤ j) (hf : (bf_go stp j).1.2.2 = true) : (bf_go stp i).1.2.2 = true := by
  cases hb : (bf_go stp i).1.2.2 with
  | true => rfl
  | false =>
    have := bf_go_false hb (j - i)
    rw [show i + (j - i) = j by omega] at this
    rw [this, hb] at hf
    cases hf
theorem go_endL {stp : Nat × Nat → Nat → Option (Nat × Nat)} {M : Nat} (hf : (bf_go stp M).1.2.2 = true) : ∀ i, i ≤ M → i ≤ (bf_go stp M).1.1.length → (bf_go stp i).2.1 = endL stp (bf_go stp M).1.1 i := by
  intro i
  induction i with
  | zero => intro _ _; rfl
  | succ i ih =>
    intro hM hi
    have h1 := ih (by omega) (by omega)
    have hlt : i < (bf_go stp i).1.1.length := by
      rcases Nat.lt_or_ge i (bf_go stp i).1.1.length with q | q
      · exact q
      · have := bf_go_none q (M - i)
        rw [show i + (M - i) = M by omega] at this
        rw [this] at hi
        omega
    have hg : (bf_go stp M).1.1.getD i (0, 0) = (bf_go stp i).1.1.getD i (0, 0) := by
      obtain ⟨t, e⟩ := bf_go_pre stp i (M - i)
      rw [show i + (M - i) = M by omega] at e
      rw [e, List.getD_eq_getElem?_getD, List.getElem?_append_left hlt, ← List.getD_eq_getElem?_getD]
    have hs := bf_go_step (go_flag (by omega) hf) hlt rfl
    have hf1 := go_flag hM hf
    rw [hs] at hf1 ⊢
    show _ = (if bf_cnt (stp ((bf_go stp M).1.1.getD i (0, 0))) 20 = 0 then endL stp (bf_go stp M).1.1 i ++ [i] else endL stp (bf_go stp M).1.1 i)
    rw [hg, ← h1]
    split at hf1
    · rename_i hb
      have hf1 : (bf_row (stp ((bf_go stp i).1.1.getD i (0, 0))) (20 * i) 20 (bf_go stp i).1).2.2 = true := hf1
      rw [hb] at hf1; cases hf1
    · rename_i hb
      rw [if_neg hb]
theorem go_end {stp : Nat × Nat → Nat → Option (Nat × Nat)} {M : Nat} (hf : (bf_go stp M).1.2.2 = true) (hl : (bf_go stp M).1.1.length ≤ M) : (bf_go stp M).2.1 = endL stp (bf_go stp M).1.1 (bf_go stp M).1.1.length := by
  rw [← go_endL hf _ hl (Nat.le_refl _)]
  have h1 : (bf_go stp (bf_go stp M).1.1.length).1.1.length ≤ (bf_go stp M).1.1.length := bf_go_len stp hl
  have h2 := bf_go_none h1 (M - (bf_go stp M).1.1.length)
  rw [show (bf_go stp M).1.1.length + (M - (bf_go stp M).1.1.length) = M by omega] at h2
  rw [← h2]
theorem endL_lt {stp : Nat × Nat → Nat → Option (Nat × Nat)} {S : List (Nat × Nat)} : ∀ i, (∀ k, k < (endL stp S i).length → (endL stp S i).getD k 0 < i ∧ bf_cnt (stp (S.getD ((endL stp S i).getD k 0) (0, 0))) 20 = 0) ∧ (endL stp S i).length ≤ i ∧ ∀ a b, a < b → b < (endL stp S i).length → (endL stp S i).getD a 0 < (endL stp S i).getD b 0 := by
  intro i
  induction i with
  | zero => exact ⟨fun k hk => absurd hk (Nat.not_lt_zero k), Nat.le_refl _, fun a b _ hb => absurd hb (Nat.not_lt_zero b)⟩
  | succ i ih =>
    obtain ⟨h1, h2, h3⟩ := ih
    unfold endL
    split
    · rename_i hc
      refine ⟨fun k hk => ?_, by rw [List.length_append, List.length_singleton]; omega, fun a b hab hb => ?_⟩
      · rw [List.length_append, List.length_singleton] at hk
        rcases Nat.lt_or_ge k (endL stp S i).length with q | q
        · rw [gdl q]; have := h1 k q; exact ⟨by omega, this.2⟩
        · rw [gdr (by omega)]; exact ⟨by omega, hc⟩
      · rw [List.length_append, List.length_singleton] at hb
        rcases Nat.lt_or_ge b (endL stp S i).length with q | q
        · rw [gdl q, gdl (by omega)]; exact h3 a b hab q
        · rw [gdr (i := b) (by omega), gdl (by omega)]; exact (h1 a (by omega)).1
    · exact ⟨fun k hk => ⟨by have := (h1 k hk).1; omega, (h1 k hk).2⟩, by omega, h3⟩
/-- two orders of the same things by distinct keys are one -/
theorem ord_one {n : Nat} {K : Nat → Nat} {T T' E : Nat → Nat} (h1 : hs_same T E n) (h2 : hs_same T' E n) (i1 : hs_inj T n) (i2 : hs_inj T' n) (hK : ∀ a b, a < n → b < n → K (E a) = K (E b) → E a = E b) (s1 : ∀ i j, i < j → j < n → K (T i) ≤ K (T j)) (s2 : ∀ i j, i < j → j < n → K (T' i) ≤ K (T' j)) : ∀ k, k < n → T k = T' k := by
  have key : ∀ b k, k ≤ b → k < n → T k = T' k := by
    intro b
    induction b with
    | zero =>
      intro k hb hk
      have h0 : k = 0 := by omega
      subst h0
      obtain ⟨a, ha, ea⟩ := h1.1 0 hk
      obtain ⟨a', ha', ea'⟩ := h2.1 0 hk
      obtain ⟨j, hj, ej⟩ := h1.2 a' ha'
      obtain ⟨j', hj', ej'⟩ := h2.2 a ha
      have k1 : K (T 0) ≤ K (T j) := by
        rcases Nat.eq_zero_or_pos j with z | z
        · rw [z]; exact Nat.le_refl _
        · exact s1 0 j z hj
      have k2 : K (T' 0) ≤ K (T' j') := by
        rcases Nat.eq_zero_or_pos j' with z | z
        · rw [z]; exact Nat.le_refl _
        · exact s2 0 j' z hj'
      rw [ej, ← ea'] at k1
      rw [ej', ← ea] at k2
      rw [ea, ea']
      refine hK a a' ha ha' ?_
      rw [← ea, ← ea']
      omega
    | succ b ih =>
      intro k hb hk
      obtain ⟨a, ha, ea⟩ := h1.1 k hk
      obtain ⟨a', ha', ea'⟩ := h2.1 k hk
      obtain ⟨j, hj, ej⟩ := h1.2 a' ha'
      obtain ⟨j', hj', ej'⟩ := h2.2 a ha
      have k1 : K (T k) ≤ K (T j) := by
        rcases Nat.lt_trichotomy k j with z | z | z
        · exact s1 k j z hj
        · rw [z]; exact Nat.le_refl _
        · have e1 := ih j (by omega) hj
          have : j = k := i2 j k hj hk (by rw [← e1, ej, ea'])
          omega
      have k2 : K (T' k) ≤ K (T' j') := by
        rcases Nat.lt_trichotomy k j' with z | z | z
        · exact s2 k j' z hj'
        · rw [z]; exact Nat.le_refl _
        · have e1 := ih j' (by omega) hj'
          have : j' = k := i1 j' k hj' hk (by rw [e1, ej', ea])
          omega
      rw [ej, ← ea'] at k1
      rw [ej', ← ea] at k2
      rw [ea, ea']
      refine hK a a' ha ha' ?_
      rw [← ea, ← ea']
      omega
  intro k hk
  exact key k k (Nat.le_refl k) hk
/-! a way's moves in two longs -/
def wz (mv : Nat → Nat) : Nat → Nat → Nat
  | _, 0 => 0
  | a, m + 1 => mv a + 32 * wz mv (a + 1) m
theorem wz_lt {mv : Nat → Nat} (h : ∀ k, mv k < 32) : ∀ m a, wz mv a m < 32 ^ m := by
  intro m
  induction m with
  | zero => intro a; exact Nat.one_pos
  | succ m ih =>
    intro a
    show mv a + 32 * wz mv (a + 1) m < 32 ^ (m + 1)
    have h1 := h a
    have h2 := ih (a + 1)
    rw [Nat.pow_succ]
    omega
theorem wz_dg {mv : Nat → Nat} (h : ∀ k, mv k < 32) : ∀ i m a, i < m → wz mv a m / 32 ^ i % 32 = mv (a + i) := by
  intro i
  induction i with
  | zero =>
    intro m a hi
    obtain ⟨m, rfl⟩ : ∃ x, m = x + 1 := ⟨m - 1, by omega⟩
    show (mv a + 32 * wz mv (a + 1) m) / 32 ^ 0 % 32 = mv a
    have := h a
    rw [Nat.pow_zero, Nat.div_one]
    omega
  | succ i ih =>
    intro m a hi
    obtain ⟨m, rfl⟩ : ∃ x, m = x + 1 := ⟨m - 1, by omega⟩
    show (mv a + 32 * wz mv (a + 1) m) / 32 ^ (i + 1) % 32 = mv (a + (i + 1))
    have h1 := h a
    rw [show (32 : Nat) ^ (i + 1) = 32 * 32 ^ i by rw [Nat.pow_succ, Nat.mul_comm], ← Nat.div_div_eq_div_mul, show (mv a + 32 * wz mv (a + 1) m) / 32 = wz mv (a + 1) m by omega, ih m (a + 1) (by omega), show a + 1 + i = a + (i + 1) by omega]
/-- the move k of the way to the state i -/
def mvA (F : Nat → Nat) (i k : Nat) : Nat := F (anc F (dpt F i - 1 - k) i) % 20
theorem mvA_lt (F : Nat → Nat) (i k : Nat) : mvA F i k < 32 := Nat.lt_of_lt_of_le (Nat.mod_lt _ (by decide)) (by decide)
def wyA (F : Nat → Nat) (i : Nat) : Nat := wz (mvA F i) 0 (min 12 (dpt F i))
def rsA (F : Nat → Nat) (i : Nat) : Nat := wz (mvA F i) 12 (dpt F i - 12)
theorem anc_dpt {F : Nat → Nat} {n : Nat} (hF : ∀ i, 0 < i → i < n → F i / 20 < i) : ∀ j i, i < n → j ≤ dpt F i → dpt F (anc F j i) = dpt F i - j ∧ anc F j i < n := by
  intro j
  induction j with
  | zero => intro i hi _; exact ⟨by show dpt F i = _; omega, hi⟩
  | succ j ih =>
    intro i hi hj
    have h0 : 0 < i := by
      rcases Nat.eq_zero_or_pos i with z | z
      · rw [z] at hj; have : dpt F 0 = 0 := rfl; omega
      · exact z
    have e := dpt_s hF h0 hi
    have hp := hF i h0 hi
    obtain ⟨a, b⟩ := ih (F i / 20) (by omega) (by omega)
    exact ⟨by show dpt F (anc F j (F i / 20)) = _; omega, b⟩

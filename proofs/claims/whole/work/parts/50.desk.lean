theorem i_cases (x : Int32) : x < 0 ∨ ∃ k, k < 2 ^ 31 ∧ x = nI k := by
  by_cases h : x < 0
  · exact Or.inl h
  · exact Or.inr (nI_of h)
theorem i_neglt {x : Int32} (h : x < 0) (k : Nat) (hk : k < 2 ^ 31) : x < nI k := by
  rw [Int32.lt_iff_toInt_lt] at h ⊢
  rw [nI_toInt hk]
  have : (0 : Int32).toInt = 0 := by decide
  omega
theorem i_neglt2 {x : Int32} (h : x < 0) (k : Nat) (hk : k < 2 ^ 31) : ¬ nI k < x := by
  rw [Int32.lt_iff_toInt_lt] at h ⊢
  rw [nI_toInt hk]
  have : (0 : Int32).toInt = 0 := by decide
  omega
theorem i_negne {x : Int32} (h : x < 0) (k : Nat) (hk : k < 2 ^ 31) : x ≠ nI k := fun e => nI_pos hk (e ▸ h)
theorem i_negz {x : Int32} (h : x < 0) : ¬ x = 0 := fun e => i_negne h 0 (by decide) e
/-- an instruction: number k, a, b -/
def isI (y z w : Int32) (k a b : Nat) : Prop := k < 7 ∧ a < 4 ∧ b < 4 ∧ (k = 3 → a = 0 ∧ b = 0) ∧ (k = 6 → 1 ≤ a) ∧ y = nI k ∧ z = nI a ∧ w = nI b
set_option maxHeartbeats 4000000 in
set_option maxRecDepth 100000 in
/-- is it an instruction -/
theorem c_isInstruction (l : Launch) (D : va_G) (cI cJ : ClassId) (sz : Nat) (x y z : Int32) : KI l D cI cJ yX3_isInstruction cX3_isInstruction 4 (some .boolean) 0 0 0 0 [.int x, .int y, .int z] [] sz (S := Unit) (fun r _ => (r = nI 1 ∧ ∃ k a b, isI x y z k a b) ∨ (r = nI 0 ∧ ¬ ∃ k a b, isI x y z k a b)) (fun _ => []) := by
  refine zMetI (lv := [(0, .int x), (1, .int y), (2, .int z)]) NS0_ok (by decide) rfl (Nat.le_of_ble_eq_true rfl) rfl ?_
  intro p e s m args below meth c A X hin hA
  rcases i_cases x with hx | ⟨k, hk, hx⟩
  · have hno : ¬ ∃ k a b, isI x y z k a b := fun ⟨k, a, b, q⟩ => i_negne hx k (by have := q.1; omega) q.2.2.2.2.2.1
    refine z_iload_n X (pc' := 1) dX3_isInstruction_0 rfl 0 rfl rfl ?_
    refine z_if_lt X (tgt := 10) (pc' := 4) dX3_isInstruction_1 (by decide) rfl (fun h1 => ?_) (fun h1 => ?_)
    · refine z_iconst X (v := nI 0) (pc' := 11) dX3_isInstruction_10 (by decide) rfl ?_
      exact z_iret X (t1 := .boolean) rfl rfl () (Or.inr ⟨rfl, hno⟩) rfl (Nat.le_of_ble_eq_true rfl) (Nat.le_of_ble_eq_true rfl) dX3_isInstruction_11
    · exact absurd hx h1
  · subst hx
    refine z_iload_n X (pc' := 1) dX3_isInstruction_0 rfl 0 rfl rfl ?_
    refine z_if_ltN X (tgt := 10) (pc' := 4) (by omega) dX3_isInstruction_1 (by decide) rfl ?_
    refine z_iload_n X (pc' := 5) dX3_isInstruction_4 rfl 0 rfl rfl ?_
    refine z_bipush X (v := nI 6) (pc' := 7) dX3_isInstruction_5 (by decide) rfl ?_
    refine z_icmp_leN X (tgt := 12) (pc' := 10) hk (by decide) dX3_isInstruction_7 (by decide) rfl (fun h2 => ?_) (fun h2 => ?_)
    · have h6 : k ≤ 6 := h2
      rcases i_cases y with hy | ⟨a, ha, hy⟩ <;> rcases i_cases z with hz | ⟨b, hb, hz⟩
      · have hno : ¬ ∃ k2 a2 b2, isI (nI k) y z k2 a2 b2 := fun ⟨k2, a2, b2, q⟩ => i_negne hy a2 (by have := q.2.1; omega) q.2.2.2.2.2.2.1
        refine z_iload_n X (pc' := 13) dX3_isInstruction_12 rfl 0 rfl rfl ?_
        refine z_iconst X (v := nI 3) (pc' := 14) dX3_isInstruction_13 (by decide) rfl ?_
        refine z_icmp_neN X (tgt := 31) (pc' := 17) hk (by decide) dX3_isInstruction_14 (by decide) rfl (fun h3 => ?_) (fun h3 => ?_)
        · have hk3 : ¬ k = 3 := h3
          refine z_iload_n X (pc' := 32) dX3_isInstruction_31 rfl 0 rfl rfl ?_
          refine z_bipush X (v := nI 6) (pc' := 34) dX3_isInstruction_32 (by decide) rfl ?_
          refine z_icmp_neN X (tgt := 41) (pc' := 37) hk (by decide) dX3_isInstruction_34 (by decide) rfl (fun h4 => ?_) (fun h4 => ?_)
          · have hk6 : ¬ k = 6 := h4
            refine z_iconst X (v := nI 0) (pc' := 42) dX3_isInstruction_41 (by decide) rfl ?_
            refine z_istore_n X (lv' := [(3, .int (nI 0)), (0, .int (nI k)), (1, .int y), (2, .int z)]) (pc' := 43) dX3_isInstruction_42 rfl (by decide) rfl rfl ?_
            refine z_iload_n X (pc' := 44) dX3_isInstruction_43 rfl 2 rfl rfl ?_
            refine z_iload_n X (pc' := 45) dX3_isInstruction_44 rfl 0 rfl rfl ?_
            refine z_icmp_lt X (tgt := 66) (pc' := 48) dX3_isInstruction_45 (by decide) rfl (fun h5 => ?_) (fun h5 => ?_)
            · refine z_iconst X (v := nI 0) (pc' := 67) dX3_isInstruction_66 (by decide) rfl ?_
              exact z_iret X (t1 := .boolean) rfl rfl () (Or.inr ⟨rfl, hno⟩) rfl (Nat.le_of_ble_eq_true rfl) (Nat.le_of_ble_eq_true rfl) dX3_isInstruction_67
            · exact absurd (i_neglt hy 0 (by decide)) h5
          · have hk6 : k = 6 := h4
            refine z_iconst X (v := nI 1) (pc' := 38) dX3_isInstruction_37 (by decide) rfl ?_
            refine z_goto X (tgt := 42) dX3_isInstruction_38 (by decide) ?_
            refine z_istore_n X (lv' := [(3, .int (nI 1)), (0, .int (nI k)), (1, .int y), (2, .int z)]) (pc' := 43) dX3_isInstruction_42 rfl (by decide) rfl rfl ?_
            refine z_iload_n X (pc' := 44) dX3_isInstruction_43 rfl 2 rfl rfl ?_
            refine z_iload_n X (pc' := 45) dX3_isInstruction_44 rfl 0 rfl rfl ?_
            refine z_icmp_lt X (tgt := 66) (pc' := 48) dX3_isInstruction_45 (by decide) rfl (fun h6 => ?_) (fun h6 => ?_)
            · refine z_iconst X (v := nI 0) (pc' := 67) dX3_isInstruction_66 (by decide) rfl ?_
              exact z_iret X (t1 := .boolean) rfl rfl () (Or.inr ⟨rfl, hno⟩) rfl (Nat.le_of_ble_eq_true rfl) (Nat.le_of_ble_eq_true rfl) dX3_isInstruction_67
            · exact absurd (i_neglt hy 1 (by decide)) h6
        · have hk3 : k = 3 := h3
          refine z_iload_n X (pc' := 18) dX3_isInstruction_17 rfl 1 rfl rfl ?_
          refine z_if_ne X (tgt := 29) (pc' := 21) dX3_isInstruction_18 (by decide) rfl (fun h7 => ?_) (fun h7 => ?_)
          · refine z_iconst X (v := nI 0) (pc' := 30) dX3_isInstruction_29 (by decide) rfl ?_
            exact z_iret X (t1 := .boolean) rfl rfl () (Or.inr ⟨rfl, hno⟩) rfl (Nat.le_of_ble_eq_true rfl) (Nat.le_of_ble_eq_true rfl) dX3_isInstruction_30
          · exact absurd h7 (i_negz hy)
      · subst hz
        have hno : ¬ ∃ k2 a2 b2, isI (nI k) y (nI b) k2 a2 b2 := fun ⟨k2, a2, b2, q⟩ => i_negne hy a2 (by have := q.2.1; omega) q.2.2.2.2.2.2.1
        refine z_iload_n X (pc' := 13) dX3_isInstruction_12 rfl 0 rfl rfl ?_
        refine z_iconst X (v := nI 3) (pc' := 14) dX3_isInstruction_13 (by decide) rfl ?_
        refine z_icmp_neN X (tgt := 31) (pc' := 17) hk (by decide) dX3_isInstruction_14 (by decide) rfl (fun h8 => ?_) (fun h8 => ?_)
        · have hk3 : ¬ k = 3 := h8
          refine z_iload_n X (pc' := 32) dX3_isInstruction_31 rfl 0 rfl rfl ?_
          refine z_bipush X (v := nI 6) (pc' := 34) dX3_isInstruction_32 (by decide) rfl ?_
          refine z_icmp_neN X (tgt := 41) (pc' := 37) hk (by decide) dX3_isInstruction_34 (by decide) rfl (fun h9 => ?_) (fun h9 => ?_)
          · have hk6 : ¬ k = 6 := h9
            refine z_iconst X (v := nI 0) (pc' := 42) dX3_isInstruction_41 (by decide) rfl ?_
            refine z_istore_n X (lv' := [(3, .int (nI 0)), (0, .int (nI k)), (1, .int y), (2, .int (nI b))]) (pc' := 43) dX3_isInstruction_42 rfl (by decide) rfl rfl ?_
            refine z_iload_n X (pc' := 44) dX3_isInstruction_43 rfl 2 rfl rfl ?_
            refine z_iload_n X (pc' := 45) dX3_isInstruction_44 rfl 0 rfl rfl ?_
            refine z_icmp_lt X (tgt := 66) (pc' := 48) dX3_isInstruction_45 (by decide) rfl (fun h10 => ?_) (fun h10 => ?_)
            · refine z_iconst X (v := nI 0) (pc' := 67) dX3_isInstruction_66 (by decide) rfl ?_
              exact z_iret X (t1 := .boolean) rfl rfl () (Or.inr ⟨rfl, hno⟩) rfl (Nat.le_of_ble_eq_true rfl) (Nat.le_of_ble_eq_true rfl) dX3_isInstruction_67
            · exact absurd (i_neglt hy 0 (by decide)) h10
          · have hk6 : k = 6 := h9
            refine z_iconst X (v := nI 1) (pc' := 38) dX3_isInstruction_37 (by decide) rfl ?_
            refine z_goto X (tgt := 42) dX3_isInstruction_38 (by decide) ?_
            refine z_istore_n X (lv' := [(3, .int (nI 1)), (0, .int (nI k)), (1, .int y), (2, .int (nI b))]) (pc' := 43) dX3_isInstruction_42 rfl (by decide) rfl rfl ?_
            refine z_iload_n X (pc' := 44) dX3_isInstruction_43 rfl 2 rfl rfl ?_
            refine z_iload_n X (pc' := 45) dX3_isInstruction_44 rfl 0 rfl rfl ?_
            refine z_icmp_lt X (tgt := 66) (pc' := 48) dX3_isInstruction_45 (by decide) rfl (fun h11 => ?_) (fun h11 => ?_)
            · refine z_iconst X (v := nI 0) (pc' := 67) dX3_isInstruction_66 (by decide) rfl ?_
              exact z_iret X (t1 := .boolean) rfl rfl () (Or.inr ⟨rfl, hno⟩) rfl (Nat.le_of_ble_eq_true rfl) (Nat.le_of_ble_eq_true rfl) dX3_isInstruction_67
            · exact absurd (i_neglt hy 1 (by decide)) h11
        · have hk3 : k = 3 := h8
          refine z_iload_n X (pc' := 18) dX3_isInstruction_17 rfl 1 rfl rfl ?_
          refine z_if_ne X (tgt := 29) (pc' := 21) dX3_isInstruction_18 (by decide) rfl (fun h12 => ?_) (fun h12 => ?_)
          · refine z_iconst X (v := nI 0) (pc' := 30) dX3_isInstruction_29 (by decide) rfl ?_
            exact z_iret X (t1 := .boolean) rfl rfl () (Or.inr ⟨rfl, hno⟩) rfl (Nat.le_of_ble_eq_true rfl) (Nat.le_of_ble_eq_true rfl) dX3_isInstruction_30
          · exact absurd h12 (i_negz hy)
      · subst hy
        have hno : ¬ ∃ k2 a2 b2, isI (nI k) (nI a) z k2 a2 b2 := fun ⟨k2, a2, b2, q⟩ => i_negne hz b2 (by have := q.2.2.1; omega) q.2.2.2.2.2.2.2
        refine z_iload_n X (pc' := 13) dX3_isInstruction_12 rfl 0 rfl rfl ?_
        refine z_iconst X (v := nI 3) (pc' := 14) dX3_isInstruction_13 (by decide) rfl ?_
        refine z_icmp_neN X (tgt := 31) (pc' := 17) hk (by decide) dX3_isInstruction_14 (by decide) rfl (fun h13 => ?_) (fun h13 => ?_)
        · have hk3 : ¬ k = 3 := h13
          refine z_iload_n X (pc' := 32) dX3_isInstruction_31 rfl 0 rfl rfl ?_
          refine z_bipush X (v := nI 6) (pc' := 34) dX3_isInstruction_32 (by decide) rfl ?_
          refine z_icmp_neN X (tgt := 41) (pc' := 37) hk (by decide) dX3_isInstruction_34 (by decide) rfl (fun h14 => ?_) (fun h14 => ?_)
          · have hk6 : ¬ k = 6 := h14
            refine z_iconst X (v := nI 0) (pc' := 42) dX3_isInstruction_41 (by decide) rfl ?_
            refine z_istore_n X (lv' := [(3, .int (nI 0)), (0, .int (nI k)), (1, .int (nI a)), (2, .int z)]) (pc' := 43) dX3_isInstruction_42 rfl (by decide) rfl rfl ?_
            refine z_iload_n X (pc' := 44) dX3_isInstruction_43 rfl 2 rfl rfl ?_
            refine z_iload_n X (pc' := 45) dX3_isInstruction_44 rfl 0 rfl rfl ?_
            refine z_icmp_ltN X (tgt := 66) (pc' := 48) ha (by decide) dX3_isInstruction_45 (by decide) rfl (fun h15 => ?_) (fun h15 => ?_)
            · have hal : a < 0 := h15
              refine z_iconst X (v := nI 0) (pc' := 67) dX3_isInstruction_66 (by decide) rfl ?_
              exact z_iret X (t1 := .boolean) rfl rfl () (Or.inr ⟨rfl, hno⟩) rfl (Nat.le_of_ble_eq_true rfl) (Nat.le_of_ble_eq_true rfl) dX3_isInstruction_67
            · have hal : ¬ a < 0 := h15
              refine z_iload_n X (pc' := 49) dX3_isInstruction_48 rfl 2 rfl rfl ?_
              refine z_iconst X (v := nI 3) (pc' := 50) dX3_isInstruction_49 (by decide) rfl ?_
              refine z_icmp_gtN X (tgt := 66) (pc' := 53) ha (by decide) dX3_isInstruction_50 (by decide) rfl (fun h16 => ?_) (fun h16 => ?_)
              · have hag : 3 < a := h16
                refine z_iconst X (v := nI 0) (pc' := 67) dX3_isInstruction_66 (by decide) rfl ?_
                exact z_iret X (t1 := .boolean) rfl rfl () (Or.inr ⟨rfl, hno⟩) rfl (Nat.le_of_ble_eq_true rfl) (Nat.le_of_ble_eq_true rfl) dX3_isInstruction_67
              · have hag : ¬ 3 < a := h16
                refine z_iload_n X (pc' := 54) dX3_isInstruction_53 rfl 3 rfl rfl ?_
                refine z_if_lt X (tgt := 66) (pc' := 57) dX3_isInstruction_54 (by decide) rfl (fun h17 => ?_) (fun h17 => ?_)
                · refine z_iconst X (v := nI 0) (pc' := 67) dX3_isInstruction_66 (by decide) rfl ?_
                  exact z_iret X (t1 := .boolean) rfl rfl () (Or.inr ⟨rfl, hno⟩) rfl (Nat.le_of_ble_eq_true rfl) (Nat.le_of_ble_eq_true rfl) dX3_isInstruction_67
                · exact absurd hz h17
          · have hk6 : k = 6 := h14
            refine z_iconst X (v := nI 1) (pc' := 38) dX3_isInstruction_37 (by decide) rfl ?_
            refine z_goto X (tgt := 42) dX3_isInstruction_38 (by decide) ?_
            refine z_istore_n X (lv' := [(3, .int (nI 1)), (0, .int (nI k)), (1, .int (nI a)), (2, .int z)]) (pc' := 43) dX3_isInstruction_42 rfl (by decide) rfl rfl ?_
            refine z_iload_n X (pc' := 44) dX3_isInstruction_43 rfl 2 rfl rfl ?_
            refine z_iload_n X (pc' := 45) dX3_isInstruction_44 rfl 0 rfl rfl ?_
            refine z_icmp_ltN X (tgt := 66) (pc' := 48) ha (by decide) dX3_isInstruction_45 (by decide) rfl (fun h18 => ?_) (fun h18 => ?_)
            · have hal : a < 1 := h18
              refine z_iconst X (v := nI 0) (pc' := 67) dX3_isInstruction_66 (by decide) rfl ?_
              exact z_iret X (t1 := .boolean) rfl rfl () (Or.inr ⟨rfl, hno⟩) rfl (Nat.le_of_ble_eq_true rfl) (Nat.le_of_ble_eq_true rfl) dX3_isInstruction_67
            · have hal : ¬ a < 1 := h18
              refine z_iload_n X (pc' := 49) dX3_isInstruction_48 rfl 2 rfl rfl ?_
              refine z_iconst X (v := nI 3) (pc' := 50) dX3_isInstruction_49 (by decide) rfl ?_
              refine z_icmp_gtN X (tgt := 66) (pc' := 53) ha (by decide) dX3_isInstruction_50 (by decide) rfl (fun h19 => ?_) (fun h19 => ?_)
              · have hag : 3 < a := h19
                refine z_iconst X (v := nI 0) (pc' := 67) dX3_isInstruction_66 (by decide) rfl ?_
                exact z_iret X (t1 := .boolean) rfl rfl () (Or.inr ⟨rfl, hno⟩) rfl (Nat.le_of_ble_eq_true rfl) (Nat.le_of_ble_eq_true rfl) dX3_isInstruction_67
              · have hag : ¬ 3 < a := h19
                refine z_iload_n X (pc' := 54) dX3_isInstruction_53 rfl 3 rfl rfl ?_
                refine z_if_lt X (tgt := 66) (pc' := 57) dX3_isInstruction_54 (by decide) rfl (fun h20 => ?_) (fun h20 => ?_)
                · refine z_iconst X (v := nI 0) (pc' := 67) dX3_isInstruction_66 (by decide) rfl ?_
                  exact z_iret X (t1 := .boolean) rfl rfl () (Or.inr ⟨rfl, hno⟩) rfl (Nat.le_of_ble_eq_true rfl) (Nat.le_of_ble_eq_true rfl) dX3_isInstruction_67
                · exact absurd hz h20
        · have hk3 : k = 3 := h13
          refine z_iload_n X (pc' := 18) dX3_isInstruction_17 rfl 1 rfl rfl ?_
          refine z_if_neN X (tgt := 29) (pc' := 21) ha dX3_isInstruction_18 (by decide) rfl (fun h21 => ?_) (fun h21 => ?_)
          · have ha0 : ¬ a = 0 := h21
            refine z_iconst X (v := nI 0) (pc' := 30) dX3_isInstruction_29 (by decide) rfl ?_
            exact z_iret X (t1 := .boolean) rfl rfl () (Or.inr ⟨rfl, hno⟩) rfl (Nat.le_of_ble_eq_true rfl) (Nat.le_of_ble_eq_true rfl) dX3_isInstruction_30
          · have ha0 : a = 0 := h21
            refine z_iload_n X (pc' := 22) dX3_isInstruction_21 rfl 2 rfl rfl ?_
            refine z_if_ne X (tgt := 29) (pc' := 25) dX3_isInstruction_22 (by decide) rfl (fun h22 => ?_) (fun h22 => ?_)
            · refine z_iconst X (v := nI 0) (pc' := 30) dX3_isInstruction_29 (by decide) rfl ?_
              exact z_iret X (t1 := .boolean) rfl rfl () (Or.inr ⟨rfl, hno⟩) rfl (Nat.le_of_ble_eq_true rfl) (Nat.le_of_ble_eq_true rfl) dX3_isInstruction_30
            · exact absurd h22 (i_negz hz)
      · subst hy
        subst hz
        have hun : ∀ k2 a2 b2, isI (nI k) (nI a) (nI b) k2 a2 b2 → k2 = k ∧ a2 = a ∧ b2 = b := fun k2 a2 b2 q => ⟨((nI_eq hk (show k2 < 2 ^ 31 by have := q.1; omega)).mp q.2.2.2.2.2.1).symm, ((nI_eq ha (show a2 < 2 ^ 31 by have := q.2.1; omega)).mp q.2.2.2.2.2.2.1).symm, ((nI_eq hb (show b2 < 2 ^ 31 by have := q.2.2.1; omega)).mp q.2.2.2.2.2.2.2).symm⟩
        refine z_iload_n X (pc' := 13) dX3_isInstruction_12 rfl 0 rfl rfl ?_
        refine z_iconst X (v := nI 3) (pc' := 14) dX3_isInstruction_13 (by decide) rfl ?_
        refine z_icmp_neN X (tgt := 31) (pc' := 17) hk (by decide) dX3_isInstruction_14 (by decide) rfl (fun h23 => ?_) (fun h23 => ?_)
        · have hk3 : ¬ k = 3 := h23
          refine z_iload_n X (pc' := 32) dX3_isInstruction_31 rfl 0 rfl rfl ?_
          refine z_bipush X (v := nI 6) (pc' := 34) dX3_isInstruction_32 (by decide) rfl ?_
          refine z_icmp_neN X (tgt := 41) (pc' := 37) hk (by decide) dX3_isInstruction_34 (by decide) rfl (fun h24 => ?_) (fun h24 => ?_)
          · have hk6 : ¬ k = 6 := h24
            refine z_iconst X (v := nI 0) (pc' := 42) dX3_isInstruction_41 (by decide) rfl ?_
            refine z_istore_n X (lv' := [(3, .int (nI 0)), (0, .int (nI k)), (1, .int (nI a)), (2, .int (nI b))]) (pc' := 43) dX3_isInstruction_42 rfl (by decide) rfl rfl ?_
            refine z_iload_n X (pc' := 44) dX3_isInstruction_43 rfl 2 rfl rfl ?_
            refine z_iload_n X (pc' := 45) dX3_isInstruction_44 rfl 0 rfl rfl ?_
            refine z_icmp_ltN X (tgt := 66) (pc' := 48) ha (by decide) dX3_isInstruction_45 (by decide) rfl (fun h25 => ?_) (fun h25 => ?_)
            · have hal : a < 0 := h25
              refine z_iconst X (v := nI 0) (pc' := 67) dX3_isInstruction_66 (by decide) rfl ?_
              exact z_iret X (t1 := .boolean) rfl rfl () (Or.inr ⟨rfl, fun ⟨k2, a2, b2, q⟩ => by obtain ⟨e1, e2, e3⟩ := hun k2 a2 b2 q; subst e1; subst e2; subst e3; obtain ⟨q1, q2, q3, q4, q5, -⟩ := q; omega⟩) rfl (Nat.le_of_ble_eq_true rfl) (Nat.le_of_ble_eq_true rfl) dX3_isInstruction_67
            · have hal : ¬ a < 0 := h25
              refine z_iload_n X (pc' := 49) dX3_isInstruction_48 rfl 2 rfl rfl ?_
              refine z_iconst X (v := nI 3) (pc' := 50) dX3_isInstruction_49 (by decide) rfl ?_
              refine z_icmp_gtN X (tgt := 66) (pc' := 53) ha (by decide) dX3_isInstruction_50 (by decide) rfl (fun h26 => ?_) (fun h26 => ?_)
              · have hag : 3 < a := h26
                refine z_iconst X (v := nI 0) (pc' := 67) dX3_isInstruction_66 (by decide) rfl ?_
                exact z_iret X (t1 := .boolean) rfl rfl () (Or.inr ⟨rfl, fun ⟨k2, a2, b2, q⟩ => by obtain ⟨e1, e2, e3⟩ := hun k2 a2 b2 q; subst e1; subst e2; subst e3; obtain ⟨q1, q2, q3, q4, q5, -⟩ := q; omega⟩) rfl (Nat.le_of_ble_eq_true rfl) (Nat.le_of_ble_eq_true rfl) dX3_isInstruction_67
              · have hag : ¬ 3 < a := h26
                refine z_iload_n X (pc' := 54) dX3_isInstruction_53 rfl 3 rfl rfl ?_
                refine z_if_ltN X (tgt := 66) (pc' := 57) (by omega) dX3_isInstruction_54 (by decide) rfl ?_
                refine z_iload_n X (pc' := 58) dX3_isInstruction_57 rfl 3 rfl rfl ?_
                refine z_iconst X (v := nI 3) (pc' := 59) dX3_isInstruction_58 (by decide) rfl ?_
                refine z_icmp_gtN X (tgt := 66) (pc' := 62) hb (by decide) dX3_isInstruction_59 (by decide) rfl (fun h27 => ?_) (fun h27 => ?_)
                · have hbg : 3 < b := h27
                  refine z_iconst X (v := nI 0) (pc' := 67) dX3_isInstruction_66 (by decide) rfl ?_
                  exact z_iret X (t1 := .boolean) rfl rfl () (Or.inr ⟨rfl, fun ⟨k2, a2, b2, q⟩ => by obtain ⟨e1, e2, e3⟩ := hun k2 a2 b2 q; subst e1; subst e2; subst e3; obtain ⟨q1, q2, q3, q4, q5, -⟩ := q; omega⟩) rfl (Nat.le_of_ble_eq_true rfl) (Nat.le_of_ble_eq_true rfl) dX3_isInstruction_67
                · have hbg : ¬ 3 < b := h27
                  refine z_iconst X (v := nI 1) (pc' := 63) dX3_isInstruction_62 (by decide) rfl ?_
                  refine z_goto X (tgt := 67) dX3_isInstruction_63 (by decide) ?_
                  exact z_iret X (t1 := .boolean) rfl rfl () (Or.inl ⟨rfl, k, a, b, by omega, by omega, by omega, fun _ => by omega, fun _ => by omega, rfl, rfl, rfl⟩) rfl (Nat.le_of_ble_eq_true rfl) (Nat.le_of_ble_eq_true rfl) dX3_isInstruction_67
          · have hk6 : k = 6 := h24
            refine z_iconst X (v := nI 1) (pc' := 38) dX3_isInstruction_37 (by decide) rfl ?_
            refine z_goto X (tgt := 42) dX3_isInstruction_38 (by decide) ?_
            refine z_istore_n X (lv' := [(3, .int (nI 1)), (0, .int (nI k)), (1, .int (nI a)), (2, .int (nI b))]) (pc' := 43) dX3_isInstruction_42 rfl (by decide) rfl rfl ?_
            refine z_iload_n X (pc' := 44) dX3_isInstruction_43 rfl 2 rfl rfl ?_
            refine z_iload_n X (pc' := 45) dX3_isInstruction_44 rfl 0 rfl rfl ?_
            refine z_icmp_ltN X (tgt := 66) (pc' := 48) ha (by decide) dX3_isInstruction_45 (by decide) rfl (fun h28 => ?_) (fun h28 => ?_)
            · have hal : a < 1 := h28
              refine z_iconst X (v := nI 0) (pc' := 67) dX3_isInstruction_66 (by decide) rfl ?_
              exact z_iret X (t1 := .boolean) rfl rfl () (Or.inr ⟨rfl, fun ⟨k2, a2, b2, q⟩ => by obtain ⟨e1, e2, e3⟩ := hun k2 a2 b2 q; subst e1; subst e2; subst e3; obtain ⟨q1, q2, q3, q4, q5, -⟩ := q; omega⟩) rfl (Nat.le_of_ble_eq_true rfl) (Nat.le_of_ble_eq_true rfl) dX3_isInstruction_67
            · have hal : ¬ a < 1 := h28
              refine z_iload_n X (pc' := 49) dX3_isInstruction_48 rfl 2 rfl rfl ?_
              refine z_iconst X (v := nI 3) (pc' := 50) dX3_isInstruction_49 (by decide) rfl ?_
              refine z_icmp_gtN X (tgt := 66) (pc' := 53) ha (by decide) dX3_isInstruction_50 (by decide) rfl (fun h29 => ?_) (fun h29 => ?_)
              · have hag : 3 < a := h29
                refine z_iconst X (v := nI 0) (pc' := 67) dX3_isInstruction_66 (by decide) rfl ?_
                exact z_iret X (t1 := .boolean) rfl rfl () (Or.inr ⟨rfl, fun ⟨k2, a2, b2, q⟩ => by obtain ⟨e1, e2, e3⟩ := hun k2 a2 b2 q; subst e1; subst e2; subst e3; obtain ⟨q1, q2, q3, q4, q5, -⟩ := q; omega⟩) rfl (Nat.le_of_ble_eq_true rfl) (Nat.le_of_ble_eq_true rfl) dX3_isInstruction_67
              · have hag : ¬ 3 < a := h29
                refine z_iload_n X (pc' := 54) dX3_isInstruction_53 rfl 3 rfl rfl ?_
                refine z_if_ltN X (tgt := 66) (pc' := 57) (by omega) dX3_isInstruction_54 (by decide) rfl ?_
                refine z_iload_n X (pc' := 58) dX3_isInstruction_57 rfl 3 rfl rfl ?_
                refine z_iconst X (v := nI 3) (pc' := 59) dX3_isInstruction_58 (by decide) rfl ?_
                refine z_icmp_gtN X (tgt := 66) (pc' := 62) hb (by decide) dX3_isInstruction_59 (by decide) rfl (fun h30 => ?_) (fun h30 => ?_)
                · have hbg : 3 < b := h30
                  refine z_iconst X (v := nI 0) (pc' := 67) dX3_isInstruction_66 (by decide) rfl ?_
                  exact z_iret X (t1 := .boolean) rfl rfl () (Or.inr ⟨rfl, fun ⟨k2, a2, b2, q⟩ => by obtain ⟨e1, e2, e3⟩ := hun k2 a2 b2 q; subst e1; subst e2; subst e3; obtain ⟨q1, q2, q3, q4, q5, -⟩ := q; omega⟩) rfl (Nat.le_of_ble_eq_true rfl) (Nat.le_of_ble_eq_true rfl) dX3_isInstruction_67
                · have hbg : ¬ 3 < b := h30
                  refine z_iconst X (v := nI 1) (pc' := 63) dX3_isInstruction_62 (by decide) rfl ?_
                  refine z_goto X (tgt := 67) dX3_isInstruction_63 (by decide) ?_
                  exact z_iret X (t1 := .boolean) rfl rfl () (Or.inl ⟨rfl, k, a, b, by omega, by omega, by omega, fun _ => by omega, fun _ => by omega, rfl, rfl, rfl⟩) rfl (Nat.le_of_ble_eq_true rfl) (Nat.le_of_ble_eq_true rfl) dX3_isInstruction_67
        · have hk3 : k = 3 := h23
          refine z_iload_n X (pc' := 18) dX3_isInstruction_17 rfl 1 rfl rfl ?_
          refine z_if_neN X (tgt := 29) (pc' := 21) ha dX3_isInstruction_18 (by decide) rfl (fun h31 => ?_) (fun h31 => ?_)
          · have ha0 : ¬ a = 0 := h31
            refine z_iconst X (v := nI 0) (pc' := 30) dX3_isInstruction_29 (by decide) rfl ?_
            exact z_iret X (t1 := .boolean) rfl rfl () (Or.inr ⟨rfl, fun ⟨k2, a2, b2, q⟩ => by obtain ⟨e1, e2, e3⟩ := hun k2 a2 b2 q; subst e1; subst e2; subst e3; obtain ⟨q1, q2, q3, q4, q5, -⟩ := q; omega⟩) rfl (Nat.le_of_ble_eq_true rfl) (Nat.le_of_ble_eq_true rfl) dX3_isInstruction_30
          · have ha0 : a = 0 := h31
            refine z_iload_n X (pc' := 22) dX3_isInstruction_21 rfl 2 rfl rfl ?_
            refine z_if_neN X (tgt := 29) (pc' := 25) hb dX3_isInstruction_22 (by decide) rfl (fun h32 => ?_) (fun h32 => ?_)
            · have hb0 : ¬ b = 0 := h32
              refine z_iconst X (v := nI 0) (pc' := 30) dX3_isInstruction_29 (by decide) rfl ?_
              exact z_iret X (t1 := .boolean) rfl rfl () (Or.inr ⟨rfl, fun ⟨k2, a2, b2, q⟩ => by obtain ⟨e1, e2, e3⟩ := hun k2 a2 b2 q; subst e1; subst e2; subst e3; obtain ⟨q1, q2, q3, q4, q5, -⟩ := q; omega⟩) rfl (Nat.le_of_ble_eq_true rfl) (Nat.le_of_ble_eq_true rfl) dX3_isInstruction_30
            · have hb0 : b = 0 := h32
              refine z_iconst X (v := nI 1) (pc' := 26) dX3_isInstruction_25 (by decide) rfl ?_
              refine z_goto X (tgt := 30) dX3_isInstruction_26 (by decide) ?_
              exact z_iret X (t1 := .boolean) rfl rfl () (Or.inl ⟨rfl, k, a, b, by omega, by omega, by omega, fun _ => by omega, fun _ => by omega, rfl, rfl, rfl⟩) rfl (Nat.le_of_ble_eq_true rfl) (Nat.le_of_ble_eq_true rfl) dX3_isInstruction_30
    · have h6 : ¬ k ≤ 6 := h2
      have hno : ¬ ∃ k2 a b, isI (nI k) y z k2 a b := fun ⟨k2, a, b, q⟩ => by have h7 := q.1; have := (nI_eq hk (show k2 < 2 ^ 31 by omega)).mp q.2.2.2.2.2.1; omega
      refine z_iconst X (v := nI 0) (pc' := 11) dX3_isInstruction_10 (by decide) rfl ?_
      exact z_iret X (t1 := .boolean) rfl rfl () (Or.inr ⟨rfl, hno⟩) rfl (Nat.le_of_ble_eq_true rfl) (Nat.le_of_ble_eq_true rfl) dX3_isInstruction_11
/-- one instruction more can be had: of thread t -/
def canAdd (P : Nat → List Nat) (x y z w : Int32) (t k a b : Nat) : Prop := t < 4 ∧ x = nI t ∧ isI y z w k a b ∧ (P t).length < 6 ∧ pTot P < 12
/-- behind an add: the answer and the program -/
def addQ (P : Nat → List Nat) (x y z w : Int32) (r : Int32) (Q : Nat → List Nat) : Prop := (∃ t k a b, canAdd P x y z w t k a b ∧ r = nI 1 ∧ Q = pAdd P t (16 * k + 4 * a + b)) ∨ ((¬ ∃ t k a b, canAdd P x y z w t k a b) ∧ r = nI 0 ∧ Q = P)
set_option maxHeartbeats 4000000 in
set_option maxRecDepth 100000 in
/-- add -/
theorem c_add (l : Launch) (D : va_G) (cI cJ : ClassId) (sz : Nat) (d0 pr a s1 s2 cd ln : Nat) (f g : Nat → Int32) (P : Nat → List Nat) (x y z w : Int32) (hP : Pok P) (hR : PRep P f g) (htot : pTot P ≤ 12) : KI l D cI cJ yX3_add cX3_add 5 (some .boolean) 1 25 0 0 [.ref d0, .int x, .int y, .int z, .int w] [(d0, .inr (3, [.ref pr, .ref a, .ref s1, .ref s2])), (pr, .inr (1, [.ref cd, .ref ln, .int (nI (pTot P))])), (cd, .inl (cI, 24, .inl f)), (ln, .inl (cI, 4, .inl g))] sz (S := (Nat → List Nat) × (Nat → Int32) × (Nat → Int32)) (fun r u => addQ P x y z w r u.1 ∧ PRep u.1 u.2.1 u.2.2 ∧ Pok u.1 ∧ pTot u.1 ≤ 12) (fun u => [(d0, .inr (3, [.ref pr, .ref a, .ref s1, .ref s2])), (pr, .inr (1, [.ref cd, .ref ln, .int (nI (pTot u.1))])), (cd, .inl (cI, 24, .inl u.2.1)), (ln, .inl (cI, 4, .inl u.2.2))]) := by
  refine zMetI (lv := [(0, .ref d0), (1, .int x), (2, .int y), (3, .int z), (4, .int w)]) NS0_ok (by decide) rfl (Nat.le_of_ble_eq_true rfl) rfl ?_
  intro p e s m args below meth c A X hin hA
  refine z_iload_n X (pc' := 1) dX3_add_0 rfl 1 rfl rfl ?_
  refine z_callSi X (pc' := 4) (fun sz => c_isThread l D cI cJ sz x) (zcwS X TTg 1 mL_X3_35 mT_X3_isThread mN_X3 mK_X3_isThread rfl rfl (by decide +kernel) ⟨(Nat.le_of_ble_eq_true rfl), (Nat.le_of_ble_eq_true rfl)⟩) (wr := [(d0, .inr (3, [.ref pr, .ref a, .ref s1, .ref s2])), (pr, .inr (1, [.ref cd, .ref ln, .int (nI (pTot P))])), (cd, .inl (cI, 24, .inl f)), (ln, .inl (cI, 4, .inl g))]) [] [0, 1, 2, 3] rfl rfl rfl rfl (by decide) rfl rfl (Nat.le_of_ble_eq_true rfl) dX3_add_1 ⟨Nat.le_of_ble_eq_true rfl, Nat.le_of_ble_eq_true rfl⟩ rfl (fun r u hu => ?_)
  refine z_wse (ws' := [(d0, .inr (3, [.ref pr, .ref a, .ref s1, .ref s2])), (pr, .inr (1, [.ref cd, .ref ln, .int (nI (pTot P))])), (cd, .inl (cI, 24, .inl f)), (ln, .inl (cI, 4, .inl g))]) rfl ?_
  rcases hu with ⟨hr, t, ht, hx⟩ | ⟨hr, hno⟩
  · subst hr
    subst hx
    refine z_if_eqN X (tgt := 17) (pc' := 7) (by omega) dX3_add_4 (by decide) rfl (fun h1 => ?_) (fun h1 => ?_)
    · exact absurd h1 (by decide)
    · clear h1
      refine z_iload_n X (pc' := 8) dX3_add_7 rfl 2 rfl rfl ?_
      refine z_iload_n X (pc' := 9) dX3_add_8 rfl 3 rfl rfl ?_
      refine z_iload X (pc' := 11) dX3_add_9 4 rfl rfl ?_
      refine z_callSi X (pc' := 14) (fun sz => c_isInstruction l D cI cJ sz y z w) (zcwS X TTg 3 mL_X3_39 mT_X3_isInstruction mN_X3 mK_X3_isInstruction rfl rfl (by decide +kernel) ⟨(Nat.le_of_ble_eq_true rfl), (Nat.le_of_ble_eq_true rfl)⟩) (wr := [(d0, .inr (3, [.ref pr, .ref a, .ref s1, .ref s2])), (pr, .inr (1, [.ref cd, .ref ln, .int (nI (pTot P))])), (cd, .inl (cI, 24, .inl f)), (ln, .inl (cI, 4, .inl g))]) [] [0, 1, 2, 3] rfl rfl rfl rfl (by decide) rfl rfl (Nat.le_of_ble_eq_true rfl) dX3_add_11 ⟨Nat.le_of_ble_eq_true rfl, Nat.le_of_ble_eq_true rfl⟩ rfl (fun r u hu => ?_)
      refine z_wse (ws' := [(d0, .inr (3, [.ref pr, .ref a, .ref s1, .ref s2])), (pr, .inr (1, [.ref cd, .ref ln, .int (nI (pTot P))])), (cd, .inl (cI, 24, .inl f)), (ln, .inl (cI, 4, .inl g))]) rfl ?_
      rcases hu with ⟨hr, k, i, j, hq⟩ | ⟨hr, hno⟩
      · subst hr
        have hq2 := id hq
        obtain ⟨q1, q2, q3, q4, q5, hy, hz, hw⟩ := hq
        subst hy
        subst hz
        subst hw
        refine z_if_neN X (tgt := 19) (pc' := 17) (by omega) dX3_add_14 (by decide) rfl (fun h2 => ?_) (fun h2 => ?_)
        · clear h2
          refine z_aload_n X (pc' := 20) dX3_add_19 rfl 0 rfl rfl ?_
          refine z_get X (v := .ref pr) (pc' := 23) 0 rfl rfl inX3 0 (by decide) mF_X3_12 rfl dX3_add_20 rfl ?_
          refine z_iload_n X (pc' := 24) dX3_add_23 rfl 1 rfl rfl ?_
          refine z_iload_n X (pc' := 25) dX3_add_24 rfl 2 rfl rfl ?_
          refine z_iload_n X (pc' := 26) dX3_add_25 rfl 3 rfl rfl ?_
          refine z_iload X (pc' := 28) dX3_add_26 4 rfl rfl ?_
          refine z_callVi X (pc' := 31) (fun sz => c_append l D cI cJ sz pr cd ln (pTot P) t k i j (P t).length f g ht q1 q2 q3 (hR t ht).1 (hP t ht).1 htot) (zcwV X TTg 4 mL_X3_43 mI_X1_append mS_X1_append mN_X1 mK_X1_append rfl rfl (by decide +kernel) ⟨(Nat.le_of_ble_eq_true rfl), (Nat.le_of_ble_eq_true rfl)⟩) (wr := [(d0, .inr (3, [.ref pr, .ref a, .ref s1, .ref s2]))]) [1, 2, 3] [0] rfl rfl rfl rfl (by decide) 1 1 rfl rfl rfl rfl rfl (Nat.le_of_ble_eq_true rfl) dX3_add_28 ⟨Nat.le_of_ble_eq_true rfl, Nat.le_of_ble_eq_true rfl⟩ rfl (fun r v hu => ?_)
          refine z_wse (ws' := [(d0, .inr (3, [.ref pr, .ref a, .ref s1, .ref s2])), (pr, .inr (1, [.ref cd, .ref ln, .int (nI v.2.2)])), (cd, .inl (cI, 24, .inl v.1)), (ln, .inl (cI, 4, .inl v.2.1))]) rfl ?_
          rcases hu with ⟨h6, h12, hr, hv⟩ | ⟨hno, hr, hv⟩
          · subst hr
            subst hv
            refine z_wse (ws' := [(d0, .inr (3, [.ref pr, .ref a, .ref s1, .ref s2])), (pr, .inr (1, [.ref cd, .ref ln, .int (nI (pTot P + 1))])), (cd, .inl (cI, 24, .inl (upd f (t * 6 + (P t).length) (nI (16 * k + 4 * i + j))))), (ln, .inl (cI, 4, .inl (upd g t (nI ((P t).length + 1)))))]) rfl ?_
            refine z_wse (ws' := [(d0, .inr (3, [.ref pr, .ref a, .ref s1, .ref s2])), (pr, .inr (1, [.ref cd, .ref ln, .int (nI (pTot (pAdd P t (16 * k + 4 * i + j))))])), (cd, .inl (cI, 24, .inl (upd f (t * 6 + (P t).length) (nI (16 * k + 4 * i + j))))), (ln, .inl (cI, 4, .inl (upd g t (nI ((P t).length + 1)))))]) (by rw [pTot_add ht]) ?_
            exact z_iret X (t1 := .boolean) rfl rfl (pAdd P t (16 * k + 4 * i + j), upd f (t * 6 + (P t).length) (nI (16 * k + 4 * i + j)), upd g t (nI ((P t).length + 1))) (⟨Or.inl ⟨t, k, i, j, ⟨ht, rfl, hq2, h6, h12⟩, rfl, rfl⟩, PRep_add hR hP ht h6, Pok_add hP h6 (by omega), by show pTot (pAdd P t (16 * k + 4 * i + j)) ≤ 12; rw [pTot_add ht]; omega⟩) rfl (Nat.le_of_ble_eq_true rfl) (Nat.le_of_ble_eq_true rfl) dX3_add_31
          · subst hr
            subst hv
            refine z_wse (ws' := [(d0, .inr (3, [.ref pr, .ref a, .ref s1, .ref s2])), (pr, .inr (1, [.ref cd, .ref ln, .int (nI (pTot P))])), (cd, .inl (cI, 24, .inl f)), (ln, .inl (cI, 4, .inl g))]) rfl ?_
            have hnA : ¬ ∃ t2 k2 a b, canAdd P (nI t) (nI k) (nI i) (nI j) t2 k2 a b := fun ⟨t2, k2, a, b, q⟩ => by have e1 := (nI_eq (show t < 2 ^ 31 by omega) (show t2 < 2 ^ 31 by have := q.1; omega)).mp q.2.1; subst e1; exact hno ⟨q.2.2.2.1, q.2.2.2.2⟩
            exact z_iret X (t1 := .boolean) rfl rfl (P, f, g) (⟨Or.inr ⟨hnA, rfl, rfl⟩, hR, hP, htot⟩) rfl (Nat.le_of_ble_eq_true rfl) (Nat.le_of_ble_eq_true rfl) dX3_add_31
        · exact absurd h2 (by decide)
      · subst hr
        have hnA : ¬ ∃ t2 k a b, canAdd P (nI t) y z w t2 k a b := fun ⟨t2, k, a, b, q⟩ => hno ⟨k, a, b, q.2.2.1⟩
        refine z_if_neN X (tgt := 19) (pc' := 17) (by omega) dX3_add_14 (by decide) rfl (fun h3 => ?_) (fun h3 => ?_)
        · exact absurd h3 (by decide)
        · clear h3
          refine z_iconst X (v := nI 0) (pc' := 18) dX3_add_17 (by decide) rfl ?_
          exact z_iret X (t1 := .boolean) rfl rfl (P, f, g) (⟨Or.inr ⟨hnA, rfl, rfl⟩, hR, hP, htot⟩) rfl (Nat.le_of_ble_eq_true rfl) (Nat.le_of_ble_eq_true rfl) dX3_add_18
  · subst hr
    have hnA : ¬ ∃ t k a b, canAdd P x y z w t k a b := fun ⟨t, k, a, b, q⟩ => hno ⟨t, q.1, q.2.1⟩
    refine z_if_eqN X (tgt := 17) (pc' := 7) (by omega) dX3_add_4 (by decide) rfl (fun h4 => ?_) (fun h4 => ?_)
    · clear h4
      refine z_iconst X (v := nI 0) (pc' := 18) dX3_add_17 (by decide) rfl ?_
      exact z_iret X (t1 := .boolean) rfl rfl (P, f, g) (⟨Or.inr ⟨hnA, rfl, rfl⟩, hR, hP, htot⟩) rfl (Nat.le_of_ble_eq_true rfl) (Nat.le_of_ble_eq_true rfl) dX3_add_18
    · exact absurd h4 (by decide)
/-- behind a clear -/
def clearQ (P : Nat → List Nat) (x : Int32) (r : Int32) (Q : Nat → List Nat) : Prop := (∃ t, t < 4 ∧ x = nI t ∧ r = nI (P t).length ∧ Q = pDel P t) ∨ ((¬ ∃ t, t < 4 ∧ x = nI t) ∧ r = -1 ∧ Q = P)
set_option maxHeartbeats 4000000 in
set_option maxRecDepth 100000 in
/-- clear -/
theorem c_clear (l : Launch) (D : va_G) (cI cJ : ClassId) (sz : Nat) (d0 pr a s1 s2 cd ln : Nat) (f g : Nat → Int32) (P : Nat → List Nat) (x : Int32) (hP : Pok P) (hR : PRep P f g) (htot : pTot P ≤ 12) : KI l D cI cJ yX3_clear cX3_clear 2 (some .int) 1 22 0 0 [.ref d0, .int x] [(d0, .inr (3, [.ref pr, .ref a, .ref s1, .ref s2])), (pr, .inr (1, [.ref cd, .ref ln, .int (nI (pTot P))])), (cd, .inl (cI, 24, .inl f)), (ln, .inl (cI, 4, .inl g))] sz (S := (Nat → List Nat) × (Nat → Int32) × (Nat → Int32)) (fun r u => clearQ P x r u.1 ∧ PRep u.1 u.2.1 u.2.2 ∧ Pok u.1 ∧ pTot u.1 ≤ 12) (fun u => [(d0, .inr (3, [.ref pr, .ref a, .ref s1, .ref s2])), (pr, .inr (1, [.ref cd, .ref ln, .int (nI (pTot u.1))])), (cd, .inl (cI, 24, .inl u.2.1)), (ln, .inl (cI, 4, .inl u.2.2))]) := by
  refine zMetI (lv := [(0, .ref d0), (1, .int x)]) NS0_ok (by decide) rfl (Nat.le_of_ble_eq_true rfl) rfl ?_
  intro p e s m args below meth c A X hin hA
  refine z_iload_n X (pc' := 1) dX3_clear_0 rfl 1 rfl rfl ?_
  refine z_callSi X (pc' := 4) (fun sz => c_isThread l D cI cJ sz x) (zcwS X TTg 1 mL_X3_35 mT_X3_isThread mN_X3 mK_X3_isThread rfl rfl (by decide +kernel) ⟨(Nat.le_of_ble_eq_true rfl), (Nat.le_of_ble_eq_true rfl)⟩) (wr := [(d0, .inr (3, [.ref pr, .ref a, .ref s1, .ref s2])), (pr, .inr (1, [.ref cd, .ref ln, .int (nI (pTot P))])), (cd, .inl (cI, 24, .inl f)), (ln, .inl (cI, 4, .inl g))]) [] [0, 1, 2, 3] rfl rfl rfl rfl (by decide) rfl rfl (Nat.le_of_ble_eq_true rfl) dX3_clear_1 ⟨Nat.le_of_ble_eq_true rfl, Nat.le_of_ble_eq_true rfl⟩ rfl (fun r u hu => ?_)
  refine z_wse (ws' := [(d0, .inr (3, [.ref pr, .ref a, .ref s1, .ref s2])), (pr, .inr (1, [.ref cd, .ref ln, .int (nI (pTot P))])), (cd, .inl (cI, 24, .inl f)), (ln, .inl (cI, 4, .inl g))]) rfl ?_
  rcases hu with ⟨hr, t, ht, hx⟩ | ⟨hr, hno⟩
  · subst hr
    subst hx
    refine z_if_eqN X (tgt := 18) (pc' := 7) (by omega) dX3_clear_4 (by decide) rfl (fun h1 => ?_) (fun h1 => ?_)
    · exact absurd h1 (by decide)
    · clear h1
      refine z_aload_n X (pc' := 8) dX3_clear_7 rfl 0 rfl rfl ?_
      refine z_get X (v := .ref pr) (pc' := 11) 0 rfl rfl inX3 0 (by decide) mF_X3_12 rfl dX3_clear_8 rfl ?_
      refine z_iload_n X (pc' := 12) dX3_clear_11 rfl 1 rfl rfl ?_
      refine z_callVi X (pc' := 15) (fun sz => c_drop l D cI cJ sz pr cd ln (pTot P) t (P t).length f g ht (hR t ht).1 (pTot_ge ht) htot) (zcwV X TTg 1 mL_X3_47 mI_X1_drop mS_X1_drop mN_X1 mK_X1_drop rfl rfl (by decide +kernel) ⟨(Nat.le_of_ble_eq_true rfl), (Nat.le_of_ble_eq_true rfl)⟩) (wr := [(d0, .inr (3, [.ref pr, .ref a, .ref s1, .ref s2]))]) [1, 2, 3] [0] rfl rfl rfl rfl (by decide) 1 1 rfl rfl rfl rfl rfl (Nat.le_of_ble_eq_true rfl) dX3_clear_12 ⟨Nat.le_of_ble_eq_true rfl, Nat.le_of_ble_eq_true rfl⟩ rfl (fun r u hu => ?_)
      have hu : r = nI (P t).length := hu
      subst hu
      refine z_wse (ws' := [(d0, .inr (3, [.ref pr, .ref a, .ref s1, .ref s2])), (pr, .inr (1, [.ref cd, .ref ln, .int (nI (pTot P - (P t).length))])), (cd, .inl (cI, 24, .inl f)), (ln, .inl (cI, 4, .inl (upd g t (nI 0))))]) rfl ?_
      refine z_wse (ws' := [(d0, .inr (3, [.ref pr, .ref a, .ref s1, .ref s2])), (pr, .inr (1, [.ref cd, .ref ln, .int (nI (pTot (pDel P t)))])), (cd, .inl (cI, 24, .inl f)), (ln, .inl (cI, 4, .inl (upd g t (nI 0))))]) (by rw [show pTot (pDel P t) = pTot P - (P t).length by have := pTot_del (P := P) ht; omega]) ?_
      refine z_goto X (tgt := 19) dX3_clear_15 (by decide) ?_
      exact z_iret X (t1 := .int) rfl rfl (pDel P t, f, upd g t (nI 0)) (⟨Or.inl ⟨t, ht, rfl, rfl, rfl⟩, PRep_del hR, Pok_del hP, by show pTot (pDel P t) ≤ 12; have := pTot_del (P := P) ht; omega⟩) rfl (Nat.le_of_ble_eq_true rfl) (Nat.le_of_ble_eq_true rfl) dX3_clear_19
  · subst hr
    refine z_if_eqN X (tgt := 18) (pc' := 7) (by omega) dX3_clear_4 (by decide) rfl (fun h2 => ?_) (fun h2 => ?_)
    · clear h2
      refine z_iconst X (v := (-1)) (pc' := 19) dX3_clear_18 (by decide) rfl ?_
      exact z_iret X (t1 := .int) rfl rfl (P, f, g) (⟨Or.inr ⟨hno, rfl, rfl⟩, hR, hP, htot⟩) rfl (Nat.le_of_ble_eq_true rfl) (Nat.le_of_ble_eq_true rfl) dX3_clear_19
    · exact absurd h2 (by decide)


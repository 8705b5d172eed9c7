/-- the rows of where states came from are as they should be -/
def rOk (R : BG) : Prop := R.1.1.length ≤ 20000 ∧ (∀ i, i < R.1.1.length → R.1.2.1.getD i 0 < 400000 ∧ (0 < i → R.1.2.1.getD i 0 / 20 < i)) ∧ R.1.2.1.getD 0 0 / 20 = 0
theorem told_fRep {R : BG} {T : Nat → Nat} {c t : Nat} {fH fL : Nat → Int64} {fF fE : Nat → Int32} (h : toldI R T c t fH fL fF fE) (hr : rOk R) : fRep R.1.1.length (fun i => R.1.2.1.getD i 0) fF := fun i hi => ⟨h.2.2.2.2.2.1 i hi, (hr.2.1 i hi).1, (hr.2.1 i hi).2⟩
theorem i_sw (x : Int32) (n : Nat) (hn : n < 2 ^ 31) : (∃ j, j ≤ n ∧ x = nI j) ∨ (x.toInt < 0 ∨ (n : Int) < x.toInt) := by
  rcases i_cases x with h | ⟨k, hk, e⟩
  · refine Or.inr (Or.inl ?_)
    rw [Int32.lt_iff_toInt_lt] at h
    exact h
  · rcases Nat.lt_or_ge n k with q | q
    · refine Or.inr (Or.inr ?_)
      rw [e, nI_toInt hk]; omega
    · exact Or.inl ⟨k, q, e⟩
theorem i_sw4 (x : Int32) : x = nI 0 ∨ x = nI 1 ∨ x = nI 2 ∨ x = nI 3 ∨ x = nI 4 ∨ (x.toInt < 0 ∨ 4 < x.toInt) := by
  rcases i_sw x 4 (by decide) with ⟨j, hj, e⟩ | h
  · rcases (show j = 0 ∨ j = 1 ∨ j = 2 ∨ j = 3 ∨ j = 4 by omega) with rfl | rfl | rfl | rfl | rfl
    · exact Or.inl e
    · exact Or.inr (Or.inl e)
    · exact Or.inr (Or.inr (Or.inl e))
    · exact Or.inr (Or.inr (Or.inr (Or.inl e)))
    · exact Or.inr (Or.inr (Or.inr (Or.inr (Or.inl e))))
  · exact Or.inr (Or.inr (Or.inr (Or.inr (Or.inr h))))
/-- what count answers -/
def cntQ (R : BG) (tot : Nat) (x r : Int32) : Prop := (x = nI 0 ∧ r = nI tot) ∨ (x = nI 1 ∧ r = nI R.1.1.length) ∨ (x = nI 2 ∧ r = nI R.2.1.length) ∨ (x = nI 3 ∧ r = nI R.2.2) ∨ (x = nI 4 ∧ r = nI (if R.1.1.length = 0 then 0 else dep (fun i => R.1.2.1.getD i 0) 24 (R.1.1.length - 1))) ∨ ((¬ ∃ j, j ≤ 4 ∧ x = nI j) ∧ r = -1)
/-- how many of the first n outcomes have v as w -/
def mayN (hf : Nat → Nat) (w : Nat) (v : Int32) : Nat → Nat
  | 0 => 0
  | k + 1 => mayN hf w v k + (if nI (mi (hf k) w) = v then 1 else 0)
theorem mayN_le (hf : Nat → Nat) (w : Nat) (v : Int32) : ∀ n, mayN hf w v n ≤ n := by
  intro n
  induction n with
  | zero => exact Nat.le_refl _
  | succ n ih =>
    show mayN hf w v n + (if nI (mi (hf n) w) = v then 1 else 0) ≤ n + 1
    split <;> omega
def mayQ (n : Nat) (hf : Nat → Nat) (x v r : Int32) : Prop := (∃ w, w < 20 ∧ x = nI w ∧ r = nI (mayN hf w v n)) ∨ ((¬ ∃ w, w < 20 ∧ x = nI w) ∧ r = -1)
set_option maxHeartbeats 4000000 in
set_option maxRecDepth 100000 in
/-- count -/
theorem c_count (l : Launch) (D : va_G) (cI cJ : ClassId) (sz : Nat) (d0 pr a s1 s2 cd ln tot ah al af ae ta cap tl rm ns : Nat) (fH fL : Nat → Int64) (fF fE : Nat → Int32) (x : Int32) (R : BG) (T : Nat → Nat) (hT : toldI R T cap tl fH fL fF fE) (hr : rOk R) (hcap : cap ≤ 20480) : KI l D cI cJ yX3_count cX3_count 2 (some .int) 1 23 0 0 [.ref d0, .int x] [(d0, .inr (3, [.ref pr, .ref a, .ref s1, .ref s2])), (pr, .inr (1, [.ref cd, .ref ln, .int (nI tot)])), (s1, .inr (2, [.ref ah, .ref al, .ref af, .ref ae, .ref ta, .int (nI rm), .int (nI ns), .int (nI R.1.1.length), .int (nI R.2.1.length), .int (nI R.2.2)])), (af, .inl (cI, cap, .inl fF))] sz (S := Unit) (fun r _ => cntQ R tot x r) (fun _ => [(d0, .inr (3, [.ref pr, .ref a, .ref s1, .ref s2])), (pr, .inr (1, [.ref cd, .ref ln, .int (nI tot)])), (s1, .inr (2, [.ref ah, .ref al, .ref af, .ref ae, .ref ta, .int (nI rm), .int (nI ns), .int (nI R.1.1.length), .int (nI R.2.1.length), .int (nI R.2.2)])), (af, .inl (cI, cap, .inl fF))]) := by
  refine zMetI (lv := [(0, .ref d0), (1, .int x)]) NS0_ok (by decide) rfl (Nat.le_of_ble_eq_true rfl) rfl ?_
  intro p e s m args below meth c A X hin hA
  refine z_iload_n X (pc' := 1) dX3_count_0 rfl 1 rfl rfl ?_
  rcases i_sw4 x with hx | hx | hx | hx | hx | hout
  · subst hx
    refine z_tableIn X (tgt := 36) dX3_count_1 (by decide) (by decide) rfl (by decide) ?_
    refine z_aload_n X (pc' := 37) dX3_count_36 rfl 0 rfl rfl ?_
    refine z_get X (v := .ref pr) (pc' := 40) 0 rfl rfl inX3 0 (by decide) mF_X3_12 rfl dX3_count_37 rfl ?_
    refine z_get X (v := .int (nI tot)) (pc' := 43) 1 rfl rfl inX1 2 (by decide) mF_X3_74 rfl dX3_count_40 rfl ?_
    refine z_ws (ws' := [(d0, .inr (3, [.ref pr, .ref a, .ref s1, .ref s2])), (pr, .inr (1, [.ref cd, .ref ln, .int (nI tot)])), (s1, .inr (2, [.ref ah, .ref al, .ref af, .ref ae, .ref ta, .int (nI rm), .int (nI ns), .int (nI R.1.1.length), .int (nI R.2.1.length), .int (nI R.2.2)])), (af, .inl (cI, cap, .inl fF))]) [0, 1, 2, 3] (by decide) rfl ?_
    exact z_iret X (t1 := .int) rfl rfl () (Or.inl ⟨rfl, rfl⟩) rfl (Nat.le_of_ble_eq_true rfl) (Nat.le_of_ble_eq_true rfl) dX3_count_43
  · subst hx
    refine z_tableIn X (tgt := 44) dX3_count_1 (by decide) (by decide) rfl (by decide) ?_
    refine z_aload_n X (pc' := 45) dX3_count_44 rfl 0 rfl rfl ?_
    refine z_get X (v := .ref s1) (pc' := 48) 0 rfl rfl inX3 2 (by decide) mF_X3_28 rfl dX3_count_45 rfl ?_
    refine z_get X (v := .int (nI R.1.1.length)) (pc' := 51) 2 rfl rfl inX2 7 (by decide) mF_X3_77 rfl dX3_count_48 rfl ?_
    refine z_ws (ws' := [(d0, .inr (3, [.ref pr, .ref a, .ref s1, .ref s2])), (pr, .inr (1, [.ref cd, .ref ln, .int (nI tot)])), (s1, .inr (2, [.ref ah, .ref al, .ref af, .ref ae, .ref ta, .int (nI rm), .int (nI ns), .int (nI R.1.1.length), .int (nI R.2.1.length), .int (nI R.2.2)])), (af, .inl (cI, cap, .inl fF))]) [0, 1, 2, 3] (by decide) rfl ?_
    exact z_iret X (t1 := .int) rfl rfl () (Or.inr (Or.inl ⟨rfl, rfl⟩)) rfl (Nat.le_of_ble_eq_true rfl) (Nat.le_of_ble_eq_true rfl) dX3_count_51
  · subst hx
    refine z_tableIn X (tgt := 52) dX3_count_1 (by decide) (by decide) rfl (by decide) ?_
    refine z_aload_n X (pc' := 53) dX3_count_52 rfl 0 rfl rfl ?_
    refine z_get X (v := .ref s1) (pc' := 56) 0 rfl rfl inX3 2 (by decide) mF_X3_28 rfl dX3_count_53 rfl ?_
    refine z_get X (v := .int (nI R.2.1.length)) (pc' := 59) 2 rfl rfl inX2 8 (by decide) mF_X3_71 rfl dX3_count_56 rfl ?_
    refine z_ws (ws' := [(d0, .inr (3, [.ref pr, .ref a, .ref s1, .ref s2])), (pr, .inr (1, [.ref cd, .ref ln, .int (nI tot)])), (s1, .inr (2, [.ref ah, .ref al, .ref af, .ref ae, .ref ta, .int (nI rm), .int (nI ns), .int (nI R.1.1.length), .int (nI R.2.1.length), .int (nI R.2.2)])), (af, .inl (cI, cap, .inl fF))]) [0, 1, 2, 3] (by decide) rfl ?_
    exact z_iret X (t1 := .int) rfl rfl () (Or.inr (Or.inr (Or.inl ⟨rfl, rfl⟩))) rfl (Nat.le_of_ble_eq_true rfl) (Nat.le_of_ble_eq_true rfl) dX3_count_59
  · subst hx
    refine z_tableIn X (tgt := 60) dX3_count_1 (by decide) (by decide) rfl (by decide) ?_
    refine z_aload_n X (pc' := 61) dX3_count_60 rfl 0 rfl rfl ?_
    refine z_get X (v := .ref s1) (pc' := 64) 0 rfl rfl inX3 2 (by decide) mF_X3_28 rfl dX3_count_61 rfl ?_
    refine z_get X (v := .int (nI R.2.2)) (pc' := 67) 2 rfl rfl inX2 9 (by decide) mF_X3_80 rfl dX3_count_64 rfl ?_
    refine z_ws (ws' := [(d0, .inr (3, [.ref pr, .ref a, .ref s1, .ref s2])), (pr, .inr (1, [.ref cd, .ref ln, .int (nI tot)])), (s1, .inr (2, [.ref ah, .ref al, .ref af, .ref ae, .ref ta, .int (nI rm), .int (nI ns), .int (nI R.1.1.length), .int (nI R.2.1.length), .int (nI R.2.2)])), (af, .inl (cI, cap, .inl fF))]) [0, 1, 2, 3] (by decide) rfl ?_
    exact z_iret X (t1 := .int) rfl rfl () (Or.inr (Or.inr (Or.inr (Or.inl ⟨rfl, rfl⟩)))) rfl (Nat.le_of_ble_eq_true rfl) (Nat.le_of_ble_eq_true rfl) dX3_count_67
  · subst hx
    refine z_tableIn X (tgt := 68) dX3_count_1 (by decide) (by decide) rfl (by decide) ?_
    refine z_aload_n X (pc' := 69) dX3_count_68 rfl 0 rfl rfl ?_
    refine z_get X (v := .ref s1) (pc' := 72) 0 rfl rfl inX3 2 (by decide) mF_X3_28 rfl dX3_count_69 rfl ?_
    refine z_aload_n X (pc' := 73) dX3_count_72 rfl 0 rfl rfl ?_
    refine z_get X (v := .ref s1) (pc' := 76) 0 rfl rfl inX3 2 (by decide) mF_X3_28 rfl dX3_count_73 rfl ?_
    refine z_get X (v := .int (nI R.1.1.length)) (pc' := 79) 2 rfl rfl inX2 7 (by decide) mF_X3_77 rfl dX3_count_76 rfl ?_
    refine z_iconst X (v := nI 1) (pc' := 80) dX3_count_79 (by decide) rfl ?_
    refine z_isub X (pc' := 81) dX3_count_80 rfl ?_
    by_cases hz : R.1.1.length = 0
    · refine z_topi (y := (-1)) (by rw [hz]; exact i_01) ?_
      refine z_callVi X (pc' := 84) (fun sz => c_stepsTo0 l D cI cJ sz s1 ah al af ae ta cap rm ns R.1.1.length R.2.1.length R.2.2 fF (fun i => R.1.2.1.getD i 0) hT.1 (by omega) (told_fRep hT hr) hr.2.2) (zcwV X TTg 1 mL_X3_83 mI_X2_stepsTo mS_X2_stepsTo mN_X2 mK_X2_stepsTo rfl rfl (by decide +kernel) ⟨(Nat.le_of_ble_eq_true rfl), (Nat.le_of_ble_eq_true rfl)⟩) (wr := [(d0, .inr (3, [.ref pr, .ref a, .ref s1, .ref s2])), (pr, .inr (1, [.ref cd, .ref ln, .int (nI tot)]))]) [2, 3] [0, 1] rfl rfl rfl rfl (by decide) 2 2 rfl rfl rfl rfl rfl (Nat.le_of_ble_eq_true rfl) dX3_count_81 ⟨Nat.le_of_ble_eq_true rfl, Nat.le_of_ble_eq_true rfl⟩ rfl (fun r u hu => ?_)
      have hu : r = nI (0) := hu
      subst hu
      refine z_wse (ws' := [(d0, .inr (3, [.ref pr, .ref a, .ref s1, .ref s2])), (pr, .inr (1, [.ref cd, .ref ln, .int (nI tot)])), (s1, .inr (2, [.ref ah, .ref al, .ref af, .ref ae, .ref ta, .int (nI rm), .int (nI ns), .int (nI R.1.1.length), .int (nI R.2.1.length), .int (nI R.2.2)])), (af, .inl (cI, cap, .inl fF))]) rfl ?_
      refine z_ws (ws' := [(d0, .inr (3, [.ref pr, .ref a, .ref s1, .ref s2])), (pr, .inr (1, [.ref cd, .ref ln, .int (nI tot)])), (s1, .inr (2, [.ref ah, .ref al, .ref af, .ref ae, .ref ta, .int (nI rm), .int (nI ns), .int (nI R.1.1.length), .int (nI R.2.1.length), .int (nI R.2.2)])), (af, .inl (cI, cap, .inl fF))]) [0, 1, 2, 3] (by decide) rfl ?_
      exact z_iret X (t1 := .int) rfl rfl () (Or.inr (Or.inr (Or.inr (Or.inr (Or.inl ⟨rfl, by rw [if_pos hz]⟩))))) rfl (Nat.le_of_ble_eq_true rfl) (Nat.le_of_ble_eq_true rfl) dX3_count_84
    · refine z_topi (y := nI (R.1.1.length - 1)) (pk_sub (by omega)) ?_
      refine z_callVi X (pc' := 84) (fun sz => c_stepsTo l D cI cJ sz s1 ah al af ae ta cap rm ns R.1.1.length R.2.1.length R.2.2 fF (fun i => R.1.2.1.getD i 0) hT.1 (by omega) (told_fRep hT hr) hr.2.2 (R.1.1.length - 1) (by omega)) (zcwV X TTg 1 mL_X3_83 mI_X2_stepsTo mS_X2_stepsTo mN_X2 mK_X2_stepsTo rfl rfl (by decide +kernel) ⟨(Nat.le_of_ble_eq_true rfl), (Nat.le_of_ble_eq_true rfl)⟩) (wr := [(d0, .inr (3, [.ref pr, .ref a, .ref s1, .ref s2])), (pr, .inr (1, [.ref cd, .ref ln, .int (nI tot)]))]) [2, 3] [0, 1] rfl rfl rfl rfl (by decide) 2 2 rfl rfl rfl rfl rfl (Nat.le_of_ble_eq_true rfl) dX3_count_81 ⟨Nat.le_of_ble_eq_true rfl, Nat.le_of_ble_eq_true rfl⟩ rfl (fun r u hu => ?_)
      have hu : r = nI (dep (fun i => R.1.2.1.getD i 0) 24 (R.1.1.length - 1)) := hu
      subst hu
      refine z_wse (ws' := [(d0, .inr (3, [.ref pr, .ref a, .ref s1, .ref s2])), (pr, .inr (1, [.ref cd, .ref ln, .int (nI tot)])), (s1, .inr (2, [.ref ah, .ref al, .ref af, .ref ae, .ref ta, .int (nI rm), .int (nI ns), .int (nI R.1.1.length), .int (nI R.2.1.length), .int (nI R.2.2)])), (af, .inl (cI, cap, .inl fF))]) rfl ?_
      refine z_ws (ws' := [(d0, .inr (3, [.ref pr, .ref a, .ref s1, .ref s2])), (pr, .inr (1, [.ref cd, .ref ln, .int (nI tot)])), (s1, .inr (2, [.ref ah, .ref al, .ref af, .ref ae, .ref ta, .int (nI rm), .int (nI ns), .int (nI R.1.1.length), .int (nI R.2.1.length), .int (nI R.2.2)])), (af, .inl (cI, cap, .inl fF))]) [0, 1, 2, 3] (by decide) rfl ?_
      exact z_iret X (t1 := .int) rfl rfl () (Or.inr (Or.inr (Or.inr (Or.inr (Or.inl ⟨rfl, by rw [if_neg hz]⟩))))) rfl (Nat.le_of_ble_eq_true rfl) (Nat.le_of_ble_eq_true rfl) dX3_count_84
  · have hno : ¬ ∃ j, j ≤ 4 ∧ x = nI j := fun ⟨j, q1, q2⟩ => by rw [q2, nI_toInt (by omega)] at hout; omega
    refine z_tableOut X (tgt := 85) dX3_count_1 hout (by decide) ?_
    refine z_iconst X (v := (-1)) (pc' := 86) dX3_count_85 (by decide) rfl ?_
    refine z_ws (ws' := [(d0, .inr (3, [.ref pr, .ref a, .ref s1, .ref s2])), (pr, .inr (1, [.ref cd, .ref ln, .int (nI tot)])), (s1, .inr (2, [.ref ah, .ref al, .ref af, .ref ae, .ref ta, .int (nI rm), .int (nI ns), .int (nI R.1.1.length), .int (nI R.2.1.length), .int (nI R.2.2)])), (af, .inl (cI, cap, .inl fF))]) [0, 1, 2, 3] (by decide) rfl ?_
    exact z_iret X (t1 := .int) rfl rfl () (Or.inr (Or.inr (Or.inr (Or.inr (Or.inr ⟨hno, rfl⟩))))) rfl (Nat.le_of_ble_eq_true rfl) (Nat.le_of_ble_eq_true rfl) dX3_count_86
set_option maxHeartbeats 4000000 in
set_option maxRecDepth 100000 in
/-- may -/
theorem c_may (l : Launch) (D : va_G) (cI cJ : ClassId) (sz : Nat) (d0 pr a s1 s2 ah al af ae ta cap tl rm ns : Nat) (fH fL : Nat → Int64) (fF fE : Nat → Int32) (x v : Int32) (R : BG) (T : Nat → Nat) (hT : toldI R T cap tl fH fL fF fE) (hr : rOk R) (hcap : cap ≤ 20480) : KI l D cI cJ yX3_may cX3_may 5 (some .int) 1 22 0 0 [.ref d0, .int x, .int v] [(d0, .inr (3, [.ref pr, .ref a, .ref s1, .ref s2])), (s1, .inr (2, [.ref ah, .ref al, .ref af, .ref ae, .ref ta, .int (nI rm), .int (nI ns), .int (nI R.1.1.length), .int (nI R.2.1.length), .int (nI R.2.2)])), (ah, .inl (cJ, cap, .inr (.inl fH))), (ae, .inl (cI, cap, .inl fE))] sz (S := Unit) (fun r _ => mayQ R.2.1.length (fun k => (R.1.1.getD (T k) (0, 0)).1) x v r) (fun _ => [(d0, .inr (3, [.ref pr, .ref a, .ref s1, .ref s2])), (s1, .inr (2, [.ref ah, .ref al, .ref af, .ref ae, .ref ta, .int (nI rm), .int (nI ns), .int (nI R.1.1.length), .int (nI R.2.1.length), .int (nI R.2.2)])), (ah, .inl (cJ, cap, .inr (.inl fH))), (ae, .inl (cI, cap, .inl fE))]) := by
  refine zMetI (lv := [(0, .ref d0), (1, .int x), (2, .int v)]) NS0_ok (by decide) rfl (Nat.le_of_ble_eq_true rfl) rfl ?_
  intro p e s m args below meth c A X hin hA
  refine z_iload_n X (pc' := 1) dX3_may_0 rfl 1 rfl rfl ?_
  refine z_if_lt X (tgt := 10) (pc' := 4) dX3_may_1 (by decide) rfl (fun h1 => ?_) (fun h1 => ?_)
  · have hno : ¬ ∃ w, w < 20 ∧ x = nI w := fun ⟨w, q1, q2⟩ => nI_pos (n := w) (by omega) (q2 ▸ h1)
    refine z_iconst X (v := (-1)) (pc' := 11) dX3_may_10 (by decide) rfl ?_
    refine z_ws (ws' := [(d0, .inr (3, [.ref pr, .ref a, .ref s1, .ref s2])), (s1, .inr (2, [.ref ah, .ref al, .ref af, .ref ae, .ref ta, .int (nI rm), .int (nI ns), .int (nI R.1.1.length), .int (nI R.2.1.length), .int (nI R.2.2)])), (ah, .inl (cJ, cap, .inr (.inl fH))), (ae, .inl (cI, cap, .inl fE))]) [0, 1, 2, 3] (by decide) rfl ?_
    exact z_iret X (t1 := .int) rfl rfl () (Or.inr ⟨hno, rfl⟩) rfl (Nat.le_of_ble_eq_true rfl) (Nat.le_of_ble_eq_true rfl) dX3_may_11
  · obtain ⟨w, hw, hx⟩ := nI_of h1
    subst hx
    refine z_iload_n X (pc' := 5) dX3_may_4 rfl 1 rfl rfl ?_
    refine z_bipush X (v := nI 20) (pc' := 7) dX3_may_5 (by decide) rfl ?_
    refine z_icmp_ltN X (tgt := 12) (pc' := 10) hw (by decide) dX3_may_7 (by decide) rfl (fun h2 => ?_) (fun h2 => ?_)
    · have hw20 : w < 20 := h2
      refine z_iconst X (v := nI 0) (pc' := 13) dX3_may_12 (by decide) rfl ?_
      refine z_istore_n X (lv' := [(3, .int (nI 0)), (0, .ref d0), (1, .int (nI w)), (2, .int v)]) (pc' := 14) dX3_may_13 rfl (by decide) rfl rfl ?_
      refine z_iconst X (v := nI 0) (pc' := 15) dX3_may_14 (by decide) rfl ?_
      refine z_istore X (lv' := [(4, .int (nI 0)), (3, .int (nI 0)), (0, .ref d0), (1, .int (nI w)), (2, .int v)]) (pc' := 17) dX3_may_15 (by decide) rfl rfl ?_
      refine z_lv (lv' := [(4, .int (nI 0)), (3, .int (nI 0)), (0, .ref d0), (1, .int (nI w)), (2, .int v)]) [0, 1, 2, 3, 4] rfl ?_
      refine z_loop (σ := Nat) (fun k => k ≤ R.2.1.length) (fun k => R.2.1.length - k) (fun k => [(4, .int (nI k)), (3, .int (nI (mayN (fun k => (R.1.1.getD (T k) (0, 0)).1) w v k))), (0, .ref d0), (1, .int (nI w)), (2, .int v)]) (fun k => [(d0, .inr (3, [.ref pr, .ref a, .ref s1, .ref s2])), (s1, .inr (2, [.ref ah, .ref al, .ref af, .ref ae, .ref ta, .int (nI rm), .int (nI ns), .int (nI R.1.1.length), .int (nI R.2.1.length), .int (nI R.2.2)])), (ah, .inl (cJ, cap, .inr (.inl fH))), (ae, .inl (cI, cap, .inl fE))]) (fun k => 0) (fun k => 0) 0 (Nat.zero_le _) ?_
      intro k hI ih
      show Z _ _ _ _ _ _ _ _ _ _ _ _ _ _ _ 17 [(4, .int (nI k)), (3, .int (nI (mayN (fun k => (R.1.1.getD (T k) (0, 0)).1) w v k))), (0, .ref d0), (1, .int (nI w)), (2, .int v)] [] [(d0, .inr (3, [.ref pr, .ref a, .ref s1, .ref s2])), (s1, .inr (2, [.ref ah, .ref al, .ref af, .ref ae, .ref ta, .int (nI rm), .int (nI ns), .int (nI R.1.1.length), .int (nI R.2.1.length), .int (nI R.2.2)])), (ah, .inl (cJ, cap, .inr (.inl fH))), (ae, .inl (cI, cap, .inl fE))] 0 0
      refine z_iload X (pc' := 19) dX3_may_17 0 rfl rfl ?_
      refine z_aload_n X (pc' := 20) dX3_may_19 rfl 2 rfl rfl ?_
      refine z_get X (v := .ref s1) (pc' := 23) 0 rfl rfl inX3 2 (by decide) mF_X3_28 rfl dX3_may_20 rfl ?_
      refine z_get X (v := .int (nI R.2.1.length)) (pc' := 26) 1 rfl rfl inX2 8 (by decide) mF_X3_71 rfl dX3_may_23 rfl ?_
      refine z_icmp_geN X (tgt := 64) (pc' := 29) (by have := hr.1; have := hT.2.1; omega) (by have := hr.1; have := hT.2.1; omega) dX3_may_26 (by decide) rfl (fun h3 => ?_) (fun h3 => ?_)
      · have hke : k = R.2.1.length := by omega
        refine z_iload_n X (pc' := 65) dX3_may_64 rfl 1 rfl rfl ?_
        refine z_ws (ws' := [(d0, .inr (3, [.ref pr, .ref a, .ref s1, .ref s2])), (s1, .inr (2, [.ref ah, .ref al, .ref af, .ref ae, .ref ta, .int (nI rm), .int (nI ns), .int (nI R.1.1.length), .int (nI R.2.1.length), .int (nI R.2.2)])), (ah, .inl (cJ, cap, .inr (.inl fH))), (ae, .inl (cI, cap, .inl fE))]) [0, 1, 2, 3] (by decide) rfl ?_
        exact z_iret X (t1 := .int) rfl rfl () (Or.inl ⟨w, hw20, rfl, by rw [hke]⟩) rfl (Nat.le_of_ble_eq_true rfl) (Nat.le_of_ble_eq_true rfl) dX3_may_65
      · have hke : k < R.2.1.length := by omega
        have hTk := hT.2.2.2.2.2.2.1 k hke
        have hlc := hT.1
        have hec := hT.2.1
        have hTl : T k < R.1.1.length := sKeep_lt hT.2.2.2.2.2.2.2.1 (Nat.le_refl _) hT.2.2.2.2.2.2.2.2.2 k hke
        have hHk := (hT.2.2.2.1 (T k) hTl).1
        have hsk := (hT.2.2.2.2.1 _ (getD_mem hTl)).1
        refine z_aload_n X (pc' := 30) dX3_may_29 rfl 2 rfl rfl ?_
        refine z_get X (v := .ref s1) (pc' := 33) 0 rfl rfl inX3 2 (by decide) mF_X3_28 rfl dX3_may_30 rfl ?_
        refine z_get X (v := .ref ah) (pc' := 36) 1 rfl rfl inX2 0 (by decide) mF_X3_94 rfl dX3_may_33 rfl ?_
        refine z_aload_n X (pc' := 37) dX3_may_36 rfl 2 rfl rfl ?_
        refine z_get X (v := .ref s1) (pc' := 40) 0 rfl rfl inX3 2 (by decide) mF_X3_28 rfl dX3_may_37 rfl ?_
        refine z_get X (v := .ref ae) (pc' := 43) 1 rfl rfl inX2 3 (by decide) mF_X3_108 rfl dX3_may_40 rfl ?_
        refine z_iload X (pc' := 45) dX3_may_43 0 rfl rfl ?_
        refine z_iald X (pc' := 46) 3 0 rfl rfl (by omega) (by omega) dX3_may_45 rfl ?_
        refine z_topi (y := nI (T k)) hTk ?_
        refine z_lald X (pc' := 47) 2 1 rfl rfl (by omega) (by omega) dX3_may_46 rfl ?_
        refine z_topl (y := lN ((R.1.1.getD (T k) (0, 0)).1)) hHk ?_
        refine z_iload_n X (pc' := 48) dX3_may_47 rfl 3 rfl rfl ?_
        refine z_callSi X (pc' := 51) (fun sz => c_item l D cI cJ sz (R.1.1.getD (T k) (0, 0)).1 w (by omega) hw20) (zcwS X TTg 2 mL_X3_98 mT_X3_item mN_X3 mK_X3_item rfl rfl (by decide +kernel) ⟨(Nat.le_of_ble_eq_true rfl), (Nat.le_of_ble_eq_true rfl)⟩) (wr := [(d0, .inr (3, [.ref pr, .ref a, .ref s1, .ref s2])), (s1, .inr (2, [.ref ah, .ref al, .ref af, .ref ae, .ref ta, .int (nI rm), .int (nI ns), .int (nI R.1.1.length), .int (nI R.2.1.length), .int (nI R.2.2)])), (ah, .inl (cJ, cap, .inr (.inl fH))), (ae, .inl (cI, cap, .inl fE))]) [] [0, 1, 2, 3] rfl rfl rfl rfl (by decide) rfl rfl (Nat.le_of_ble_eq_true rfl) dX3_may_48 ⟨Nat.le_of_ble_eq_true rfl, Nat.le_of_ble_eq_true rfl⟩ rfl (fun r u hu => ?_)
        have hu : r = nI (mi (R.1.1.getD (T k) (0, 0)).1 w) := hu
        subst hu
        refine z_wse (ws' := [(d0, .inr (3, [.ref pr, .ref a, .ref s1, .ref s2])), (s1, .inr (2, [.ref ah, .ref al, .ref af, .ref ae, .ref ta, .int (nI rm), .int (nI ns), .int (nI R.1.1.length), .int (nI R.2.1.length), .int (nI R.2.2)])), (ah, .inl (cJ, cap, .inr (.inl fH))), (ae, .inl (cI, cap, .inl fE))]) rfl ?_
        refine z_iload_n X (pc' := 52) dX3_may_51 rfl 4 rfl rfl ?_
        refine z_icmp_ne X (tgt := 58) (pc' := 55) dX3_may_52 (by decide) rfl (fun h4 => ?_) (fun h4 => ?_)
        · have hmy : mayN (fun k => (R.1.1.getD (T k) (0, 0)).1) w v (k + 1) = mayN (fun k => (R.1.1.getD (T k) (0, 0)).1) w v k := by show _ + (if nI (mi (R.1.1.getD (T k) (0, 0)).1 w) = v then 1 else 0) = _; rw [if_neg h4]; exact Nat.add_zero _
          refine z_iinc X (v := nI (k + 1)) (lv' := [(4, .int (nI (k + 1))), (3, .int (nI (mayN (fun k => (R.1.1.getD (T k) (0, 0)).1) w v k))), (0, .ref d0), (1, .int (nI w)), (2, .int v)]) (k := 0) (pc' := 61) dX3_may_58 rfl (nI_1 _) (by decide) rfl rfl ?_
          refine z_goto X (tgt := 17) dX3_may_61 (by decide) ?_
          refine z_lve (lv' := [(4, .int (nI (k + 1))), (3, .int (nI (mayN (fun k => (R.1.1.getD (T k) (0, 0)).1) w v (k + 1)))), (0, .ref d0), (1, .int (nI w)), (2, .int v)]) (by rw [hmy]) ?_
          refine z_lv (lv' := [(4, .int (nI (k + 1))), (3, .int (nI (mayN (fun k => (R.1.1.getD (T k) (0, 0)).1) w v (k + 1)))), (0, .ref d0), (1, .int (nI w)), (2, .int v)]) [0, 1, 2, 3, 4] rfl ?_
          exact ih (k + 1) (show k + 1 ≤ R.2.1.length by omega) (by omega)
        · have hmy : mayN (fun k => (R.1.1.getD (T k) (0, 0)).1) w v (k + 1) = mayN (fun k => (R.1.1.getD (T k) (0, 0)).1) w v k + 1 := by show _ + (if nI (mi (R.1.1.getD (T k) (0, 0)).1 w) = v then 1 else 0) = _; rw [if_pos h4]
          refine z_iinc X (v := nI ((mayN (fun k => (R.1.1.getD (T k) (0, 0)).1) w v k) + 1)) (lv' := [(3, .int (nI ((mayN (fun k => (R.1.1.getD (T k) (0, 0)).1) w v k) + 1))), (4, .int (nI k)), (0, .ref d0), (1, .int (nI w)), (2, .int v)]) (k := 1) (pc' := 58) dX3_may_55 rfl (nI_1 _) (by decide) rfl rfl ?_
          refine z_iinc X (v := nI (k + 1)) (lv' := [(4, .int (nI (k + 1))), (3, .int (nI ((mayN (fun k => (R.1.1.getD (T k) (0, 0)).1) w v k) + 1))), (0, .ref d0), (1, .int (nI w)), (2, .int v)]) (k := 1) (pc' := 61) dX3_may_58 rfl (nI_1 _) (by decide) rfl rfl ?_
          refine z_goto X (tgt := 17) dX3_may_61 (by decide) ?_
          refine z_lve (lv' := [(4, .int (nI (k + 1))), (3, .int (nI (mayN (fun k => (R.1.1.getD (T k) (0, 0)).1) w v (k + 1)))), (0, .ref d0), (1, .int (nI w)), (2, .int v)]) (by rw [hmy]) ?_
          refine z_lv (lv' := [(4, .int (nI (k + 1))), (3, .int (nI (mayN (fun k => (R.1.1.getD (T k) (0, 0)).1) w v (k + 1)))), (0, .ref d0), (1, .int (nI w)), (2, .int v)]) [0, 1, 2, 3, 4] rfl ?_
          exact ih (k + 1) (show k + 1 ≤ R.2.1.length by omega) (by omega)
    · have hno : ¬ ∃ w2, w2 < 20 ∧ nI w = nI w2 := fun ⟨w2, q1, q2⟩ => by have := (nI_eq hw (show w2 < 2 ^ 31 by omega)).mp q2; omega
      refine z_iconst X (v := (-1)) (pc' := 11) dX3_may_10 (by decide) rfl ?_
      refine z_ws (ws' := [(d0, .inr (3, [.ref pr, .ref a, .ref s1, .ref s2])), (s1, .inr (2, [.ref ah, .ref al, .ref af, .ref ae, .ref ta, .int (nI rm), .int (nI ns), .int (nI R.1.1.length), .int (nI R.2.1.length), .int (nI R.2.2)])), (ah, .inl (cJ, cap, .inr (.inl fH))), (ae, .inl (cI, cap, .inl fE))]) [0, 1, 2, 3] (by decide) rfl ?_
      exact z_iret X (t1 := .int) rfl rfl () (Or.inr ⟨hno, rfl⟩) rfl (Nat.le_of_ble_eq_true rfl) (Nat.le_of_ble_eq_true rfl) dX3_may_11


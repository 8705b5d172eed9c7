theorem sKeep_tr {n b : Nat} {E E1 E0 : Nat → Nat} (h1 : sKeep n b E E1) (h2 : sKeep n b E1 E0) : sKeep n b E E0 :=
  ⟨hs_same_tr h1.1 h2.1, fun k hk => (h1.2.1 k hk).trans (h2.2.1 k hk), fun h => h1.2.2 (h2.2.2 h)⟩
theorem sKeep_up {n m : Nat} {E E1 : Nat → Nat} (h : sKeep n m E E1) (hm : m ≤ n) : sKeep n n E E1 := by
  refine ⟨?_, fun k hk => h.2.1 k (by omega), h.2.2⟩
  rcases hs_same_up (n := n) h.1 h.2.1 with q | q
  · exact q
  · omega
theorem hp_cut {K E : Nat → Nat} {m : Nat} (h : hp_ok K E (m + 1) 0) : hp_ok K (sw E 0 m) m (0 + 1) := by
  intro i c h1 h2 h3
  have e1 : sw E 0 m i = E i := by unfold sw; rw [if_neg (by unfold hp_ch at h2; omega), if_neg (by omega)]
  have e2 : sw E 0 m c = E c := by unfold sw; rw [if_neg (by omega), if_neg (by unfold hp_ch at h2; omega)]
  rw [e1, e2]
  exact h i c (by omega) h2 (by omega)
theorem hp_half {K E : Nat → Nat} {n : Nat} : hp_ok K E n (n / 2) := fun i c h1 h2 h3 => by unfold hp_ch at h2; omega
theorem i_m1 {a : Int32} : a + Int32.ofInt (-1) = a - nI 1 := by rw [Int32.sub_eq_add_neg]; rfl
theorem i_01 : nI 0 - nI 1 = -1 := by decide
set_option maxHeartbeats 4000000 in
set_option maxRecDepth 100000 in
/-- the outcomes in their order -/
theorem c_sortEnds (l : Launch) (D : va_G) (cI cJ : ClassId) (sz : Nat) (sp ah al af ae ta cap room ns size n br : Nat) (fH : Nat → Int64) (fE : Nat → Int32) (K E0 : Nat → Nat) (hc : cap ≤ 20480) (hn : n ≤ cap) (hsz : size ≤ cap) (hE : eRep n E0 fE) (hlt : ∀ k, k < n → E0 k < size) (hK : ∀ k, k < size → fH k = lN (K k) ∧ K k < 2 ^ 63) : KV l D cI cJ yX2_sortEnds cX2_sortEnds 2 none 2 47 0 0 [.ref sp] [(sp, .inr (2, [.ref ah, .ref al, .ref af, .ref ae, .ref ta, .int (nI room), .int (nI ns), .int (nI size), .int (nI n), .int (nI br)])), (ah, .inl (cJ, cap, .inr (.inl fH))), (ae, .inl (cI, cap, .inl fE))] sz (S := Nat → Int32) (fun u => ∃ E, eRep n E u ∧ sKeep n n E E0 ∧ ∀ i j, i < j → j < n → K (E i) ≤ K (E j)) (fun u => [(sp, .inr (2, [.ref ah, .ref al, .ref af, .ref ae, .ref ta, .int (nI room), .int (nI ns), .int (nI size), .int (nI n), .int (nI br)])), (ah, .inl (cJ, cap, .inr (.inl fH))), (ae, .inl (cI, cap, .inl u))]) := by
  refine zMetV (lv := [(0, .ref sp)]) NS0_ok (by decide) rfl (Nat.le_of_ble_eq_true rfl) rfl ?_
  intro p e s m args below meth c A X hin hA
  refine z_aload_n X (pc' := 1) dX2_sortEnds_0 rfl 0 rfl rfl ?_
  refine z_get X (v := .int (nI n)) (pc' := 4) 0 rfl rfl inX2 8 (by decide) mF_X2_38 rfl dX2_sortEnds_1 rfl ?_
  refine z_iconst X (v := nI 2) (pc' := 5) dX2_sortEnds_4 (by decide) rfl ?_
  refine z_idiv X (pc' := 6) dX2_sortEnds_5 (by decide) rfl ?_
  refine z_topi (y := nI (n / 2)) (pk_div (by omega) (by decide) (by decide)) ?_
  refine z_iconst X (v := nI 1) (pc' := 7) dX2_sortEnds_6 (by decide) rfl ?_
  refine z_isub X (pc' := 8) dX2_sortEnds_7 rfl ?_
  refine z_istore_n X (lv' := [(1, .int ((nI (n / 2)) - (nI 1))), (0, .ref sp)]) (pc' := 9) dX2_sortEnds_8 rfl (by decide) rfl rfl ?_
  refine z_lv (lv' := [(1, .int ((nI (n / 2)) - (nI 1))), (0, .ref sp)]) [0, 1] rfl ?_
  refine z_loop (σ := Nat × (Nat → Nat) × (Nat → Int32)) (fun x => x.1 ≤ n / 2 ∧ eRep n x.2.1 x.2.2 ∧ sKeep n n x.2.1 E0 ∧ hp_ok K x.2.1 n x.1) (fun x => x.1) (fun x => [(1, .int (nI x.1 - nI 1)), (0, .ref sp)]) (fun x => [(sp, .inr (2, [.ref ah, .ref al, .ref af, .ref ae, .ref ta, .int (nI room), .int (nI ns), .int (nI size), .int (nI n), .int (nI br)])), (ah, .inl (cJ, cap, .inr (.inl fH))), (ae, .inl (cI, cap, .inl x.2.2))]) (fun x => 0) (fun x => 0) ((n / 2, E0, fE)) ⟨Nat.le_refl _, hE, sKeep_rf, hp_half⟩ ?_
  intro x hI ih
  obtain ⟨i1, i2, i3, i4⟩ := hI
  have hlt2 := sKeep_lt i3 (Nat.le_refl _) hlt
  show Z _ _ _ _ _ _ _ _ _ _ _ _ _ _ _ 9 [(1, .int (nI x.1 - nI 1)), (0, .ref sp)] [] [(sp, .inr (2, [.ref ah, .ref al, .ref af, .ref ae, .ref ta, .int (nI room), .int (nI ns), .int (nI size), .int (nI n), .int (nI br)])), (ah, .inl (cJ, cap, .inr (.inl fH))), (ae, .inl (cI, cap, .inl x.2.2))] 0 0
  by_cases hzx : x.1 = 0
  · refine z_lve (lv' := [(1, .int ((-1))), (0, .ref sp)]) (by rw [hzx, i_01]) ?_
    refine z_iload_n X (pc' := 10) dX2_sortEnds_9 rfl 0 rfl rfl ?_
    refine z_if_lt X (tgt := 28) (pc' := 13) dX2_sortEnds_10 (by decide) rfl (fun h1 => ?_) (fun h1 => ?_)
    · rw [hzx] at i4
      refine z_aload_n X (pc' := 29) dX2_sortEnds_28 rfl 1 rfl rfl ?_
      refine z_get X (v := .int (nI n)) (pc' := 32) 0 rfl rfl inX2 8 (by decide) mF_X2_38 rfl dX2_sortEnds_29 rfl ?_
      refine z_iconst X (v := nI 1) (pc' := 33) dX2_sortEnds_32 (by decide) rfl ?_
      refine z_isub X (pc' := 34) dX2_sortEnds_33 rfl ?_
      refine z_istore_n X (lv' := [(1, .int ((nI n) - (nI 1))), (0, .ref sp)]) (pc' := 35) dX2_sortEnds_34 rfl (by decide) rfl rfl ?_
      refine z_lv (lv' := [(1, .int ((nI n) - (nI 1))), (0, .ref sp)]) [0, 1] rfl ?_
      refine z_loop (σ := Nat × (Nat → Nat) × (Nat → Int32)) (fun y => y.1 ≤ n ∧ eRep n y.2.1 y.2.2 ∧ sKeep n n y.2.1 E0 ∧ hp_ok K y.2.1 y.1 0 ∧ hp_tail K y.2.1 y.1 n) (fun y => y.1) (fun y => [(1, .int (nI y.1 - nI 1)), (0, .ref sp)]) (fun y => [(sp, .inr (2, [.ref ah, .ref al, .ref af, .ref ae, .ref ta, .int (nI room), .int (nI ns), .int (nI size), .int (nI n), .int (nI br)])), (ah, .inl (cJ, cap, .inr (.inl fH))), (ae, .inl (cI, cap, .inl y.2.2))]) (fun y => 0) (fun y => 0) ((n, x.2.1, x.2.2)) ⟨Nat.le_refl _, i2, i3, i4, hp_tail_0⟩ ?_
      intro y hI ih2
      obtain ⟨k1, k2, k3, k4, k5⟩ := hI
      have hlt3 := sKeep_lt k3 (Nat.le_refl _) hlt
      show Z _ _ _ _ _ _ _ _ _ _ _ _ _ _ _ 35 [(1, .int (nI y.1 - nI 1)), (0, .ref sp)] [] [(sp, .inr (2, [.ref ah, .ref al, .ref af, .ref ae, .ref ta, .int (nI room), .int (nI ns), .int (nI size), .int (nI n), .int (nI br)])), (ah, .inl (cJ, cap, .inr (.inl fH))), (ae, .inl (cI, cap, .inl y.2.2))] 0 0
      by_cases hzy : y.1 = 0
      · refine z_lve (lv' := [(1, .int ((-1))), (0, .ref sp)]) (by rw [hzy, i_01]) ?_
        refine z_iload_n X (pc' := 36) dX2_sortEnds_35 rfl 0 rfl rfl ?_
        refine z_if_le X (tgt := 57) (pc' := 39) dX2_sortEnds_36 (by decide) rfl (fun h2 => ?_) (fun h2 => ?_)
        · refine z_ws (ws' := [(sp, .inr (2, [.ref ah, .ref al, .ref af, .ref ae, .ref ta, .int (nI room), .int (nI ns), .int (nI size), .int (nI n), .int (nI br)])), (ah, .inl (cJ, cap, .inr (.inl fH))), (ae, .inl (cI, cap, .inl y.2.2))]) [0, 1, 2] (by decide) rfl ?_
          exact z_vret X y.2.2 (⟨y.2.1, k2, k3, hp_sorted k5 (by omega)⟩) rfl (Nat.le_of_ble_eq_true rfl) (Nat.le_of_ble_eq_true rfl) dX2_sortEnds_57
        · exact absurd (by decide) h2
      · refine z_lve (lv' := [(1, .int (nI (y.1 - 1))), (0, .ref sp)]) (by rw [pk_sub (by omega)]) ?_
        refine z_iload_n X (pc' := 36) dX2_sortEnds_35 rfl 0 rfl rfl ?_
        refine z_if_leN X (tgt := 57) (pc' := 39) (by omega) dX2_sortEnds_36 (by decide) rfl (fun h3 => ?_) (fun h3 => ?_)
        · have hy1 : y.1 - 1 ≤ 0 := h3
          refine z_ws (ws' := [(sp, .inr (2, [.ref ah, .ref al, .ref af, .ref ae, .ref ta, .int (nI room), .int (nI ns), .int (nI size), .int (nI n), .int (nI br)])), (ah, .inl (cJ, cap, .inr (.inl fH))), (ae, .inl (cI, cap, .inl y.2.2))]) [0, 1, 2] (by decide) rfl ?_
          exact z_vret X y.2.2 (⟨y.2.1, k2, k3, hp_sorted k5 (by omega)⟩) rfl (Nat.le_of_ble_eq_true rfl) (Nat.le_of_ble_eq_true rfl) dX2_sortEnds_57
        · have hy1 : ¬ y.1 - 1 ≤ 0 := h3
          refine z_aload_n X (pc' := 40) dX2_sortEnds_39 rfl 1 rfl rfl ?_
          refine z_iconst X (v := nI 0) (pc' := 41) dX2_sortEnds_40 (by decide) rfl ?_
          refine z_iload_n X (pc' := 42) dX2_sortEnds_41 rfl 0 rfl rfl ?_
          refine z_callVv X (pc' := 45) (fun sz => c_swapEnds l D cI cJ sz sp ah al af ae ta cap room ns size n br 0 (y.1 - 1) y.2.2 (by omega) (by omega) (by omega)) (zcwV X TTg 2 mL_X2_89 mI_X2_swapEnds mS_X2_swapEnds mN_X2 mK_X2_swapEnds rfl rfl (by decide +kernel) ⟨(Nat.le_of_ble_eq_true rfl), (Nat.le_of_ble_eq_true rfl)⟩) (wr := [(ah, .inl (cJ, cap, .inr (.inl fH)))]) [0, 2] [1] rfl rfl rfl rfl (by decide) 2 0 rfl rfl rfl rfl rfl (Nat.le_of_ble_eq_true rfl) dX2_sortEnds_42 ⟨Nat.le_of_ble_eq_true rfl, Nat.le_of_ble_eq_true rfl⟩ rfl (fun u hu => ?_)
          have hsw := eRep_sw k2 (show 0 < n by omega) (show y.1 - 1 < n by omega)
          refine z_wse (ws' := [(ah, .inl (cJ, cap, .inr (.inl fH))), (sp, .inr (2, [.ref ah, .ref al, .ref af, .ref ae, .ref ta, .int (nI room), .int (nI ns), .int (nI size), .int (nI n), .int (nI br)])), (ae, .inl (cI, cap, .inl (upd (upd y.2.2 0 (y.2.2 (y.1 - 1))) (y.1 - 1) (y.2.2 0))))]) rfl ?_
          refine z_aload_n X (pc' := 46) dX2_sortEnds_45 rfl 1 rfl rfl ?_
          refine z_iconst X (v := nI 0) (pc' := 47) dX2_sortEnds_46 (by decide) rfl ?_
          refine z_iload_n X (pc' := 48) dX2_sortEnds_47 rfl 0 rfl rfl ?_
          refine z_callVv X (pc' := 51) (fun sz => c_sink l D cI cJ sz sp ah al af ae ta cap room ns size n br (0) (y.1 - 1) n fH (upd (upd y.2.2 0 (y.2.2 (y.1 - 1))) (y.1 - 1) (y.2.2 0)) K (sw y.2.1 0 (y.1 - 1)) hc hn (by omega) hsz hsw (sKeep_lt (sKeep_sw k3 (by omega) (by omega) (Nat.le_refl _)) (Nat.le_refl _) hlt) hK (hp_cut (by rw [Nat.sub_add_cancel (by omega)]; exact k4)) (by omega)) (zcwV X TTg 2 mL_X2_86 mI_X2_sink mS_X2_sink mN_X2 mK_X2_sink rfl rfl (by decide +kernel) ⟨(Nat.le_of_ble_eq_true rfl), (Nat.le_of_ble_eq_true rfl)⟩) (wr := []) [1, 0, 2] [] rfl rfl rfl rfl (by decide) 2 1 rfl rfl rfl rfl rfl (Nat.le_of_ble_eq_true rfl) dX2_sortEnds_48 ⟨Nat.le_of_ble_eq_true rfl, Nat.le_of_ble_eq_true rfl⟩ rfl (fun u hu => ?_)
          obtain ⟨E1, j1, j2, j3⟩ : ∃ E1, eRep n E1 u ∧ sKeep n (y.1 - 1) E1 (sw y.2.1 0 (y.1 - 1)) ∧ hp_ok K E1 (y.1 - 1) (0) := hu
          refine z_wse (ws' := [(sp, .inr (2, [.ref ah, .ref al, .ref af, .ref ae, .ref ta, .int (nI room), .int (nI ns), .int (nI size), .int (nI n), .int (nI br)])), (ah, .inl (cJ, cap, .inr (.inl fH))), (ae, .inl (cI, cap, .inl u))]) rfl ?_
          refine z_iinc X (v := nI (y.1 - 1) - nI 1) (lv' := [(1, .int (nI (y.1 - 1) - nI 1)), (0, .ref sp)]) (k := 0) (pc' := 54) dX2_sortEnds_51 rfl i_m1 (by decide) rfl rfl ?_
          refine z_goto X (tgt := 35) dX2_sortEnds_54 (by decide) ?_
          refine z_lv (lv' := [(1, .int (nI (y.1 - 1) - nI 1)), (0, .ref sp)]) [0, 1] rfl ?_
          exact ih2 ((y.1 - 1, E1, u)) ⟨by show y.1 - 1 ≤ n; omega, j1, sKeep_tr (sKeep_up j2 (by omega)) (sKeep_sw k3 (by omega) (by omega) (Nat.le_refl _)), j3, hp_tail_1 (by omega) (by rw [Nat.sub_add_cancel (by omega)]; exact k5) (by rw [Nat.sub_add_cancel (by omega)]; exact k4) j2.1 j2.2.1⟩ (by show y.1 - 1 < y.1; omega)
    · exact absurd (by decide) h1
  · refine z_lve (lv' := [(1, .int (nI (x.1 - 1))), (0, .ref sp)]) (by rw [pk_sub (by omega)]) ?_
    refine z_iload_n X (pc' := 10) dX2_sortEnds_9 rfl 0 rfl rfl ?_
    refine z_if_ltN X (tgt := 28) (pc' := 13) (by omega) dX2_sortEnds_10 (by decide) rfl ?_
    refine z_aload_n X (pc' := 14) dX2_sortEnds_13 rfl 1 rfl rfl ?_
    refine z_iload_n X (pc' := 15) dX2_sortEnds_14 rfl 0 rfl rfl ?_
    refine z_aload_n X (pc' := 16) dX2_sortEnds_15 rfl 1 rfl rfl ?_
    refine z_get X (v := .int (nI n)) (pc' := 19) 0 rfl rfl inX2 8 (by decide) mF_X2_38 rfl dX2_sortEnds_16 rfl ?_
    refine z_callVv X (pc' := 22) (fun sz => c_sink l D cI cJ sz sp ah al af ae ta cap room ns size n br (x.1 - 1) (n) n fH (x.2.2) K (x.2.1) hc hn (by omega) hsz i2 hlt2 hK (by rw [Nat.sub_add_cancel (by omega)]; exact i4) (by omega)) (zcwV X TTg 2 mL_X2_86 mI_X2_sink mS_X2_sink mN_X2 mK_X2_sink rfl rfl (by decide +kernel) ⟨(Nat.le_of_ble_eq_true rfl), (Nat.le_of_ble_eq_true rfl)⟩) (wr := []) [0, 1, 2] [] rfl rfl rfl rfl (by decide) 2 0 rfl rfl rfl rfl rfl (Nat.le_of_ble_eq_true rfl) dX2_sortEnds_19 ⟨Nat.le_of_ble_eq_true rfl, Nat.le_of_ble_eq_true rfl⟩ rfl (fun u hu => ?_)
    obtain ⟨E1, j1, j2, j3⟩ : ∃ E1, eRep n E1 u ∧ sKeep n (n) E1 (x.2.1) ∧ hp_ok K E1 (n) (x.1 - 1) := hu
    refine z_wse (ws' := [(sp, .inr (2, [.ref ah, .ref al, .ref af, .ref ae, .ref ta, .int (nI room), .int (nI ns), .int (nI size), .int (nI n), .int (nI br)])), (ah, .inl (cJ, cap, .inr (.inl fH))), (ae, .inl (cI, cap, .inl u))]) rfl ?_
    refine z_iinc X (v := nI (x.1 - 1) - nI 1) (lv' := [(1, .int (nI (x.1 - 1) - nI 1)), (0, .ref sp)]) (k := 0) (pc' := 25) dX2_sortEnds_22 rfl i_m1 (by decide) rfl rfl ?_
    refine z_goto X (tgt := 9) dX2_sortEnds_25 (by decide) ?_
    refine z_lv (lv' := [(1, .int (nI (x.1 - 1) - nI 1)), (0, .ref sp)]) [0, 1] rfl ?_
    exact ih ((x.1 - 1, E1, u)) ⟨by show x.1 - 1 ≤ n / 2; omega, j1, sKeep_tr j2 i3, j3⟩ (by show x.1 - 1 < x.1; omega)
/-- a state's way: how many moves, by the rows of where each came from -/
def dep (F : Nat → Nat) : Nat → Nat → Nat
  | 0, _ => 0
  | k + 1, i => if i = 0 then 0 else dep F k (F i / 20) + 1
/-- the state so many moves before -/
def anc (F : Nat → Nat) : Nat → Nat → Nat
  | 0, i => i
  | k + 1, i => anc F k (F i / 20)
theorem anc_s (F : Nat → Nat) : ∀ k i, anc F (k + 1) i = F (anc F k i) / 20 := by
  intro k
  induction k with
  | zero => intro i; rfl
  | succ k ih => intro i; exact ih (F i / 20)
def fRep (size : Nat) (F : Nat → Nat) (fF : Nat → Int32) : Prop := ∀ i, i < size → fF i = nI (F i) ∧ F i < 400000 ∧ (0 < i → F i / 20 < i)
theorem fRep_lt {size i : Nat} {F : Nat → Nat} {fF : Nat → Int32} (h : fRep size F fF) (hi : i < size) (h0 : F 0 / 20 = 0) : F i / 20 < size := by
  rcases Nat.eq_zero_or_pos i with q | q
  · subst q; omega
  · have := (h i hi).2.2 q; omega
theorem anc_lt {size : Nat} {F : Nat → Nat} {fF : Nat → Int32} (h : fRep size F fF) (h0 : F 0 / 20 = 0) : ∀ k i, i < size → anc F k i < size := by
  intro k
  induction k with
  | zero => intro i hi; exact hi
  | succ k ih => intro i hi; exact ih _ (fRep_lt h hi h0)
set_option maxHeartbeats 4000000 in
set_option maxRecDepth 100000 in
/-- the state of an outcome -/
theorem c_endAt (l : Launch) (D : va_G) (cI cJ : ClassId) (sz : Nat) (sp ah al af ae ta cap room ns size ended br : Nat) (fE : Nat → Int32) (x : Int32) (hc : ended ≤ cap) (hc2 : cap < 2 ^ 31) : KI l D cI cJ yX2_endAt cX2_endAt 2 (some .int) 0 0 0 0 [.ref sp, .int x] [(sp, .inr (2, [.ref ah, .ref al, .ref af, .ref ae, .ref ta, .int (nI room), .int (nI ns), .int (nI size), .int (nI ended), .int (nI br)])), (ae, .inl (cI, cap, .inl fE))] sz (S := Unit) (fun r _ => (∃ k, k < ended ∧ x = nI k ∧ r = fE k) ∨ (¬ (∃ k, k < ended ∧ x = nI k) ∧ r = -1)) (fun _ => [(sp, .inr (2, [.ref ah, .ref al, .ref af, .ref ae, .ref ta, .int (nI room), .int (nI ns), .int (nI size), .int (nI ended), .int (nI br)])), (ae, .inl (cI, cap, .inl fE))]) := by
  refine zMetI (lv := [(0, .ref sp), (1, .int x)]) NS0_ok (by decide) rfl (Nat.le_of_ble_eq_true rfl) rfl ?_
  intro p e s m args below meth c A X hin hA
  refine z_iload_n X (pc' := 1) dX2_endAt_0 rfl 1 rfl rfl ?_
  refine z_if_lt X (tgt := 21) (pc' := 4) dX2_endAt_1 (by decide) rfl (fun h1 => ?_) (fun h1 => ?_)
  · have hno : ¬ ∃ k, k < ended ∧ x = nI k := fun ⟨k, q1, q2⟩ => nI_pos (n := k) (by omega) (q2 ▸ h1)
    refine z_iconst X (v := (-1)) (pc' := 22) dX2_endAt_21 (by decide) rfl ?_
    exact z_iret X (t1 := .int) rfl rfl () (Or.inr ⟨hno, rfl⟩) rfl (Nat.le_of_ble_eq_true rfl) (Nat.le_of_ble_eq_true rfl) dX2_endAt_22
  · obtain ⟨k, hk, hx⟩ := nI_of h1
    subst hx
    refine z_iload_n X (pc' := 5) dX2_endAt_4 rfl 1 rfl rfl ?_
    refine z_aload_n X (pc' := 6) dX2_endAt_5 rfl 0 rfl rfl ?_
    refine z_get X (v := .int (nI ended)) (pc' := 9) 0 rfl rfl inX2 8 (by decide) mF_X2_38 rfl dX2_endAt_6 rfl ?_
    refine z_icmp_geN X (tgt := 21) (pc' := 12) hk (by omega) dX2_endAt_9 (by decide) rfl (fun h2 => ?_) (fun h2 => ?_)
    · have hno : ¬ ∃ k2, k2 < ended ∧ nI k = nI k2 := fun ⟨k2, q1, q2⟩ => by have := (nI_eq hk (show k2 < 2 ^ 31 by omega)).mp q2; omega
      refine z_iconst X (v := (-1)) (pc' := 22) dX2_endAt_21 (by decide) rfl ?_
      exact z_iret X (t1 := .int) rfl rfl () (Or.inr ⟨hno, rfl⟩) rfl (Nat.le_of_ble_eq_true rfl) (Nat.le_of_ble_eq_true rfl) dX2_endAt_22
    · have hke : k < ended := by omega
      refine z_aload_n X (pc' := 13) dX2_endAt_12 rfl 0 rfl rfl ?_
      refine z_get X (v := .ref ae) (pc' := 16) 0 rfl rfl inX2 3 (by decide) mF_X2_22 rfl dX2_endAt_13 rfl ?_
      refine z_iload_n X (pc' := 17) dX2_endAt_16 rfl 1 rfl rfl ?_
      refine z_iald X (pc' := 18) 1 0 rfl rfl (by omega) (by omega) dX2_endAt_17 rfl ?_
      refine z_goto X (tgt := 22) dX2_endAt_18 (by decide) ?_
      exact z_iret X (t1 := .int) rfl rfl () (Or.inl ⟨k, hke, rfl, rfl⟩) rfl (Nat.le_of_ble_eq_true rfl) (Nat.le_of_ble_eq_true rfl) dX2_endAt_22
set_option maxHeartbeats 4000000 in
set_option maxRecDepth 100000 in
/-- how long a way is -/
theorem c_stepsTo (l : Launch) (D : va_G) (cI cJ : ClassId) (sz : Nat) (sp ah al af ae ta cap room ns size ended br : Nat) (fF : Nat → Int32) (F : Nat → Nat) (hc : size ≤ cap) (hc2 : cap < 2 ^ 31) (hF : fRep size F fF) (h0 : F 0 / 20 = 0) (i : Nat) (hi : i < size) : KI l D cI cJ yX2_stepsTo cX2_stepsTo 4 (some .int) 0 0 0 0 [.ref sp, .int (nI i)] [(sp, .inr (2, [.ref ah, .ref al, .ref af, .ref ae, .ref ta, .int (nI room), .int (nI ns), .int (nI size), .int (nI ended), .int (nI br)])), (af, .inl (cI, cap, .inl fF))] sz (S := Unit) (fun r _ => r = nI (dep F 24 i)) (fun _ => [(sp, .inr (2, [.ref ah, .ref al, .ref af, .ref ae, .ref ta, .int (nI room), .int (nI ns), .int (nI size), .int (nI ended), .int (nI br)])), (af, .inl (cI, cap, .inl fF))]) := by
  refine zMetI (lv := [(0, .ref sp), (1, .int (nI i))]) NS0_ok (by decide) rfl (Nat.le_of_ble_eq_true rfl) rfl ?_
  intro p e s m args below meth c A X hin hA
  refine z_iconst X (v := nI 0) (pc' := 1) dX2_stepsTo_0 (by decide) rfl ?_
  refine z_istore_n X (lv' := [(2, .int (nI 0)), (0, .ref sp), (1, .int (nI i))]) (pc' := 2) dX2_stepsTo_1 rfl (by decide) rfl rfl ?_
  refine z_iload_n X (pc' := 3) dX2_stepsTo_2 rfl 2 rfl rfl ?_
  refine z_istore_n X (lv' := [(3, .int (nI i)), (2, .int (nI 0)), (0, .ref sp), (1, .int (nI i))]) (pc' := 4) dX2_stepsTo_3 rfl (by decide) rfl rfl ?_
  refine z_lv (lv' := [(3, .int (nI i)), (2, .int (nI 0)), (0, .ref sp)]) [0, 1, 2] rfl ?_
  refine z_loop (σ := Nat × Nat) (fun x => x.1 ≤ 24 ∧ x.2 < size ∧ x.1 + dep F (24 - x.1) x.2 = dep F 24 i) (fun x => 24 - x.1) (fun x => [(3, .int (nI x.2)), (2, .int (nI x.1)), (0, .ref sp)]) (fun x => [(sp, .inr (2, [.ref ah, .ref al, .ref af, .ref ae, .ref ta, .int (nI room), .int (nI ns), .int (nI size), .int (nI ended), .int (nI br)])), (af, .inl (cI, cap, .inl fF))]) (fun x => 0) (fun x => 0) ((0, i)) ⟨Nat.zero_le _, hi, by show 0 + dep F (24 - 0) i = _; rw [Nat.zero_add]⟩ ?_
  intro x hI ih
  obtain ⟨i1, i2, i3⟩ := hI
  have hf := hF x.2 i2
  show Z _ _ _ _ _ _ _ _ _ _ _ _ _ _ _ 4 [(3, .int (nI x.2)), (2, .int (nI x.1)), (0, .ref sp)] [] [(sp, .inr (2, [.ref ah, .ref al, .ref af, .ref ae, .ref ta, .int (nI room), .int (nI ns), .int (nI size), .int (nI ended), .int (nI br)])), (af, .inl (cI, cap, .inl fF))] 0 0
  refine z_iload_n X (pc' := 5) dX2_stepsTo_4 rfl 0 rfl rfl ?_
  refine z_if_leN X (tgt := 30) (pc' := 8) (by omega) dX2_stepsTo_5 (by decide) rfl (fun h1 => ?_) (fun h1 => ?_)
  · have hz : x.2 ≤ 0 := h1
    refine z_iload_n X (pc' := 31) dX2_stepsTo_30 rfl 1 rfl rfl ?_
    exact z_iret X (t1 := .int) rfl rfl () (by show nI x.1 = nI (dep F 24 i); rw [← i3]; congr 1; rcases (show x.2 = 0 ∨ x.1 = 24 by omega) with q | q; (rw [q]; cases 24 - x.1 <;> simp [dep]); (rw [q]; simp [dep])) rfl (Nat.le_of_ble_eq_true rfl) (Nat.le_of_ble_eq_true rfl) dX2_stepsTo_31
  · have hz : ¬ x.2 ≤ 0 := h1
    refine z_iload_n X (pc' := 9) dX2_stepsTo_8 rfl 1 rfl rfl ?_
    refine z_bipush X (v := nI 24) (pc' := 11) dX2_stepsTo_9 (by decide) rfl ?_
    refine z_icmp_geN X (tgt := 30) (pc' := 14) (by omega) (by omega) dX2_stepsTo_11 (by decide) rfl (fun h2 => ?_) (fun h2 => ?_)
    · have h24 : 24 ≤ x.1 := h2
      refine z_iload_n X (pc' := 31) dX2_stepsTo_30 rfl 1 rfl rfl ?_
      exact z_iret X (t1 := .int) rfl rfl () (by show nI x.1 = nI (dep F 24 i); rw [← i3]; congr 1; rcases (show x.2 = 0 ∨ x.1 = 24 by omega) with q | q; (rw [q]; cases 24 - x.1 <;> simp [dep]); (rw [q]; simp [dep])) rfl (Nat.le_of_ble_eq_true rfl) (Nat.le_of_ble_eq_true rfl) dX2_stepsTo_31
    · have h24 : ¬ 24 ≤ x.1 := h2
      refine z_iinc X (v := nI (x.1 + 1)) (lv' := [(2, .int (nI (x.1 + 1))), (3, .int (nI x.2)), (0, .ref sp)]) (k := 1) (pc' := 17) dX2_stepsTo_14 rfl (nI_1 _) (by decide) rfl rfl ?_
      refine z_aload_n X (pc' := 18) dX2_stepsTo_17 rfl 2 rfl rfl ?_
      refine z_get X (v := .ref af) (pc' := 21) 0 rfl rfl inX2 2 (by decide) mF_X2_18 rfl dX2_stepsTo_18 rfl ?_
      refine z_iload_n X (pc' := 22) dX2_stepsTo_21 rfl 1 rfl rfl ?_
      refine z_iald X (pc' := 23) 1 0 rfl rfl (by omega) (by omega) dX2_stepsTo_22 rfl ?_
      refine z_topi (y := nI (F x.2)) hf.1 ?_
      refine z_bipush X (v := nI 20) (pc' := 25) dX2_stepsTo_23 (by decide) rfl ?_
      refine z_idiv X (pc' := 26) dX2_stepsTo_25 (by decide) rfl ?_
      refine z_topi (y := nI (F x.2 / 20)) (pk_div (by omega) (by decide) (by decide)) ?_
      refine z_istore_n X (lv' := [(3, .int (nI (F x.2 / 20))), (2, .int (nI (x.1 + 1))), (0, .ref sp)]) (pc' := 27) dX2_stepsTo_26 rfl (by decide) rfl rfl ?_
      refine z_goto X (tgt := 4) dX2_stepsTo_27 (by decide) ?_
      refine z_lv (lv' := [(3, .int (nI (F x.2 / 20))), (2, .int (nI (x.1 + 1))), (0, .ref sp)]) [0, 1, 2] rfl ?_
      exact ih ((x.1 + 1, F x.2 / 20)) ⟨by show x.1 + 1 ≤ 24; omega, fRep_lt hF i2 h0, by show x.1 + 1 + dep F (24 - (x.1 + 1)) (F x.2 / 20) = _; rw [← i3, show 24 - x.1 = 24 - (x.1 + 1) + 1 by omega]; show _ = x.1 + (if x.2 = 0 then 0 else dep F (24 - (x.1 + 1)) (F x.2 / 20) + 1); rw [if_neg (by omega)]; omega⟩ (by show 24 - (x.1 + 1) < 24 - x.1; omega)
set_option maxHeartbeats 4000000 in
set_option maxRecDepth 100000 in
/-- how long a way is -/
theorem c_stepsTo0 (l : Launch) (D : va_G) (cI cJ : ClassId) (sz : Nat) (sp ah al af ae ta cap room ns size ended br : Nat) (fF : Nat → Int32) (F : Nat → Nat) (hc : size ≤ cap) (hc2 : cap < 2 ^ 31) (hF : fRep size F fF) (h0 : F 0 / 20 = 0)  : KI l D cI cJ yX2_stepsTo cX2_stepsTo 4 (some .int) 0 0 0 0 [.ref sp, .int ((-1))] [(sp, .inr (2, [.ref ah, .ref al, .ref af, .ref ae, .ref ta, .int (nI room), .int (nI ns), .int (nI size), .int (nI ended), .int (nI br)])), (af, .inl (cI, cap, .inl fF))] sz (S := Unit) (fun r _ => r = nI 0) (fun _ => [(sp, .inr (2, [.ref ah, .ref al, .ref af, .ref ae, .ref ta, .int (nI room), .int (nI ns), .int (nI size), .int (nI ended), .int (nI br)])), (af, .inl (cI, cap, .inl fF))]) := by
  refine zMetI (lv := [(0, .ref sp), (1, .int ((-1)))]) NS0_ok (by decide) rfl (Nat.le_of_ble_eq_true rfl) rfl ?_
  intro p e s m args below meth c A X hin hA
  refine z_iconst X (v := nI 0) (pc' := 1) dX2_stepsTo_0 (by decide) rfl ?_
  refine z_istore_n X (lv' := [(2, .int (nI 0)), (0, .ref sp), (1, .int ((-1)))]) (pc' := 2) dX2_stepsTo_1 rfl (by decide) rfl rfl ?_
  refine z_iload_n X (pc' := 3) dX2_stepsTo_2 rfl 2 rfl rfl ?_
  refine z_istore_n X (lv' := [(3, .int ((-1))), (2, .int (nI 0)), (0, .ref sp), (1, .int ((-1)))]) (pc' := 4) dX2_stepsTo_3 rfl (by decide) rfl rfl ?_
  refine z_iload_n X (pc' := 5) dX2_stepsTo_4 rfl 0 rfl rfl ?_
  refine z_if_le X (tgt := 30) (pc' := 8) dX2_stepsTo_5 (by decide) rfl (fun h1 => ?_) (fun h1 => ?_)
  · refine z_iload_n X (pc' := 31) dX2_stepsTo_30 rfl 1 rfl rfl ?_
    exact z_iret X (t1 := .int) rfl rfl () (rfl) rfl (Nat.le_of_ble_eq_true rfl) (Nat.le_of_ble_eq_true rfl) dX2_stepsTo_31
  · exact absurd (by decide) h1
set_option maxHeartbeats 4000000 in
set_option maxRecDepth 100000 in
/-- a move of a way -/
theorem c_stepBefore (l : Launch) (D : va_G) (cI cJ : ClassId) (sz : Nat) (sp ah al af ae ta cap room ns size ended br i b : Nat) (fF : Nat → Int32) (F : Nat → Nat) (hc : size ≤ cap) (hc2 : cap < 2 ^ 31) (hF : fRep size F fF) (h0 : F 0 / 20 = 0) (hi : i < size) (hb : b < 100) : KI l D cI cJ yX2_stepBefore cX2_stepBefore 5 (some .int) 0 0 0 0 [.ref sp, .int (nI i), .int (nI b)] [(sp, .inr (2, [.ref ah, .ref al, .ref af, .ref ae, .ref ta, .int (nI room), .int (nI ns), .int (nI size), .int (nI ended), .int (nI br)])), (af, .inl (cI, cap, .inl fF))] sz (S := Unit) (fun r _ => r = nI (F (anc F b i) % 20)) (fun _ => [(sp, .inr (2, [.ref ah, .ref al, .ref af, .ref ae, .ref ta, .int (nI room), .int (nI ns), .int (nI size), .int (nI ended), .int (nI br)])), (af, .inl (cI, cap, .inl fF))]) := by
  refine zMetI (lv := [(0, .ref sp), (1, .int (nI i)), (2, .int (nI b))]) NS0_ok (by decide) rfl (Nat.le_of_ble_eq_true rfl) rfl ?_
  intro p e s m args below meth c A X hin hA
  refine z_iload_n X (pc' := 1) dX2_stepBefore_0 rfl 1 rfl rfl ?_
  refine z_istore_n X (lv' := [(3, .int (nI i)), (0, .ref sp), (1, .int (nI i)), (2, .int (nI b))]) (pc' := 2) dX2_stepBefore_1 rfl (by decide) rfl rfl ?_
  refine z_iconst X (v := nI 0) (pc' := 3) dX2_stepBefore_2 (by decide) rfl ?_
  refine z_istore X (lv' := [(4, .int (nI 0)), (3, .int (nI i)), (0, .ref sp), (1, .int (nI i)), (2, .int (nI b))]) (pc' := 5) dX2_stepBefore_3 (by decide) rfl rfl ?_
  refine z_lv (lv' := [(4, .int (nI 0)), (3, .int (nI i)), (0, .ref sp), (2, .int (nI b))]) [0, 1, 2, 4] rfl ?_
  refine z_loop (σ := Nat) (fun k => k ≤ b) (fun k => b - k) (fun k => [(4, .int (nI k)), (3, .int (nI (anc F k i))), (0, .ref sp), (2, .int (nI b))]) (fun k => [(sp, .inr (2, [.ref ah, .ref al, .ref af, .ref ae, .ref ta, .int (nI room), .int (nI ns), .int (nI size), .int (nI ended), .int (nI br)])), (af, .inl (cI, cap, .inl fF))]) (fun k => 0) (fun k => 0) 0 (Nat.zero_le _) ?_
  intro k hI ih
  have hal := anc_lt hF h0 k i hi
  have hf := hF _ hal
  show Z _ _ _ _ _ _ _ _ _ _ _ _ _ _ _ 5 [(4, .int (nI k)), (3, .int (nI (anc F k i))), (0, .ref sp), (2, .int (nI b))] [] [(sp, .inr (2, [.ref ah, .ref al, .ref af, .ref ae, .ref ta, .int (nI room), .int (nI ns), .int (nI size), .int (nI ended), .int (nI br)])), (af, .inl (cI, cap, .inl fF))] 0 0
  refine z_iload X (pc' := 7) dX2_stepBefore_5 0 rfl rfl ?_
  refine z_iload_n X (pc' := 8) dX2_stepBefore_7 rfl 3 rfl rfl ?_
  refine z_icmp_geN X (tgt := 27) (pc' := 11) (by omega) (by omega) dX2_stepBefore_8 (by decide) rfl (fun h1 => ?_) (fun h1 => ?_)
  · have hkb : k = b := by omega
    subst hkb
    refine z_aload_n X (pc' := 28) dX2_stepBefore_27 rfl 2 rfl rfl ?_
    refine z_get X (v := .ref af) (pc' := 31) 0 rfl rfl inX2 2 (by decide) mF_X2_18 rfl dX2_stepBefore_28 rfl ?_
    refine z_iload_n X (pc' := 32) dX2_stepBefore_31 rfl 1 rfl rfl ?_
    refine z_iald X (pc' := 33) 1 0 rfl rfl (by omega) (by omega) dX2_stepBefore_32 rfl ?_
    refine z_topi (y := nI (F (anc F k i))) hf.1 ?_
    refine z_bipush X (v := nI 20) (pc' := 35) dX2_stepBefore_33 (by decide) rfl ?_
    refine z_irem X (pc' := 36) dX2_stepBefore_35 (by decide) rfl ?_
    refine z_topi (y := nI (F (anc F k i) % 20)) (pk_rem (by omega) (by decide) (by decide)) ?_
    exact z_iret X (t1 := .int) rfl rfl () (rfl) rfl (Nat.le_of_ble_eq_true rfl) (Nat.le_of_ble_eq_true rfl) dX2_stepBefore_36
  · have hkb : k < b := by omega
    refine z_aload_n X (pc' := 12) dX2_stepBefore_11 rfl 2 rfl rfl ?_
    refine z_get X (v := .ref af) (pc' := 15) 0 rfl rfl inX2 2 (by decide) mF_X2_18 rfl dX2_stepBefore_12 rfl ?_
    refine z_iload_n X (pc' := 16) dX2_stepBefore_15 rfl 1 rfl rfl ?_
    refine z_iald X (pc' := 17) 1 0 rfl rfl (by omega) (by omega) dX2_stepBefore_16 rfl ?_
    refine z_topi (y := nI (F (anc F k i))) hf.1 ?_
    refine z_bipush X (v := nI 20) (pc' := 19) dX2_stepBefore_17 (by decide) rfl ?_
    refine z_idiv X (pc' := 20) dX2_stepBefore_19 (by decide) rfl ?_
    refine z_topi (y := nI (F (anc F k i) / 20)) (pk_div (by omega) (by decide) (by decide)) ?_
    refine z_istore_n X (lv' := [(3, .int (nI (F (anc F k i) / 20))), (4, .int (nI k)), (0, .ref sp), (2, .int (nI b))]) (pc' := 21) dX2_stepBefore_20 rfl (by decide) rfl rfl ?_
    refine z_iinc X (v := nI (k + 1)) (lv' := [(4, .int (nI (k + 1))), (3, .int (nI (F (anc F k i) / 20))), (0, .ref sp), (2, .int (nI b))]) (k := 1) (pc' := 24) dX2_stepBefore_21 rfl (nI_1 _) (by decide) rfl rfl ?_
    refine z_goto X (tgt := 5) dX2_stepBefore_24 (by decide) ?_
    refine z_lve (lv' := [(4, .int (nI (k + 1))), (3, .int (nI (anc F (k + 1) i))), (0, .ref sp), (2, .int (nI b))]) (by rw [anc_s]) ?_
    refine z_lv (lv' := [(4, .int (nI (k + 1))), (3, .int (nI (anc F (k + 1) i))), (0, .ref sp), (2, .int (nI b))]) [0, 1, 2, 3] rfl ?_
    exact ih (k + 1) (show k + 1 ≤ b by omega) (by omega)


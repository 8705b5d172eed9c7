theorem i_nge {k : Int32} (h : ¬ 0 ≤ k) : k < 0 := by
  rw [Int32.le_iff_toInt_le] at h
  rw [Int32.lt_iff_toInt_lt]
  omega
theorem i_ge {k : Int32} (h : 0 ≤ k) : ¬ k < 0 := by
  rw [Int32.le_iff_toInt_le] at h
  rw [Int32.lt_iff_toInt_lt]
  omega
theorem i_nle {k : Int32} (h : ¬ k ≤ 0) : ¬ k < 0 ∧ k ≠ 0 := by
  refine ⟨fun q => ?_, fun q => h (by rw [q]; decide)⟩
  rw [Int32.le_iff_toInt_le] at h
  rw [Int32.lt_iff_toInt_lt] at q
  omega
theorem i_le {k : Int32} (h : k ≤ 0) (h2 : ¬ k < 0) : k = 0 := by
  rw [Int32.le_iff_toInt_le] at h
  rw [Int32.lt_iff_toInt_lt] at h2
  apply Int32.toInt_inj.mp
  have : (0 : Int32).toInt = 0 := by decide
  omega
theorem i_nm1 {n : Nat} (h : n < 2 ^ 31) : ¬ nI n = -1 := fun e => by
  have := nI_pos h
  rw [e] at this
  exact this (by decide)
theorem chd_L {S : List (Nat × Nat)} {C : Bool → Nat → Nat} {q : Nat × Nat} {s : Nat} (h : bq q (S.getD s (0, 0)) < 0) : chd S C q s = C true s := by unfold chd; rw [if_pos h]
theorem chd_G {S : List (Nat × Nat)} {C : Bool → Nat → Nat} {q : Nat × Nat} {s : Nat} (h : ¬ bq q (S.getD s (0, 0)) < 0) (h2 : bq q (S.getD s (0, 0)) ≠ 0) : chd S C q s = C false s := by unfold chd; rw [if_neg h, if_neg h2]
abbrev RB : Type := BB × (Bool → Nat → Nat) × (Nat → Int64) × (Nat → Int64) × (Nat → Int32) × (Nat → Int32) × (Nat → Int32) × (Nat → Int32) × (Nat → Int32)
/-- the rows that u names hold what it says was found -/
abbrev rU (u : RB) : Prop := rI u.1.1 u.1.2.1 u.2.1 u.2.2.1 u.2.2.2.1 u.2.2.2.2.1 u.2.2.2.2.2.1 u.2.2.2.2.2.2.1 u.2.2.2.2.2.2.2.1 u.2.2.2.2.2.2.2.2
set_option maxHeartbeats 4000000 in
set_option maxRecDepth 100000 in
/-- a state comes -/
theorem r_comes (l : Launch) (D : va_G) (cI cJ : ClassId) (sz : Nat) (mo th tol ts tf td : Nat) (ad : Nat → Nat) (h n pp k : Nat) (fa fr fw fh fW fV : Nat → Int32) (f1 f2 : Nat → Int64) (ff fm fb fl fg : Nat → Int32) (S : List (Nat × Nat)) (F : List Nat) (C : Bool → Nat → Nat) (P : Nat → List Nat) (hI0 : rI S F C f1 f2 ff fm fb fl fg) (h0 : 0 < S.length) (hp : pp < S.length) (hk : k < 20) (hS : Sok P h n) (hW : WS h n fa fr fw fh fW fV) : KI l D cI cJ yX4_comes cX4_comes 9 (some .boolean) 1 29 0 0 [.ref mo, .int (nI pp), .int (nI k)] [(mo, .inr (4, [.int (nI th), .ref (ad 1), .ref (ad 2), .ref (ad 3), .ref (ad 4), .int (nI S.length), .ref (ad 6), .ref (ad 7), .ref (ad 8), .ref (ad 9), .ref (ad 10), .ref (ad 11), .ref (ad 12), .ref (ad 13), .ref (ad 14), .ref (ad 15), .ref (ad 16), .ref (ad 17), .ref (ad 18), .int (nI tol), .int (nI ts), .int (nI tf), .int (nI td), .ref (ad 23), .ref (ad 24), .ref (ad 25), .ref (ad 26)])), (ad 13, .inl (cI, 4, .inl fa)), (ad 14, .inl (cI, 16, .inl fr)), (ad 15, .inl (cI, 4, .inl fw)), (ad 16, .inl (cI, 4, .inl fh)), (ad 17, .inl (cI, 8, .inl fW)), (ad 18, .inl (cI, 8, .inl fV)), (ad 6, .inl (cJ, 20000, .inr (.inl f1))), (ad 7, .inl (cJ, 20000, .inr (.inl f2))), (ad 8, .inl (cI, 20000, .inl ff)), (ad 9, .inl (cI, 20000, .inl fm)), (ad 10, .inl (cI, 20000, .inl fb)), (ad 11, .inl (cI, 20000, .inl fl)), (ad 12, .inl (cI, 20000, .inl fg))] sz (S := RB) (fun r u => u.1 = bf_vis (h, n) (20 * pp + k) (S, F, true) ∧ r = (if u.1.2.2 = true then nI 1 else nI 0) ∧ (u.1.2.2 = true → rU u)) (fun u => [(mo, .inr (4, [.int (nI th), .ref (ad 1), .ref (ad 2), .ref (ad 3), .ref (ad 4), .int (nI u.1.1.length), .ref (ad 6), .ref (ad 7), .ref (ad 8), .ref (ad 9), .ref (ad 10), .ref (ad 11), .ref (ad 12), .ref (ad 13), .ref (ad 14), .ref (ad 15), .ref (ad 16), .ref (ad 17), .ref (ad 18), .int (nI tol), .int (nI ts), .int (nI tf), .int (nI td), .ref (ad 23), .ref (ad 24), .ref (ad 25), .ref (ad 26)])), (ad 13, .inl (cI, 4, .inl fa)), (ad 14, .inl (cI, 16, .inl fr)), (ad 15, .inl (cI, 4, .inl fw)), (ad 16, .inl (cI, 4, .inl fh)), (ad 17, .inl (cI, 8, .inl fW)), (ad 18, .inl (cI, 8, .inl fV)), (ad 6, .inl (cJ, 20000, .inr (.inl u.2.2.1))), (ad 7, .inl (cJ, 20000, .inr (.inl u.2.2.2.1))), (ad 8, .inl (cI, 20000, .inl u.2.2.2.2.1)), (ad 9, .inl (cI, 20000, .inl u.2.2.2.2.2.1)), (ad 10, .inl (cI, 20000, .inl u.2.2.2.2.2.2.1)), (ad 11, .inl (cI, 20000, .inl u.2.2.2.2.2.2.2.1)), (ad 12, .inl (cI, 20000, .inl u.2.2.2.2.2.2.2.2))]) := by
  refine zMetI (lv := [(0, .ref mo), (1, .int (nI pp)), (2, .int (nI k))]) NS0_ok (by decide) rfl (Nat.le_of_ble_eq_true rfl) rfl ?_
  intro p e s m args below meth c A X hin hA
  have hi9 := id hI0
  obtain ⟨i1, i2, i3, i4, i5, i6, i7, i8⟩ := hi9
  have hsq : sml (h, n) := ⟨hS.1, hS.2.1⟩
  refine z_aload_n X (pc' := 1) dX4_comes_0 rfl 0 rfl rfl ?_
  refine z_callVl X (pc' := 4) (fun sz => r_packed l D cI cJ sz mo th S.length tol ts tf td ad h n fa fr fw fh fW fV hS.1 hW) (zcwV X TTg 0 mL_X4_110 mI_X4_packed mS_X4_packed mN_X4 mK_X4_packed rfl rfl (by decide +kernel) ⟨(Nat.le_of_ble_eq_true rfl), (Nat.le_of_ble_eq_true rfl)⟩) (wr := [(ad 16, .inl (cI, 4, .inl fh)), (ad 17, .inl (cI, 8, .inl fW)), (ad 18, .inl (cI, 8, .inl fV)), (ad 6, .inl (cJ, 20000, .inr (.inl f1))), (ad 7, .inl (cJ, 20000, .inr (.inl f2))), (ad 8, .inl (cI, 20000, .inl ff)), (ad 9, .inl (cI, 20000, .inl fm)), (ad 10, .inl (cI, 20000, .inl fb)), (ad 11, .inl (cI, 20000, .inl fl)), (ad 12, .inl (cI, 20000, .inl fg))]) [0, 1, 2, 3] [4, 5, 6, 7, 8, 9, 10, 11, 12, 13] rfl rfl rfl rfl (by decide) 4 0 rfl rfl rfl rfl rfl (Nat.le_of_ble_eq_true rfl) dX4_comes_1 ⟨Nat.le_of_ble_eq_true rfl, Nat.le_of_ble_eq_true rfl⟩ rfl (fun r u hu => ?_)
  have hu : r = lN (pk1 (h, n)) := hu
  subst hu
  refine z_wse (ws' := [(ad 16, .inl (cI, 4, .inl fh)), (ad 17, .inl (cI, 8, .inl fW)), (ad 18, .inl (cI, 8, .inl fV)), (ad 6, .inl (cJ, 20000, .inr (.inl f1))), (ad 7, .inl (cJ, 20000, .inr (.inl f2))), (ad 8, .inl (cI, 20000, .inl ff)), (ad 9, .inl (cI, 20000, .inl fm)), (ad 10, .inl (cI, 20000, .inl fb)), (ad 11, .inl (cI, 20000, .inl fl)), (ad 12, .inl (cI, 20000, .inl fg)), (mo, .inr (4, [.int (nI th), .ref (ad 1), .ref (ad 2), .ref (ad 3), .ref (ad 4), .int (nI S.length), .ref (ad 6), .ref (ad 7), .ref (ad 8), .ref (ad 9), .ref (ad 10), .ref (ad 11), .ref (ad 12), .ref (ad 13), .ref (ad 14), .ref (ad 15), .ref (ad 16), .ref (ad 17), .ref (ad 18), .int (nI tol), .int (nI ts), .int (nI tf), .int (nI td), .ref (ad 23), .ref (ad 24), .ref (ad 25), .ref (ad 26)])), (ad 13, .inl (cI, 4, .inl fa)), (ad 14, .inl (cI, 16, .inl fr)), (ad 15, .inl (cI, 4, .inl fw))]) rfl ?_
  refine z_lstore_n X (lv' := [(3, .long (lN (pk1 (h, n)))), (0, .ref mo), (1, .int (nI pp)), (2, .int (nI k))]) (pc' := 5) dX4_comes_4 rfl (by decide) rfl rfl ?_
  refine z_aload_n X (pc' := 6) dX4_comes_5 rfl 1 rfl rfl ?_
  refine z_callVl X (pc' := 9) (fun sz => r_buffered l D cI cJ sz mo th S.length tol ts tf td ad h n fa fr fw fh fW fV (fun t ht => (hS.2.2 t ht).1) hW) (zcwV X TTg 0 mL_X4_114 mI_X4_buffered mS_X4_buffered mN_X4 mK_X4_buffered rfl rfl (by decide +kernel) ⟨(Nat.le_of_ble_eq_true rfl), (Nat.le_of_ble_eq_true rfl)⟩) (wr := [(ad 6, .inl (cJ, 20000, .inr (.inl f1))), (ad 7, .inl (cJ, 20000, .inr (.inl f2))), (ad 8, .inl (cI, 20000, .inl ff)), (ad 9, .inl (cI, 20000, .inl fm)), (ad 10, .inl (cI, 20000, .inl fb)), (ad 11, .inl (cI, 20000, .inl fl)), (ad 12, .inl (cI, 20000, .inl fg)), (ad 13, .inl (cI, 4, .inl fa)), (ad 14, .inl (cI, 16, .inl fr)), (ad 15, .inl (cI, 4, .inl fw))]) [10, 0, 1, 2] [3, 4, 5, 6, 7, 8, 9, 11, 12, 13] rfl rfl rfl rfl (by decide) 4 10 rfl rfl rfl rfl rfl (Nat.le_of_ble_eq_true rfl) dX4_comes_6 ⟨Nat.le_of_ble_eq_true rfl, Nat.le_of_ble_eq_true rfl⟩ rfl (fun r u hu => ?_)
  have hu : r = lN (pk2 (h, n)) := hu
  subst hu
  refine z_wse (ws' := [(ad 6, .inl (cJ, 20000, .inr (.inl f1))), (ad 7, .inl (cJ, 20000, .inr (.inl f2))), (ad 8, .inl (cI, 20000, .inl ff)), (ad 9, .inl (cI, 20000, .inl fm)), (ad 10, .inl (cI, 20000, .inl fb)), (ad 11, .inl (cI, 20000, .inl fl)), (ad 12, .inl (cI, 20000, .inl fg)), (ad 13, .inl (cI, 4, .inl fa)), (ad 14, .inl (cI, 16, .inl fr)), (ad 15, .inl (cI, 4, .inl fw)), (mo, .inr (4, [.int (nI th), .ref (ad 1), .ref (ad 2), .ref (ad 3), .ref (ad 4), .int (nI S.length), .ref (ad 6), .ref (ad 7), .ref (ad 8), .ref (ad 9), .ref (ad 10), .ref (ad 11), .ref (ad 12), .ref (ad 13), .ref (ad 14), .ref (ad 15), .ref (ad 16), .ref (ad 17), .ref (ad 18), .int (nI tol), .int (nI ts), .int (nI tf), .int (nI td), .ref (ad 23), .ref (ad 24), .ref (ad 25), .ref (ad 26)])), (ad 16, .inl (cI, 4, .inl fh)), (ad 17, .inl (cI, 8, .inl fW)), (ad 18, .inl (cI, 8, .inl fV))]) rfl ?_
  refine z_lstore X (lv' := [(5, .long (lN (pk2 (h, n)))), (3, .long (lN (pk1 (h, n)))), (0, .ref mo), (1, .int (nI pp)), (2, .int (nI k))]) (pc' := 11) dX4_comes_9 (by decide) rfl rfl ?_
  refine z_iconst X (v := nI 0) (pc' := 12) dX4_comes_11 (by decide) rfl ?_
  refine z_istore X (lv' := [(7, .int (nI 0)), (5, .long (lN (pk2 (h, n)))), (3, .long (lN (pk1 (h, n)))), (0, .ref mo), (1, .int (nI pp)), (2, .int (nI k))]) (pc' := 14) dX4_comes_12 (by decide) rfl rfl ?_
  refine z_aload_n X (pc' := 15) dX4_comes_14 rfl 3 rfl rfl ?_
  refine z_get X (v := .int (nI S.length)) (pc' := 18) 10 rfl rfl inX4 5 (by decide) mF_X4_117 rfl dX4_comes_15 rfl ?_
  refine z_if_neN X (tgt := 25) (pc' := 21) (by omega) dX4_comes_18 (by decide) rfl (fun h1 => ?_) (fun h1 => ?_)
  · clear h1
    refine z_aload_n X (pc' := 26) dX4_comes_25 rfl 3 rfl rfl ?_
    refine z_lload_n X (pc' := 27) dX4_comes_26 rfl 2 rfl rfl ?_
    refine z_lload X (pc' := 29) dX4_comes_27 1 rfl rfl ?_
    refine z_iconst X (v := nI 0) (pc' := 30) dX4_comes_29 (by decide) rfl ?_
    refine z_callVi X (pc' := 33) (fun sz => r_beside l D cI cJ sz mo th S.length tol ts tf td ad (lN (pk1 (h, n))) (lN (pk2 (h, n))) (lN (pk1 (S.getD 0 (0, 0)))) (lN (pk2 (S.getD 0 (0, 0)))) 0 f1 f2 (by omega) (i4 0 h0).1 (i4 0 h0).2.1) (zcwV X TTg 3 mL_X4_120 mI_X4_beside mS_X4_beside mN_X4 mK_X4_beside rfl rfl (by decide +kernel) ⟨(Nat.le_of_ble_eq_true rfl), (Nat.le_of_ble_eq_true rfl)⟩) (wr := [(ad 8, .inl (cI, 20000, .inl ff)), (ad 9, .inl (cI, 20000, .inl fm)), (ad 10, .inl (cI, 20000, .inl fb)), (ad 11, .inl (cI, 20000, .inl fl)), (ad 12, .inl (cI, 20000, .inl fg)), (ad 13, .inl (cI, 4, .inl fa)), (ad 14, .inl (cI, 16, .inl fr)), (ad 15, .inl (cI, 4, .inl fw)), (ad 16, .inl (cI, 4, .inl fh)), (ad 17, .inl (cI, 8, .inl fW)), (ad 18, .inl (cI, 8, .inl fV))]) [10, 0, 1] [2, 3, 4, 5, 6, 7, 8, 9, 11, 12, 13] rfl rfl rfl rfl (by decide) 4 10 rfl rfl rfl rfl rfl (Nat.le_of_ble_eq_true rfl) dX4_comes_30 ⟨Nat.le_of_ble_eq_true rfl, Nat.le_of_ble_eq_true rfl⟩ rfl (fun r u hu => ?_)
    have hu : r = bq (h, n) (S.getD 0 (0, 0)) := hu
    subst hu
    refine z_wse (ws' := [(ad 8, .inl (cI, 20000, .inl ff)), (ad 9, .inl (cI, 20000, .inl fm)), (ad 10, .inl (cI, 20000, .inl fb)), (ad 11, .inl (cI, 20000, .inl fl)), (ad 12, .inl (cI, 20000, .inl fg)), (ad 13, .inl (cI, 4, .inl fa)), (ad 14, .inl (cI, 16, .inl fr)), (ad 15, .inl (cI, 4, .inl fw)), (ad 16, .inl (cI, 4, .inl fh)), (ad 17, .inl (cI, 8, .inl fW)), (ad 18, .inl (cI, 8, .inl fV)), (mo, .inr (4, [.int (nI th), .ref (ad 1), .ref (ad 2), .ref (ad 3), .ref (ad 4), .int (nI S.length), .ref (ad 6), .ref (ad 7), .ref (ad 8), .ref (ad 9), .ref (ad 10), .ref (ad 11), .ref (ad 12), .ref (ad 13), .ref (ad 14), .ref (ad 15), .ref (ad 16), .ref (ad 17), .ref (ad 18), .int (nI tol), .int (nI ts), .int (nI tf), .int (nI td), .ref (ad 23), .ref (ad 24), .ref (ad 25), .ref (ad 26)])), (ad 6, .inl (cJ, 20000, .inr (.inl f1))), (ad 7, .inl (cJ, 20000, .inr (.inl f2)))]) rfl ?_
    refine z_istore X (lv' := [(8, .int (bq (h, n) (S.getD 0 (0, 0)))), (7, .int (nI 0)), (5, .long (lN (pk2 (h, n)))), (3, .long (lN (pk1 (h, n)))), (0, .ref mo), (1, .int (nI pp)), (2, .int (nI k))]) (pc' := 35) dX4_comes_33 (by decide) rfl rfl ?_
    refine z_lv (lv' := [(8, .int (bq (h, n) (S.getD 0 (0, 0)))), (7, .int (nI 0)), (3, .long (lN (pk1 (h, n)))), (5, .long (lN (pk2 (h, n)))), (0, .ref mo), (1, .int (nI pp)), (2, .int (nI k))]) [0, 1, 3, 2, 4, 5, 6] rfl ?_
    refine z_ws (ws' := [(mo, .inr (4, [.int (nI th), .ref (ad 1), .ref (ad 2), .ref (ad 3), .ref (ad 4), .int (nI S.length), .ref (ad 6), .ref (ad 7), .ref (ad 8), .ref (ad 9), .ref (ad 10), .ref (ad 11), .ref (ad 12), .ref (ad 13), .ref (ad 14), .ref (ad 15), .ref (ad 16), .ref (ad 17), .ref (ad 18), .int (nI tol), .int (nI ts), .int (nI tf), .int (nI td), .ref (ad 23), .ref (ad 24), .ref (ad 25), .ref (ad 26)])), (ad 13, .inl (cI, 4, .inl fa)), (ad 14, .inl (cI, 16, .inl fr)), (ad 15, .inl (cI, 4, .inl fw)), (ad 16, .inl (cI, 4, .inl fh)), (ad 17, .inl (cI, 8, .inl fW)), (ad 18, .inl (cI, 8, .inl fV)), (ad 6, .inl (cJ, 20000, .inr (.inl f1))), (ad 7, .inl (cJ, 20000, .inr (.inl f2))), (ad 8, .inl (cI, 20000, .inl ff)), (ad 9, .inl (cI, 20000, .inl fm)), (ad 10, .inl (cI, 20000, .inl fb)), (ad 11, .inl (cI, 20000, .inl fl)), (ad 12, .inl (cI, 20000, .inl fg))]) [11, 5, 6, 7, 8, 9, 10, 12, 13, 0, 1, 2, 3, 4] (by decide) rfl ?_
    refine z_loop (σ := Nat) (fun x => x < S.length ∧ tway S C (h, n) x) (fun x => S.length - x) (fun x => [(8, .int (bq (h, n) (S.getD x (0, 0)))), (7, .int (nI x)), (3, .long (lN (pk1 (h, n)))), (5, .long (lN (pk2 (h, n)))), (0, .ref mo), (1, .int (nI pp)), (2, .int (nI k))]) (fun x => [(mo, .inr (4, [.int (nI th), .ref (ad 1), .ref (ad 2), .ref (ad 3), .ref (ad 4), .int (nI S.length), .ref (ad 6), .ref (ad 7), .ref (ad 8), .ref (ad 9), .ref (ad 10), .ref (ad 11), .ref (ad 12), .ref (ad 13), .ref (ad 14), .ref (ad 15), .ref (ad 16), .ref (ad 17), .ref (ad 18), .int (nI tol), .int (nI ts), .int (nI tf), .int (nI td), .ref (ad 23), .ref (ad 24), .ref (ad 25), .ref (ad 26)])), (ad 13, .inl (cI, 4, .inl fa)), (ad 14, .inl (cI, 16, .inl fr)), (ad 15, .inl (cI, 4, .inl fw)), (ad 16, .inl (cI, 4, .inl fh)), (ad 17, .inl (cI, 8, .inl fW)), (ad 18, .inl (cI, 8, .inl fV)), (ad 6, .inl (cJ, 20000, .inr (.inl f1))), (ad 7, .inl (cJ, 20000, .inr (.inl f2))), (ad 8, .inl (cI, 20000, .inl ff)), (ad 9, .inl (cI, 20000, .inl fm)), (ad 10, .inl (cI, 20000, .inl fb)), (ad 11, .inl (cI, 20000, .inl fl)), (ad 12, .inl (cI, 20000, .inl fg))]) (fun x => 0) (fun x => 0) 0 ⟨h0, tway_0 S C (h, n)⟩ ?_
    intro x hI ih
    obtain ⟨hx, hwy⟩ := hI
    show Z _ _ _ _ _ _ _ _ _ _ _ _ _ _ _ 35 [(8, .int (bq (h, n) (S.getD x (0, 0)))), (7, .int (nI x)), (3, .long (lN (pk1 (h, n)))), (5, .long (lN (pk2 (h, n)))), (0, .ref mo), (1, .int (nI pp)), (2, .int (nI k))] [] [(mo, .inr (4, [.int (nI th), .ref (ad 1), .ref (ad 2), .ref (ad 3), .ref (ad 4), .int (nI S.length), .ref (ad 6), .ref (ad 7), .ref (ad 8), .ref (ad 9), .ref (ad 10), .ref (ad 11), .ref (ad 12), .ref (ad 13), .ref (ad 14), .ref (ad 15), .ref (ad 16), .ref (ad 17), .ref (ad 18), .int (nI tol), .int (nI ts), .int (nI tf), .int (nI td), .ref (ad 23), .ref (ad 24), .ref (ad 25), .ref (ad 26)])), (ad 13, .inl (cI, 4, .inl fa)), (ad 14, .inl (cI, 16, .inl fr)), (ad 15, .inl (cI, 4, .inl fw)), (ad 16, .inl (cI, 4, .inl fh)), (ad 17, .inl (cI, 8, .inl fW)), (ad 18, .inl (cI, 8, .inl fV)), (ad 6, .inl (cJ, 20000, .inr (.inl f1))), (ad 7, .inl (cJ, 20000, .inr (.inl f2))), (ad 8, .inl (cI, 20000, .inl ff)), (ad 9, .inl (cI, 20000, .inl fm)), (ad 10, .inl (cI, 20000, .inl fb)), (ad 11, .inl (cI, 20000, .inl fl)), (ad 12, .inl (cI, 20000, .inl fg))] 0 0
    refine z_aload_n X (pc' := 36) dX4_comes_35 rfl 4 rfl rfl ?_
    refine z_get X (v := .int (nI S.length)) (pc' := 39) 0 rfl rfl inX4 5 (by decide) mF_X4_117 rfl dX4_comes_36 rfl ?_
    refine z_if_leN X (tgt := 111) (pc' := 42) (by omega) dX4_comes_39 (by decide) rfl (fun h2 => ?_) (fun h2 => ?_)
    · exact absurd h2 (by omega)
    · clear h2
      refine z_iload X (pc' := 44) dX4_comes_42 0 rfl rfl ?_
      refine z_if_eq X (tgt := 111) (pc' := 47) dX4_comes_44 (by decide) rfl (fun h3 => ?_) (fun h3 => ?_)
      · have hb : bq (h, n) (S.getD x (0, 0)) = 0 := h3
        refine z_aload_n X (pc' := 112) dX4_comes_111 rfl 4 rfl rfl ?_
        refine z_get X (v := .int (nI S.length)) (pc' := 115) 0 rfl rfl inX4 5 (by decide) mF_X4_117 rfl dX4_comes_112 rfl ?_
        refine z_if_leN X (tgt := 125) (pc' := 118) (by omega) dX4_comes_115 (by decide) rfl (fun h4 => ?_) (fun h4 => ?_)
        · exact absurd h4 (by omega)
        · clear h4
          refine z_iload X (pc' := 120) dX4_comes_118 0 rfl rfl ?_
          refine z_if_ne X (tgt := 125) (pc' := 123) dX4_comes_120 (by decide) rfl (fun h5 => ?_) (fun h5 => ?_)
          · exact absurd hb h5
          · clear h5
            refine z_iconst X (v := nI 1) (pc' := 124) dX4_comes_123 (by decide) rfl ?_
            refine z_ws (ws' := [(mo, .inr (4, [.int (nI th), .ref (ad 1), .ref (ad 2), .ref (ad 3), .ref (ad 4), .int (nI S.length), .ref (ad 6), .ref (ad 7), .ref (ad 8), .ref (ad 9), .ref (ad 10), .ref (ad 11), .ref (ad 12), .ref (ad 13), .ref (ad 14), .ref (ad 15), .ref (ad 16), .ref (ad 17), .ref (ad 18), .int (nI tol), .int (nI ts), .int (nI tf), .int (nI td), .ref (ad 23), .ref (ad 24), .ref (ad 25), .ref (ad 26)])), (ad 13, .inl (cI, 4, .inl fa)), (ad 14, .inl (cI, 16, .inl fr)), (ad 15, .inl (cI, 4, .inl fw)), (ad 16, .inl (cI, 4, .inl fh)), (ad 17, .inl (cI, 8, .inl fW)), (ad 18, .inl (cI, 8, .inl fV)), (ad 6, .inl (cJ, 20000, .inr (.inl f1))), (ad 7, .inl (cJ, 20000, .inr (.inl f2))), (ad 8, .inl (cI, 20000, .inl ff)), (ad 9, .inl (cI, 20000, .inl fm)), (ad 10, .inl (cI, 20000, .inl fb)), (ad 11, .inl (cI, 20000, .inl fl)), (ad 12, .inl (cI, 20000, .inl fg))]) [0, 1, 2, 3, 4, 5, 6, 7, 8, 9, 10, 11, 12, 13] (by decide) rfl ?_
            exact z_iret X (t1 := .boolean) rfl rfl ((S, F, true), C, f1, f2, ff, fm, fb, fl, fg) (⟨(bf_vis_in (by have e := bq_0 hsq (i3 _ (getD_mem hx)) hb; rw [e]; exact getD_mem hx)).symm, rfl, fun _ => hI0⟩) rfl (Nat.le_of_ble_eq_true rfl) (Nat.le_of_ble_eq_true rfl) dX4_comes_124
      · have hb : ¬ bq (h, n) (S.getD x (0, 0)) = 0 := h3
        refine z_iload X (pc' := 49) dX4_comes_47 0 rfl rfl ?_
        refine z_if_ge X (tgt := 62) (pc' := 52) dX4_comes_49 (by decide) rfl (fun h6 => ?_) (fun h6 => ?_)
        · have hs : ¬ bq (h, n) (S.getD x (0, 0)) < 0 := i_ge h6
          refine z_aload_n X (pc' := 63) dX4_comes_62 rfl 4 rfl rfl ?_
          refine z_get X (v := .ref (ad 12)) (pc' := 66) 0 rfl rfl inX4 12 (by decide) mF_X4_41 rfl dX4_comes_63 rfl ?_
          refine z_iload X (pc' := 68) dX4_comes_66 1 rfl rfl ?_
          refine z_iald X (pc' := 69) 13 0 rfl rfl (by omega) (by omega) dX4_comes_68 rfl ?_
          have hcr := i7 x hx
          by_cases hc : C false x = 0
          · refine z_topi (y := (-1)) (by rw [hcr, if_pos hc]) ?_
            have hcz : chd S C (h, n) x = 0 := by rw [chd_G hs hb]; exact hc
            refine z_iconst X (v := (-1)) (pc' := 70) dX4_comes_69 (by decide) rfl ?_
            refine z_icmp_eq X (tgt := 111) (pc' := 73) dX4_comes_70 (by decide) rfl (fun h7 => ?_) (fun h7 => ?_)
            · clear h7
              refine z_aload_n X (pc' := 112) dX4_comes_111 rfl 4 rfl rfl ?_
              refine z_get X (v := .int (nI S.length)) (pc' := 115) 0 rfl rfl inX4 5 (by decide) mF_X4_117 rfl dX4_comes_112 rfl ?_
              refine z_if_leN X (tgt := 125) (pc' := 118) (by omega) dX4_comes_115 (by decide) rfl (fun h8 => ?_) (fun h8 => ?_)
              · exact absurd h8 (by omega)
              · clear h8
                refine z_iload X (pc' := 120) dX4_comes_118 0 rfl rfl ?_
                refine z_if_ne X (tgt := 125) (pc' := 123) dX4_comes_120 (by decide) rfl (fun h9 => ?_) (fun h9 => ?_)
                · clear h9
                  refine z_aload_n X (pc' := 126) dX4_comes_125 rfl 4 rfl rfl ?_
                  refine z_get X (v := .int (nI S.length)) (pc' := 129) 0 rfl rfl inX4 5 (by decide) mF_X4_117 rfl dX4_comes_126 rfl ?_
                  refine z_sipush X (v := nI 20000) (pc' := 132) dX4_comes_129 (by decide) rfl ?_
                  refine z_icmp_neN X (tgt := 137) (pc' := 135) (by omega) (by decide) dX4_comes_132 (by decide) rfl (fun h10 => ?_) (fun h10 => ?_)
                  · have hfull : ¬ S.length = 20000 := h10
                    have hnin : (h, n) ∉ S := tr_miss i8 hwy hcz hb
                    refine z_aload_n X (pc' := 138) dX4_comes_137 rfl 4 rfl rfl ?_
                    refine z_get X (v := .int (nI S.length)) (pc' := 141) 0 rfl rfl inX4 5 (by decide) mF_X4_117 rfl dX4_comes_138 rfl ?_
                    refine z_if_leN X (tgt := 160) (pc' := 144) (by omega) dX4_comes_141 (by decide) rfl (fun h11 => ?_) (fun h11 => ?_)
                    · exact absurd h11 (by omega)
                    · clear h11
                      refine z_iload X (pc' := 146) dX4_comes_144 0 rfl rfl ?_
                      refine z_if_ge X (tgt := 160) (pc' := 149) dX4_comes_146 (by decide) rfl (fun h12 => ?_) (fun h12 => ?_)
                      · clear h12
                        refine z_aload_n X (pc' := 161) dX4_comes_160 rfl 4 rfl rfl ?_
                        refine z_get X (v := .int (nI S.length)) (pc' := 164) 0 rfl rfl inX4 5 (by decide) mF_X4_117 rfl dX4_comes_161 rfl ?_
                        refine z_if_leN X (tgt := 183) (pc' := 167) (by omega) dX4_comes_164 (by decide) rfl (fun h13 => ?_) (fun h13 => ?_)
                        · exact absurd h13 (by omega)
                        · clear h13
                          refine z_iload X (pc' := 169) dX4_comes_167 0 rfl rfl ?_
                          refine z_if_le X (tgt := 183) (pc' := 172) dX4_comes_169 (by decide) rfl (fun h14 => ?_) (fun h14 => ?_)
                          · exact absurd (i_le h14 hs) hb
                          · clear h14
                            refine z_aload_n X (pc' := 173) dX4_comes_172 rfl 4 rfl rfl ?_
                            refine z_get X (v := .ref (ad 12)) (pc' := 176) 0 rfl rfl inX4 12 (by decide) mF_X4_41 rfl dX4_comes_173 rfl ?_
                            refine z_iload X (pc' := 178) dX4_comes_176 1 rfl rfl ?_
                            refine z_aload_n X (pc' := 179) dX4_comes_178 rfl 4 rfl rfl ?_
                            refine z_get X (v := .int (nI S.length)) (pc' := 182) 0 rfl rfl inX4 5 (by decide) mF_X4_117 rfl dX4_comes_179 rfl ?_
                            refine z_iast X (ws' := [(mo, .inr (4, [.int (nI th), .ref (ad 1), .ref (ad 2), .ref (ad 3), .ref (ad 4), .int (nI S.length), .ref (ad 6), .ref (ad 7), .ref (ad 8), .ref (ad 9), .ref (ad 10), .ref (ad 11), .ref (ad 12), .ref (ad 13), .ref (ad 14), .ref (ad 15), .ref (ad 16), .ref (ad 17), .ref (ad 18), .int (nI tol), .int (nI ts), .int (nI tf), .int (nI td), .ref (ad 23), .ref (ad 24), .ref (ad 25), .ref (ad 26)])), (ad 13, .inl (cI, 4, .inl fa)), (ad 14, .inl (cI, 16, .inl fr)), (ad 15, .inl (cI, 4, .inl fw)), (ad 16, .inl (cI, 4, .inl fh)), (ad 17, .inl (cI, 8, .inl fW)), (ad 18, .inl (cI, 8, .inl fV)), (ad 6, .inl (cJ, 20000, .inr (.inl f1))), (ad 7, .inl (cJ, 20000, .inr (.inl f2))), (ad 8, .inl (cI, 20000, .inl ff)), (ad 9, .inl (cI, 20000, .inl fm)), (ad 10, .inl (cI, 20000, .inl fb)), (ad 11, .inl (cI, 20000, .inl fl)), (ad 12, .inl (cI, 20000, .inl (upd fg x (nI S.length))))]) (pc' := 183) 13 0 rfl rfl (by omega) (by omega) dX4_comes_182 rfl rfl ?_
                            refine z_aload_n X (pc' := 184) dX4_comes_183 rfl 4 rfl rfl ?_
                            refine z_get X (v := .ref (ad 6)) (pc' := 187) 0 rfl rfl inX4 6 (by decide) mF_X4_22 rfl dX4_comes_184 rfl ?_
                            refine z_aload_n X (pc' := 188) dX4_comes_187 rfl 4 rfl rfl ?_
                            refine z_get X (v := .int (nI S.length)) (pc' := 191) 0 rfl rfl inX4 5 (by decide) mF_X4_117 rfl dX4_comes_188 rfl ?_
                            refine z_lload_n X (pc' := 192) dX4_comes_191 rfl 2 rfl rfl ?_
                            refine z_last X (ws' := [(mo, .inr (4, [.int (nI th), .ref (ad 1), .ref (ad 2), .ref (ad 3), .ref (ad 4), .int (nI S.length), .ref (ad 6), .ref (ad 7), .ref (ad 8), .ref (ad 9), .ref (ad 10), .ref (ad 11), .ref (ad 12), .ref (ad 13), .ref (ad 14), .ref (ad 15), .ref (ad 16), .ref (ad 17), .ref (ad 18), .int (nI tol), .int (nI ts), .int (nI tf), .int (nI td), .ref (ad 23), .ref (ad 24), .ref (ad 25), .ref (ad 26)])), (ad 13, .inl (cI, 4, .inl fa)), (ad 14, .inl (cI, 16, .inl fr)), (ad 15, .inl (cI, 4, .inl fw)), (ad 16, .inl (cI, 4, .inl fh)), (ad 17, .inl (cI, 8, .inl fW)), (ad 18, .inl (cI, 8, .inl fV)), (ad 6, .inl (cJ, 20000, .inr (.inl (vp_updL f1 S.length (lN (pk1 (h, n))))))), (ad 7, .inl (cJ, 20000, .inr (.inl f2))), (ad 8, .inl (cI, 20000, .inl ff)), (ad 9, .inl (cI, 20000, .inl fm)), (ad 10, .inl (cI, 20000, .inl fb)), (ad 11, .inl (cI, 20000, .inl fl)), (ad 12, .inl (cI, 20000, .inl (upd fg x (nI S.length))))]) (pc' := 193) 7 1 rfl rfl (by omega) (by omega) dX4_comes_192 rfl rfl ?_
                            refine z_aload_n X (pc' := 194) dX4_comes_193 rfl 4 rfl rfl ?_
                            refine z_get X (v := .ref (ad 7)) (pc' := 197) 0 rfl rfl inX4 7 (by decide) mF_X4_26 rfl dX4_comes_194 rfl ?_
                            refine z_aload_n X (pc' := 198) dX4_comes_197 rfl 4 rfl rfl ?_
                            refine z_get X (v := .int (nI S.length)) (pc' := 201) 0 rfl rfl inX4 5 (by decide) mF_X4_117 rfl dX4_comes_198 rfl ?_
                            refine z_lload X (pc' := 203) dX4_comes_201 3 rfl rfl ?_
                            refine z_last X (ws' := [(mo, .inr (4, [.int (nI th), .ref (ad 1), .ref (ad 2), .ref (ad 3), .ref (ad 4), .int (nI S.length), .ref (ad 6), .ref (ad 7), .ref (ad 8), .ref (ad 9), .ref (ad 10), .ref (ad 11), .ref (ad 12), .ref (ad 13), .ref (ad 14), .ref (ad 15), .ref (ad 16), .ref (ad 17), .ref (ad 18), .int (nI tol), .int (nI ts), .int (nI tf), .int (nI td), .ref (ad 23), .ref (ad 24), .ref (ad 25), .ref (ad 26)])), (ad 13, .inl (cI, 4, .inl fa)), (ad 14, .inl (cI, 16, .inl fr)), (ad 15, .inl (cI, 4, .inl fw)), (ad 16, .inl (cI, 4, .inl fh)), (ad 17, .inl (cI, 8, .inl fW)), (ad 18, .inl (cI, 8, .inl fV)), (ad 6, .inl (cJ, 20000, .inr (.inl (vp_updL f1 S.length (lN (pk1 (h, n))))))), (ad 7, .inl (cJ, 20000, .inr (.inl (vp_updL f2 S.length (lN (pk2 (h, n))))))), (ad 8, .inl (cI, 20000, .inl ff)), (ad 9, .inl (cI, 20000, .inl fm)), (ad 10, .inl (cI, 20000, .inl fb)), (ad 11, .inl (cI, 20000, .inl fl)), (ad 12, .inl (cI, 20000, .inl (upd fg x (nI S.length))))]) (pc' := 204) 8 1 rfl rfl (by omega) (by omega) dX4_comes_203 rfl rfl ?_
                            refine z_aload_n X (pc' := 205) dX4_comes_204 rfl 4 rfl rfl ?_
                            refine z_get X (v := .ref (ad 11)) (pc' := 208) 0 rfl rfl inX4 11 (by decide) mF_X4_38 rfl dX4_comes_205 rfl ?_
                            refine z_aload_n X (pc' := 209) dX4_comes_208 rfl 4 rfl rfl ?_
                            refine z_get X (v := .int (nI S.length)) (pc' := 212) 0 rfl rfl inX4 5 (by decide) mF_X4_117 rfl dX4_comes_209 rfl ?_
                            refine z_iconst X (v := (-1)) (pc' := 213) dX4_comes_212 (by decide) rfl ?_
                            refine z_iast X (ws' := [(mo, .inr (4, [.int (nI th), .ref (ad 1), .ref (ad 2), .ref (ad 3), .ref (ad 4), .int (nI S.length), .ref (ad 6), .ref (ad 7), .ref (ad 8), .ref (ad 9), .ref (ad 10), .ref (ad 11), .ref (ad 12), .ref (ad 13), .ref (ad 14), .ref (ad 15), .ref (ad 16), .ref (ad 17), .ref (ad 18), .int (nI tol), .int (nI ts), .int (nI tf), .int (nI td), .ref (ad 23), .ref (ad 24), .ref (ad 25), .ref (ad 26)])), (ad 13, .inl (cI, 4, .inl fa)), (ad 14, .inl (cI, 16, .inl fr)), (ad 15, .inl (cI, 4, .inl fw)), (ad 16, .inl (cI, 4, .inl fh)), (ad 17, .inl (cI, 8, .inl fW)), (ad 18, .inl (cI, 8, .inl fV)), (ad 6, .inl (cJ, 20000, .inr (.inl (vp_updL f1 S.length (lN (pk1 (h, n))))))), (ad 7, .inl (cJ, 20000, .inr (.inl (vp_updL f2 S.length (lN (pk2 (h, n))))))), (ad 8, .inl (cI, 20000, .inl ff)), (ad 9, .inl (cI, 20000, .inl fm)), (ad 10, .inl (cI, 20000, .inl fb)), (ad 11, .inl (cI, 20000, .inl (upd fl S.length ((-1))))), (ad 12, .inl (cI, 20000, .inl (upd fg x (nI S.length))))]) (pc' := 214) 12 0 rfl rfl (by omega) (by omega) dX4_comes_213 rfl rfl ?_
                            refine z_aload_n X (pc' := 215) dX4_comes_214 rfl 4 rfl rfl ?_
                            refine z_get X (v := .ref (ad 12)) (pc' := 218) 0 rfl rfl inX4 12 (by decide) mF_X4_41 rfl dX4_comes_215 rfl ?_
                            refine z_aload_n X (pc' := 219) dX4_comes_218 rfl 4 rfl rfl ?_
                            refine z_get X (v := .int (nI S.length)) (pc' := 222) 0 rfl rfl inX4 5 (by decide) mF_X4_117 rfl dX4_comes_219 rfl ?_
                            refine z_iconst X (v := (-1)) (pc' := 223) dX4_comes_222 (by decide) rfl ?_
                            refine z_iast X (ws' := [(mo, .inr (4, [.int (nI th), .ref (ad 1), .ref (ad 2), .ref (ad 3), .ref (ad 4), .int (nI S.length), .ref (ad 6), .ref (ad 7), .ref (ad 8), .ref (ad 9), .ref (ad 10), .ref (ad 11), .ref (ad 12), .ref (ad 13), .ref (ad 14), .ref (ad 15), .ref (ad 16), .ref (ad 17), .ref (ad 18), .int (nI tol), .int (nI ts), .int (nI tf), .int (nI td), .ref (ad 23), .ref (ad 24), .ref (ad 25), .ref (ad 26)])), (ad 13, .inl (cI, 4, .inl fa)), (ad 14, .inl (cI, 16, .inl fr)), (ad 15, .inl (cI, 4, .inl fw)), (ad 16, .inl (cI, 4, .inl fh)), (ad 17, .inl (cI, 8, .inl fW)), (ad 18, .inl (cI, 8, .inl fV)), (ad 6, .inl (cJ, 20000, .inr (.inl (vp_updL f1 S.length (lN (pk1 (h, n))))))), (ad 7, .inl (cJ, 20000, .inr (.inl (vp_updL f2 S.length (lN (pk2 (h, n))))))), (ad 8, .inl (cI, 20000, .inl ff)), (ad 9, .inl (cI, 20000, .inl fm)), (ad 10, .inl (cI, 20000, .inl fb)), (ad 11, .inl (cI, 20000, .inl (upd fl S.length ((-1))))), (ad 12, .inl (cI, 20000, .inl (upd (upd fg x (nI S.length)) S.length ((-1)))))]) (pc' := 224) 13 0 rfl rfl (by omega) (by omega) dX4_comes_223 rfl rfl ?_
                            refine z_aload_n X (pc' := 225) dX4_comes_224 rfl 4 rfl rfl ?_
                            refine z_get X (v := .ref (ad 9)) (pc' := 228) 0 rfl rfl inX4 9 (by decide) mF_X4_32 rfl dX4_comes_225 rfl ?_
                            refine z_aload_n X (pc' := 229) dX4_comes_228 rfl 4 rfl rfl ?_
                            refine z_get X (v := .int (nI S.length)) (pc' := 232) 0 rfl rfl inX4 5 (by decide) mF_X4_117 rfl dX4_comes_229 rfl ?_
                            refine z_iload_n X (pc' := 233) dX4_comes_232 rfl 5 rfl rfl ?_
                            refine z_iast X (ws' := [(mo, .inr (4, [.int (nI th), .ref (ad 1), .ref (ad 2), .ref (ad 3), .ref (ad 4), .int (nI S.length), .ref (ad 6), .ref (ad 7), .ref (ad 8), .ref (ad 9), .ref (ad 10), .ref (ad 11), .ref (ad 12), .ref (ad 13), .ref (ad 14), .ref (ad 15), .ref (ad 16), .ref (ad 17), .ref (ad 18), .int (nI tol), .int (nI ts), .int (nI tf), .int (nI td), .ref (ad 23), .ref (ad 24), .ref (ad 25), .ref (ad 26)])), (ad 13, .inl (cI, 4, .inl fa)), (ad 14, .inl (cI, 16, .inl fr)), (ad 15, .inl (cI, 4, .inl fw)), (ad 16, .inl (cI, 4, .inl fh)), (ad 17, .inl (cI, 8, .inl fW)), (ad 18, .inl (cI, 8, .inl fV)), (ad 6, .inl (cJ, 20000, .inr (.inl (vp_updL f1 S.length (lN (pk1 (h, n))))))), (ad 7, .inl (cJ, 20000, .inr (.inl (vp_updL f2 S.length (lN (pk2 (h, n))))))), (ad 8, .inl (cI, 20000, .inl ff)), (ad 9, .inl (cI, 20000, .inl (upd fm S.length (nI pp)))), (ad 10, .inl (cI, 20000, .inl fb)), (ad 11, .inl (cI, 20000, .inl (upd fl S.length ((-1))))), (ad 12, .inl (cI, 20000, .inl (upd (upd fg x (nI S.length)) S.length ((-1)))))]) (pc' := 234) 10 0 rfl rfl (by omega) (by omega) dX4_comes_233 rfl rfl ?_
                            refine z_aload_n X (pc' := 235) dX4_comes_234 rfl 4 rfl rfl ?_
                            refine z_get X (v := .ref (ad 10)) (pc' := 238) 0 rfl rfl inX4 10 (by decide) mF_X4_35 rfl dX4_comes_235 rfl ?_
                            refine z_aload_n X (pc' := 239) dX4_comes_238 rfl 4 rfl rfl ?_
                            refine z_get X (v := .int (nI S.length)) (pc' := 242) 0 rfl rfl inX4 5 (by decide) mF_X4_117 rfl dX4_comes_239 rfl ?_
                            refine z_iload_n X (pc' := 243) dX4_comes_242 rfl 6 rfl rfl ?_
                            refine z_iast X (ws' := [(mo, .inr (4, [.int (nI th), .ref (ad 1), .ref (ad 2), .ref (ad 3), .ref (ad 4), .int (nI S.length), .ref (ad 6), .ref (ad 7), .ref (ad 8), .ref (ad 9), .ref (ad 10), .ref (ad 11), .ref (ad 12), .ref (ad 13), .ref (ad 14), .ref (ad 15), .ref (ad 16), .ref (ad 17), .ref (ad 18), .int (nI tol), .int (nI ts), .int (nI tf), .int (nI td), .ref (ad 23), .ref (ad 24), .ref (ad 25), .ref (ad 26)])), (ad 13, .inl (cI, 4, .inl fa)), (ad 14, .inl (cI, 16, .inl fr)), (ad 15, .inl (cI, 4, .inl fw)), (ad 16, .inl (cI, 4, .inl fh)), (ad 17, .inl (cI, 8, .inl fW)), (ad 18, .inl (cI, 8, .inl fV)), (ad 6, .inl (cJ, 20000, .inr (.inl (vp_updL f1 S.length (lN (pk1 (h, n))))))), (ad 7, .inl (cJ, 20000, .inr (.inl (vp_updL f2 S.length (lN (pk2 (h, n))))))), (ad 8, .inl (cI, 20000, .inl ff)), (ad 9, .inl (cI, 20000, .inl (upd fm S.length (nI pp)))), (ad 10, .inl (cI, 20000, .inl (upd fb S.length (nI k)))), (ad 11, .inl (cI, 20000, .inl (upd fl S.length ((-1))))), (ad 12, .inl (cI, 20000, .inl (upd (upd fg x (nI S.length)) S.length ((-1)))))]) (pc' := 244) 11 0 rfl rfl (by omega) (by omega) dX4_comes_243 rfl rfl ?_
                            refine z_aload_n X (pc' := 245) dX4_comes_244 rfl 4 rfl rfl ?_
                            refine z_get X (v := .ref (ad 8)) (pc' := 248) 0 rfl rfl inX4 8 (by decide) mF_X4_29 rfl dX4_comes_245 rfl ?_
                            refine z_aload_n X (pc' := 249) dX4_comes_248 rfl 4 rfl rfl ?_
                            refine z_get X (v := .int (nI S.length)) (pc' := 252) 0 rfl rfl inX4 5 (by decide) mF_X4_117 rfl dX4_comes_249 rfl ?_
                            refine z_iload_n X (pc' := 253) dX4_comes_252 rfl 5 rfl rfl ?_
                            refine z_iconst X (v := (-1)) (pc' := 254) dX4_comes_253 (by decide) rfl ?_
                            refine z_icmp_ne X (tgt := 261) (pc' := 257) dX4_comes_254 (by decide) rfl (fun h15 => ?_) (fun h15 => ?_)
                            · clear h15
                              refine z_aload_n X (pc' := 262) dX4_comes_261 rfl 4 rfl rfl ?_
                              refine z_get X (v := .ref (ad 8)) (pc' := 265) 0 rfl rfl inX4 8 (by decide) mF_X4_29 rfl dX4_comes_262 rfl ?_
                              refine z_iload_n X (pc' := 266) dX4_comes_265 rfl 5 rfl rfl ?_
                              refine z_iald X (pc' := 267) 9 0 rfl rfl (by omega) (by omega) dX4_comes_266 rfl ?_
                              refine z_topi (y := nI (dpt (fun j => F.getD j 0) pp)) (i4 pp hp).2.2 ?_
                              refine z_iconst X (v := nI 1) (pc' := 268) dX4_comes_267 (by decide) rfl ?_
                              refine z_iadd X (pc' := 269) dX4_comes_268 rfl ?_
                              refine z_topi (y := nI ((dpt (fun j => F.getD j 0) pp) + 1)) (nI_add _ _) ?_
                              refine z_iast X (ws' := [(mo, .inr (4, [.int (nI th), .ref (ad 1), .ref (ad 2), .ref (ad 3), .ref (ad 4), .int (nI S.length), .ref (ad 6), .ref (ad 7), .ref (ad 8), .ref (ad 9), .ref (ad 10), .ref (ad 11), .ref (ad 12), .ref (ad 13), .ref (ad 14), .ref (ad 15), .ref (ad 16), .ref (ad 17), .ref (ad 18), .int (nI tol), .int (nI ts), .int (nI tf), .int (nI td), .ref (ad 23), .ref (ad 24), .ref (ad 25), .ref (ad 26)])), (ad 13, .inl (cI, 4, .inl fa)), (ad 14, .inl (cI, 16, .inl fr)), (ad 15, .inl (cI, 4, .inl fw)), (ad 16, .inl (cI, 4, .inl fh)), (ad 17, .inl (cI, 8, .inl fW)), (ad 18, .inl (cI, 8, .inl fV)), (ad 6, .inl (cJ, 20000, .inr (.inl (vp_updL f1 S.length (lN (pk1 (h, n))))))), (ad 7, .inl (cJ, 20000, .inr (.inl (vp_updL f2 S.length (lN (pk2 (h, n))))))), (ad 8, .inl (cI, 20000, .inl (upd ff S.length (nI ((dpt (fun j => F.getD j 0) pp) + 1))))), (ad 9, .inl (cI, 20000, .inl (upd fm S.length (nI pp)))), (ad 10, .inl (cI, 20000, .inl (upd fb S.length (nI k)))), (ad 11, .inl (cI, 20000, .inl (upd fl S.length ((-1))))), (ad 12, .inl (cI, 20000, .inl (upd (upd fg x (nI S.length)) S.length ((-1)))))]) (pc' := 270) 9 0 rfl rfl (by omega) (by omega) dX4_comes_269 rfl rfl ?_
                              refine z_aload_n X (pc' := 271) dX4_comes_270 rfl 4 rfl rfl ?_
                              refine z_dup X (pc' := 272) dX4_comes_271 rfl rfl ?_
                              refine z_get X (v := .int (nI S.length)) (pc' := 275) 0 rfl rfl inX4 5 (by decide) mF_X4_117 rfl dX4_comes_272 rfl ?_
                              refine z_iconst X (v := nI 1) (pc' := 276) dX4_comes_275 (by decide) rfl ?_
                              refine z_iadd X (pc' := 277) dX4_comes_276 rfl ?_
                              refine z_topi (y := nI (S.length + 1)) (nI_add _ _) ?_
                              refine z_put X (t1 := .int) (ws' := [(mo, .inr (4, [.int (nI th), .ref (ad 1), .ref (ad 2), .ref (ad 3), .ref (ad 4), .int (nI (S.length + 1)), .ref (ad 6), .ref (ad 7), .ref (ad 8), .ref (ad 9), .ref (ad 10), .ref (ad 11), .ref (ad 12), .ref (ad 13), .ref (ad 14), .ref (ad 15), .ref (ad 16), .ref (ad 17), .ref (ad 18), .int (nI tol), .int (nI ts), .int (nI tf), .int (nI td), .ref (ad 23), .ref (ad 24), .ref (ad 25), .ref (ad 26)])), (ad 13, .inl (cI, 4, .inl fa)), (ad 14, .inl (cI, 16, .inl fr)), (ad 15, .inl (cI, 4, .inl fw)), (ad 16, .inl (cI, 4, .inl fh)), (ad 17, .inl (cI, 8, .inl fW)), (ad 18, .inl (cI, 8, .inl fV)), (ad 6, .inl (cJ, 20000, .inr (.inl (vp_updL f1 S.length (lN (pk1 (h, n))))))), (ad 7, .inl (cJ, 20000, .inr (.inl (vp_updL f2 S.length (lN (pk2 (h, n))))))), (ad 8, .inl (cI, 20000, .inl (upd ff S.length (nI ((dpt (fun j => F.getD j 0) pp) + 1))))), (ad 9, .inl (cI, 20000, .inl (upd fm S.length (nI pp)))), (ad 10, .inl (cI, 20000, .inl (upd fb S.length (nI k)))), (ad 11, .inl (cI, 20000, .inl (upd fl S.length ((-1))))), (ad 12, .inl (cI, 20000, .inl (upd (upd fg x (nI S.length)) S.length ((-1)))))]) (pc' := 280) 0 rfl rfl inX4 tyX4 tyX4_ok nmX4 5 (by decide) mF_X4_117 rfl (by decide +kernel) rfl rfl (Nat.le_of_ble_eq_true rfl) dX4_comes_277 rfl rfl ?_
                              refine z_iconst X (v := nI 1) (pc' := 281) dX4_comes_280 (by decide) rfl ?_
                              refine z_wse (ws' := [(mo, .inr (4, [.int (nI th), .ref (ad 1), .ref (ad 2), .ref (ad 3), .ref (ad 4), .int (nI ((S ++ [(h, n)]).length)), .ref (ad 6), .ref (ad 7), .ref (ad 8), .ref (ad 9), .ref (ad 10), .ref (ad 11), .ref (ad 12), .ref (ad 13), .ref (ad 14), .ref (ad 15), .ref (ad 16), .ref (ad 17), .ref (ad 18), .int (nI tol), .int (nI ts), .int (nI tf), .int (nI td), .ref (ad 23), .ref (ad 24), .ref (ad 25), .ref (ad 26)])), (ad 13, .inl (cI, 4, .inl fa)), (ad 14, .inl (cI, 16, .inl fr)), (ad 15, .inl (cI, 4, .inl fw)), (ad 16, .inl (cI, 4, .inl fh)), (ad 17, .inl (cI, 8, .inl fW)), (ad 18, .inl (cI, 8, .inl fV)), (ad 6, .inl (cJ, 20000, .inr (.inl (vp_updL f1 S.length (lN (pk1 (h, n))))))), (ad 7, .inl (cJ, 20000, .inr (.inl (vp_updL f2 S.length (lN (pk2 (h, n))))))), (ad 8, .inl (cI, 20000, .inl (upd ff S.length (nI ((dpt (fun j => F.getD j 0) pp) + 1))))), (ad 9, .inl (cI, 20000, .inl (upd fm S.length (nI pp)))), (ad 10, .inl (cI, 20000, .inl (upd fb S.length (nI k)))), (ad 11, .inl (cI, 20000, .inl (upd fl S.length ((-1))))), (ad 12, .inl (cI, 20000, .inl (upd (upd fg x (nI S.length)) S.length ((-1)))))]) (by rw [List.length_append, List.length_singleton]) ?_
                              refine z_ws (ws' := [(mo, .inr (4, [.int (nI th), .ref (ad 1), .ref (ad 2), .ref (ad 3), .ref (ad 4), .int (nI ((S ++ [(h, n)]).length)), .ref (ad 6), .ref (ad 7), .ref (ad 8), .ref (ad 9), .ref (ad 10), .ref (ad 11), .ref (ad 12), .ref (ad 13), .ref (ad 14), .ref (ad 15), .ref (ad 16), .ref (ad 17), .ref (ad 18), .int (nI tol), .int (nI ts), .int (nI tf), .int (nI td), .ref (ad 23), .ref (ad 24), .ref (ad 25), .ref (ad 26)])), (ad 13, .inl (cI, 4, .inl fa)), (ad 14, .inl (cI, 16, .inl fr)), (ad 15, .inl (cI, 4, .inl fw)), (ad 16, .inl (cI, 4, .inl fh)), (ad 17, .inl (cI, 8, .inl fW)), (ad 18, .inl (cI, 8, .inl fV)), (ad 6, .inl (cJ, 20000, .inr (.inl (vp_updL f1 S.length (lN (pk1 (h, n))))))), (ad 7, .inl (cJ, 20000, .inr (.inl (vp_updL f2 S.length (lN (pk2 (h, n))))))), (ad 8, .inl (cI, 20000, .inl (upd ff S.length (nI ((dpt (fun j => F.getD j 0) pp) + 1))))), (ad 9, .inl (cI, 20000, .inl (upd fm S.length (nI pp)))), (ad 10, .inl (cI, 20000, .inl (upd fb S.length (nI k)))), (ad 11, .inl (cI, 20000, .inl (upd fl S.length ((-1))))), (ad 12, .inl (cI, 20000, .inl (upd (upd fg x (nI S.length)) S.length ((-1)))))]) [0, 1, 2, 3, 4, 5, 6, 7, 8, 9, 10, 11, 12, 13] (by decide) rfl ?_
                              exact z_iret X (t1 := .boolean) rfl rfl ((S ++ [(h, n)], F ++ [20 * pp + k], true), tput C false x S.length, vp_updL f1 S.length (lN (pk1 (h, n))), vp_updL f2 S.length (lN (pk2 (h, n))), upd ff S.length (nI ((dpt (fun j => F.getD j 0) pp) + 1)), upd fm S.length (nI pp), upd fb S.length (nI k), upd fl S.length ((-1)), upd (upd fg x (nI S.length)) S.length ((-1))) (⟨(bf_vis_new hnin (by omega)).symm, rfl, fun _ => rI_put (b := false) hI0 hx hwy (Or.inr ⟨rfl, hs, hb⟩) hc hsq (by omega) hp hk⟩) rfl (Nat.le_of_ble_eq_true rfl) (Nat.le_of_ble_eq_true rfl) dX4_comes_281
                            · exact absurd h15 (i_nm1 (by omega))
                      · exact absurd (i_nge h12) hs
                  · have hfull : S.length = 20000 := h10
                    have hnin : (h, n) ∉ S := tr_miss i8 hwy hcz hb
                    refine z_iconst X (v := nI 0) (pc' := 136) dX4_comes_135 (by decide) rfl ?_
                    refine z_ws (ws' := [(mo, .inr (4, [.int (nI th), .ref (ad 1), .ref (ad 2), .ref (ad 3), .ref (ad 4), .int (nI S.length), .ref (ad 6), .ref (ad 7), .ref (ad 8), .ref (ad 9), .ref (ad 10), .ref (ad 11), .ref (ad 12), .ref (ad 13), .ref (ad 14), .ref (ad 15), .ref (ad 16), .ref (ad 17), .ref (ad 18), .int (nI tol), .int (nI ts), .int (nI tf), .int (nI td), .ref (ad 23), .ref (ad 24), .ref (ad 25), .ref (ad 26)])), (ad 13, .inl (cI, 4, .inl fa)), (ad 14, .inl (cI, 16, .inl fr)), (ad 15, .inl (cI, 4, .inl fw)), (ad 16, .inl (cI, 4, .inl fh)), (ad 17, .inl (cI, 8, .inl fW)), (ad 18, .inl (cI, 8, .inl fV)), (ad 6, .inl (cJ, 20000, .inr (.inl f1))), (ad 7, .inl (cJ, 20000, .inr (.inl f2))), (ad 8, .inl (cI, 20000, .inl ff)), (ad 9, .inl (cI, 20000, .inl fm)), (ad 10, .inl (cI, 20000, .inl fb)), (ad 11, .inl (cI, 20000, .inl fl)), (ad 12, .inl (cI, 20000, .inl fg))]) [0, 1, 2, 3, 4, 5, 6, 7, 8, 9, 10, 11, 12, 13] (by decide) rfl ?_
                    exact z_iret X (t1 := .boolean) rfl rfl ((S, F, false), C, f1, f2, ff, fm, fb, fl, fg) (⟨(bf_vis_full hnin (by omega)).symm, rfl, fun g => absurd (show false = true from g) (by decide)⟩) rfl (Nat.le_of_ble_eq_true rfl) (Nat.le_of_ble_eq_true rfl) dX4_comes_136
                · exact absurd h9 hb
            · exact absurd rfl h7
          · refine z_topi (y := nI (C false x)) (by rw [hcr, if_neg hc]) ?_
            have hch := tway_1 i8 hx hwy (by rw [chd_G hs hb]; exact hc)
            rw [chd_G hs hb] at hch
            refine z_iconst X (v := (-1)) (pc' := 70) dX4_comes_69 (by decide) rfl ?_
            refine z_icmp_eq X (tgt := 111) (pc' := 73) dX4_comes_70 (by decide) rfl (fun h16 => ?_) (fun h16 => ?_)
            · exact absurd h16 (i_nm1 (by omega))
            · clear h16
              refine z_iload X (pc' := 75) dX4_comes_73 0 rfl rfl ?_
              refine z_if_ge X (tgt := 88) (pc' := 78) dX4_comes_75 (by decide) rfl (fun h17 => ?_) (fun h17 => ?_)
              · clear h17
                refine z_aload_n X (pc' := 89) dX4_comes_88 rfl 4 rfl rfl ?_
                refine z_get X (v := .ref (ad 12)) (pc' := 92) 0 rfl rfl inX4 12 (by decide) mF_X4_41 rfl dX4_comes_89 rfl ?_
                refine z_iload X (pc' := 94) dX4_comes_92 1 rfl rfl ?_
                refine z_iald X (pc' := 95) 13 0 rfl rfl (by omega) (by omega) dX4_comes_94 rfl ?_
                refine z_topi (y := nI (C false x)) (by rw [hcr, if_neg hc]) ?_
                refine z_istore X (lv' := [(7, .int (nI (C false x))), (8, .int (bq (h, n) (S.getD x (0, 0)))), (3, .long (lN (pk1 (h, n)))), (5, .long (lN (pk2 (h, n)))), (0, .ref mo), (1, .int (nI pp)), (2, .int (nI k))]) (pc' := 97) dX4_comes_95 (by decide) rfl rfl ?_
                refine z_aload_n X (pc' := 98) dX4_comes_97 rfl 4 rfl rfl ?_
                refine z_lload_n X (pc' := 99) dX4_comes_98 rfl 2 rfl rfl ?_
                refine z_lload X (pc' := 101) dX4_comes_99 3 rfl rfl ?_
                refine z_iload X (pc' := 103) dX4_comes_101 0 rfl rfl ?_
                refine z_callVi X (pc' := 106) (fun sz => r_beside l D cI cJ sz mo th S.length tol ts tf td ad (lN (pk1 (h, n))) (lN (pk2 (h, n))) (lN (pk1 (S.getD (C false x) (0, 0)))) (lN (pk2 (S.getD (C false x) (0, 0)))) (C false x) f1 f2 (by omega) (i4 (C false x) hch.2.2).1 (i4 (C false x) hch.2.2).2.1) (zcwV X TTg 3 mL_X4_120 mI_X4_beside mS_X4_beside mN_X4 mK_X4_beside rfl rfl (by decide +kernel) ⟨(Nat.le_of_ble_eq_true rfl), (Nat.le_of_ble_eq_true rfl)⟩) (wr := [(ad 13, .inl (cI, 4, .inl fa)), (ad 14, .inl (cI, 16, .inl fr)), (ad 15, .inl (cI, 4, .inl fw)), (ad 16, .inl (cI, 4, .inl fh)), (ad 17, .inl (cI, 8, .inl fW)), (ad 18, .inl (cI, 8, .inl fV)), (ad 8, .inl (cI, 20000, .inl ff)), (ad 9, .inl (cI, 20000, .inl fm)), (ad 10, .inl (cI, 20000, .inl fb)), (ad 11, .inl (cI, 20000, .inl fl)), (ad 12, .inl (cI, 20000, .inl fg))]) [0, 7, 8] [1, 2, 3, 4, 5, 6, 9, 10, 11, 12, 13] rfl rfl rfl rfl (by decide) 4 0 rfl rfl rfl rfl rfl (Nat.le_of_ble_eq_true rfl) dX4_comes_103 ⟨Nat.le_of_ble_eq_true rfl, Nat.le_of_ble_eq_true rfl⟩ rfl (fun r u hu => ?_)
                have hu : r = bq (h, n) (S.getD (C false x) (0, 0)) := hu
                subst hu
                refine z_wse (ws' := [(ad 13, .inl (cI, 4, .inl fa)), (ad 14, .inl (cI, 16, .inl fr)), (ad 15, .inl (cI, 4, .inl fw)), (ad 16, .inl (cI, 4, .inl fh)), (ad 17, .inl (cI, 8, .inl fW)), (ad 18, .inl (cI, 8, .inl fV)), (ad 8, .inl (cI, 20000, .inl ff)), (ad 9, .inl (cI, 20000, .inl fm)), (ad 10, .inl (cI, 20000, .inl fb)), (ad 11, .inl (cI, 20000, .inl fl)), (ad 12, .inl (cI, 20000, .inl fg)), (mo, .inr (4, [.int (nI th), .ref (ad 1), .ref (ad 2), .ref (ad 3), .ref (ad 4), .int (nI S.length), .ref (ad 6), .ref (ad 7), .ref (ad 8), .ref (ad 9), .ref (ad 10), .ref (ad 11), .ref (ad 12), .ref (ad 13), .ref (ad 14), .ref (ad 15), .ref (ad 16), .ref (ad 17), .ref (ad 18), .int (nI tol), .int (nI ts), .int (nI tf), .int (nI td), .ref (ad 23), .ref (ad 24), .ref (ad 25), .ref (ad 26)])), (ad 6, .inl (cJ, 20000, .inr (.inl f1))), (ad 7, .inl (cJ, 20000, .inr (.inl f2)))]) rfl ?_
                refine z_istore X (lv' := [(8, .int (bq (h, n) (S.getD (C false x) (0, 0)))), (7, .int (nI (C false x))), (3, .long (lN (pk1 (h, n)))), (5, .long (lN (pk2 (h, n)))), (0, .ref mo), (1, .int (nI pp)), (2, .int (nI k))]) (pc' := 108) dX4_comes_106 (by decide) rfl rfl ?_
                refine z_goto X (tgt := 35) dX4_comes_108 (by decide) ?_
                refine z_lv (lv' := [(8, .int (bq (h, n) (S.getD (C false x) (0, 0)))), (7, .int (nI (C false x))), (3, .long (lN (pk1 (h, n)))), (5, .long (lN (pk2 (h, n)))), (0, .ref mo), (1, .int (nI pp)), (2, .int (nI k))]) [0, 1, 2, 3, 4, 5, 6] rfl ?_
                refine z_ws (ws' := [(mo, .inr (4, [.int (nI th), .ref (ad 1), .ref (ad 2), .ref (ad 3), .ref (ad 4), .int (nI S.length), .ref (ad 6), .ref (ad 7), .ref (ad 8), .ref (ad 9), .ref (ad 10), .ref (ad 11), .ref (ad 12), .ref (ad 13), .ref (ad 14), .ref (ad 15), .ref (ad 16), .ref (ad 17), .ref (ad 18), .int (nI tol), .int (nI ts), .int (nI tf), .int (nI td), .ref (ad 23), .ref (ad 24), .ref (ad 25), .ref (ad 26)])), (ad 13, .inl (cI, 4, .inl fa)), (ad 14, .inl (cI, 16, .inl fr)), (ad 15, .inl (cI, 4, .inl fw)), (ad 16, .inl (cI, 4, .inl fh)), (ad 17, .inl (cI, 8, .inl fW)), (ad 18, .inl (cI, 8, .inl fV)), (ad 6, .inl (cJ, 20000, .inr (.inl f1))), (ad 7, .inl (cJ, 20000, .inr (.inl f2))), (ad 8, .inl (cI, 20000, .inl ff)), (ad 9, .inl (cI, 20000, .inl fm)), (ad 10, .inl (cI, 20000, .inl fb)), (ad 11, .inl (cI, 20000, .inl fl)), (ad 12, .inl (cI, 20000, .inl fg))]) [11, 0, 1, 2, 3, 4, 5, 12, 13, 6, 7, 8, 9, 10] (by decide) rfl ?_
                exact ih (C false x) ⟨hch.2.2, hch.1⟩ (by have := hch.2; omega)
              · exact absurd (i_nge h17) hs
        · have hs : bq (h, n) (S.getD x (0, 0)) < 0 := i_nge h6
          refine z_aload_n X (pc' := 53) dX4_comes_52 rfl 4 rfl rfl ?_
          refine z_get X (v := .ref (ad 11)) (pc' := 56) 0 rfl rfl inX4 11 (by decide) mF_X4_38 rfl dX4_comes_53 rfl ?_
          refine z_iload X (pc' := 58) dX4_comes_56 1 rfl rfl ?_
          refine z_iald X (pc' := 59) 12 0 rfl rfl (by omega) (by omega) dX4_comes_58 rfl ?_
          have hcr := i6 x hx
          by_cases hc : C true x = 0
          · refine z_topi (y := (-1)) (by rw [hcr, if_pos hc]) ?_
            have hcz : chd S C (h, n) x = 0 := by rw [chd_L hs]; exact hc
            refine z_goto X (tgt := 69) dX4_comes_59 (by decide) ?_
            · skip
              refine z_iconst X (v := (-1)) (pc' := 70) dX4_comes_69 (by decide) rfl ?_
              refine z_icmp_eq X (tgt := 111) (pc' := 73) dX4_comes_70 (by decide) rfl (fun h18 => ?_) (fun h18 => ?_)
              · clear h18
                refine z_aload_n X (pc' := 112) dX4_comes_111 rfl 4 rfl rfl ?_
                refine z_get X (v := .int (nI S.length)) (pc' := 115) 0 rfl rfl inX4 5 (by decide) mF_X4_117 rfl dX4_comes_112 rfl ?_
                refine z_if_leN X (tgt := 125) (pc' := 118) (by omega) dX4_comes_115 (by decide) rfl (fun h19 => ?_) (fun h19 => ?_)
                · exact absurd h19 (by omega)
                · clear h19
                  refine z_iload X (pc' := 120) dX4_comes_118 0 rfl rfl ?_
                  refine z_if_ne X (tgt := 125) (pc' := 123) dX4_comes_120 (by decide) rfl (fun h20 => ?_) (fun h20 => ?_)
                  · clear h20
                    refine z_aload_n X (pc' := 126) dX4_comes_125 rfl 4 rfl rfl ?_
                    refine z_get X (v := .int (nI S.length)) (pc' := 129) 0 rfl rfl inX4 5 (by decide) mF_X4_117 rfl dX4_comes_126 rfl ?_
                    refine z_sipush X (v := nI 20000) (pc' := 132) dX4_comes_129 (by decide) rfl ?_
                    refine z_icmp_neN X (tgt := 137) (pc' := 135) (by omega) (by decide) dX4_comes_132 (by decide) rfl (fun h21 => ?_) (fun h21 => ?_)
                    · have hfull : ¬ S.length = 20000 := h21
                      have hnin : (h, n) ∉ S := tr_miss i8 hwy hcz hb
                      refine z_aload_n X (pc' := 138) dX4_comes_137 rfl 4 rfl rfl ?_
                      refine z_get X (v := .int (nI S.length)) (pc' := 141) 0 rfl rfl inX4 5 (by decide) mF_X4_117 rfl dX4_comes_138 rfl ?_
                      refine z_if_leN X (tgt := 160) (pc' := 144) (by omega) dX4_comes_141 (by decide) rfl (fun h22 => ?_) (fun h22 => ?_)
                      · exact absurd h22 (by omega)
                      · clear h22
                        refine z_iload X (pc' := 146) dX4_comes_144 0 rfl rfl ?_
                        refine z_if_ge X (tgt := 160) (pc' := 149) dX4_comes_146 (by decide) rfl (fun h23 => ?_) (fun h23 => ?_)
                        · exact absurd hs (i_ge h23)
                        · clear h23
                          refine z_aload_n X (pc' := 150) dX4_comes_149 rfl 4 rfl rfl ?_
                          refine z_get X (v := .ref (ad 11)) (pc' := 153) 0 rfl rfl inX4 11 (by decide) mF_X4_38 rfl dX4_comes_150 rfl ?_
                          refine z_iload X (pc' := 155) dX4_comes_153 1 rfl rfl ?_
                          refine z_aload_n X (pc' := 156) dX4_comes_155 rfl 4 rfl rfl ?_
                          refine z_get X (v := .int (nI S.length)) (pc' := 159) 0 rfl rfl inX4 5 (by decide) mF_X4_117 rfl dX4_comes_156 rfl ?_
                          refine z_iast X (ws' := [(mo, .inr (4, [.int (nI th), .ref (ad 1), .ref (ad 2), .ref (ad 3), .ref (ad 4), .int (nI S.length), .ref (ad 6), .ref (ad 7), .ref (ad 8), .ref (ad 9), .ref (ad 10), .ref (ad 11), .ref (ad 12), .ref (ad 13), .ref (ad 14), .ref (ad 15), .ref (ad 16), .ref (ad 17), .ref (ad 18), .int (nI tol), .int (nI ts), .int (nI tf), .int (nI td), .ref (ad 23), .ref (ad 24), .ref (ad 25), .ref (ad 26)])), (ad 13, .inl (cI, 4, .inl fa)), (ad 14, .inl (cI, 16, .inl fr)), (ad 15, .inl (cI, 4, .inl fw)), (ad 16, .inl (cI, 4, .inl fh)), (ad 17, .inl (cI, 8, .inl fW)), (ad 18, .inl (cI, 8, .inl fV)), (ad 6, .inl (cJ, 20000, .inr (.inl f1))), (ad 7, .inl (cJ, 20000, .inr (.inl f2))), (ad 8, .inl (cI, 20000, .inl ff)), (ad 9, .inl (cI, 20000, .inl fm)), (ad 10, .inl (cI, 20000, .inl fb)), (ad 11, .inl (cI, 20000, .inl (upd fl x (nI S.length)))), (ad 12, .inl (cI, 20000, .inl fg))]) (pc' := 160) 12 0 rfl rfl (by omega) (by omega) dX4_comes_159 rfl rfl ?_
                          refine z_aload_n X (pc' := 161) dX4_comes_160 rfl 4 rfl rfl ?_
                          refine z_get X (v := .int (nI S.length)) (pc' := 164) 0 rfl rfl inX4 5 (by decide) mF_X4_117 rfl dX4_comes_161 rfl ?_
                          refine z_if_leN X (tgt := 183) (pc' := 167) (by omega) dX4_comes_164 (by decide) rfl (fun h24 => ?_) (fun h24 => ?_)
                          · exact absurd h24 (by omega)
                          · clear h24
                            refine z_iload X (pc' := 169) dX4_comes_167 0 rfl rfl ?_
                            refine z_if_le X (tgt := 183) (pc' := 172) dX4_comes_169 (by decide) rfl (fun h25 => ?_) (fun h25 => ?_)
                            · clear h25
                              refine z_aload_n X (pc' := 184) dX4_comes_183 rfl 4 rfl rfl ?_
                              refine z_get X (v := .ref (ad 6)) (pc' := 187) 0 rfl rfl inX4 6 (by decide) mF_X4_22 rfl dX4_comes_184 rfl ?_
                              refine z_aload_n X (pc' := 188) dX4_comes_187 rfl 4 rfl rfl ?_
                              refine z_get X (v := .int (nI S.length)) (pc' := 191) 0 rfl rfl inX4 5 (by decide) mF_X4_117 rfl dX4_comes_188 rfl ?_
                              refine z_lload_n X (pc' := 192) dX4_comes_191 rfl 2 rfl rfl ?_
                              refine z_last X (ws' := [(mo, .inr (4, [.int (nI th), .ref (ad 1), .ref (ad 2), .ref (ad 3), .ref (ad 4), .int (nI S.length), .ref (ad 6), .ref (ad 7), .ref (ad 8), .ref (ad 9), .ref (ad 10), .ref (ad 11), .ref (ad 12), .ref (ad 13), .ref (ad 14), .ref (ad 15), .ref (ad 16), .ref (ad 17), .ref (ad 18), .int (nI tol), .int (nI ts), .int (nI tf), .int (nI td), .ref (ad 23), .ref (ad 24), .ref (ad 25), .ref (ad 26)])), (ad 13, .inl (cI, 4, .inl fa)), (ad 14, .inl (cI, 16, .inl fr)), (ad 15, .inl (cI, 4, .inl fw)), (ad 16, .inl (cI, 4, .inl fh)), (ad 17, .inl (cI, 8, .inl fW)), (ad 18, .inl (cI, 8, .inl fV)), (ad 6, .inl (cJ, 20000, .inr (.inl (vp_updL f1 S.length (lN (pk1 (h, n))))))), (ad 7, .inl (cJ, 20000, .inr (.inl f2))), (ad 8, .inl (cI, 20000, .inl ff)), (ad 9, .inl (cI, 20000, .inl fm)), (ad 10, .inl (cI, 20000, .inl fb)), (ad 11, .inl (cI, 20000, .inl (upd fl x (nI S.length)))), (ad 12, .inl (cI, 20000, .inl fg))]) (pc' := 193) 7 1 rfl rfl (by omega) (by omega) dX4_comes_192 rfl rfl ?_
                              refine z_aload_n X (pc' := 194) dX4_comes_193 rfl 4 rfl rfl ?_
                              refine z_get X (v := .ref (ad 7)) (pc' := 197) 0 rfl rfl inX4 7 (by decide) mF_X4_26 rfl dX4_comes_194 rfl ?_
                              refine z_aload_n X (pc' := 198) dX4_comes_197 rfl 4 rfl rfl ?_
                              refine z_get X (v := .int (nI S.length)) (pc' := 201) 0 rfl rfl inX4 5 (by decide) mF_X4_117 rfl dX4_comes_198 rfl ?_
                              refine z_lload X (pc' := 203) dX4_comes_201 3 rfl rfl ?_
                              refine z_last X (ws' := [(mo, .inr (4, [.int (nI th), .ref (ad 1), .ref (ad 2), .ref (ad 3), .ref (ad 4), .int (nI S.length), .ref (ad 6), .ref (ad 7), .ref (ad 8), .ref (ad 9), .ref (ad 10), .ref (ad 11), .ref (ad 12), .ref (ad 13), .ref (ad 14), .ref (ad 15), .ref (ad 16), .ref (ad 17), .ref (ad 18), .int (nI tol), .int (nI ts), .int (nI tf), .int (nI td), .ref (ad 23), .ref (ad 24), .ref (ad 25), .ref (ad 26)])), (ad 13, .inl (cI, 4, .inl fa)), (ad 14, .inl (cI, 16, .inl fr)), (ad 15, .inl (cI, 4, .inl fw)), (ad 16, .inl (cI, 4, .inl fh)), (ad 17, .inl (cI, 8, .inl fW)), (ad 18, .inl (cI, 8, .inl fV)), (ad 6, .inl (cJ, 20000, .inr (.inl (vp_updL f1 S.length (lN (pk1 (h, n))))))), (ad 7, .inl (cJ, 20000, .inr (.inl (vp_updL f2 S.length (lN (pk2 (h, n))))))), (ad 8, .inl (cI, 20000, .inl ff)), (ad 9, .inl (cI, 20000, .inl fm)), (ad 10, .inl (cI, 20000, .inl fb)), (ad 11, .inl (cI, 20000, .inl (upd fl x (nI S.length)))), (ad 12, .inl (cI, 20000, .inl fg))]) (pc' := 204) 8 1 rfl rfl (by omega) (by omega) dX4_comes_203 rfl rfl ?_
                              refine z_aload_n X (pc' := 205) dX4_comes_204 rfl 4 rfl rfl ?_
                              refine z_get X (v := .ref (ad 11)) (pc' := 208) 0 rfl rfl inX4 11 (by decide) mF_X4_38 rfl dX4_comes_205 rfl ?_
                              refine z_aload_n X (pc' := 209) dX4_comes_208 rfl 4 rfl rfl ?_
                              refine z_get X (v := .int (nI S.length)) (pc' := 212) 0 rfl rfl inX4 5 (by decide) mF_X4_117 rfl dX4_comes_209 rfl ?_
                              refine z_iconst X (v := (-1)) (pc' := 213) dX4_comes_212 (by decide) rfl ?_
                              refine z_iast X (ws' := [(mo, .inr (4, [.int (nI th), .ref (ad 1), .ref (ad 2), .ref (ad 3), .ref (ad 4), .int (nI S.length), .ref (ad 6), .ref (ad 7), .ref (ad 8), .ref (ad 9), .ref (ad 10), .ref (ad 11), .ref (ad 12), .ref (ad 13), .ref (ad 14), .ref (ad 15), .ref (ad 16), .ref (ad 17), .ref (ad 18), .int (nI tol), .int (nI ts), .int (nI tf), .int (nI td), .ref (ad 23), .ref (ad 24), .ref (ad 25), .ref (ad 26)])), (ad 13, .inl (cI, 4, .inl fa)), (ad 14, .inl (cI, 16, .inl fr)), (ad 15, .inl (cI, 4, .inl fw)), (ad 16, .inl (cI, 4, .inl fh)), (ad 17, .inl (cI, 8, .inl fW)), (ad 18, .inl (cI, 8, .inl fV)), (ad 6, .inl (cJ, 20000, .inr (.inl (vp_updL f1 S.length (lN (pk1 (h, n))))))), (ad 7, .inl (cJ, 20000, .inr (.inl (vp_updL f2 S.length (lN (pk2 (h, n))))))), (ad 8, .inl (cI, 20000, .inl ff)), (ad 9, .inl (cI, 20000, .inl fm)), (ad 10, .inl (cI, 20000, .inl fb)), (ad 11, .inl (cI, 20000, .inl (upd (upd fl x (nI S.length)) S.length ((-1))))), (ad 12, .inl (cI, 20000, .inl fg))]) (pc' := 214) 12 0 rfl rfl (by omega) (by omega) dX4_comes_213 rfl rfl ?_
                              refine z_aload_n X (pc' := 215) dX4_comes_214 rfl 4 rfl rfl ?_
                              refine z_get X (v := .ref (ad 12)) (pc' := 218) 0 rfl rfl inX4 12 (by decide) mF_X4_41 rfl dX4_comes_215 rfl ?_
                              refine z_aload_n X (pc' := 219) dX4_comes_218 rfl 4 rfl rfl ?_
                              refine z_get X (v := .int (nI S.length)) (pc' := 222) 0 rfl rfl inX4 5 (by decide) mF_X4_117 rfl dX4_comes_219 rfl ?_
                              refine z_iconst X (v := (-1)) (pc' := 223) dX4_comes_222 (by decide) rfl ?_
                              refine z_iast X (ws' := [(mo, .inr (4, [.int (nI th), .ref (ad 1), .ref (ad 2), .ref (ad 3), .ref (ad 4), .int (nI S.length), .ref (ad 6), .ref (ad 7), .ref (ad 8), .ref (ad 9), .ref (ad 10), .ref (ad 11), .ref (ad 12), .ref (ad 13), .ref (ad 14), .ref (ad 15), .ref (ad 16), .ref (ad 17), .ref (ad 18), .int (nI tol), .int (nI ts), .int (nI tf), .int (nI td), .ref (ad 23), .ref (ad 24), .ref (ad 25), .ref (ad 26)])), (ad 13, .inl (cI, 4, .inl fa)), (ad 14, .inl (cI, 16, .inl fr)), (ad 15, .inl (cI, 4, .inl fw)), (ad 16, .inl (cI, 4, .inl fh)), (ad 17, .inl (cI, 8, .inl fW)), (ad 18, .inl (cI, 8, .inl fV)), (ad 6, .inl (cJ, 20000, .inr (.inl (vp_updL f1 S.length (lN (pk1 (h, n))))))), (ad 7, .inl (cJ, 20000, .inr (.inl (vp_updL f2 S.length (lN (pk2 (h, n))))))), (ad 8, .inl (cI, 20000, .inl ff)), (ad 9, .inl (cI, 20000, .inl fm)), (ad 10, .inl (cI, 20000, .inl fb)), (ad 11, .inl (cI, 20000, .inl (upd (upd fl x (nI S.length)) S.length ((-1))))), (ad 12, .inl (cI, 20000, .inl (upd fg S.length ((-1)))))]) (pc' := 224) 13 0 rfl rfl (by omega) (by omega) dX4_comes_223 rfl rfl ?_
                              refine z_aload_n X (pc' := 225) dX4_comes_224 rfl 4 rfl rfl ?_
                              refine z_get X (v := .ref (ad 9)) (pc' := 228) 0 rfl rfl inX4 9 (by decide) mF_X4_32 rfl dX4_comes_225 rfl ?_
                              refine z_aload_n X (pc' := 229) dX4_comes_228 rfl 4 rfl rfl ?_
                              refine z_get X (v := .int (nI S.length)) (pc' := 232) 0 rfl rfl inX4 5 (by decide) mF_X4_117 rfl dX4_comes_229 rfl ?_
                              refine z_iload_n X (pc' := 233) dX4_comes_232 rfl 5 rfl rfl ?_
                              refine z_iast X (ws' := [(mo, .inr (4, [.int (nI th), .ref (ad 1), .ref (ad 2), .ref (ad 3), .ref (ad 4), .int (nI S.length), .ref (ad 6), .ref (ad 7), .ref (ad 8), .ref (ad 9), .ref (ad 10), .ref (ad 11), .ref (ad 12), .ref (ad 13), .ref (ad 14), .ref (ad 15), .ref (ad 16), .ref (ad 17), .ref (ad 18), .int (nI tol), .int (nI ts), .int (nI tf), .int (nI td), .ref (ad 23), .ref (ad 24), .ref (ad 25), .ref (ad 26)])), (ad 13, .inl (cI, 4, .inl fa)), (ad 14, .inl (cI, 16, .inl fr)), (ad 15, .inl (cI, 4, .inl fw)), (ad 16, .inl (cI, 4, .inl fh)), (ad 17, .inl (cI, 8, .inl fW)), (ad 18, .inl (cI, 8, .inl fV)), (ad 6, .inl (cJ, 20000, .inr (.inl (vp_updL f1 S.length (lN (pk1 (h, n))))))), (ad 7, .inl (cJ, 20000, .inr (.inl (vp_updL f2 S.length (lN (pk2 (h, n))))))), (ad 8, .inl (cI, 20000, .inl ff)), (ad 9, .inl (cI, 20000, .inl (upd fm S.length (nI pp)))), (ad 10, .inl (cI, 20000, .inl fb)), (ad 11, .inl (cI, 20000, .inl (upd (upd fl x (nI S.length)) S.length ((-1))))), (ad 12, .inl (cI, 20000, .inl (upd fg S.length ((-1)))))]) (pc' := 234) 10 0 rfl rfl (by omega) (by omega) dX4_comes_233 rfl rfl ?_
                              refine z_aload_n X (pc' := 235) dX4_comes_234 rfl 4 rfl rfl ?_
                              refine z_get X (v := .ref (ad 10)) (pc' := 238) 0 rfl rfl inX4 10 (by decide) mF_X4_35 rfl dX4_comes_235 rfl ?_
                              refine z_aload_n X (pc' := 239) dX4_comes_238 rfl 4 rfl rfl ?_
                              refine z_get X (v := .int (nI S.length)) (pc' := 242) 0 rfl rfl inX4 5 (by decide) mF_X4_117 rfl dX4_comes_239 rfl ?_
                              refine z_iload_n X (pc' := 243) dX4_comes_242 rfl 6 rfl rfl ?_
                              refine z_iast X (ws' := [(mo, .inr (4, [.int (nI th), .ref (ad 1), .ref (ad 2), .ref (ad 3), .ref (ad 4), .int (nI S.length), .ref (ad 6), .ref (ad 7), .ref (ad 8), .ref (ad 9), .ref (ad 10), .ref (ad 11), .ref (ad 12), .ref (ad 13), .ref (ad 14), .ref (ad 15), .ref (ad 16), .ref (ad 17), .ref (ad 18), .int (nI tol), .int (nI ts), .int (nI tf), .int (nI td), .ref (ad 23), .ref (ad 24), .ref (ad 25), .ref (ad 26)])), (ad 13, .inl (cI, 4, .inl fa)), (ad 14, .inl (cI, 16, .inl fr)), (ad 15, .inl (cI, 4, .inl fw)), (ad 16, .inl (cI, 4, .inl fh)), (ad 17, .inl (cI, 8, .inl fW)), (ad 18, .inl (cI, 8, .inl fV)), (ad 6, .inl (cJ, 20000, .inr (.inl (vp_updL f1 S.length (lN (pk1 (h, n))))))), (ad 7, .inl (cJ, 20000, .inr (.inl (vp_updL f2 S.length (lN (pk2 (h, n))))))), (ad 8, .inl (cI, 20000, .inl ff)), (ad 9, .inl (cI, 20000, .inl (upd fm S.length (nI pp)))), (ad 10, .inl (cI, 20000, .inl (upd fb S.length (nI k)))), (ad 11, .inl (cI, 20000, .inl (upd (upd fl x (nI S.length)) S.length ((-1))))), (ad 12, .inl (cI, 20000, .inl (upd fg S.length ((-1)))))]) (pc' := 244) 11 0 rfl rfl (by omega) (by omega) dX4_comes_243 rfl rfl ?_
                              refine z_aload_n X (pc' := 245) dX4_comes_244 rfl 4 rfl rfl ?_
                              refine z_get X (v := .ref (ad 8)) (pc' := 248) 0 rfl rfl inX4 8 (by decide) mF_X4_29 rfl dX4_comes_245 rfl ?_
                              refine z_aload_n X (pc' := 249) dX4_comes_248 rfl 4 rfl rfl ?_
                              refine z_get X (v := .int (nI S.length)) (pc' := 252) 0 rfl rfl inX4 5 (by decide) mF_X4_117 rfl dX4_comes_249 rfl ?_
                              refine z_iload_n X (pc' := 253) dX4_comes_252 rfl 5 rfl rfl ?_
                              refine z_iconst X (v := (-1)) (pc' := 254) dX4_comes_253 (by decide) rfl ?_
                              refine z_icmp_ne X (tgt := 261) (pc' := 257) dX4_comes_254 (by decide) rfl (fun h26 => ?_) (fun h26 => ?_)
                              · clear h26
                                refine z_aload_n X (pc' := 262) dX4_comes_261 rfl 4 rfl rfl ?_
                                refine z_get X (v := .ref (ad 8)) (pc' := 265) 0 rfl rfl inX4 8 (by decide) mF_X4_29 rfl dX4_comes_262 rfl ?_
                                refine z_iload_n X (pc' := 266) dX4_comes_265 rfl 5 rfl rfl ?_
                                refine z_iald X (pc' := 267) 9 0 rfl rfl (by omega) (by omega) dX4_comes_266 rfl ?_
                                refine z_topi (y := nI (dpt (fun j => F.getD j 0) pp)) (i4 pp hp).2.2 ?_
                                refine z_iconst X (v := nI 1) (pc' := 268) dX4_comes_267 (by decide) rfl ?_
                                refine z_iadd X (pc' := 269) dX4_comes_268 rfl ?_
                                refine z_topi (y := nI ((dpt (fun j => F.getD j 0) pp) + 1)) (nI_add _ _) ?_
                                refine z_iast X (ws' := [(mo, .inr (4, [.int (nI th), .ref (ad 1), .ref (ad 2), .ref (ad 3), .ref (ad 4), .int (nI S.length), .ref (ad 6), .ref (ad 7), .ref (ad 8), .ref (ad 9), .ref (ad 10), .ref (ad 11), .ref (ad 12), .ref (ad 13), .ref (ad 14), .ref (ad 15), .ref (ad 16), .ref (ad 17), .ref (ad 18), .int (nI tol), .int (nI ts), .int (nI tf), .int (nI td), .ref (ad 23), .ref (ad 24), .ref (ad 25), .ref (ad 26)])), (ad 13, .inl (cI, 4, .inl fa)), (ad 14, .inl (cI, 16, .inl fr)), (ad 15, .inl (cI, 4, .inl fw)), (ad 16, .inl (cI, 4, .inl fh)), (ad 17, .inl (cI, 8, .inl fW)), (ad 18, .inl (cI, 8, .inl fV)), (ad 6, .inl (cJ, 20000, .inr (.inl (vp_updL f1 S.length (lN (pk1 (h, n))))))), (ad 7, .inl (cJ, 20000, .inr (.inl (vp_updL f2 S.length (lN (pk2 (h, n))))))), (ad 8, .inl (cI, 20000, .inl (upd ff S.length (nI ((dpt (fun j => F.getD j 0) pp) + 1))))), (ad 9, .inl (cI, 20000, .inl (upd fm S.length (nI pp)))), (ad 10, .inl (cI, 20000, .inl (upd fb S.length (nI k)))), (ad 11, .inl (cI, 20000, .inl (upd (upd fl x (nI S.length)) S.length ((-1))))), (ad 12, .inl (cI, 20000, .inl (upd fg S.length ((-1)))))]) (pc' := 270) 9 0 rfl rfl (by omega) (by omega) dX4_comes_269 rfl rfl ?_
                                refine z_aload_n X (pc' := 271) dX4_comes_270 rfl 4 rfl rfl ?_
                                refine z_dup X (pc' := 272) dX4_comes_271 rfl rfl ?_
                                refine z_get X (v := .int (nI S.length)) (pc' := 275) 0 rfl rfl inX4 5 (by decide) mF_X4_117 rfl dX4_comes_272 rfl ?_
                                refine z_iconst X (v := nI 1) (pc' := 276) dX4_comes_275 (by decide) rfl ?_
                                refine z_iadd X (pc' := 277) dX4_comes_276 rfl ?_
                                refine z_topi (y := nI (S.length + 1)) (nI_add _ _) ?_
                                refine z_put X (t1 := .int) (ws' := [(mo, .inr (4, [.int (nI th), .ref (ad 1), .ref (ad 2), .ref (ad 3), .ref (ad 4), .int (nI (S.length + 1)), .ref (ad 6), .ref (ad 7), .ref (ad 8), .ref (ad 9), .ref (ad 10), .ref (ad 11), .ref (ad 12), .ref (ad 13), .ref (ad 14), .ref (ad 15), .ref (ad 16), .ref (ad 17), .ref (ad 18), .int (nI tol), .int (nI ts), .int (nI tf), .int (nI td), .ref (ad 23), .ref (ad 24), .ref (ad 25), .ref (ad 26)])), (ad 13, .inl (cI, 4, .inl fa)), (ad 14, .inl (cI, 16, .inl fr)), (ad 15, .inl (cI, 4, .inl fw)), (ad 16, .inl (cI, 4, .inl fh)), (ad 17, .inl (cI, 8, .inl fW)), (ad 18, .inl (cI, 8, .inl fV)), (ad 6, .inl (cJ, 20000, .inr (.inl (vp_updL f1 S.length (lN (pk1 (h, n))))))), (ad 7, .inl (cJ, 20000, .inr (.inl (vp_updL f2 S.length (lN (pk2 (h, n))))))), (ad 8, .inl (cI, 20000, .inl (upd ff S.length (nI ((dpt (fun j => F.getD j 0) pp) + 1))))), (ad 9, .inl (cI, 20000, .inl (upd fm S.length (nI pp)))), (ad 10, .inl (cI, 20000, .inl (upd fb S.length (nI k)))), (ad 11, .inl (cI, 20000, .inl (upd (upd fl x (nI S.length)) S.length ((-1))))), (ad 12, .inl (cI, 20000, .inl (upd fg S.length ((-1)))))]) (pc' := 280) 0 rfl rfl inX4 tyX4 tyX4_ok nmX4 5 (by decide) mF_X4_117 rfl (by decide +kernel) rfl rfl (Nat.le_of_ble_eq_true rfl) dX4_comes_277 rfl rfl ?_
                                refine z_iconst X (v := nI 1) (pc' := 281) dX4_comes_280 (by decide) rfl ?_
                                refine z_wse (ws' := [(mo, .inr (4, [.int (nI th), .ref (ad 1), .ref (ad 2), .ref (ad 3), .ref (ad 4), .int (nI ((S ++ [(h, n)]).length)), .ref (ad 6), .ref (ad 7), .ref (ad 8), .ref (ad 9), .ref (ad 10), .ref (ad 11), .ref (ad 12), .ref (ad 13), .ref (ad 14), .ref (ad 15), .ref (ad 16), .ref (ad 17), .ref (ad 18), .int (nI tol), .int (nI ts), .int (nI tf), .int (nI td), .ref (ad 23), .ref (ad 24), .ref (ad 25), .ref (ad 26)])), (ad 13, .inl (cI, 4, .inl fa)), (ad 14, .inl (cI, 16, .inl fr)), (ad 15, .inl (cI, 4, .inl fw)), (ad 16, .inl (cI, 4, .inl fh)), (ad 17, .inl (cI, 8, .inl fW)), (ad 18, .inl (cI, 8, .inl fV)), (ad 6, .inl (cJ, 20000, .inr (.inl (vp_updL f1 S.length (lN (pk1 (h, n))))))), (ad 7, .inl (cJ, 20000, .inr (.inl (vp_updL f2 S.length (lN (pk2 (h, n))))))), (ad 8, .inl (cI, 20000, .inl (upd ff S.length (nI ((dpt (fun j => F.getD j 0) pp) + 1))))), (ad 9, .inl (cI, 20000, .inl (upd fm S.length (nI pp)))), (ad 10, .inl (cI, 20000, .inl (upd fb S.length (nI k)))), (ad 11, .inl (cI, 20000, .inl (upd (upd fl x (nI S.length)) S.length ((-1))))), (ad 12, .inl (cI, 20000, .inl (upd fg S.length ((-1)))))]) (by rw [List.length_append, List.length_singleton]) ?_
                                refine z_ws (ws' := [(mo, .inr (4, [.int (nI th), .ref (ad 1), .ref (ad 2), .ref (ad 3), .ref (ad 4), .int (nI ((S ++ [(h, n)]).length)), .ref (ad 6), .ref (ad 7), .ref (ad 8), .ref (ad 9), .ref (ad 10), .ref (ad 11), .ref (ad 12), .ref (ad 13), .ref (ad 14), .ref (ad 15), .ref (ad 16), .ref (ad 17), .ref (ad 18), .int (nI tol), .int (nI ts), .int (nI tf), .int (nI td), .ref (ad 23), .ref (ad 24), .ref (ad 25), .ref (ad 26)])), (ad 13, .inl (cI, 4, .inl fa)), (ad 14, .inl (cI, 16, .inl fr)), (ad 15, .inl (cI, 4, .inl fw)), (ad 16, .inl (cI, 4, .inl fh)), (ad 17, .inl (cI, 8, .inl fW)), (ad 18, .inl (cI, 8, .inl fV)), (ad 6, .inl (cJ, 20000, .inr (.inl (vp_updL f1 S.length (lN (pk1 (h, n))))))), (ad 7, .inl (cJ, 20000, .inr (.inl (vp_updL f2 S.length (lN (pk2 (h, n))))))), (ad 8, .inl (cI, 20000, .inl (upd ff S.length (nI ((dpt (fun j => F.getD j 0) pp) + 1))))), (ad 9, .inl (cI, 20000, .inl (upd fm S.length (nI pp)))), (ad 10, .inl (cI, 20000, .inl (upd fb S.length (nI k)))), (ad 11, .inl (cI, 20000, .inl (upd (upd fl x (nI S.length)) S.length ((-1))))), (ad 12, .inl (cI, 20000, .inl (upd fg S.length ((-1)))))]) [0, 1, 2, 3, 4, 5, 6, 7, 8, 9, 10, 11, 12, 13] (by decide) rfl ?_
                                exact z_iret X (t1 := .boolean) rfl rfl ((S ++ [(h, n)], F ++ [20 * pp + k], true), tput C true x S.length, vp_updL f1 S.length (lN (pk1 (h, n))), vp_updL f2 S.length (lN (pk2 (h, n))), upd ff S.length (nI ((dpt (fun j => F.getD j 0) pp) + 1)), upd fm S.length (nI pp), upd fb S.length (nI k), upd (upd fl x (nI S.length)) S.length ((-1)), upd fg S.length ((-1))) (⟨(bf_vis_new hnin (by omega)).symm, rfl, fun _ => rI_put (b := true) hI0 hx hwy (Or.inl ⟨rfl, hs⟩) hc hsq (by omega) hp hk⟩) rfl (Nat.le_of_ble_eq_true rfl) (Nat.le_of_ble_eq_true rfl) dX4_comes_281
                              · exact absurd h26 (i_nm1 (by omega))
                            · exact absurd hs (i_nle h25).1
                    · have hfull : S.length = 20000 := h21
                      have hnin : (h, n) ∉ S := tr_miss i8 hwy hcz hb
                      refine z_iconst X (v := nI 0) (pc' := 136) dX4_comes_135 (by decide) rfl ?_
                      refine z_ws (ws' := [(mo, .inr (4, [.int (nI th), .ref (ad 1), .ref (ad 2), .ref (ad 3), .ref (ad 4), .int (nI S.length), .ref (ad 6), .ref (ad 7), .ref (ad 8), .ref (ad 9), .ref (ad 10), .ref (ad 11), .ref (ad 12), .ref (ad 13), .ref (ad 14), .ref (ad 15), .ref (ad 16), .ref (ad 17), .ref (ad 18), .int (nI tol), .int (nI ts), .int (nI tf), .int (nI td), .ref (ad 23), .ref (ad 24), .ref (ad 25), .ref (ad 26)])), (ad 13, .inl (cI, 4, .inl fa)), (ad 14, .inl (cI, 16, .inl fr)), (ad 15, .inl (cI, 4, .inl fw)), (ad 16, .inl (cI, 4, .inl fh)), (ad 17, .inl (cI, 8, .inl fW)), (ad 18, .inl (cI, 8, .inl fV)), (ad 6, .inl (cJ, 20000, .inr (.inl f1))), (ad 7, .inl (cJ, 20000, .inr (.inl f2))), (ad 8, .inl (cI, 20000, .inl ff)), (ad 9, .inl (cI, 20000, .inl fm)), (ad 10, .inl (cI, 20000, .inl fb)), (ad 11, .inl (cI, 20000, .inl fl)), (ad 12, .inl (cI, 20000, .inl fg))]) [0, 1, 2, 3, 4, 5, 6, 7, 8, 9, 10, 11, 12, 13] (by decide) rfl ?_
                      exact z_iret X (t1 := .boolean) rfl rfl ((S, F, false), C, f1, f2, ff, fm, fb, fl, fg) (⟨(bf_vis_full hnin (by omega)).symm, rfl, fun g => absurd (show false = true from g) (by decide)⟩) rfl (Nat.le_of_ble_eq_true rfl) (Nat.le_of_ble_eq_true rfl) dX4_comes_136
                  · exact absurd h20 hb
              · exact absurd rfl h18
          · refine z_topi (y := nI (C true x)) (by rw [hcr, if_neg hc]) ?_
            have hch := tway_1 i8 hx hwy (by rw [chd_L hs]; exact hc)
            rw [chd_L hs] at hch
            refine z_goto X (tgt := 69) dX4_comes_59 (by decide) ?_
            · skip
              refine z_iconst X (v := (-1)) (pc' := 70) dX4_comes_69 (by decide) rfl ?_
              refine z_icmp_eq X (tgt := 111) (pc' := 73) dX4_comes_70 (by decide) rfl (fun h27 => ?_) (fun h27 => ?_)
              · exact absurd h27 (i_nm1 (by omega))
              · clear h27
                refine z_iload X (pc' := 75) dX4_comes_73 0 rfl rfl ?_
                refine z_if_ge X (tgt := 88) (pc' := 78) dX4_comes_75 (by decide) rfl (fun h28 => ?_) (fun h28 => ?_)
                · exact absurd hs (i_ge h28)
                · clear h28
                  refine z_aload_n X (pc' := 79) dX4_comes_78 rfl 4 rfl rfl ?_
                  refine z_get X (v := .ref (ad 11)) (pc' := 82) 0 rfl rfl inX4 11 (by decide) mF_X4_38 rfl dX4_comes_79 rfl ?_
                  refine z_iload X (pc' := 84) dX4_comes_82 1 rfl rfl ?_
                  refine z_iald X (pc' := 85) 12 0 rfl rfl (by omega) (by omega) dX4_comes_84 rfl ?_
                  refine z_topi (y := nI (C true x)) (by rw [hcr, if_neg hc]) ?_
                  refine z_goto X (tgt := 95) dX4_comes_85 (by decide) ?_
                  refine z_istore X (lv' := [(7, .int (nI (C true x))), (8, .int (bq (h, n) (S.getD x (0, 0)))), (3, .long (lN (pk1 (h, n)))), (5, .long (lN (pk2 (h, n)))), (0, .ref mo), (1, .int (nI pp)), (2, .int (nI k))]) (pc' := 97) dX4_comes_95 (by decide) rfl rfl ?_
                  refine z_aload_n X (pc' := 98) dX4_comes_97 rfl 4 rfl rfl ?_
                  refine z_lload_n X (pc' := 99) dX4_comes_98 rfl 2 rfl rfl ?_
                  refine z_lload X (pc' := 101) dX4_comes_99 3 rfl rfl ?_
                  refine z_iload X (pc' := 103) dX4_comes_101 0 rfl rfl ?_
                  refine z_callVi X (pc' := 106) (fun sz => r_beside l D cI cJ sz mo th S.length tol ts tf td ad (lN (pk1 (h, n))) (lN (pk2 (h, n))) (lN (pk1 (S.getD (C true x) (0, 0)))) (lN (pk2 (S.getD (C true x) (0, 0)))) (C true x) f1 f2 (by omega) (i4 (C true x) hch.2.2).1 (i4 (C true x) hch.2.2).2.1) (zcwV X TTg 3 mL_X4_120 mI_X4_beside mS_X4_beside mN_X4 mK_X4_beside rfl rfl (by decide +kernel) ⟨(Nat.le_of_ble_eq_true rfl), (Nat.le_of_ble_eq_true rfl)⟩) (wr := [(ad 13, .inl (cI, 4, .inl fa)), (ad 14, .inl (cI, 16, .inl fr)), (ad 15, .inl (cI, 4, .inl fw)), (ad 16, .inl (cI, 4, .inl fh)), (ad 17, .inl (cI, 8, .inl fW)), (ad 18, .inl (cI, 8, .inl fV)), (ad 8, .inl (cI, 20000, .inl ff)), (ad 9, .inl (cI, 20000, .inl fm)), (ad 10, .inl (cI, 20000, .inl fb)), (ad 11, .inl (cI, 20000, .inl fl)), (ad 12, .inl (cI, 20000, .inl fg))]) [0, 7, 8] [1, 2, 3, 4, 5, 6, 9, 10, 11, 12, 13] rfl rfl rfl rfl (by decide) 4 0 rfl rfl rfl rfl rfl (Nat.le_of_ble_eq_true rfl) dX4_comes_103 ⟨Nat.le_of_ble_eq_true rfl, Nat.le_of_ble_eq_true rfl⟩ rfl (fun r u hu => ?_)
                  have hu : r = bq (h, n) (S.getD (C true x) (0, 0)) := hu
                  subst hu
                  refine z_wse (ws' := [(ad 13, .inl (cI, 4, .inl fa)), (ad 14, .inl (cI, 16, .inl fr)), (ad 15, .inl (cI, 4, .inl fw)), (ad 16, .inl (cI, 4, .inl fh)), (ad 17, .inl (cI, 8, .inl fW)), (ad 18, .inl (cI, 8, .inl fV)), (ad 8, .inl (cI, 20000, .inl ff)), (ad 9, .inl (cI, 20000, .inl fm)), (ad 10, .inl (cI, 20000, .inl fb)), (ad 11, .inl (cI, 20000, .inl fl)), (ad 12, .inl (cI, 20000, .inl fg)), (mo, .inr (4, [.int (nI th), .ref (ad 1), .ref (ad 2), .ref (ad 3), .ref (ad 4), .int (nI S.length), .ref (ad 6), .ref (ad 7), .ref (ad 8), .ref (ad 9), .ref (ad 10), .ref (ad 11), .ref (ad 12), .ref (ad 13), .ref (ad 14), .ref (ad 15), .ref (ad 16), .ref (ad 17), .ref (ad 18), .int (nI tol), .int (nI ts), .int (nI tf), .int (nI td), .ref (ad 23), .ref (ad 24), .ref (ad 25), .ref (ad 26)])), (ad 6, .inl (cJ, 20000, .inr (.inl f1))), (ad 7, .inl (cJ, 20000, .inr (.inl f2)))]) rfl ?_
                  refine z_istore X (lv' := [(8, .int (bq (h, n) (S.getD (C true x) (0, 0)))), (7, .int (nI (C true x))), (3, .long (lN (pk1 (h, n)))), (5, .long (lN (pk2 (h, n)))), (0, .ref mo), (1, .int (nI pp)), (2, .int (nI k))]) (pc' := 108) dX4_comes_106 (by decide) rfl rfl ?_
                  refine z_goto X (tgt := 35) dX4_comes_108 (by decide) ?_
                  refine z_lv (lv' := [(8, .int (bq (h, n) (S.getD (C true x) (0, 0)))), (7, .int (nI (C true x))), (3, .long (lN (pk1 (h, n)))), (5, .long (lN (pk2 (h, n)))), (0, .ref mo), (1, .int (nI pp)), (2, .int (nI k))]) [0, 1, 2, 3, 4, 5, 6] rfl ?_
                  refine z_ws (ws' := [(mo, .inr (4, [.int (nI th), .ref (ad 1), .ref (ad 2), .ref (ad 3), .ref (ad 4), .int (nI S.length), .ref (ad 6), .ref (ad 7), .ref (ad 8), .ref (ad 9), .ref (ad 10), .ref (ad 11), .ref (ad 12), .ref (ad 13), .ref (ad 14), .ref (ad 15), .ref (ad 16), .ref (ad 17), .ref (ad 18), .int (nI tol), .int (nI ts), .int (nI tf), .int (nI td), .ref (ad 23), .ref (ad 24), .ref (ad 25), .ref (ad 26)])), (ad 13, .inl (cI, 4, .inl fa)), (ad 14, .inl (cI, 16, .inl fr)), (ad 15, .inl (cI, 4, .inl fw)), (ad 16, .inl (cI, 4, .inl fh)), (ad 17, .inl (cI, 8, .inl fW)), (ad 18, .inl (cI, 8, .inl fV)), (ad 6, .inl (cJ, 20000, .inr (.inl f1))), (ad 7, .inl (cJ, 20000, .inr (.inl f2))), (ad 8, .inl (cI, 20000, .inl ff)), (ad 9, .inl (cI, 20000, .inl fm)), (ad 10, .inl (cI, 20000, .inl fb)), (ad 11, .inl (cI, 20000, .inl fl)), (ad 12, .inl (cI, 20000, .inl fg))]) [11, 0, 1, 2, 3, 4, 5, 12, 13, 6, 7, 8, 9, 10] (by decide) rfl ?_
                  exact ih (C true x) ⟨hch.2.2, hch.1⟩ (by have := hch.2; omega)
  · exact absurd h1 (by omega)
set_option maxHeartbeats 4000000 in
set_option maxRecDepth 100000 in
/-- the first state comes -/
theorem r_comes0 (l : Launch) (D : va_G) (cI cJ : ClassId) (sz : Nat) (mo th tol ts tf td : Nat) (ad : Nat → Nat) (h n : Nat) (fa fr fw fh fW fV : Nat → Int32) (f1 f2 : Nat → Int64) (ff fm fb fl fg : Nat → Int32) (P : Nat → List Nat) (hS : Sok P h n) (hW : WS h n fa fr fw fh fW fV) : KI l D cI cJ yX4_comes cX4_comes 9 (some .boolean) 1 29 0 0 [.ref mo, .int ((-1)), .int ((-1))] [(mo, .inr (4, [.int (nI th), .ref (ad 1), .ref (ad 2), .ref (ad 3), .ref (ad 4), .int (nI 0), .ref (ad 6), .ref (ad 7), .ref (ad 8), .ref (ad 9), .ref (ad 10), .ref (ad 11), .ref (ad 12), .ref (ad 13), .ref (ad 14), .ref (ad 15), .ref (ad 16), .ref (ad 17), .ref (ad 18), .int (nI tol), .int (nI ts), .int (nI tf), .int (nI td), .ref (ad 23), .ref (ad 24), .ref (ad 25), .ref (ad 26)])), (ad 13, .inl (cI, 4, .inl fa)), (ad 14, .inl (cI, 16, .inl fr)), (ad 15, .inl (cI, 4, .inl fw)), (ad 16, .inl (cI, 4, .inl fh)), (ad 17, .inl (cI, 8, .inl fW)), (ad 18, .inl (cI, 8, .inl fV)), (ad 6, .inl (cJ, 20000, .inr (.inl f1))), (ad 7, .inl (cJ, 20000, .inr (.inl f2))), (ad 8, .inl (cI, 20000, .inl ff)), (ad 9, .inl (cI, 20000, .inl fm)), (ad 10, .inl (cI, 20000, .inl fb)), (ad 11, .inl (cI, 20000, .inl fl)), (ad 12, .inl (cI, 20000, .inl fg))] sz (S := RB) (fun r u => u.1 = ([(h, n)], [0], true) ∧ r = nI 1 ∧ rU u) (fun u => [(mo, .inr (4, [.int (nI th), .ref (ad 1), .ref (ad 2), .ref (ad 3), .ref (ad 4), .int (nI u.1.1.length), .ref (ad 6), .ref (ad 7), .ref (ad 8), .ref (ad 9), .ref (ad 10), .ref (ad 11), .ref (ad 12), .ref (ad 13), .ref (ad 14), .ref (ad 15), .ref (ad 16), .ref (ad 17), .ref (ad 18), .int (nI tol), .int (nI ts), .int (nI tf), .int (nI td), .ref (ad 23), .ref (ad 24), .ref (ad 25), .ref (ad 26)])), (ad 13, .inl (cI, 4, .inl fa)), (ad 14, .inl (cI, 16, .inl fr)), (ad 15, .inl (cI, 4, .inl fw)), (ad 16, .inl (cI, 4, .inl fh)), (ad 17, .inl (cI, 8, .inl fW)), (ad 18, .inl (cI, 8, .inl fV)), (ad 6, .inl (cJ, 20000, .inr (.inl u.2.2.1))), (ad 7, .inl (cJ, 20000, .inr (.inl u.2.2.2.1))), (ad 8, .inl (cI, 20000, .inl u.2.2.2.2.1)), (ad 9, .inl (cI, 20000, .inl u.2.2.2.2.2.1)), (ad 10, .inl (cI, 20000, .inl u.2.2.2.2.2.2.1)), (ad 11, .inl (cI, 20000, .inl u.2.2.2.2.2.2.2.1)), (ad 12, .inl (cI, 20000, .inl u.2.2.2.2.2.2.2.2))]) := by
  refine zMetI (lv := [(0, .ref mo), (1, .int ((-1))), (2, .int ((-1)))]) NS0_ok (by decide) rfl (Nat.le_of_ble_eq_true rfl) rfl ?_
  intro p e s m args below meth c A X hin hA
  refine z_aload_n X (pc' := 1) dX4_comes_0 rfl 0 rfl rfl ?_
  refine z_callVl X (pc' := 4) (fun sz => r_packed l D cI cJ sz mo th 0 tol ts tf td ad h n fa fr fw fh fW fV hS.1 hW) (zcwV X TTg 0 mL_X4_110 mI_X4_packed mS_X4_packed mN_X4 mK_X4_packed rfl rfl (by decide +kernel) ⟨(Nat.le_of_ble_eq_true rfl), (Nat.le_of_ble_eq_true rfl)⟩) (wr := [(ad 16, .inl (cI, 4, .inl fh)), (ad 17, .inl (cI, 8, .inl fW)), (ad 18, .inl (cI, 8, .inl fV)), (ad 6, .inl (cJ, 20000, .inr (.inl f1))), (ad 7, .inl (cJ, 20000, .inr (.inl f2))), (ad 8, .inl (cI, 20000, .inl ff)), (ad 9, .inl (cI, 20000, .inl fm)), (ad 10, .inl (cI, 20000, .inl fb)), (ad 11, .inl (cI, 20000, .inl fl)), (ad 12, .inl (cI, 20000, .inl fg))]) [0, 1, 2, 3] [4, 5, 6, 7, 8, 9, 10, 11, 12, 13] rfl rfl rfl rfl (by decide) 4 0 rfl rfl rfl rfl rfl (Nat.le_of_ble_eq_true rfl) dX4_comes_1 ⟨Nat.le_of_ble_eq_true rfl, Nat.le_of_ble_eq_true rfl⟩ rfl (fun r u hu => ?_)
  have hu : r = lN (pk1 (h, n)) := hu
  subst hu
  refine z_wse (ws' := [(ad 16, .inl (cI, 4, .inl fh)), (ad 17, .inl (cI, 8, .inl fW)), (ad 18, .inl (cI, 8, .inl fV)), (ad 6, .inl (cJ, 20000, .inr (.inl f1))), (ad 7, .inl (cJ, 20000, .inr (.inl f2))), (ad 8, .inl (cI, 20000, .inl ff)), (ad 9, .inl (cI, 20000, .inl fm)), (ad 10, .inl (cI, 20000, .inl fb)), (ad 11, .inl (cI, 20000, .inl fl)), (ad 12, .inl (cI, 20000, .inl fg)), (mo, .inr (4, [.int (nI th), .ref (ad 1), .ref (ad 2), .ref (ad 3), .ref (ad 4), .int (nI 0), .ref (ad 6), .ref (ad 7), .ref (ad 8), .ref (ad 9), .ref (ad 10), .ref (ad 11), .ref (ad 12), .ref (ad 13), .ref (ad 14), .ref (ad 15), .ref (ad 16), .ref (ad 17), .ref (ad 18), .int (nI tol), .int (nI ts), .int (nI tf), .int (nI td), .ref (ad 23), .ref (ad 24), .ref (ad 25), .ref (ad 26)])), (ad 13, .inl (cI, 4, .inl fa)), (ad 14, .inl (cI, 16, .inl fr)), (ad 15, .inl (cI, 4, .inl fw))]) rfl ?_
  refine z_lstore_n X (lv' := [(3, .long (lN (pk1 (h, n)))), (0, .ref mo), (1, .int ((-1))), (2, .int ((-1)))]) (pc' := 5) dX4_comes_4 rfl (by decide) rfl rfl ?_
  refine z_aload_n X (pc' := 6) dX4_comes_5 rfl 1 rfl rfl ?_
  refine z_callVl X (pc' := 9) (fun sz => r_buffered l D cI cJ sz mo th 0 tol ts tf td ad h n fa fr fw fh fW fV (fun t ht => (hS.2.2 t ht).1) hW) (zcwV X TTg 0 mL_X4_114 mI_X4_buffered mS_X4_buffered mN_X4 mK_X4_buffered rfl rfl (by decide +kernel) ⟨(Nat.le_of_ble_eq_true rfl), (Nat.le_of_ble_eq_true rfl)⟩) (wr := [(ad 6, .inl (cJ, 20000, .inr (.inl f1))), (ad 7, .inl (cJ, 20000, .inr (.inl f2))), (ad 8, .inl (cI, 20000, .inl ff)), (ad 9, .inl (cI, 20000, .inl fm)), (ad 10, .inl (cI, 20000, .inl fb)), (ad 11, .inl (cI, 20000, .inl fl)), (ad 12, .inl (cI, 20000, .inl fg)), (ad 13, .inl (cI, 4, .inl fa)), (ad 14, .inl (cI, 16, .inl fr)), (ad 15, .inl (cI, 4, .inl fw))]) [10, 0, 1, 2] [3, 4, 5, 6, 7, 8, 9, 11, 12, 13] rfl rfl rfl rfl (by decide) 4 10 rfl rfl rfl rfl rfl (Nat.le_of_ble_eq_true rfl) dX4_comes_6 ⟨Nat.le_of_ble_eq_true rfl, Nat.le_of_ble_eq_true rfl⟩ rfl (fun r u hu => ?_)
  have hu : r = lN (pk2 (h, n)) := hu
  subst hu
  refine z_wse (ws' := [(ad 6, .inl (cJ, 20000, .inr (.inl f1))), (ad 7, .inl (cJ, 20000, .inr (.inl f2))), (ad 8, .inl (cI, 20000, .inl ff)), (ad 9, .inl (cI, 20000, .inl fm)), (ad 10, .inl (cI, 20000, .inl fb)), (ad 11, .inl (cI, 20000, .inl fl)), (ad 12, .inl (cI, 20000, .inl fg)), (ad 13, .inl (cI, 4, .inl fa)), (ad 14, .inl (cI, 16, .inl fr)), (ad 15, .inl (cI, 4, .inl fw)), (mo, .inr (4, [.int (nI th), .ref (ad 1), .ref (ad 2), .ref (ad 3), .ref (ad 4), .int (nI 0), .ref (ad 6), .ref (ad 7), .ref (ad 8), .ref (ad 9), .ref (ad 10), .ref (ad 11), .ref (ad 12), .ref (ad 13), .ref (ad 14), .ref (ad 15), .ref (ad 16), .ref (ad 17), .ref (ad 18), .int (nI tol), .int (nI ts), .int (nI tf), .int (nI td), .ref (ad 23), .ref (ad 24), .ref (ad 25), .ref (ad 26)])), (ad 16, .inl (cI, 4, .inl fh)), (ad 17, .inl (cI, 8, .inl fW)), (ad 18, .inl (cI, 8, .inl fV))]) rfl ?_
  refine z_lstore X (lv' := [(5, .long (lN (pk2 (h, n)))), (3, .long (lN (pk1 (h, n)))), (0, .ref mo), (1, .int ((-1))), (2, .int ((-1)))]) (pc' := 11) dX4_comes_9 (by decide) rfl rfl ?_
  refine z_iconst X (v := nI 0) (pc' := 12) dX4_comes_11 (by decide) rfl ?_
  refine z_istore X (lv' := [(7, .int (nI 0)), (5, .long (lN (pk2 (h, n)))), (3, .long (lN (pk1 (h, n)))), (0, .ref mo), (1, .int ((-1))), (2, .int ((-1)))]) (pc' := 14) dX4_comes_12 (by decide) rfl rfl ?_
  refine z_aload_n X (pc' := 15) dX4_comes_14 rfl 3 rfl rfl ?_
  refine z_get X (v := .int (nI 0)) (pc' := 18) 10 rfl rfl inX4 5 (by decide) mF_X4_117 rfl dX4_comes_15 rfl ?_
  refine z_if_neN X (tgt := 25) (pc' := 21) (by decide) dX4_comes_18 (by decide) rfl (fun h1 => ?_) (fun h1 => ?_)
  · exact absurd h1 (by decide)
  · clear h1
    refine z_iconst X (v := nI 0) (pc' := 22) dX4_comes_21 (by decide) rfl ?_
    refine z_goto X (tgt := 33) dX4_comes_22 (by decide) ?_
    refine z_istore X (lv' := [(8, .int (nI 0)), (7, .int (nI 0)), (5, .long (lN (pk2 (h, n)))), (3, .long (lN (pk1 (h, n)))), (0, .ref mo), (1, .int ((-1))), (2, .int ((-1)))]) (pc' := 35) dX4_comes_33 (by decide) rfl rfl ?_
    refine z_aload_n X (pc' := 36) dX4_comes_35 rfl 4 rfl rfl ?_
    refine z_get X (v := .int (nI 0)) (pc' := 39) 10 rfl rfl inX4 5 (by decide) mF_X4_117 rfl dX4_comes_36 rfl ?_
    refine z_if_leN X (tgt := 111) (pc' := 42) (by decide) dX4_comes_39 (by decide) rfl (fun h2 => ?_) (fun h2 => ?_)
    · clear h2
      refine z_aload_n X (pc' := 112) dX4_comes_111 rfl 4 rfl rfl ?_
      refine z_get X (v := .int (nI 0)) (pc' := 115) 10 rfl rfl inX4 5 (by decide) mF_X4_117 rfl dX4_comes_112 rfl ?_
      refine z_if_leN X (tgt := 125) (pc' := 118) (by decide) dX4_comes_115 (by decide) rfl (fun h3 => ?_) (fun h3 => ?_)
      · clear h3
        refine z_aload_n X (pc' := 126) dX4_comes_125 rfl 4 rfl rfl ?_
        refine z_get X (v := .int (nI 0)) (pc' := 129) 10 rfl rfl inX4 5 (by decide) mF_X4_117 rfl dX4_comes_126 rfl ?_
        refine z_sipush X (v := nI 20000) (pc' := 132) dX4_comes_129 (by decide) rfl ?_
        refine z_icmp_neN X (tgt := 137) (pc' := 135) (by decide) (by decide) dX4_comes_132 (by decide) rfl (fun h4 => ?_) (fun h4 => ?_)
        · clear h4
          refine z_aload_n X (pc' := 138) dX4_comes_137 rfl 4 rfl rfl ?_
          refine z_get X (v := .int (nI 0)) (pc' := 141) 10 rfl rfl inX4 5 (by decide) mF_X4_117 rfl dX4_comes_138 rfl ?_
          refine z_if_leN X (tgt := 160) (pc' := 144) (by decide) dX4_comes_141 (by decide) rfl (fun h5 => ?_) (fun h5 => ?_)
          · clear h5
            refine z_aload_n X (pc' := 161) dX4_comes_160 rfl 4 rfl rfl ?_
            refine z_get X (v := .int (nI 0)) (pc' := 164) 10 rfl rfl inX4 5 (by decide) mF_X4_117 rfl dX4_comes_161 rfl ?_
            refine z_if_leN X (tgt := 183) (pc' := 167) (by decide) dX4_comes_164 (by decide) rfl (fun h6 => ?_) (fun h6 => ?_)
            · clear h6
              refine z_aload_n X (pc' := 184) dX4_comes_183 rfl 4 rfl rfl ?_
              refine z_get X (v := .ref (ad 6)) (pc' := 187) 10 rfl rfl inX4 6 (by decide) mF_X4_22 rfl dX4_comes_184 rfl ?_
              refine z_aload_n X (pc' := 188) dX4_comes_187 rfl 4 rfl rfl ?_
              refine z_get X (v := .int (nI 0)) (pc' := 191) 10 rfl rfl inX4 5 (by decide) mF_X4_117 rfl dX4_comes_188 rfl ?_
              refine z_lload_n X (pc' := 192) dX4_comes_191 rfl 3 rfl rfl ?_
              refine z_last X (ws' := [(ad 6, .inl (cJ, 20000, .inr (.inl (vp_updL f1 0 (lN (pk1 (h, n))))))), (ad 7, .inl (cJ, 20000, .inr (.inl f2))), (ad 8, .inl (cI, 20000, .inl ff)), (ad 9, .inl (cI, 20000, .inl fm)), (ad 10, .inl (cI, 20000, .inl fb)), (ad 11, .inl (cI, 20000, .inl fl)), (ad 12, .inl (cI, 20000, .inl fg)), (ad 13, .inl (cI, 4, .inl fa)), (ad 14, .inl (cI, 16, .inl fr)), (ad 15, .inl (cI, 4, .inl fw)), (mo, .inr (4, [.int (nI th), .ref (ad 1), .ref (ad 2), .ref (ad 3), .ref (ad 4), .int (nI 0), .ref (ad 6), .ref (ad 7), .ref (ad 8), .ref (ad 9), .ref (ad 10), .ref (ad 11), .ref (ad 12), .ref (ad 13), .ref (ad 14), .ref (ad 15), .ref (ad 16), .ref (ad 17), .ref (ad 18), .int (nI tol), .int (nI ts), .int (nI tf), .int (nI td), .ref (ad 23), .ref (ad 24), .ref (ad 25), .ref (ad 26)])), (ad 16, .inl (cI, 4, .inl fh)), (ad 17, .inl (cI, 8, .inl fW)), (ad 18, .inl (cI, 8, .inl fV))]) (pc' := 193) 0 1 rfl rfl (by omega) (by omega) dX4_comes_192 rfl rfl ?_
              refine z_aload_n X (pc' := 194) dX4_comes_193 rfl 4 rfl rfl ?_
              refine z_get X (v := .ref (ad 7)) (pc' := 197) 10 rfl rfl inX4 7 (by decide) mF_X4_26 rfl dX4_comes_194 rfl ?_
              refine z_aload_n X (pc' := 198) dX4_comes_197 rfl 4 rfl rfl ?_
              refine z_get X (v := .int (nI 0)) (pc' := 201) 10 rfl rfl inX4 5 (by decide) mF_X4_117 rfl dX4_comes_198 rfl ?_
              refine z_lload X (pc' := 203) dX4_comes_201 2 rfl rfl ?_
              refine z_last X (ws' := [(ad 6, .inl (cJ, 20000, .inr (.inl (vp_updL f1 0 (lN (pk1 (h, n))))))), (ad 7, .inl (cJ, 20000, .inr (.inl (vp_updL f2 0 (lN (pk2 (h, n))))))), (ad 8, .inl (cI, 20000, .inl ff)), (ad 9, .inl (cI, 20000, .inl fm)), (ad 10, .inl (cI, 20000, .inl fb)), (ad 11, .inl (cI, 20000, .inl fl)), (ad 12, .inl (cI, 20000, .inl fg)), (ad 13, .inl (cI, 4, .inl fa)), (ad 14, .inl (cI, 16, .inl fr)), (ad 15, .inl (cI, 4, .inl fw)), (mo, .inr (4, [.int (nI th), .ref (ad 1), .ref (ad 2), .ref (ad 3), .ref (ad 4), .int (nI 0), .ref (ad 6), .ref (ad 7), .ref (ad 8), .ref (ad 9), .ref (ad 10), .ref (ad 11), .ref (ad 12), .ref (ad 13), .ref (ad 14), .ref (ad 15), .ref (ad 16), .ref (ad 17), .ref (ad 18), .int (nI tol), .int (nI ts), .int (nI tf), .int (nI td), .ref (ad 23), .ref (ad 24), .ref (ad 25), .ref (ad 26)])), (ad 16, .inl (cI, 4, .inl fh)), (ad 17, .inl (cI, 8, .inl fW)), (ad 18, .inl (cI, 8, .inl fV))]) (pc' := 204) 1 1 rfl rfl (by omega) (by omega) dX4_comes_203 rfl rfl ?_
              refine z_aload_n X (pc' := 205) dX4_comes_204 rfl 4 rfl rfl ?_
              refine z_get X (v := .ref (ad 11)) (pc' := 208) 10 rfl rfl inX4 11 (by decide) mF_X4_38 rfl dX4_comes_205 rfl ?_
              refine z_aload_n X (pc' := 209) dX4_comes_208 rfl 4 rfl rfl ?_
              refine z_get X (v := .int (nI 0)) (pc' := 212) 10 rfl rfl inX4 5 (by decide) mF_X4_117 rfl dX4_comes_209 rfl ?_
              refine z_iconst X (v := (-1)) (pc' := 213) dX4_comes_212 (by decide) rfl ?_
              refine z_iast X (ws' := [(ad 6, .inl (cJ, 20000, .inr (.inl (vp_updL f1 0 (lN (pk1 (h, n))))))), (ad 7, .inl (cJ, 20000, .inr (.inl (vp_updL f2 0 (lN (pk2 (h, n))))))), (ad 8, .inl (cI, 20000, .inl ff)), (ad 9, .inl (cI, 20000, .inl fm)), (ad 10, .inl (cI, 20000, .inl fb)), (ad 11, .inl (cI, 20000, .inl (upd fl 0 ((-1))))), (ad 12, .inl (cI, 20000, .inl fg)), (ad 13, .inl (cI, 4, .inl fa)), (ad 14, .inl (cI, 16, .inl fr)), (ad 15, .inl (cI, 4, .inl fw)), (mo, .inr (4, [.int (nI th), .ref (ad 1), .ref (ad 2), .ref (ad 3), .ref (ad 4), .int (nI 0), .ref (ad 6), .ref (ad 7), .ref (ad 8), .ref (ad 9), .ref (ad 10), .ref (ad 11), .ref (ad 12), .ref (ad 13), .ref (ad 14), .ref (ad 15), .ref (ad 16), .ref (ad 17), .ref (ad 18), .int (nI tol), .int (nI ts), .int (nI tf), .int (nI td), .ref (ad 23), .ref (ad 24), .ref (ad 25), .ref (ad 26)])), (ad 16, .inl (cI, 4, .inl fh)), (ad 17, .inl (cI, 8, .inl fW)), (ad 18, .inl (cI, 8, .inl fV))]) (pc' := 214) 5 0 rfl rfl (by omega) (by omega) dX4_comes_213 rfl rfl ?_
              refine z_aload_n X (pc' := 215) dX4_comes_214 rfl 4 rfl rfl ?_
              refine z_get X (v := .ref (ad 12)) (pc' := 218) 10 rfl rfl inX4 12 (by decide) mF_X4_41 rfl dX4_comes_215 rfl ?_
              refine z_aload_n X (pc' := 219) dX4_comes_218 rfl 4 rfl rfl ?_
              refine z_get X (v := .int (nI 0)) (pc' := 222) 10 rfl rfl inX4 5 (by decide) mF_X4_117 rfl dX4_comes_219 rfl ?_
              refine z_iconst X (v := (-1)) (pc' := 223) dX4_comes_222 (by decide) rfl ?_
              refine z_iast X (ws' := [(ad 6, .inl (cJ, 20000, .inr (.inl (vp_updL f1 0 (lN (pk1 (h, n))))))), (ad 7, .inl (cJ, 20000, .inr (.inl (vp_updL f2 0 (lN (pk2 (h, n))))))), (ad 8, .inl (cI, 20000, .inl ff)), (ad 9, .inl (cI, 20000, .inl fm)), (ad 10, .inl (cI, 20000, .inl fb)), (ad 11, .inl (cI, 20000, .inl (upd fl 0 ((-1))))), (ad 12, .inl (cI, 20000, .inl (upd fg 0 ((-1))))), (ad 13, .inl (cI, 4, .inl fa)), (ad 14, .inl (cI, 16, .inl fr)), (ad 15, .inl (cI, 4, .inl fw)), (mo, .inr (4, [.int (nI th), .ref (ad 1), .ref (ad 2), .ref (ad 3), .ref (ad 4), .int (nI 0), .ref (ad 6), .ref (ad 7), .ref (ad 8), .ref (ad 9), .ref (ad 10), .ref (ad 11), .ref (ad 12), .ref (ad 13), .ref (ad 14), .ref (ad 15), .ref (ad 16), .ref (ad 17), .ref (ad 18), .int (nI tol), .int (nI ts), .int (nI tf), .int (nI td), .ref (ad 23), .ref (ad 24), .ref (ad 25), .ref (ad 26)])), (ad 16, .inl (cI, 4, .inl fh)), (ad 17, .inl (cI, 8, .inl fW)), (ad 18, .inl (cI, 8, .inl fV))]) (pc' := 224) 6 0 rfl rfl (by omega) (by omega) dX4_comes_223 rfl rfl ?_
              refine z_aload_n X (pc' := 225) dX4_comes_224 rfl 4 rfl rfl ?_
              refine z_get X (v := .ref (ad 9)) (pc' := 228) 10 rfl rfl inX4 9 (by decide) mF_X4_32 rfl dX4_comes_225 rfl ?_
              refine z_aload_n X (pc' := 229) dX4_comes_228 rfl 4 rfl rfl ?_
              refine z_get X (v := .int (nI 0)) (pc' := 232) 10 rfl rfl inX4 5 (by decide) mF_X4_117 rfl dX4_comes_229 rfl ?_
              refine z_iload_n X (pc' := 233) dX4_comes_232 rfl 5 rfl rfl ?_
              refine z_iast X (ws' := [(ad 6, .inl (cJ, 20000, .inr (.inl (vp_updL f1 0 (lN (pk1 (h, n))))))), (ad 7, .inl (cJ, 20000, .inr (.inl (vp_updL f2 0 (lN (pk2 (h, n))))))), (ad 8, .inl (cI, 20000, .inl ff)), (ad 9, .inl (cI, 20000, .inl (upd fm 0 ((-1))))), (ad 10, .inl (cI, 20000, .inl fb)), (ad 11, .inl (cI, 20000, .inl (upd fl 0 ((-1))))), (ad 12, .inl (cI, 20000, .inl (upd fg 0 ((-1))))), (ad 13, .inl (cI, 4, .inl fa)), (ad 14, .inl (cI, 16, .inl fr)), (ad 15, .inl (cI, 4, .inl fw)), (mo, .inr (4, [.int (nI th), .ref (ad 1), .ref (ad 2), .ref (ad 3), .ref (ad 4), .int (nI 0), .ref (ad 6), .ref (ad 7), .ref (ad 8), .ref (ad 9), .ref (ad 10), .ref (ad 11), .ref (ad 12), .ref (ad 13), .ref (ad 14), .ref (ad 15), .ref (ad 16), .ref (ad 17), .ref (ad 18), .int (nI tol), .int (nI ts), .int (nI tf), .int (nI td), .ref (ad 23), .ref (ad 24), .ref (ad 25), .ref (ad 26)])), (ad 16, .inl (cI, 4, .inl fh)), (ad 17, .inl (cI, 8, .inl fW)), (ad 18, .inl (cI, 8, .inl fV))]) (pc' := 234) 3 0 rfl rfl (by omega) (by omega) dX4_comes_233 rfl rfl ?_
              refine z_aload_n X (pc' := 235) dX4_comes_234 rfl 4 rfl rfl ?_
              refine z_get X (v := .ref (ad 10)) (pc' := 238) 10 rfl rfl inX4 10 (by decide) mF_X4_35 rfl dX4_comes_235 rfl ?_
              refine z_aload_n X (pc' := 239) dX4_comes_238 rfl 4 rfl rfl ?_
              refine z_get X (v := .int (nI 0)) (pc' := 242) 10 rfl rfl inX4 5 (by decide) mF_X4_117 rfl dX4_comes_239 rfl ?_
              refine z_iload_n X (pc' := 243) dX4_comes_242 rfl 6 rfl rfl ?_
              refine z_iast X (ws' := [(ad 6, .inl (cJ, 20000, .inr (.inl (vp_updL f1 0 (lN (pk1 (h, n))))))), (ad 7, .inl (cJ, 20000, .inr (.inl (vp_updL f2 0 (lN (pk2 (h, n))))))), (ad 8, .inl (cI, 20000, .inl ff)), (ad 9, .inl (cI, 20000, .inl (upd fm 0 ((-1))))), (ad 10, .inl (cI, 20000, .inl (upd fb 0 ((-1))))), (ad 11, .inl (cI, 20000, .inl (upd fl 0 ((-1))))), (ad 12, .inl (cI, 20000, .inl (upd fg 0 ((-1))))), (ad 13, .inl (cI, 4, .inl fa)), (ad 14, .inl (cI, 16, .inl fr)), (ad 15, .inl (cI, 4, .inl fw)), (mo, .inr (4, [.int (nI th), .ref (ad 1), .ref (ad 2), .ref (ad 3), .ref (ad 4), .int (nI 0), .ref (ad 6), .ref (ad 7), .ref (ad 8), .ref (ad 9), .ref (ad 10), .ref (ad 11), .ref (ad 12), .ref (ad 13), .ref (ad 14), .ref (ad 15), .ref (ad 16), .ref (ad 17), .ref (ad 18), .int (nI tol), .int (nI ts), .int (nI tf), .int (nI td), .ref (ad 23), .ref (ad 24), .ref (ad 25), .ref (ad 26)])), (ad 16, .inl (cI, 4, .inl fh)), (ad 17, .inl (cI, 8, .inl fW)), (ad 18, .inl (cI, 8, .inl fV))]) (pc' := 244) 4 0 rfl rfl (by omega) (by omega) dX4_comes_243 rfl rfl ?_
              refine z_aload_n X (pc' := 245) dX4_comes_244 rfl 4 rfl rfl ?_
              refine z_get X (v := .ref (ad 8)) (pc' := 248) 10 rfl rfl inX4 8 (by decide) mF_X4_29 rfl dX4_comes_245 rfl ?_
              refine z_aload_n X (pc' := 249) dX4_comes_248 rfl 4 rfl rfl ?_
              refine z_get X (v := .int (nI 0)) (pc' := 252) 10 rfl rfl inX4 5 (by decide) mF_X4_117 rfl dX4_comes_249 rfl ?_
              refine z_iload_n X (pc' := 253) dX4_comes_252 rfl 5 rfl rfl ?_
              refine z_iconst X (v := (-1)) (pc' := 254) dX4_comes_253 (by decide) rfl ?_
              refine z_icmp_ne X (tgt := 261) (pc' := 257) dX4_comes_254 (by decide) rfl (fun h7 => ?_) (fun h7 => ?_)
              · exact absurd rfl h7
              · clear h7
                refine z_iconst X (v := nI 0) (pc' := 258) dX4_comes_257 (by decide) rfl ?_
                refine z_goto X (tgt := 269) dX4_comes_258 (by decide) ?_
                refine z_iast X (ws' := [(ad 6, .inl (cJ, 20000, .inr (.inl (vp_updL f1 0 (lN (pk1 (h, n))))))), (ad 7, .inl (cJ, 20000, .inr (.inl (vp_updL f2 0 (lN (pk2 (h, n))))))), (ad 8, .inl (cI, 20000, .inl (upd ff 0 (nI 0)))), (ad 9, .inl (cI, 20000, .inl (upd fm 0 ((-1))))), (ad 10, .inl (cI, 20000, .inl (upd fb 0 ((-1))))), (ad 11, .inl (cI, 20000, .inl (upd fl 0 ((-1))))), (ad 12, .inl (cI, 20000, .inl (upd fg 0 ((-1))))), (ad 13, .inl (cI, 4, .inl fa)), (ad 14, .inl (cI, 16, .inl fr)), (ad 15, .inl (cI, 4, .inl fw)), (mo, .inr (4, [.int (nI th), .ref (ad 1), .ref (ad 2), .ref (ad 3), .ref (ad 4), .int (nI 0), .ref (ad 6), .ref (ad 7), .ref (ad 8), .ref (ad 9), .ref (ad 10), .ref (ad 11), .ref (ad 12), .ref (ad 13), .ref (ad 14), .ref (ad 15), .ref (ad 16), .ref (ad 17), .ref (ad 18), .int (nI tol), .int (nI ts), .int (nI tf), .int (nI td), .ref (ad 23), .ref (ad 24), .ref (ad 25), .ref (ad 26)])), (ad 16, .inl (cI, 4, .inl fh)), (ad 17, .inl (cI, 8, .inl fW)), (ad 18, .inl (cI, 8, .inl fV))]) (pc' := 270) 2 0 rfl rfl (by omega) (by omega) dX4_comes_269 rfl rfl ?_
                refine z_aload_n X (pc' := 271) dX4_comes_270 rfl 4 rfl rfl ?_
                refine z_dup X (pc' := 272) dX4_comes_271 rfl rfl ?_
                refine z_get X (v := .int (nI 0)) (pc' := 275) 10 rfl rfl inX4 5 (by decide) mF_X4_117 rfl dX4_comes_272 rfl ?_
                refine z_iconst X (v := nI 1) (pc' := 276) dX4_comes_275 (by decide) rfl ?_
                refine z_iadd X (pc' := 277) dX4_comes_276 rfl ?_
                refine z_topi (y := nI (0 + 1)) (nI_add _ _) ?_
                refine z_put X (t1 := .int) (ws' := [(ad 6, .inl (cJ, 20000, .inr (.inl (vp_updL f1 0 (lN (pk1 (h, n))))))), (ad 7, .inl (cJ, 20000, .inr (.inl (vp_updL f2 0 (lN (pk2 (h, n))))))), (ad 8, .inl (cI, 20000, .inl (upd ff 0 (nI 0)))), (ad 9, .inl (cI, 20000, .inl (upd fm 0 ((-1))))), (ad 10, .inl (cI, 20000, .inl (upd fb 0 ((-1))))), (ad 11, .inl (cI, 20000, .inl (upd fl 0 ((-1))))), (ad 12, .inl (cI, 20000, .inl (upd fg 0 ((-1))))), (ad 13, .inl (cI, 4, .inl fa)), (ad 14, .inl (cI, 16, .inl fr)), (ad 15, .inl (cI, 4, .inl fw)), (mo, .inr (4, [.int (nI th), .ref (ad 1), .ref (ad 2), .ref (ad 3), .ref (ad 4), .int (nI (0 + 1)), .ref (ad 6), .ref (ad 7), .ref (ad 8), .ref (ad 9), .ref (ad 10), .ref (ad 11), .ref (ad 12), .ref (ad 13), .ref (ad 14), .ref (ad 15), .ref (ad 16), .ref (ad 17), .ref (ad 18), .int (nI tol), .int (nI ts), .int (nI tf), .int (nI td), .ref (ad 23), .ref (ad 24), .ref (ad 25), .ref (ad 26)])), (ad 16, .inl (cI, 4, .inl fh)), (ad 17, .inl (cI, 8, .inl fW)), (ad 18, .inl (cI, 8, .inl fV))]) (pc' := 280) 10 rfl rfl inX4 tyX4 tyX4_ok nmX4 5 (by decide) mF_X4_117 rfl (by decide +kernel) rfl rfl (Nat.le_of_ble_eq_true rfl) dX4_comes_277 rfl rfl ?_
                refine z_iconst X (v := nI 1) (pc' := 281) dX4_comes_280 (by decide) rfl ?_
                refine z_ws (ws' := [(mo, .inr (4, [.int (nI th), .ref (ad 1), .ref (ad 2), .ref (ad 3), .ref (ad 4), .int (nI (0 + 1)), .ref (ad 6), .ref (ad 7), .ref (ad 8), .ref (ad 9), .ref (ad 10), .ref (ad 11), .ref (ad 12), .ref (ad 13), .ref (ad 14), .ref (ad 15), .ref (ad 16), .ref (ad 17), .ref (ad 18), .int (nI tol), .int (nI ts), .int (nI tf), .int (nI td), .ref (ad 23), .ref (ad 24), .ref (ad 25), .ref (ad 26)])), (ad 13, .inl (cI, 4, .inl fa)), (ad 14, .inl (cI, 16, .inl fr)), (ad 15, .inl (cI, 4, .inl fw)), (ad 16, .inl (cI, 4, .inl fh)), (ad 17, .inl (cI, 8, .inl fW)), (ad 18, .inl (cI, 8, .inl fV)), (ad 6, .inl (cJ, 20000, .inr (.inl (vp_updL f1 0 (lN (pk1 (h, n))))))), (ad 7, .inl (cJ, 20000, .inr (.inl (vp_updL f2 0 (lN (pk2 (h, n))))))), (ad 8, .inl (cI, 20000, .inl (upd ff 0 (nI 0)))), (ad 9, .inl (cI, 20000, .inl (upd fm 0 ((-1))))), (ad 10, .inl (cI, 20000, .inl (upd fb 0 ((-1))))), (ad 11, .inl (cI, 20000, .inl (upd fl 0 ((-1))))), (ad 12, .inl (cI, 20000, .inl (upd fg 0 ((-1)))))]) [10, 7, 8, 9, 11, 12, 13, 0, 1, 2, 3, 4, 5, 6] (by decide) rfl ?_
                exact z_iret X (t1 := .boolean) rfl rfl (([(h, n)], [0], true), (fun _ _ => 0), vp_updL f1 0 (lN (pk1 (h, n))), vp_updL f2 0 (lN (pk2 (h, n))), upd ff 0 (nI 0), upd fm 0 ((-1)), upd fb 0 ((-1)), upd fl 0 ((-1)), upd fg 0 ((-1))) (⟨rfl, rfl, rI_one ⟨hS.1, hS.2.1⟩⟩) rfl (Nat.le_of_ble_eq_true rfl) (Nat.le_of_ble_eq_true rfl) dX4_comes_281
            · exact absurd h6 (by decide)
          · exact absurd h5 (by decide)
        · exact absurd h4 (by decide)
      · exact absurd h3 (by decide)
    · exact absurd h2 (by decide)


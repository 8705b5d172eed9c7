theorem ll_dv {X b j j' k : Nat} (hX : X < 2 ^ 63) (hk : k < 64) (hb : b = 2 ^ k) (hj : j' = j + 1) : lN (X / b ^ j) >>> ((nI k).toInt64 &&& 63) = lN (X / b ^ j') := by
  rw [ll_sar (Nat.lt_of_le_of_lt (Nat.div_le_self _ _) hX) hk, Nat.div_div_eq_div_mul, hj, Nat.pow_succ, ← hb]
theorem ll_dl {X v : Nat} (k : Nat) (hk : k ≤ 31) (h : X % 2 ^ k = v) : (lN X &&& lN (2 ^ k - 1)).toInt32 = nI v := by rw [ll_low X hk, h]
theorem dn_step {g : Nat → Int32} {v : Nat → Nat} {c m : Nat} (h : ∀ i, c ≤ i → i < m → g i = nI (v i)) : ∀ i, c - 1 ≤ i → i < m → upd g (c - 1) (nI (v (c - 1))) i = nI (v i) := by
  intro i h1 h2
  by_cases e : i = c - 1
  · rw [e, pk_us]
  · rw [pk_un e]; exact h i (by omega) h2
def sp4 (n c : Nat) (gh gW gV : Nat → Int32) : Prop := ∀ t, c ≤ t → t < 4 → gh t = nI (wt (ml n t)) ∧ ∀ k, k < 2 → gW (2 * t + k) = nI (en (ml n t) k / 4) ∧ gV (2 * t + k) = nI (en (ml n t) k % 4)
theorem sp4_step {n c : Nat} {gh gW gV : Nat → Int32} (h : sp4 n c gh gW gV) (h0 : 0 < c) : sp4 n (c - 1) (upd gh (c - 1) (nI (wt (ml n (c - 1))))) (upd (upd gW (2 * (c - 1) + 1) (nI (en (ml n (c - 1)) 1 / 4))) (2 * (c - 1)) (nI (en (ml n (c - 1)) 0 / 4))) (upd (upd gV (2 * (c - 1) + 1) (nI (en (ml n (c - 1)) 1 % 4))) (2 * (c - 1)) (nI (en (ml n (c - 1)) 0 % 4))) := by
  intro t h1 h2
  by_cases e : t = c - 1
  · subst e
    refine ⟨pk_us, fun k hk => ?_⟩
    rcases (show k = 0 ∨ k = 1 by omega) with rfl | rfl
    · rw [Nat.add_zero]; exact ⟨pk_us, pk_us⟩
    · rw [pk_un (by omega), pk_us, pk_un (by omega), pk_us]; exact ⟨rfl, rfl⟩
  · have := h t (by omega) h2
    refine ⟨by rw [pk_un e]; exact this.1, fun k hk => ?_⟩
    rw [pk_un (by omega), pk_un (by omega), pk_un (by omega), pk_un (by omega)]
    exact this.2 k hk
theorem i_dec_lt {n : Nat} (h : n < 2 ^ 30) : nI n - nI 1 < nI n := by
  rw [Int32.lt_iff_toInt_lt, pk_sub_toInt h (by decide), nI_toInt (by omega)]; omega
theorem sp4_fin {h n : Nat} {fa fr fw gh gW gV : Nat → Int32} (h1 : sp4 n 0 gh gW gV) (h2 : ∀ t, t < 4 → wt (ml n t) ≤ 2) (h3 : ∀ i, 0 ≤ i → i < 4 → fw i = nI (mi h (16 + i))) (h4 : ∀ i, 0 ≤ i → i < 16 → fr i = nI (mi h i)) (h5 : ∀ i, 0 ≤ i → i < 4 → fa i = nI (pl (ml n i))) : WS h n fa fr fw gh gW gV :=
  ⟨fun t ht => ⟨h5 t (Nat.zero_le _) ht, (h1 t (Nat.zero_le _) ht).1, fun k hk => (h1 t (Nat.zero_le _) ht).2 k (by have := h2 t ht; omega)⟩, fun k hk => h4 k (Nat.zero_le _) hk, fun k hk => h3 k (Nat.zero_le _) hk⟩
theorem spW {n j t : Nat} (h : pB n 4 / 1024 ^ j % 1024 = lq (ml n t)) : pB n 4 / 1024 ^ j % 16 = en (ml n t) 1 ∧ pB n 4 / 1024 ^ j / 16 % 16 = en (ml n t) 0 ∧ pB n 4 / 1024 ^ j / 256 % 4 = wt (ml n t) := by
  have a := lq_wt (ml n t)
  have b := lq_e0 (ml n t)
  have c := lq_e1 (ml n t)
  rw [← h] at a b c
  omega
set_option maxHeartbeats 4000000 in
set_option maxRecDepth 100000 in
/-- the rows of a state -/
theorem r_spread (l : Launch) (D : va_G) (cI cJ : ClassId) (sz : Nat) (mo th st tol ts tf td : Nat) (ad : Nat → Nat) (i0 h n : Nat) (f1 f2 : Nat → Int64) (fa fr fw fh fW fV : Nat → Int32) (hs : i0 < 20000) (hh : h < 4 ^ 20) (hLs : ∀ t, t < 4 → wt (ml n t) ≤ 2) (hf1 : f1 i0 = lN (pk1 (h, n))) (hf2 : f2 i0 = lN (pk2 (h, n))) : KV l D cI cJ yX4_spread cX4_spread 8 none 0 0 0 0 [.ref mo, .int (nI i0)] [(mo, .inr (4, [.int (nI th), .ref (ad 1), .ref (ad 2), .ref (ad 3), .ref (ad 4), .int (nI st), .ref (ad 6), .ref (ad 7), .ref (ad 8), .ref (ad 9), .ref (ad 10), .ref (ad 11), .ref (ad 12), .ref (ad 13), .ref (ad 14), .ref (ad 15), .ref (ad 16), .ref (ad 17), .ref (ad 18), .int (nI tol), .int (nI ts), .int (nI tf), .int (nI td), .ref (ad 23), .ref (ad 24), .ref (ad 25), .ref (ad 26)])), (ad 6, .inl (cJ, 20000, .inr (.inl f1))), (ad 7, .inl (cJ, 20000, .inr (.inl f2))), (ad 13, .inl (cI, 4, .inl fa)), (ad 14, .inl (cI, 16, .inl fr)), (ad 15, .inl (cI, 4, .inl fw)), (ad 16, .inl (cI, 4, .inl fh)), (ad 17, .inl (cI, 8, .inl fW)), (ad 18, .inl (cI, 8, .inl fV))] sz (S := W6) (fun u => WS h n u.1 u.2.1 u.2.2.1 u.2.2.2.1 u.2.2.2.2.1 u.2.2.2.2.2) (fun u => [(mo, .inr (4, [.int (nI th), .ref (ad 1), .ref (ad 2), .ref (ad 3), .ref (ad 4), .int (nI st), .ref (ad 6), .ref (ad 7), .ref (ad 8), .ref (ad 9), .ref (ad 10), .ref (ad 11), .ref (ad 12), .ref (ad 13), .ref (ad 14), .ref (ad 15), .ref (ad 16), .ref (ad 17), .ref (ad 18), .int (nI tol), .int (nI ts), .int (nI tf), .int (nI td), .ref (ad 23), .ref (ad 24), .ref (ad 25), .ref (ad 26)])), (ad 6, .inl (cJ, 20000, .inr (.inl f1))), (ad 7, .inl (cJ, 20000, .inr (.inl f2))), (ad 13, .inl (cI, 4, .inl u.1)), (ad 14, .inl (cI, 16, .inl u.2.1)), (ad 15, .inl (cI, 4, .inl u.2.2.1)), (ad 16, .inl (cI, 4, .inl u.2.2.2.1)), (ad 17, .inl (cI, 8, .inl u.2.2.2.2.1)), (ad 18, .inl (cI, 8, .inl u.2.2.2.2.2))]) := by
  refine zMetV (lv := [(0, .ref mo), (1, .int (nI i0))]) NS0_ok (by decide) rfl (Nat.le_of_ble_eq_true rfl) rfl ?_
  intro p e s m args below meth c A X hin hA
  refine z_aload_n X (pc' := 1) dX4_spread_0 rfl 0 rfl rfl ?_
  refine z_get X (v := .ref (ad 6)) (pc' := 4) 0 rfl rfl inX4 6 (by decide) mF_X4_22 rfl dX4_spread_1 rfl ?_
  refine z_iload_n X (pc' := 5) dX4_spread_4 rfl 1 rfl rfl ?_
  refine z_lald X (pc' := 6) 1 1 rfl rfl (by omega) (by omega) dX4_spread_5 rfl ?_
  refine z_topl (y := lN (pk1 (h, n) / 4 ^ (4 - 4))) (by rw [hf1, Nat.sub_self, Nat.pow_zero, Nat.div_one]) ?_
  refine z_lstore_n X (lv' := [(2, .long (lN (pk1 (h, n) / 4 ^ (4 - 4)))), (0, .ref mo), (1, .int (nI i0))]) (pc' := 7) dX4_spread_6 rfl (by decide) rfl rfl ?_
  refine z_iconst X (v := nI 3) (pc' := 8) dX4_spread_7 (by decide) rfl ?_
  refine z_topi (y := nI 4 - nI 1) (by decide) ?_
  refine z_istore X (lv' := [(4, .int (nI 4 - nI 1)), (2, .long (lN (pk1 (h, n) / 4 ^ (4 - 4)))), (0, .ref mo), (1, .int (nI i0))]) (pc' := 10) dX4_spread_8 (by decide) rfl rfl ?_
  refine z_lv (lv' := [(4, .int (nI 4 - nI 1)), (2, .long (lN (pk1 (h, n) / 4 ^ (4 - 4)))), (0, .ref mo), (1, .int (nI i0))]) [0, 1, 2, 3] rfl ?_
  refine z_loop (σ := Nat × (Nat → Int32)) (fun x => x.1 ≤ 4 ∧ ∀ i, x.1 ≤ i → i < 4 → x.2 i = nI (mi h (16 + i))) (fun x => x.1) (fun x => [(4, .int (nI x.1 - nI 1)), (2, .long (lN (pk1 (h, n) / 4 ^ (4 - x.1)))), (0, .ref mo), (1, .int (nI i0))]) (fun x => [(mo, .inr (4, [.int (nI th), .ref (ad 1), .ref (ad 2), .ref (ad 3), .ref (ad 4), .int (nI st), .ref (ad 6), .ref (ad 7), .ref (ad 8), .ref (ad 9), .ref (ad 10), .ref (ad 11), .ref (ad 12), .ref (ad 13), .ref (ad 14), .ref (ad 15), .ref (ad 16), .ref (ad 17), .ref (ad 18), .int (nI tol), .int (nI ts), .int (nI tf), .int (nI td), .ref (ad 23), .ref (ad 24), .ref (ad 25), .ref (ad 26)])), (ad 6, .inl (cJ, 20000, .inr (.inl f1))), (ad 7, .inl (cJ, 20000, .inr (.inl f2))), (ad 13, .inl (cI, 4, .inl fa)), (ad 14, .inl (cI, 16, .inl fr)), (ad 15, .inl (cI, 4, .inl x.2)), (ad 16, .inl (cI, 4, .inl fh)), (ad 17, .inl (cI, 8, .inl fW)), (ad 18, .inl (cI, 8, .inl fV))]) (fun x => 0) (fun x => 0) ((4, fw)) ⟨Nat.le_refl _, fun i h1 h2 => absurd h2 (by omega)⟩ ?_
  intro x hI ih1
  obtain ⟨i11, i21⟩ := hI
  show Z _ _ _ _ _ _ _ _ _ _ _ _ _ _ _ 10 [(4, .int (nI x.1 - nI 1)), (2, .long (lN (pk1 (h, n) / 4 ^ (4 - x.1)))), (0, .ref mo), (1, .int (nI i0))] [] [(mo, .inr (4, [.int (nI th), .ref (ad 1), .ref (ad 2), .ref (ad 3), .ref (ad 4), .int (nI st), .ref (ad 6), .ref (ad 7), .ref (ad 8), .ref (ad 9), .ref (ad 10), .ref (ad 11), .ref (ad 12), .ref (ad 13), .ref (ad 14), .ref (ad 15), .ref (ad 16), .ref (ad 17), .ref (ad 18), .int (nI tol), .int (nI ts), .int (nI tf), .int (nI td), .ref (ad 23), .ref (ad 24), .ref (ad 25), .ref (ad 26)])), (ad 6, .inl (cJ, 20000, .inr (.inl f1))), (ad 7, .inl (cJ, 20000, .inr (.inl f2))), (ad 13, .inl (cI, 4, .inl fa)), (ad 14, .inl (cI, 16, .inl fr)), (ad 15, .inl (cI, 4, .inl x.2)), (ad 16, .inl (cI, 4, .inl fh)), (ad 17, .inl (cI, 8, .inl fW)), (ad 18, .inl (cI, 8, .inl fV))] 0 0
  by_cases hz : x.1 = 0
  · refine z_lve (lv' := [(4, .int ((-1))), (2, .long (lN (pk1 (h, n) / 4 ^ (4 - x.1)))), (0, .ref mo), (1, .int (nI i0))]) (by rw [show nI x.1 - nI 1 = -1 by rw [hz]; exact i_01]) ?_
    refine z_iload X (pc' := 12) dX4_spread_10 0 rfl rfl ?_
    refine z_if_lt X (tgt := 38) (pc' := 15) dX4_spread_12 (by decide) rfl (fun h1 => ?_) (fun h1 => ?_)
    · have hz0 : x.1 = 0 := hz
      refine z_lve (lv' := [(4, .int ((-1))), (2, .long (lN (pk1 (h, n) / 4 ^ (20 - 16)))), (0, .ref mo), (1, .int (nI i0))]) (by rw [show 4 - x.1 = 20 - 16 by omega]) ?_
      have hzx : x.1 = 0 := hz0
      refine z_bipush X (v := nI 15) (pc' := 40) dX4_spread_38 (by decide) rfl ?_
      refine z_topi (y := nI 16 - nI 1) (by decide) ?_
      refine z_istore X (lv' := [(4, .int (nI 16 - nI 1)), (2, .long (lN (pk1 (h, n) / 4 ^ (20 - 16)))), (0, .ref mo), (1, .int (nI i0))]) (pc' := 42) dX4_spread_40 (by decide) rfl rfl ?_
      refine z_lv (lv' := [(4, .int (nI 16 - nI 1)), (2, .long (lN (pk1 (h, n) / 4 ^ (20 - 16)))), (0, .ref mo), (1, .int (nI i0))]) [0, 1, 2, 3] rfl ?_
      refine z_loop (σ := Nat × (Nat → Int32)) (fun y => y.1 ≤ 16 ∧ ∀ i, y.1 ≤ i → i < 16 → y.2 i = nI (mi h i)) (fun y => y.1) (fun y => [(4, .int (nI y.1 - nI 1)), (2, .long (lN (pk1 (h, n) / 4 ^ (20 - y.1)))), (0, .ref mo), (1, .int (nI i0))]) (fun y => [(mo, .inr (4, [.int (nI th), .ref (ad 1), .ref (ad 2), .ref (ad 3), .ref (ad 4), .int (nI st), .ref (ad 6), .ref (ad 7), .ref (ad 8), .ref (ad 9), .ref (ad 10), .ref (ad 11), .ref (ad 12), .ref (ad 13), .ref (ad 14), .ref (ad 15), .ref (ad 16), .ref (ad 17), .ref (ad 18), .int (nI tol), .int (nI ts), .int (nI tf), .int (nI td), .ref (ad 23), .ref (ad 24), .ref (ad 25), .ref (ad 26)])), (ad 6, .inl (cJ, 20000, .inr (.inl f1))), (ad 7, .inl (cJ, 20000, .inr (.inl f2))), (ad 13, .inl (cI, 4, .inl fa)), (ad 14, .inl (cI, 16, .inl y.2)), (ad 15, .inl (cI, 4, .inl x.2)), (ad 16, .inl (cI, 4, .inl fh)), (ad 17, .inl (cI, 8, .inl fW)), (ad 18, .inl (cI, 8, .inl fV))]) (fun y => 0) (fun y => 0) ((16, fr)) ⟨Nat.le_refl _, fun i h1 h2 => absurd h2 (by omega)⟩ ?_
      intro y hI ih2
      obtain ⟨i12, i22⟩ := hI
      show Z _ _ _ _ _ _ _ _ _ _ _ _ _ _ _ 42 [(4, .int (nI y.1 - nI 1)), (2, .long (lN (pk1 (h, n) / 4 ^ (20 - y.1)))), (0, .ref mo), (1, .int (nI i0))] [] [(mo, .inr (4, [.int (nI th), .ref (ad 1), .ref (ad 2), .ref (ad 3), .ref (ad 4), .int (nI st), .ref (ad 6), .ref (ad 7), .ref (ad 8), .ref (ad 9), .ref (ad 10), .ref (ad 11), .ref (ad 12), .ref (ad 13), .ref (ad 14), .ref (ad 15), .ref (ad 16), .ref (ad 17), .ref (ad 18), .int (nI tol), .int (nI ts), .int (nI tf), .int (nI td), .ref (ad 23), .ref (ad 24), .ref (ad 25), .ref (ad 26)])), (ad 6, .inl (cJ, 20000, .inr (.inl f1))), (ad 7, .inl (cJ, 20000, .inr (.inl f2))), (ad 13, .inl (cI, 4, .inl fa)), (ad 14, .inl (cI, 16, .inl y.2)), (ad 15, .inl (cI, 4, .inl x.2)), (ad 16, .inl (cI, 4, .inl fh)), (ad 17, .inl (cI, 8, .inl fW)), (ad 18, .inl (cI, 8, .inl fV))] 0 0
      by_cases hz : y.1 = 0
      · refine z_lve (lv' := [(4, .int ((-1))), (2, .long (lN (pk1 (h, n) / 4 ^ (20 - y.1)))), (0, .ref mo), (1, .int (nI i0))]) (by rw [show nI y.1 - nI 1 = -1 by rw [hz]; exact i_01]) ?_
        refine z_iload X (pc' := 44) dX4_spread_42 0 rfl rfl ?_
        refine z_if_lt X (tgt := 70) (pc' := 47) dX4_spread_44 (by decide) rfl (fun h2 => ?_) (fun h2 => ?_)
        · have hz0 : y.1 = 0 := hz
          refine z_lve (lv' := [(4, .int ((-1))), (2, .long (lN (pA n 4 / 8 ^ (4 - 4)))), (0, .ref mo), (1, .int (nI i0))]) (by rw [show pk1 (h, n) / 4 ^ (20 - y.1) = pA n 4 / 8 ^ (4 - 4) by rw [show 20 - y.1 = 20 by omega, Nat.sub_self, Nat.pow_zero, Nat.div_one]; exact pk1_hi (q := (h, n)) hh]) ?_
          have hzy : y.1 = 0 := hz0
          refine z_iconst X (v := nI 3) (pc' := 71) dX4_spread_70 (by decide) rfl ?_
          refine z_topi (y := nI 4 - nI 1) (by decide) ?_
          refine z_istore X (lv' := [(4, .int (nI 4 - nI 1)), (2, .long (lN (pA n 4 / 8 ^ (4 - 4)))), (0, .ref mo), (1, .int (nI i0))]) (pc' := 73) dX4_spread_71 (by decide) rfl rfl ?_
          refine z_lv (lv' := [(4, .int (nI 4 - nI 1)), (2, .long (lN (pA n 4 / 8 ^ (4 - 4)))), (0, .ref mo), (1, .int (nI i0))]) [0, 1, 2, 3] rfl ?_
          refine z_loop (σ := Nat × (Nat → Int32)) (fun z => z.1 ≤ 4 ∧ ∀ i, z.1 ≤ i → i < 4 → z.2 i = nI (pl (ml n i))) (fun z => z.1) (fun z => [(4, .int (nI z.1 - nI 1)), (2, .long (lN (pA n 4 / 8 ^ (4 - z.1)))), (0, .ref mo), (1, .int (nI i0))]) (fun z => [(mo, .inr (4, [.int (nI th), .ref (ad 1), .ref (ad 2), .ref (ad 3), .ref (ad 4), .int (nI st), .ref (ad 6), .ref (ad 7), .ref (ad 8), .ref (ad 9), .ref (ad 10), .ref (ad 11), .ref (ad 12), .ref (ad 13), .ref (ad 14), .ref (ad 15), .ref (ad 16), .ref (ad 17), .ref (ad 18), .int (nI tol), .int (nI ts), .int (nI tf), .int (nI td), .ref (ad 23), .ref (ad 24), .ref (ad 25), .ref (ad 26)])), (ad 6, .inl (cJ, 20000, .inr (.inl f1))), (ad 7, .inl (cJ, 20000, .inr (.inl f2))), (ad 13, .inl (cI, 4, .inl z.2)), (ad 14, .inl (cI, 16, .inl y.2)), (ad 15, .inl (cI, 4, .inl x.2)), (ad 16, .inl (cI, 4, .inl fh)), (ad 17, .inl (cI, 8, .inl fW)), (ad 18, .inl (cI, 8, .inl fV))]) (fun z => 0) (fun z => 0) ((4, fa)) ⟨Nat.le_refl _, fun i h1 h2 => absurd h2 (by omega)⟩ ?_
          intro z hI ih3
          obtain ⟨i13, i23⟩ := hI
          show Z _ _ _ _ _ _ _ _ _ _ _ _ _ _ _ 73 [(4, .int (nI z.1 - nI 1)), (2, .long (lN (pA n 4 / 8 ^ (4 - z.1)))), (0, .ref mo), (1, .int (nI i0))] [] [(mo, .inr (4, [.int (nI th), .ref (ad 1), .ref (ad 2), .ref (ad 3), .ref (ad 4), .int (nI st), .ref (ad 6), .ref (ad 7), .ref (ad 8), .ref (ad 9), .ref (ad 10), .ref (ad 11), .ref (ad 12), .ref (ad 13), .ref (ad 14), .ref (ad 15), .ref (ad 16), .ref (ad 17), .ref (ad 18), .int (nI tol), .int (nI ts), .int (nI tf), .int (nI td), .ref (ad 23), .ref (ad 24), .ref (ad 25), .ref (ad 26)])), (ad 6, .inl (cJ, 20000, .inr (.inl f1))), (ad 7, .inl (cJ, 20000, .inr (.inl f2))), (ad 13, .inl (cI, 4, .inl z.2)), (ad 14, .inl (cI, 16, .inl y.2)), (ad 15, .inl (cI, 4, .inl x.2)), (ad 16, .inl (cI, 4, .inl fh)), (ad 17, .inl (cI, 8, .inl fW)), (ad 18, .inl (cI, 8, .inl fV))] 0 0
          by_cases hz : z.1 = 0
          · refine z_lve (lv' := [(4, .int ((-1))), (2, .long (lN (pA n 4 / 8 ^ (4 - z.1)))), (0, .ref mo), (1, .int (nI i0))]) (by rw [show nI z.1 - nI 1 = -1 by rw [hz]; exact i_01]) ?_
            refine z_iload X (pc' := 75) dX4_spread_73 0 rfl rfl ?_
            refine z_if_lt X (tgt := 101) (pc' := 78) dX4_spread_75 (by decide) rfl (fun h3 => ?_) (fun h3 => ?_)
            · have hz0 : z.1 = 0 := hz
              have hzz : z.1 = 0 := hz0
              refine z_aload_n X (pc' := 102) dX4_spread_101 rfl 2 rfl rfl ?_
              refine z_get X (v := .ref (ad 7)) (pc' := 105) 0 rfl rfl inX4 7 (by decide) mF_X4_26 rfl dX4_spread_102 rfl ?_
              refine z_iload_n X (pc' := 106) dX4_spread_105 rfl 3 rfl rfl ?_
              refine z_lald X (pc' := 107) 2 1 rfl rfl (by omega) (by omega) dX4_spread_106 rfl ?_
              refine z_topl (y := lN (pB n 4 / 1024 ^ (4 - 4))) (by rw [hf2, Nat.sub_self, Nat.pow_zero, Nat.div_one]; try rfl) ?_
              refine z_lstore X (lv' := [(4, .long (lN (pB n 4 / 1024 ^ (4 - 4)))), (2, .long (lN (pA n 4 / 8 ^ (4 - z.1)))), (0, .ref mo), (1, .int (nI i0))]) (pc' := 109) dX4_spread_107 (by decide) rfl rfl ?_
              refine z_iconst X (v := nI 3) (pc' := 110) dX4_spread_109 (by decide) rfl ?_
              refine z_topi (y := nI 4 - nI 1) (by decide) ?_
              refine z_istore X (lv' := [(6, .int (nI 4 - nI 1)), (4, .long (lN (pB n 4 / 1024 ^ (4 - 4)))), (2, .long (lN (pA n 4 / 8 ^ (4 - z.1)))), (0, .ref mo), (1, .int (nI i0))]) (pc' := 112) dX4_spread_110 (by decide) rfl rfl ?_
              refine z_lv (lv' := [(6, .int (nI 4 - nI 1)), (4, .long (lN (pB n 4 / 1024 ^ (4 - 4)))), (0, .ref mo)]) [0, 1, 3] rfl ?_
              refine z_loop (σ := Nat × (Nat → Int32) × (Nat → Int32) × (Nat → Int32)) (fun w => w.1 ≤ 4 ∧ sp4 n w.1 w.2.1 w.2.2.1 w.2.2.2) (fun w => w.1) (fun w => [(6, .int (nI w.1 - nI 1)), (4, .long (lN (pB n 4 / 1024 ^ (4 - w.1)))), (0, .ref mo)]) (fun w => [(mo, .inr (4, [.int (nI th), .ref (ad 1), .ref (ad 2), .ref (ad 3), .ref (ad 4), .int (nI st), .ref (ad 6), .ref (ad 7), .ref (ad 8), .ref (ad 9), .ref (ad 10), .ref (ad 11), .ref (ad 12), .ref (ad 13), .ref (ad 14), .ref (ad 15), .ref (ad 16), .ref (ad 17), .ref (ad 18), .int (nI tol), .int (nI ts), .int (nI tf), .int (nI td), .ref (ad 23), .ref (ad 24), .ref (ad 25), .ref (ad 26)])), (ad 6, .inl (cJ, 20000, .inr (.inl f1))), (ad 7, .inl (cJ, 20000, .inr (.inl f2))), (ad 13, .inl (cI, 4, .inl z.2)), (ad 14, .inl (cI, 16, .inl y.2)), (ad 15, .inl (cI, 4, .inl x.2)), (ad 16, .inl (cI, 4, .inl w.2.1)), (ad 17, .inl (cI, 8, .inl w.2.2.1)), (ad 18, .inl (cI, 8, .inl w.2.2.2))]) (fun w => 0) (fun w => 0) ((4, fh, fW, fV)) ⟨Nat.le_refl _, fun t h1 h2 => absurd h2 (by omega)⟩ ?_
              intro w hI ih4
              obtain ⟨i14, i24⟩ := hI
              show Z _ _ _ _ _ _ _ _ _ _ _ _ _ _ _ 112 [(6, .int (nI w.1 - nI 1)), (4, .long (lN (pB n 4 / 1024 ^ (4 - w.1)))), (0, .ref mo)] [] [(mo, .inr (4, [.int (nI th), .ref (ad 1), .ref (ad 2), .ref (ad 3), .ref (ad 4), .int (nI st), .ref (ad 6), .ref (ad 7), .ref (ad 8), .ref (ad 9), .ref (ad 10), .ref (ad 11), .ref (ad 12), .ref (ad 13), .ref (ad 14), .ref (ad 15), .ref (ad 16), .ref (ad 17), .ref (ad 18), .int (nI tol), .int (nI ts), .int (nI tf), .int (nI td), .ref (ad 23), .ref (ad 24), .ref (ad 25), .ref (ad 26)])), (ad 6, .inl (cJ, 20000, .inr (.inl f1))), (ad 7, .inl (cJ, 20000, .inr (.inl f2))), (ad 13, .inl (cI, 4, .inl z.2)), (ad 14, .inl (cI, 16, .inl y.2)), (ad 15, .inl (cI, 4, .inl x.2)), (ad 16, .inl (cI, 4, .inl w.2.1)), (ad 17, .inl (cI, 8, .inl w.2.2.1)), (ad 18, .inl (cI, 8, .inl w.2.2.2))] 0 0
              by_cases hz : w.1 = 0
              · refine z_lve (lv' := [(6, .int ((-1))), (4, .long (lN (pB n 4 / 1024 ^ (4 - w.1)))), (0, .ref mo)]) (by rw [show nI w.1 - nI 1 = -1 by rw [hz]; exact i_01]) ?_
                refine z_iload X (pc' := 114) dX4_spread_112 0 rfl rfl ?_
                refine z_if_lt X (tgt := 202) (pc' := 117) dX4_spread_114 (by decide) rfl (fun h4 => ?_) (fun h4 => ?_)
                · have hz0 : w.1 = 0 := hz
                  exact z_vret X (z.2, y.2, x.2, w.2.1, w.2.2.1, w.2.2.2) (sp4_fin (by rw [← hz0]; exact i24) hLs (by rw [← hzx]; exact i21) (by rw [← hzy]; exact i22) (by rw [← hzz]; exact i23)) rfl (Nat.le_of_ble_eq_true rfl) (Nat.le_of_ble_eq_true rfl) dX4_spread_202
                · exact absurd (by decide) h4
              · refine z_lve (lv' := [(6, .int (nI (w.1 - 1))), (4, .long (lN (pB n 4 / 1024 ^ (4 - w.1)))), (0, .ref mo)]) (by rw [show nI w.1 - nI 1 = nI (w.1 - 1) from pk_sub (by omega)]) ?_
                refine z_iload X (pc' := 114) dX4_spread_112 0 rfl rfl ?_
                refine z_if_ltN X (tgt := 202) (pc' := 117) (by omega) dX4_spread_114 (by decide) rfl ?_
                obtain ⟨hE1, hE0, hEW⟩ := spW (n := n) (j := 4 - w.1) (t := w.1 - 1) ((pB_dg n (by omega)).trans (by rw [show 3 - (4 - w.1) = w.1 - 1 by omega]))
                have hY : pB n 4 / 1024 ^ (4 - w.1) < 2 ^ 63 := Nat.lt_of_le_of_lt (Nat.div_le_self _ _) (Nat.lt_trans (pB_lt n 4) (by decide))
                refine z_iconst X (v := nI 2) (pc' := 118) dX4_spread_117 (by decide) rfl ?_
                refine z_iload X (pc' := 120) dX4_spread_118 0 rfl rfl ?_
                refine z_imul X (pc' := 121) dX4_spread_120 rfl ?_
                refine z_topi (y := nI (2 * (w.1 - 1))) (pk_mul _ _) ?_
                refine z_iconst X (v := nI 1) (pc' := 122) dX4_spread_121 (by decide) rfl ?_
                refine z_iadd X (pc' := 123) dX4_spread_122 rfl ?_
                refine z_topi (y := nI ((2 * (w.1 - 1)) + 1)) (nI_add _ _) ?_
                refine z_istore X (lv' := [(7, .int (nI ((2 * (w.1 - 1)) + 1))), (6, .int (nI (w.1 - 1))), (4, .long (lN (pB n 4 / 1024 ^ (4 - w.1)))), (0, .ref mo)]) (pc' := 125) dX4_spread_123 (by decide) rfl rfl ?_
                refine z_iload X (pc' := 127) dX4_spread_125 0 rfl rfl ?_
                refine z_iconst X (v := nI 2) (pc' := 128) dX4_spread_127 (by decide) rfl ?_
                refine z_iload X (pc' := 130) dX4_spread_128 1 rfl rfl ?_
                refine z_imul X (pc' := 131) dX4_spread_130 rfl ?_
                refine z_topi (y := nI (2 * (w.1 - 1))) (pk_mul _ _) ?_
                refine z_icmp_ltN X (tgt := 176) (pc' := 134) (by omega) (by omega) dX4_spread_131 (by decide) rfl (fun h5 => ?_) (fun h5 => ?_)
                · exact absurd h5 (by omega)
                · clear h5
                  refine z_aload_n X (pc' := 135) dX4_spread_134 rfl 3 rfl rfl ?_
                  refine z_get X (v := .ref (ad 18)) (pc' := 138) 0 rfl rfl inX4 18 (by decide) mF_X4_59 rfl dX4_spread_135 rfl ?_
                  refine z_iload X (pc' := 140) dX4_spread_138 0 rfl rfl ?_
                  refine z_lload X (pc' := 142) dX4_spread_140 2 rfl rfl ?_
                  refine z_ldc2 X (v := lN 3) (pc' := 145) mJ_X4_86 dX4_spread_142 rfl ?_
                  refine z_land X (pc' := 146) dX4_spread_145 rfl ?_
                  refine z_l2i X (pc' := 147) dX4_spread_146 rfl rfl ?_
                  refine z_topi (y := nI (en (ml n (w.1 - 1)) 1 % 4)) (ll_dl 2 (by decide) (by omega)) ?_
                  refine z_iast X (ws' := [(mo, .inr (4, [.int (nI th), .ref (ad 1), .ref (ad 2), .ref (ad 3), .ref (ad 4), .int (nI st), .ref (ad 6), .ref (ad 7), .ref (ad 8), .ref (ad 9), .ref (ad 10), .ref (ad 11), .ref (ad 12), .ref (ad 13), .ref (ad 14), .ref (ad 15), .ref (ad 16), .ref (ad 17), .ref (ad 18), .int (nI tol), .int (nI ts), .int (nI tf), .int (nI td), .ref (ad 23), .ref (ad 24), .ref (ad 25), .ref (ad 26)])), (ad 6, .inl (cJ, 20000, .inr (.inl f1))), (ad 7, .inl (cJ, 20000, .inr (.inl f2))), (ad 13, .inl (cI, 4, .inl z.2)), (ad 14, .inl (cI, 16, .inl y.2)), (ad 15, .inl (cI, 4, .inl x.2)), (ad 16, .inl (cI, 4, .inl w.2.1)), (ad 17, .inl (cI, 8, .inl w.2.2.1)), (ad 18, .inl (cI, 8, .inl (upd w.2.2.2 ((2 * (w.1 - 1)) + 1) (nI (en (ml n (w.1 - 1)) 1 % 4)))))]) (pc' := 148) 8 0 rfl rfl (by omega) (by omega) dX4_spread_147 rfl rfl ?_
                  refine z_aload_n X (pc' := 149) dX4_spread_148 rfl 3 rfl rfl ?_
                  refine z_get X (v := .ref (ad 17)) (pc' := 152) 0 rfl rfl inX4 17 (by decide) mF_X4_56 rfl dX4_spread_149 rfl ?_
                  refine z_iload X (pc' := 154) dX4_spread_152 0 rfl rfl ?_
                  refine z_lload X (pc' := 156) dX4_spread_154 2 rfl rfl ?_
                  refine z_iconst X (v := nI 2) (pc' := 157) dX4_spread_156 (by decide) rfl ?_
                  refine z_lshr X (pc' := 158) dX4_spread_157 rfl rfl ?_
                  refine z_topl (y := lN (pB n 4 / 1024 ^ (4 - w.1) / 4)) ((ll_sar (k := 2) (by omega) (by decide))) ?_
                  refine z_ldc2 X (v := lN 3) (pc' := 161) mJ_X4_86 dX4_spread_158 rfl ?_
                  refine z_land X (pc' := 162) dX4_spread_161 rfl ?_
                  refine z_l2i X (pc' := 163) dX4_spread_162 rfl rfl ?_
                  refine z_topi (y := nI (en (ml n (w.1 - 1)) 1 / 4)) (ll_dl 2 (by decide) (by omega)) ?_
                  refine z_iast X (ws' := [(mo, .inr (4, [.int (nI th), .ref (ad 1), .ref (ad 2), .ref (ad 3), .ref (ad 4), .int (nI st), .ref (ad 6), .ref (ad 7), .ref (ad 8), .ref (ad 9), .ref (ad 10), .ref (ad 11), .ref (ad 12), .ref (ad 13), .ref (ad 14), .ref (ad 15), .ref (ad 16), .ref (ad 17), .ref (ad 18), .int (nI tol), .int (nI ts), .int (nI tf), .int (nI td), .ref (ad 23), .ref (ad 24), .ref (ad 25), .ref (ad 26)])), (ad 6, .inl (cJ, 20000, .inr (.inl f1))), (ad 7, .inl (cJ, 20000, .inr (.inl f2))), (ad 13, .inl (cI, 4, .inl z.2)), (ad 14, .inl (cI, 16, .inl y.2)), (ad 15, .inl (cI, 4, .inl x.2)), (ad 16, .inl (cI, 4, .inl w.2.1)), (ad 17, .inl (cI, 8, .inl (upd w.2.2.1 ((2 * (w.1 - 1)) + 1) (nI (en (ml n (w.1 - 1)) 1 / 4))))), (ad 18, .inl (cI, 8, .inl (upd w.2.2.2 ((2 * (w.1 - 1)) + 1) (nI (en (ml n (w.1 - 1)) 1 % 4)))))]) (pc' := 164) 7 0 rfl rfl (by omega) (by omega) dX4_spread_163 rfl rfl ?_
                  refine z_lload X (pc' := 166) dX4_spread_164 2 rfl rfl ?_
                  refine z_iconst X (v := nI 4) (pc' := 167) dX4_spread_166 (by decide) rfl ?_
                  refine z_lshr X (pc' := 168) dX4_spread_167 rfl rfl ?_
                  refine z_topl (y := lN (pB n 4 / 1024 ^ (4 - w.1) / 16)) (ll_sar (k := 4) (by omega) (by decide)) ?_
                  refine z_lstore X (lv' := [(4, .long (lN (pB n 4 / 1024 ^ (4 - w.1) / 16))), (7, .int (nI ((2 * (w.1 - 1)) + 1))), (6, .int (nI (w.1 - 1))), (0, .ref mo)]) (pc' := 170) dX4_spread_168 (by decide) rfl rfl ?_
                  refine z_iinc X (v := nI (2 * (w.1 - 1))) (lv' := [(7, .int (nI (2 * (w.1 - 1)))), (4, .long (lN (pB n 4 / 1024 ^ (4 - w.1) / 16))), (6, .int (nI (w.1 - 1))), (0, .ref mo)]) (k := 1) (pc' := 173) dX4_spread_170 rfl (pk_m1 _) (by decide) rfl rfl ?_
                  refine z_goto X (tgt := 125) dX4_spread_173 (by decide) ?_
                  refine z_iload X (pc' := 127) dX4_spread_125 0 rfl rfl ?_
                  refine z_iconst X (v := nI 2) (pc' := 128) dX4_spread_127 (by decide) rfl ?_
                  refine z_iload X (pc' := 130) dX4_spread_128 2 rfl rfl ?_
                  refine z_imul X (pc' := 131) dX4_spread_130 rfl ?_
                  refine z_topi (y := nI (2 * (w.1 - 1))) (pk_mul _ _) ?_
                  refine z_icmp_ltN X (tgt := 176) (pc' := 134) (by omega) (by omega) dX4_spread_131 (by decide) rfl (fun h6 => ?_) (fun h6 => ?_)
                  · exact absurd h6 (by omega)
                  · clear h6
                    refine z_aload_n X (pc' := 135) dX4_spread_134 rfl 3 rfl rfl ?_
                    refine z_get X (v := .ref (ad 18)) (pc' := 138) 0 rfl rfl inX4 18 (by decide) mF_X4_59 rfl dX4_spread_135 rfl ?_
                    refine z_iload X (pc' := 140) dX4_spread_138 0 rfl rfl ?_
                    refine z_lload X (pc' := 142) dX4_spread_140 1 rfl rfl ?_
                    refine z_ldc2 X (v := lN 3) (pc' := 145) mJ_X4_86 dX4_spread_142 rfl ?_
                    refine z_land X (pc' := 146) dX4_spread_145 rfl ?_
                    refine z_l2i X (pc' := 147) dX4_spread_146 rfl rfl ?_
                    refine z_topi (y := nI (en (ml n (w.1 - 1)) 0 % 4)) (ll_dl 2 (by decide) (by omega)) ?_
                    refine z_iast X (ws' := [(mo, .inr (4, [.int (nI th), .ref (ad 1), .ref (ad 2), .ref (ad 3), .ref (ad 4), .int (nI st), .ref (ad 6), .ref (ad 7), .ref (ad 8), .ref (ad 9), .ref (ad 10), .ref (ad 11), .ref (ad 12), .ref (ad 13), .ref (ad 14), .ref (ad 15), .ref (ad 16), .ref (ad 17), .ref (ad 18), .int (nI tol), .int (nI ts), .int (nI tf), .int (nI td), .ref (ad 23), .ref (ad 24), .ref (ad 25), .ref (ad 26)])), (ad 6, .inl (cJ, 20000, .inr (.inl f1))), (ad 7, .inl (cJ, 20000, .inr (.inl f2))), (ad 13, .inl (cI, 4, .inl z.2)), (ad 14, .inl (cI, 16, .inl y.2)), (ad 15, .inl (cI, 4, .inl x.2)), (ad 16, .inl (cI, 4, .inl w.2.1)), (ad 17, .inl (cI, 8, .inl (upd w.2.2.1 ((2 * (w.1 - 1)) + 1) (nI (en (ml n (w.1 - 1)) 1 / 4))))), (ad 18, .inl (cI, 8, .inl (upd (upd w.2.2.2 ((2 * (w.1 - 1)) + 1) (nI (en (ml n (w.1 - 1)) 1 % 4))) (2 * (w.1 - 1)) (nI (en (ml n (w.1 - 1)) 0 % 4)))))]) (pc' := 148) 8 0 rfl rfl (by omega) (by omega) dX4_spread_147 rfl rfl ?_
                    refine z_aload_n X (pc' := 149) dX4_spread_148 rfl 3 rfl rfl ?_
                    refine z_get X (v := .ref (ad 17)) (pc' := 152) 0 rfl rfl inX4 17 (by decide) mF_X4_56 rfl dX4_spread_149 rfl ?_
                    refine z_iload X (pc' := 154) dX4_spread_152 0 rfl rfl ?_
                    refine z_lload X (pc' := 156) dX4_spread_154 1 rfl rfl ?_
                    refine z_iconst X (v := nI 2) (pc' := 157) dX4_spread_156 (by decide) rfl ?_
                    refine z_lshr X (pc' := 158) dX4_spread_157 rfl rfl ?_
                    refine z_topl (y := lN (pB n 4 / 1024 ^ (4 - w.1) / 16 / 4)) ((ll_sar (k := 2) (by omega) (by decide))) ?_
                    refine z_ldc2 X (v := lN 3) (pc' := 161) mJ_X4_86 dX4_spread_158 rfl ?_
                    refine z_land X (pc' := 162) dX4_spread_161 rfl ?_
                    refine z_l2i X (pc' := 163) dX4_spread_162 rfl rfl ?_
                    refine z_topi (y := nI (en (ml n (w.1 - 1)) 0 / 4)) (ll_dl 2 (by decide) (by omega)) ?_
                    refine z_iast X (ws' := [(mo, .inr (4, [.int (nI th), .ref (ad 1), .ref (ad 2), .ref (ad 3), .ref (ad 4), .int (nI st), .ref (ad 6), .ref (ad 7), .ref (ad 8), .ref (ad 9), .ref (ad 10), .ref (ad 11), .ref (ad 12), .ref (ad 13), .ref (ad 14), .ref (ad 15), .ref (ad 16), .ref (ad 17), .ref (ad 18), .int (nI tol), .int (nI ts), .int (nI tf), .int (nI td), .ref (ad 23), .ref (ad 24), .ref (ad 25), .ref (ad 26)])), (ad 6, .inl (cJ, 20000, .inr (.inl f1))), (ad 7, .inl (cJ, 20000, .inr (.inl f2))), (ad 13, .inl (cI, 4, .inl z.2)), (ad 14, .inl (cI, 16, .inl y.2)), (ad 15, .inl (cI, 4, .inl x.2)), (ad 16, .inl (cI, 4, .inl w.2.1)), (ad 17, .inl (cI, 8, .inl (upd (upd w.2.2.1 ((2 * (w.1 - 1)) + 1) (nI (en (ml n (w.1 - 1)) 1 / 4))) (2 * (w.1 - 1)) (nI (en (ml n (w.1 - 1)) 0 / 4))))), (ad 18, .inl (cI, 8, .inl (upd (upd w.2.2.2 ((2 * (w.1 - 1)) + 1) (nI (en (ml n (w.1 - 1)) 1 % 4))) (2 * (w.1 - 1)) (nI (en (ml n (w.1 - 1)) 0 % 4)))))]) (pc' := 164) 7 0 rfl rfl (by omega) (by omega) dX4_spread_163 rfl rfl ?_
                    refine z_lload X (pc' := 166) dX4_spread_164 1 rfl rfl ?_
                    refine z_iconst X (v := nI 4) (pc' := 167) dX4_spread_166 (by decide) rfl ?_
                    refine z_lshr X (pc' := 168) dX4_spread_167 rfl rfl ?_
                    refine z_topl (y := lN (pB n 4 / 1024 ^ (4 - w.1) / 256)) ((ll_sar (k := 4) (by omega) (by decide)).trans (by congr 1; omega)) ?_
                    refine z_lstore X (lv' := [(4, .long (lN (pB n 4 / 1024 ^ (4 - w.1) / 256))), (7, .int (nI (2 * (w.1 - 1)))), (6, .int (nI (w.1 - 1))), (0, .ref mo)]) (pc' := 170) dX4_spread_168 (by decide) rfl rfl ?_
                    refine z_iinc X (v := nI (2 * (w.1 - 1)) - nI 1) (lv' := [(7, .int (nI (2 * (w.1 - 1)) - nI 1)), (4, .long (lN (pB n 4 / 1024 ^ (4 - w.1) / 256))), (6, .int (nI (w.1 - 1))), (0, .ref mo)]) (k := 1) (pc' := 173) dX4_spread_170 rfl i_m1 (by decide) rfl rfl ?_
                    refine z_goto X (tgt := 125) dX4_spread_173 (by decide) ?_
                    refine z_iload X (pc' := 127) dX4_spread_125 0 rfl rfl ?_
                    refine z_iconst X (v := nI 2) (pc' := 128) dX4_spread_127 (by decide) rfl ?_
                    refine z_iload X (pc' := 130) dX4_spread_128 2 rfl rfl ?_
                    refine z_imul X (pc' := 131) dX4_spread_130 rfl ?_
                    refine z_topi (y := nI (2 * (w.1 - 1))) (pk_mul _ _) ?_
                    refine z_icmp_lt X (tgt := 176) (pc' := 134) dX4_spread_131 (by decide) rfl (fun h7 => ?_) (fun h7 => ?_)
                    · clear h7
                      refine z_aload_n X (pc' := 177) dX4_spread_176 rfl 3 rfl rfl ?_
                      refine z_get X (v := .ref (ad 16)) (pc' := 180) 0 rfl rfl inX4 16 (by decide) mF_X4_53 rfl dX4_spread_177 rfl ?_
                      refine z_iload X (pc' := 182) dX4_spread_180 2 rfl rfl ?_
                      refine z_lload X (pc' := 184) dX4_spread_182 1 rfl rfl ?_
                      refine z_ldc2 X (v := lN 3) (pc' := 187) mJ_X4_86 dX4_spread_184 rfl ?_
                      refine z_land X (pc' := 188) dX4_spread_187 rfl ?_
                      refine z_l2i X (pc' := 189) dX4_spread_188 rfl rfl ?_
                      refine z_topi (y := nI (wt (ml n (w.1 - 1)))) (ll_dl 2 (by decide) (by omega)) ?_
                      refine z_iast X (ws' := [(mo, .inr (4, [.int (nI th), .ref (ad 1), .ref (ad 2), .ref (ad 3), .ref (ad 4), .int (nI st), .ref (ad 6), .ref (ad 7), .ref (ad 8), .ref (ad 9), .ref (ad 10), .ref (ad 11), .ref (ad 12), .ref (ad 13), .ref (ad 14), .ref (ad 15), .ref (ad 16), .ref (ad 17), .ref (ad 18), .int (nI tol), .int (nI ts), .int (nI tf), .int (nI td), .ref (ad 23), .ref (ad 24), .ref (ad 25), .ref (ad 26)])), (ad 6, .inl (cJ, 20000, .inr (.inl f1))), (ad 7, .inl (cJ, 20000, .inr (.inl f2))), (ad 13, .inl (cI, 4, .inl z.2)), (ad 14, .inl (cI, 16, .inl y.2)), (ad 15, .inl (cI, 4, .inl x.2)), (ad 16, .inl (cI, 4, .inl (upd w.2.1 (w.1 - 1) (nI (wt (ml n (w.1 - 1))))))), (ad 17, .inl (cI, 8, .inl (upd (upd w.2.2.1 ((2 * (w.1 - 1)) + 1) (nI (en (ml n (w.1 - 1)) 1 / 4))) (2 * (w.1 - 1)) (nI (en (ml n (w.1 - 1)) 0 / 4))))), (ad 18, .inl (cI, 8, .inl (upd (upd w.2.2.2 ((2 * (w.1 - 1)) + 1) (nI (en (ml n (w.1 - 1)) 1 % 4))) (2 * (w.1 - 1)) (nI (en (ml n (w.1 - 1)) 0 % 4)))))]) (pc' := 190) 6 0 rfl rfl (by omega) (by omega) dX4_spread_189 rfl rfl ?_
                      refine z_lload X (pc' := 192) dX4_spread_190 1 rfl rfl ?_
                      refine z_iconst X (v := nI 2) (pc' := 193) dX4_spread_192 (by decide) rfl ?_
                      refine z_lshr X (pc' := 194) dX4_spread_193 rfl rfl ?_
                      refine z_topl (y := lN (pB n 4 / 1024 ^ (4 - (w.1 - 1)))) ((ll_sar (k := 2) (by omega) (by decide)).trans (by rw [show 4 - (w.1 - 1) = 4 - w.1 + 1 by omega, show (1024 : Nat) ^ (4 - w.1 + 1) = 1024 ^ (4 - w.1) * 1024 from Nat.pow_succ _ _, ← Nat.div_div_eq_div_mul]; congr 1; omega)) ?_
                      refine z_lstore X (lv' := [(4, .long (lN (pB n 4 / 1024 ^ (4 - (w.1 - 1))))), (7, .int (nI (2 * (w.1 - 1)) - nI 1)), (6, .int (nI (w.1 - 1))), (0, .ref mo)]) (pc' := 196) dX4_spread_194 (by decide) rfl rfl ?_
                      refine z_iinc X (v := nI (w.1 - 1) - nI 1) (lv' := [(6, .int (nI (w.1 - 1) - nI 1)), (4, .long (lN (pB n 4 / 1024 ^ (4 - (w.1 - 1))))), (7, .int (nI (2 * (w.1 - 1)) - nI 1)), (0, .ref mo)]) (k := 2) (pc' := 199) dX4_spread_196 rfl i_m1 (by decide) rfl rfl ?_
                      refine z_goto X (tgt := 112) dX4_spread_199 (by decide) ?_
                      refine z_lv (lv' := [(6, .int (nI (w.1 - 1) - nI 1)), (4, .long (lN (pB n 4 / 1024 ^ (4 - (w.1 - 1))))), (0, .ref mo)]) [0, 1, 3] rfl ?_
                      exact ih4 ((w.1 - 1, upd w.2.1 (w.1 - 1) (nI (wt (ml n (w.1 - 1)))), upd (upd w.2.2.1 (2 * (w.1 - 1) + 1) (nI (en (ml n (w.1 - 1)) 1 / 4))) (2 * (w.1 - 1)) (nI (en (ml n (w.1 - 1)) 0 / 4)), upd (upd w.2.2.2 (2 * (w.1 - 1) + 1) (nI (en (ml n (w.1 - 1)) 1 % 4))) (2 * (w.1 - 1)) (nI (en (ml n (w.1 - 1)) 0 % 4)))) ⟨by show w.1 - 1 ≤ 4; omega, sp4_step i24 (by omega)⟩ (by show w.1 - 1 < w.1; omega)
                    · exact absurd (i_dec_lt (by omega)) h7
            · exact absurd (by decide) h3
          · refine z_lve (lv' := [(4, .int (nI (z.1 - 1))), (2, .long (lN (pA n 4 / 8 ^ (4 - z.1)))), (0, .ref mo), (1, .int (nI i0))]) (by rw [show nI z.1 - nI 1 = nI (z.1 - 1) from pk_sub (by omega)]) ?_
            refine z_iload X (pc' := 75) dX4_spread_73 0 rfl rfl ?_
            refine z_if_ltN X (tgt := 101) (pc' := 78) (by omega) dX4_spread_75 (by decide) rfl ?_
            refine z_aload_n X (pc' := 79) dX4_spread_78 rfl 2 rfl rfl ?_
            refine z_get X (v := .ref (ad 13)) (pc' := 82) 0 rfl rfl inX4 13 (by decide) mF_X4_44 rfl dX4_spread_79 rfl ?_
            refine z_iload X (pc' := 84) dX4_spread_82 0 rfl rfl ?_
            refine z_lload_n X (pc' := 85) dX4_spread_84 rfl 1 rfl rfl ?_
            refine z_ldc2 X (v := lN 7) (pc' := 88) mJ_X4_88 dX4_spread_85 rfl ?_
            refine z_land X (pc' := 89) dX4_spread_88 rfl ?_
            refine z_l2i X (pc' := 90) dX4_spread_89 rfl rfl ?_
            refine z_topi (y := nI (pl (ml n (z.1 - 1)))) (ll_dl 3 (by decide) ((pA_dg n (by omega)).trans (by rw [show 3 - (4 - z.1) = z.1 - 1 by omega]))) ?_
            refine z_iast X (ws' := [(mo, .inr (4, [.int (nI th), .ref (ad 1), .ref (ad 2), .ref (ad 3), .ref (ad 4), .int (nI st), .ref (ad 6), .ref (ad 7), .ref (ad 8), .ref (ad 9), .ref (ad 10), .ref (ad 11), .ref (ad 12), .ref (ad 13), .ref (ad 14), .ref (ad 15), .ref (ad 16), .ref (ad 17), .ref (ad 18), .int (nI tol), .int (nI ts), .int (nI tf), .int (nI td), .ref (ad 23), .ref (ad 24), .ref (ad 25), .ref (ad 26)])), (ad 6, .inl (cJ, 20000, .inr (.inl f1))), (ad 7, .inl (cJ, 20000, .inr (.inl f2))), (ad 13, .inl (cI, 4, .inl (upd z.2 (z.1 - 1) (nI (pl (ml n (z.1 - 1))))))), (ad 14, .inl (cI, 16, .inl y.2)), (ad 15, .inl (cI, 4, .inl x.2)), (ad 16, .inl (cI, 4, .inl fh)), (ad 17, .inl (cI, 8, .inl fW)), (ad 18, .inl (cI, 8, .inl fV))]) (pc' := 91) 3 0 rfl rfl (by omega) (by omega) dX4_spread_90 rfl rfl ?_
            refine z_lload_n X (pc' := 92) dX4_spread_91 rfl 1 rfl rfl ?_
            refine z_iconst X (v := nI 3) (pc' := 93) dX4_spread_92 (by decide) rfl ?_
            refine z_lshr X (pc' := 94) dX4_spread_93 rfl rfl ?_
            refine z_topl (y := lN (pA n 4 / 8 ^ (4 - (z.1 - 1)))) (ll_dv (Nat.lt_trans (pA_lt n 4) (by decide)) (by decide) (by decide) (by omega)) ?_
            refine z_lstore_n X (lv' := [(2, .long (lN (pA n 4 / 8 ^ (4 - (z.1 - 1))))), (4, .int (nI (z.1 - 1))), (0, .ref mo), (1, .int (nI i0))]) (pc' := 95) dX4_spread_94 rfl (by decide) rfl rfl ?_
            refine z_iinc X (v := nI (z.1 - 1) - nI 1) (lv' := [(4, .int (nI (z.1 - 1) - nI 1)), (2, .long (lN (pA n 4 / 8 ^ (4 - (z.1 - 1))))), (0, .ref mo), (1, .int (nI i0))]) (k := 1) (pc' := 98) dX4_spread_95 rfl i_m1 (by decide) rfl rfl ?_
            refine z_goto X (tgt := 73) dX4_spread_98 (by decide) ?_
            refine z_lv (lv' := [(4, .int (nI (z.1 - 1) - nI 1)), (2, .long (lN (pA n 4 / 8 ^ (4 - (z.1 - 1))))), (0, .ref mo), (1, .int (nI i0))]) [0, 1, 2, 3] rfl ?_
            exact ih3 ((z.1 - 1, upd z.2 (z.1 - 1) (nI (pl (ml n (z.1 - 1)))))) ⟨by show z.1 - 1 ≤ 4; omega, dn_step (v := fun i => pl (ml n i)) i23⟩ (by show z.1 - 1 < z.1; omega)
        · exact absurd (by decide) h2
      · refine z_lve (lv' := [(4, .int (nI (y.1 - 1))), (2, .long (lN (pk1 (h, n) / 4 ^ (20 - y.1)))), (0, .ref mo), (1, .int (nI i0))]) (by rw [show nI y.1 - nI 1 = nI (y.1 - 1) from pk_sub (by omega)]) ?_
        refine z_iload X (pc' := 44) dX4_spread_42 0 rfl rfl ?_
        refine z_if_ltN X (tgt := 70) (pc' := 47) (by omega) dX4_spread_44 (by decide) rfl ?_
        refine z_aload_n X (pc' := 48) dX4_spread_47 rfl 2 rfl rfl ?_
        refine z_get X (v := .ref (ad 14)) (pc' := 51) 0 rfl rfl inX4 14 (by decide) mF_X4_47 rfl dX4_spread_48 rfl ?_
        refine z_iload X (pc' := 53) dX4_spread_51 0 rfl rfl ?_
        refine z_lload_n X (pc' := 54) dX4_spread_53 rfl 1 rfl rfl ?_
        refine z_ldc2 X (v := lN 3) (pc' := 57) mJ_X4_86 dX4_spread_54 rfl ?_
        refine z_land X (pc' := 58) dX4_spread_57 rfl ?_
        refine z_l2i X (pc' := 59) dX4_spread_58 rfl rfl ?_
        refine z_topi (y := nI (mi h (y.1 - 1))) (ll_dl 2 (by decide) ((pk1_dg (q := (h, n)) hh (by omega)).trans (by rw [show 19 - (20 - y.1) = y.1 - 1 by omega]))) ?_
        refine z_iast X (ws' := [(mo, .inr (4, [.int (nI th), .ref (ad 1), .ref (ad 2), .ref (ad 3), .ref (ad 4), .int (nI st), .ref (ad 6), .ref (ad 7), .ref (ad 8), .ref (ad 9), .ref (ad 10), .ref (ad 11), .ref (ad 12), .ref (ad 13), .ref (ad 14), .ref (ad 15), .ref (ad 16), .ref (ad 17), .ref (ad 18), .int (nI tol), .int (nI ts), .int (nI tf), .int (nI td), .ref (ad 23), .ref (ad 24), .ref (ad 25), .ref (ad 26)])), (ad 6, .inl (cJ, 20000, .inr (.inl f1))), (ad 7, .inl (cJ, 20000, .inr (.inl f2))), (ad 13, .inl (cI, 4, .inl fa)), (ad 14, .inl (cI, 16, .inl (upd y.2 (y.1 - 1) (nI (mi h (y.1 - 1)))))), (ad 15, .inl (cI, 4, .inl x.2)), (ad 16, .inl (cI, 4, .inl fh)), (ad 17, .inl (cI, 8, .inl fW)), (ad 18, .inl (cI, 8, .inl fV))]) (pc' := 60) 4 0 rfl rfl (by omega) (by omega) dX4_spread_59 rfl rfl ?_
        refine z_lload_n X (pc' := 61) dX4_spread_60 rfl 1 rfl rfl ?_
        refine z_iconst X (v := nI 2) (pc' := 62) dX4_spread_61 (by decide) rfl ?_
        refine z_lshr X (pc' := 63) dX4_spread_62 rfl rfl ?_
        refine z_topl (y := lN (pk1 (h, n) / 4 ^ (20 - (y.1 - 1)))) (ll_dv (Nat.lt_trans (pk1_lt (q := (h, n)) hh) (by decide)) (by decide) (by decide) (by omega)) ?_
        refine z_lstore_n X (lv' := [(2, .long (lN (pk1 (h, n) / 4 ^ (20 - (y.1 - 1))))), (4, .int (nI (y.1 - 1))), (0, .ref mo), (1, .int (nI i0))]) (pc' := 64) dX4_spread_63 rfl (by decide) rfl rfl ?_
        refine z_iinc X (v := nI (y.1 - 1) - nI 1) (lv' := [(4, .int (nI (y.1 - 1) - nI 1)), (2, .long (lN (pk1 (h, n) / 4 ^ (20 - (y.1 - 1))))), (0, .ref mo), (1, .int (nI i0))]) (k := 1) (pc' := 67) dX4_spread_64 rfl i_m1 (by decide) rfl rfl ?_
        refine z_goto X (tgt := 42) dX4_spread_67 (by decide) ?_
        refine z_lv (lv' := [(4, .int (nI (y.1 - 1) - nI 1)), (2, .long (lN (pk1 (h, n) / 4 ^ (20 - (y.1 - 1))))), (0, .ref mo), (1, .int (nI i0))]) [0, 1, 2, 3] rfl ?_
        exact ih2 ((y.1 - 1, upd y.2 (y.1 - 1) (nI (mi h (y.1 - 1))))) ⟨by show y.1 - 1 ≤ 16; omega, dn_step (v := fun i => mi h i) i22⟩ (by show y.1 - 1 < y.1; omega)
    · exact absurd (by decide) h1
  · refine z_lve (lv' := [(4, .int (nI (x.1 - 1))), (2, .long (lN (pk1 (h, n) / 4 ^ (4 - x.1)))), (0, .ref mo), (1, .int (nI i0))]) (by rw [show nI x.1 - nI 1 = nI (x.1 - 1) from pk_sub (by omega)]) ?_
    refine z_iload X (pc' := 12) dX4_spread_10 0 rfl rfl ?_
    refine z_if_ltN X (tgt := 38) (pc' := 15) (by omega) dX4_spread_12 (by decide) rfl ?_
    refine z_aload_n X (pc' := 16) dX4_spread_15 rfl 2 rfl rfl ?_
    refine z_get X (v := .ref (ad 15)) (pc' := 19) 0 rfl rfl inX4 15 (by decide) mF_X4_50 rfl dX4_spread_16 rfl ?_
    refine z_iload X (pc' := 21) dX4_spread_19 0 rfl rfl ?_
    refine z_lload_n X (pc' := 22) dX4_spread_21 rfl 1 rfl rfl ?_
    refine z_ldc2 X (v := lN 3) (pc' := 25) mJ_X4_86 dX4_spread_22 rfl ?_
    refine z_land X (pc' := 26) dX4_spread_25 rfl ?_
    refine z_l2i X (pc' := 27) dX4_spread_26 rfl rfl ?_
    refine z_topi (y := nI (mi h (16 + (x.1 - 1)))) (ll_dl 2 (by decide) ((pk1_dg (q := (h, n)) hh (by omega)).trans (by rw [show 19 - (4 - x.1) = 16 + (x.1 - 1) by omega]))) ?_
    refine z_iast X (ws' := [(mo, .inr (4, [.int (nI th), .ref (ad 1), .ref (ad 2), .ref (ad 3), .ref (ad 4), .int (nI st), .ref (ad 6), .ref (ad 7), .ref (ad 8), .ref (ad 9), .ref (ad 10), .ref (ad 11), .ref (ad 12), .ref (ad 13), .ref (ad 14), .ref (ad 15), .ref (ad 16), .ref (ad 17), .ref (ad 18), .int (nI tol), .int (nI ts), .int (nI tf), .int (nI td), .ref (ad 23), .ref (ad 24), .ref (ad 25), .ref (ad 26)])), (ad 6, .inl (cJ, 20000, .inr (.inl f1))), (ad 7, .inl (cJ, 20000, .inr (.inl f2))), (ad 13, .inl (cI, 4, .inl fa)), (ad 14, .inl (cI, 16, .inl fr)), (ad 15, .inl (cI, 4, .inl (upd x.2 (x.1 - 1) (nI (mi h (16 + (x.1 - 1))))))), (ad 16, .inl (cI, 4, .inl fh)), (ad 17, .inl (cI, 8, .inl fW)), (ad 18, .inl (cI, 8, .inl fV))]) (pc' := 28) 5 0 rfl rfl (by omega) (by omega) dX4_spread_27 rfl rfl ?_
    refine z_lload_n X (pc' := 29) dX4_spread_28 rfl 1 rfl rfl ?_
    refine z_iconst X (v := nI 2) (pc' := 30) dX4_spread_29 (by decide) rfl ?_
    refine z_lshr X (pc' := 31) dX4_spread_30 rfl rfl ?_
    refine z_topl (y := lN (pk1 (h, n) / 4 ^ (4 - (x.1 - 1)))) (ll_dv (Nat.lt_trans (pk1_lt (q := (h, n)) hh) (by decide)) (by decide) (by decide) (by omega)) ?_
    refine z_lstore_n X (lv' := [(2, .long (lN (pk1 (h, n) / 4 ^ (4 - (x.1 - 1))))), (4, .int (nI (x.1 - 1))), (0, .ref mo), (1, .int (nI i0))]) (pc' := 32) dX4_spread_31 rfl (by decide) rfl rfl ?_
    refine z_iinc X (v := nI (x.1 - 1) - nI 1) (lv' := [(4, .int (nI (x.1 - 1) - nI 1)), (2, .long (lN (pk1 (h, n) / 4 ^ (4 - (x.1 - 1))))), (0, .ref mo), (1, .int (nI i0))]) (k := 1) (pc' := 35) dX4_spread_32 rfl i_m1 (by decide) rfl rfl ?_
    refine z_goto X (tgt := 10) dX4_spread_35 (by decide) ?_
    refine z_lv (lv' := [(4, .int (nI (x.1 - 1) - nI 1)), (2, .long (lN (pk1 (h, n) / 4 ^ (4 - (x.1 - 1))))), (0, .ref mo), (1, .int (nI i0))]) [0, 1, 2, 3] rfl ?_
    exact ih1 ((x.1 - 1, upd x.2 (x.1 - 1) (nI (mi h (16 + (x.1 - 1)))))) ⟨by show x.1 - 1 ≤ 4; omega, dn_step (v := fun i => mi h (16 + i)) i21⟩ (by show x.1 - 1 < x.1; omega)
set_option maxHeartbeats 4000000 in
set_option maxRecDepth 100000 in
/-- the places, registers and words as a long -/
theorem r_packed (l : Launch) (D : va_G) (cI cJ : ClassId) (sz : Nat) (mo th st tol ts tf td : Nat) (ad : Nat → Nat) (h n : Nat) (fa fr fw fh fW fV : Nat → Int32) (hh : h < 4 ^ 20) (hW : WS h n fa fr fw fh fW fV) : KL l D cI cJ yX4_packed cX4_packed 4 (some .long) 0 0 0 0 [.ref mo] [(mo, .inr (4, [.int (nI th), .ref (ad 1), .ref (ad 2), .ref (ad 3), .ref (ad 4), .int (nI st), .ref (ad 6), .ref (ad 7), .ref (ad 8), .ref (ad 9), .ref (ad 10), .ref (ad 11), .ref (ad 12), .ref (ad 13), .ref (ad 14), .ref (ad 15), .ref (ad 16), .ref (ad 17), .ref (ad 18), .int (nI tol), .int (nI ts), .int (nI tf), .int (nI td), .ref (ad 23), .ref (ad 24), .ref (ad 25), .ref (ad 26)])), (ad 13, .inl (cI, 4, .inl fa)), (ad 14, .inl (cI, 16, .inl fr)), (ad 15, .inl (cI, 4, .inl fw))] sz (S := Unit) (fun r _ => r = lN (pk1 (h, n))) (fun _ => [(mo, .inr (4, [.int (nI th), .ref (ad 1), .ref (ad 2), .ref (ad 3), .ref (ad 4), .int (nI st), .ref (ad 6), .ref (ad 7), .ref (ad 8), .ref (ad 9), .ref (ad 10), .ref (ad 11), .ref (ad 12), .ref (ad 13), .ref (ad 14), .ref (ad 15), .ref (ad 16), .ref (ad 17), .ref (ad 18), .int (nI tol), .int (nI ts), .int (nI tf), .int (nI td), .ref (ad 23), .ref (ad 24), .ref (ad 25), .ref (ad 26)])), (ad 13, .inl (cI, 4, .inl fa)), (ad 14, .inl (cI, 16, .inl fr)), (ad 15, .inl (cI, 4, .inl fw))]) := by
  refine zMetL (lv := [(0, .ref mo)]) NS0_ok (by decide) rfl (Nat.le_of_ble_eq_true rfl) rfl ?_
  intro p e s m args below meth c A X hin hA
  refine z_lconst X (v := lN 0) (pc' := 1) dX4_packed_0 (by decide) rfl ?_
  refine z_topl (y := lN (pA n 0)) rfl ?_
  refine z_lstore_n X (lv' := [(1, .long (lN (pA n 0))), (0, .ref mo)]) (pc' := 2) dX4_packed_1 rfl (by decide) rfl rfl ?_
  refine z_iconst X (v := nI 0) (pc' := 3) dX4_packed_2 (by decide) rfl ?_
  refine z_istore_n X (lv' := [(3, .int (nI 0)), (1, .long (lN (pA n 0))), (0, .ref mo)]) (pc' := 4) dX4_packed_3 rfl (by decide) rfl rfl ?_
  refine z_lv (lv' := [(3, .int (nI 0)), (1, .long (lN (pA n 0))), (0, .ref mo)]) [0, 1, 2] rfl ?_
  refine z_loop (σ := Nat) (fun x => x ≤ 4) (fun x => 4 - x) (fun x => [(3, .int (nI x)), (1, .long (lN (pA n x))), (0, .ref mo)]) (fun x => [(mo, .inr (4, [.int (nI th), .ref (ad 1), .ref (ad 2), .ref (ad 3), .ref (ad 4), .int (nI st), .ref (ad 6), .ref (ad 7), .ref (ad 8), .ref (ad 9), .ref (ad 10), .ref (ad 11), .ref (ad 12), .ref (ad 13), .ref (ad 14), .ref (ad 15), .ref (ad 16), .ref (ad 17), .ref (ad 18), .int (nI tol), .int (nI ts), .int (nI tf), .int (nI td), .ref (ad 23), .ref (ad 24), .ref (ad 25), .ref (ad 26)])), (ad 13, .inl (cI, 4, .inl fa)), (ad 14, .inl (cI, 16, .inl fr)), (ad 15, .inl (cI, 4, .inl fw))]) (fun x => 0) (fun x => 0) 0 (Nat.zero_le _) ?_
  intro x hI ih1
  show Z _ _ _ _ _ _ _ _ _ _ _ _ _ _ _ 4 [(3, .int (nI x)), (1, .long (lN (pA n x))), (0, .ref mo)] [] [(mo, .inr (4, [.int (nI th), .ref (ad 1), .ref (ad 2), .ref (ad 3), .ref (ad 4), .int (nI st), .ref (ad 6), .ref (ad 7), .ref (ad 8), .ref (ad 9), .ref (ad 10), .ref (ad 11), .ref (ad 12), .ref (ad 13), .ref (ad 14), .ref (ad 15), .ref (ad 16), .ref (ad 17), .ref (ad 18), .int (nI tol), .int (nI ts), .int (nI tf), .int (nI td), .ref (ad 23), .ref (ad 24), .ref (ad 25), .ref (ad 26)])), (ad 13, .inl (cI, 4, .inl fa)), (ad 14, .inl (cI, 16, .inl fr)), (ad 15, .inl (cI, 4, .inl fw))] 0 0
  refine z_iload_n X (pc' := 5) dX4_packed_4 rfl 0 rfl rfl ?_
  refine z_iconst X (v := nI 4) (pc' := 6) dX4_packed_5 (by decide) rfl ?_
  refine z_icmp_geN X (tgt := 27) (pc' := 9) (by omega) (by decide) dX4_packed_6 (by decide) rfl (fun h1 => ?_) (fun h1 => ?_)
  · have hx4 : x = 4 := by omega
    refine z_lve (lv' := [(3, .int (nI x)), (1, .long (lN (pA n 4 * 4 ^ 0 + hor 4 (mi h) 0))), (0, .ref mo)]) (by rw [hx4, show pA n 4 * 4 ^ 0 + hor 4 (mi h) 0 = pA n 4 from Nat.mul_one _]) ?_
    refine z_iconst X (v := nI 0) (pc' := 28) dX4_packed_27 (by decide) rfl ?_
    refine z_istore_n X (lv' := [(3, .int (nI 0)), (1, .long (lN (pA n 4 * 4 ^ 0 + hor 4 (mi h) 0))), (0, .ref mo)]) (pc' := 29) dX4_packed_28 rfl (by decide) rfl rfl ?_
    refine z_lv (lv' := [(3, .int (nI 0)), (1, .long (lN (pA n 4 * 4 ^ 0 + hor 4 (mi h) 0))), (0, .ref mo)]) [0, 1, 2] rfl ?_
    refine z_loop (σ := Nat) (fun y => y ≤ 16) (fun y => 16 - y) (fun y => [(3, .int (nI y)), (1, .long (lN (pA n 4 * 4 ^ y + hor 4 (mi h) y))), (0, .ref mo)]) (fun y => [(mo, .inr (4, [.int (nI th), .ref (ad 1), .ref (ad 2), .ref (ad 3), .ref (ad 4), .int (nI st), .ref (ad 6), .ref (ad 7), .ref (ad 8), .ref (ad 9), .ref (ad 10), .ref (ad 11), .ref (ad 12), .ref (ad 13), .ref (ad 14), .ref (ad 15), .ref (ad 16), .ref (ad 17), .ref (ad 18), .int (nI tol), .int (nI ts), .int (nI tf), .int (nI td), .ref (ad 23), .ref (ad 24), .ref (ad 25), .ref (ad 26)])), (ad 13, .inl (cI, 4, .inl fa)), (ad 14, .inl (cI, 16, .inl fr)), (ad 15, .inl (cI, 4, .inl fw))]) (fun y => 0) (fun y => 0) 0 (Nat.zero_le _) ?_
    intro y hI ih2
    show Z _ _ _ _ _ _ _ _ _ _ _ _ _ _ _ 29 [(3, .int (nI y)), (1, .long (lN (pA n 4 * 4 ^ y + hor 4 (mi h) y))), (0, .ref mo)] [] [(mo, .inr (4, [.int (nI th), .ref (ad 1), .ref (ad 2), .ref (ad 3), .ref (ad 4), .int (nI st), .ref (ad 6), .ref (ad 7), .ref (ad 8), .ref (ad 9), .ref (ad 10), .ref (ad 11), .ref (ad 12), .ref (ad 13), .ref (ad 14), .ref (ad 15), .ref (ad 16), .ref (ad 17), .ref (ad 18), .int (nI tol), .int (nI ts), .int (nI tf), .int (nI td), .ref (ad 23), .ref (ad 24), .ref (ad 25), .ref (ad 26)])), (ad 13, .inl (cI, 4, .inl fa)), (ad 14, .inl (cI, 16, .inl fr)), (ad 15, .inl (cI, 4, .inl fw))] 0 0
    refine z_iload_n X (pc' := 30) dX4_packed_29 rfl 0 rfl rfl ?_
    refine z_bipush X (v := nI 16) (pc' := 32) dX4_packed_30 (by decide) rfl ?_
    refine z_icmp_geN X (tgt := 53) (pc' := 35) (by omega) (by decide) dX4_packed_32 (by decide) rfl (fun h2 => ?_) (fun h2 => ?_)
    · have hy4 : y = 16 := by omega
      refine z_lve (lv' := [(3, .int (nI y)), (1, .long (lN (pA n 4 * 4 ^ (16 + 0) + hor 4 (mi h) (16 + 0)))), (0, .ref mo)]) (by rw [hy4]) ?_
      refine z_iconst X (v := nI 0) (pc' := 54) dX4_packed_53 (by decide) rfl ?_
      refine z_istore_n X (lv' := [(3, .int (nI 0)), (1, .long (lN (pA n 4 * 4 ^ (16 + 0) + hor 4 (mi h) (16 + 0)))), (0, .ref mo)]) (pc' := 55) dX4_packed_54 rfl (by decide) rfl rfl ?_
      refine z_lv (lv' := [(3, .int (nI 0)), (1, .long (lN (pA n 4 * 4 ^ (16 + 0) + hor 4 (mi h) (16 + 0)))), (0, .ref mo)]) [0, 1, 2] rfl ?_
      refine z_loop (σ := Nat) (fun z => z ≤ 4) (fun z => 4 - z) (fun z => [(3, .int (nI z)), (1, .long (lN (pA n 4 * 4 ^ (16 + z) + hor 4 (mi h) (16 + z)))), (0, .ref mo)]) (fun z => [(mo, .inr (4, [.int (nI th), .ref (ad 1), .ref (ad 2), .ref (ad 3), .ref (ad 4), .int (nI st), .ref (ad 6), .ref (ad 7), .ref (ad 8), .ref (ad 9), .ref (ad 10), .ref (ad 11), .ref (ad 12), .ref (ad 13), .ref (ad 14), .ref (ad 15), .ref (ad 16), .ref (ad 17), .ref (ad 18), .int (nI tol), .int (nI ts), .int (nI tf), .int (nI td), .ref (ad 23), .ref (ad 24), .ref (ad 25), .ref (ad 26)])), (ad 13, .inl (cI, 4, .inl fa)), (ad 14, .inl (cI, 16, .inl fr)), (ad 15, .inl (cI, 4, .inl fw))]) (fun z => 0) (fun z => 0) 0 (Nat.zero_le _) ?_
      intro z hI ih3
      show Z _ _ _ _ _ _ _ _ _ _ _ _ _ _ _ 55 [(3, .int (nI z)), (1, .long (lN (pA n 4 * 4 ^ (16 + z) + hor 4 (mi h) (16 + z)))), (0, .ref mo)] [] [(mo, .inr (4, [.int (nI th), .ref (ad 1), .ref (ad 2), .ref (ad 3), .ref (ad 4), .int (nI st), .ref (ad 6), .ref (ad 7), .ref (ad 8), .ref (ad 9), .ref (ad 10), .ref (ad 11), .ref (ad 12), .ref (ad 13), .ref (ad 14), .ref (ad 15), .ref (ad 16), .ref (ad 17), .ref (ad 18), .int (nI tol), .int (nI ts), .int (nI tf), .int (nI td), .ref (ad 23), .ref (ad 24), .ref (ad 25), .ref (ad 26)])), (ad 13, .inl (cI, 4, .inl fa)), (ad 14, .inl (cI, 16, .inl fr)), (ad 15, .inl (cI, 4, .inl fw))] 0 0
      refine z_iload_n X (pc' := 56) dX4_packed_55 rfl 0 rfl rfl ?_
      refine z_iconst X (v := nI 4) (pc' := 57) dX4_packed_56 (by decide) rfl ?_
      refine z_icmp_geN X (tgt := 78) (pc' := 60) (by omega) (by decide) dX4_packed_57 (by decide) rfl (fun h3 => ?_) (fun h3 => ?_)
      · have hz4 : z = 4 := by omega
        refine z_lload_n X (pc' := 79) dX4_packed_78 rfl 1 rfl rfl ?_
        exact z_lret X () (by rw [hz4]; show lN (pA n 4 * 4 ^ 20 + hor 4 (mi h) 20) = lN (pA n 4 * 4 ^ 20 + h); rw [hor_mi hh]) rfl (Nat.le_of_ble_eq_true rfl) (Nat.le_of_ble_eq_true rfl) dX4_packed_79
      · have hz4 : z < 4 := by omega
        refine z_lload_n X (pc' := 61) dX4_packed_60 rfl 1 rfl rfl ?_
        refine z_iconst X (v := nI 2) (pc' := 62) dX4_packed_61 (by decide) rfl ?_
        refine z_lshl X (pc' := 63) dX4_packed_62 rfl rfl ?_
        refine z_aload_n X (pc' := 64) dX4_packed_63 rfl 2 rfl rfl ?_
        refine z_get X (v := .ref (ad 15)) (pc' := 67) 0 rfl rfl inX4 15 (by decide) mF_X4_50 rfl dX4_packed_64 rfl ?_
        refine z_iload_n X (pc' := 68) dX4_packed_67 rfl 0 rfl rfl ?_
        refine z_iald X (pc' := 69) 3 0 rfl rfl (by omega) (by omega) dX4_packed_68 rfl ?_
        refine z_topi (y := nI (mi h (16 + z))) (hW.2.2 z hz4) ?_
        refine z_i2l X (pc' := 70) dX4_packed_69 rfl rfl ?_
        refine z_lor X (pc' := 71) dX4_packed_70 rfl ?_
        refine z_topl (y := lN (pA n 4 * 4 ^ (16 + (z + 1)) + hor 4 (mi h) (16 + (z + 1)))) ((ll_push (k := 2) _ (by decide) (mi_lt h (16 + z))).trans (by congr 1; rw [← Nat.add_assoc, show (4 : Nat) ^ (16 + z + 1) = 4 ^ (16 + z) * 4 from Nat.pow_succ _ _, ← Nat.mul_assoc]; show _ = _ + (hor 4 (mi h) (16 + z) * 4 + mi h (16 + z)); omega)) ?_
        refine z_lstore_n X (lv' := [(1, .long (lN (pA n 4 * 4 ^ (16 + (z + 1)) + hor 4 (mi h) (16 + (z + 1))))), (3, .int (nI z)), (0, .ref mo)]) (pc' := 72) dX4_packed_71 rfl (by decide) rfl rfl ?_
        refine z_iinc X (v := nI (z + 1)) (lv' := [(3, .int (nI (z + 1))), (1, .long (lN (pA n 4 * 4 ^ (16 + (z + 1)) + hor 4 (mi h) (16 + (z + 1))))), (0, .ref mo)]) (k := 1) (pc' := 75) dX4_packed_72 rfl (nI_1 _) (by decide) rfl rfl ?_
        refine z_goto X (tgt := 55) dX4_packed_75 (by decide) ?_
        refine z_lv (lv' := [(3, .int (nI (z + 1))), (1, .long (lN (pA n 4 * 4 ^ (16 + (z + 1)) + hor 4 (mi h) (16 + (z + 1))))), (0, .ref mo)]) [0, 1, 2] rfl ?_
        exact ih3 (z + 1) (show z + 1 ≤ 4 by omega) (by omega)
    · have hy4 : y < 16 := by omega
      refine z_lload_n X (pc' := 36) dX4_packed_35 rfl 1 rfl rfl ?_
      refine z_iconst X (v := nI 2) (pc' := 37) dX4_packed_36 (by decide) rfl ?_
      refine z_lshl X (pc' := 38) dX4_packed_37 rfl rfl ?_
      refine z_aload_n X (pc' := 39) dX4_packed_38 rfl 2 rfl rfl ?_
      refine z_get X (v := .ref (ad 14)) (pc' := 42) 0 rfl rfl inX4 14 (by decide) mF_X4_47 rfl dX4_packed_39 rfl ?_
      refine z_iload_n X (pc' := 43) dX4_packed_42 rfl 0 rfl rfl ?_
      refine z_iald X (pc' := 44) 2 0 rfl rfl (by omega) (by omega) dX4_packed_43 rfl ?_
      refine z_topi (y := nI (mi h y)) (hW.2.1 y hy4) ?_
      refine z_i2l X (pc' := 45) dX4_packed_44 rfl rfl ?_
      refine z_lor X (pc' := 46) dX4_packed_45 rfl ?_
      refine z_topl (y := lN (pA n 4 * 4 ^ (y + 1) + hor 4 (mi h) (y + 1))) ((ll_push (k := 2) _ (by decide) (mi_lt h y)).trans (by congr 1; rw [show (4 : Nat) ^ (y + 1) = 4 ^ y * 4 from Nat.pow_succ _ _, ← Nat.mul_assoc]; show _ = _ + (hor 4 (mi h) y * 4 + mi h y); omega)) ?_
      refine z_lstore_n X (lv' := [(1, .long (lN (pA n 4 * 4 ^ (y + 1) + hor 4 (mi h) (y + 1)))), (3, .int (nI y)), (0, .ref mo)]) (pc' := 47) dX4_packed_46 rfl (by decide) rfl rfl ?_
      refine z_iinc X (v := nI (y + 1)) (lv' := [(3, .int (nI (y + 1))), (1, .long (lN (pA n 4 * 4 ^ (y + 1) + hor 4 (mi h) (y + 1)))), (0, .ref mo)]) (k := 1) (pc' := 50) dX4_packed_47 rfl (nI_1 _) (by decide) rfl rfl ?_
      refine z_goto X (tgt := 29) dX4_packed_50 (by decide) ?_
      refine z_lv (lv' := [(3, .int (nI (y + 1))), (1, .long (lN (pA n 4 * 4 ^ (y + 1) + hor 4 (mi h) (y + 1)))), (0, .ref mo)]) [0, 1, 2] rfl ?_
      exact ih2 (y + 1) (show y + 1 ≤ 16 by omega) (by omega)
  · have hx4 : x < 4 := by omega
    refine z_lload_n X (pc' := 10) dX4_packed_9 rfl 1 rfl rfl ?_
    refine z_iconst X (v := nI 3) (pc' := 11) dX4_packed_10 (by decide) rfl ?_
    refine z_lshl X (pc' := 12) dX4_packed_11 rfl rfl ?_
    refine z_aload_n X (pc' := 13) dX4_packed_12 rfl 2 rfl rfl ?_
    refine z_get X (v := .ref (ad 13)) (pc' := 16) 0 rfl rfl inX4 13 (by decide) mF_X4_44 rfl dX4_packed_13 rfl ?_
    refine z_iload_n X (pc' := 17) dX4_packed_16 rfl 0 rfl rfl ?_
    refine z_iald X (pc' := 18) 1 0 rfl rfl (by omega) (by omega) dX4_packed_17 rfl ?_
    refine z_topi (y := nI (pl (ml n x))) (hW.1 x hx4).1 ?_
    refine z_i2l X (pc' := 19) dX4_packed_18 rfl rfl ?_
    refine z_lor X (pc' := 20) dX4_packed_19 rfl ?_
    refine z_topl (y := lN (pA n (x + 1))) (ll_push (k := 3) (pA n x) (by decide) (pl_lt _)) ?_
    refine z_lstore_n X (lv' := [(1, .long (lN (pA n (x + 1)))), (3, .int (nI x)), (0, .ref mo)]) (pc' := 21) dX4_packed_20 rfl (by decide) rfl rfl ?_
    refine z_iinc X (v := nI (x + 1)) (lv' := [(3, .int (nI (x + 1))), (1, .long (lN (pA n (x + 1)))), (0, .ref mo)]) (k := 1) (pc' := 24) dX4_packed_21 rfl (nI_1 _) (by decide) rfl rfl ?_
    refine z_goto X (tgt := 4) dX4_packed_24 (by decide) ?_
    refine z_lv (lv' := [(3, .int (nI (x + 1))), (1, .long (lN (pA n (x + 1)))), (0, .ref mo)]) [0, 1, 2] rfl ?_
    exact ih1 (x + 1) (show x + 1 ≤ 4 by omega) (by omega)
set_option maxHeartbeats 4000000 in
set_option maxRecDepth 100000 in
/-- the waiting stores as a long -/
theorem r_buffered (l : Launch) (D : va_G) (cI cJ : ClassId) (sz : Nat) (mo th st tol ts tf td : Nat) (ad : Nat → Nat) (h n : Nat) (fa fr fw fh fW fV : Nat → Int32) (hL : ∀ t, t < 4 → Lok (ml n t)) (hW : WS h n fa fr fw fh fW fV) : KL l D cI cJ yX4_buffered cX4_buffered 6 (some .long) 0 0 0 0 [.ref mo] [(mo, .inr (4, [.int (nI th), .ref (ad 1), .ref (ad 2), .ref (ad 3), .ref (ad 4), .int (nI st), .ref (ad 6), .ref (ad 7), .ref (ad 8), .ref (ad 9), .ref (ad 10), .ref (ad 11), .ref (ad 12), .ref (ad 13), .ref (ad 14), .ref (ad 15), .ref (ad 16), .ref (ad 17), .ref (ad 18), .int (nI tol), .int (nI ts), .int (nI tf), .int (nI td), .ref (ad 23), .ref (ad 24), .ref (ad 25), .ref (ad 26)])), (ad 16, .inl (cI, 4, .inl fh)), (ad 17, .inl (cI, 8, .inl fW)), (ad 18, .inl (cI, 8, .inl fV))] sz (S := Unit) (fun r _ => r = lN (pk2 (h, n))) (fun _ => [(mo, .inr (4, [.int (nI th), .ref (ad 1), .ref (ad 2), .ref (ad 3), .ref (ad 4), .int (nI st), .ref (ad 6), .ref (ad 7), .ref (ad 8), .ref (ad 9), .ref (ad 10), .ref (ad 11), .ref (ad 12), .ref (ad 13), .ref (ad 14), .ref (ad 15), .ref (ad 16), .ref (ad 17), .ref (ad 18), .int (nI tol), .int (nI ts), .int (nI tf), .int (nI td), .ref (ad 23), .ref (ad 24), .ref (ad 25), .ref (ad 26)])), (ad 16, .inl (cI, 4, .inl fh)), (ad 17, .inl (cI, 8, .inl fW)), (ad 18, .inl (cI, 8, .inl fV))]) := by
  refine zMetL (lv := [(0, .ref mo)]) NS0_ok (by decide) rfl (Nat.le_of_ble_eq_true rfl) rfl ?_
  intro p e s m args below meth c A X hin hA
  refine z_lconst X (v := lN 0) (pc' := 1) dX4_buffered_0 (by decide) rfl ?_
  refine z_topl (y := lN (pB n 0)) rfl ?_
  refine z_lstore_n X (lv' := [(1, .long (lN (pB n 0))), (0, .ref mo)]) (pc' := 2) dX4_buffered_1 rfl (by decide) rfl rfl ?_
  refine z_iconst X (v := nI 0) (pc' := 3) dX4_buffered_2 (by decide) rfl ?_
  refine z_istore_n X (lv' := [(3, .int (nI 0)), (1, .long (lN (pB n 0))), (0, .ref mo)]) (pc' := 4) dX4_buffered_3 rfl (by decide) rfl rfl ?_
  refine z_lv (lv' := [(3, .int (nI 0)), (1, .long (lN (pB n 0))), (0, .ref mo)]) [0, 1, 2] rfl ?_
  refine z_loop (σ := Nat) (fun x => x ≤ 4) (fun x => 4 - x) (fun x => [(3, .int (nI x)), (1, .long (lN (pB n x))), (0, .ref mo)]) (fun x => [(mo, .inr (4, [.int (nI th), .ref (ad 1), .ref (ad 2), .ref (ad 3), .ref (ad 4), .int (nI st), .ref (ad 6), .ref (ad 7), .ref (ad 8), .ref (ad 9), .ref (ad 10), .ref (ad 11), .ref (ad 12), .ref (ad 13), .ref (ad 14), .ref (ad 15), .ref (ad 16), .ref (ad 17), .ref (ad 18), .int (nI tol), .int (nI ts), .int (nI tf), .int (nI td), .ref (ad 23), .ref (ad 24), .ref (ad 25), .ref (ad 26)])), (ad 16, .inl (cI, 4, .inl fh)), (ad 17, .inl (cI, 8, .inl fW)), (ad 18, .inl (cI, 8, .inl fV))]) (fun x => 0) (fun x => 0) 0 (Nat.zero_le _) ?_
  intro x hI ih1
  show Z _ _ _ _ _ _ _ _ _ _ _ _ _ _ _ 4 [(3, .int (nI x)), (1, .long (lN (pB n x))), (0, .ref mo)] [] [(mo, .inr (4, [.int (nI th), .ref (ad 1), .ref (ad 2), .ref (ad 3), .ref (ad 4), .int (nI st), .ref (ad 6), .ref (ad 7), .ref (ad 8), .ref (ad 9), .ref (ad 10), .ref (ad 11), .ref (ad 12), .ref (ad 13), .ref (ad 14), .ref (ad 15), .ref (ad 16), .ref (ad 17), .ref (ad 18), .int (nI tol), .int (nI ts), .int (nI tf), .int (nI td), .ref (ad 23), .ref (ad 24), .ref (ad 25), .ref (ad 26)])), (ad 16, .inl (cI, 4, .inl fh)), (ad 17, .inl (cI, 8, .inl fW)), (ad 18, .inl (cI, 8, .inl fV))] 0 0
  refine z_iload_n X (pc' := 5) dX4_buffered_4 rfl 0 rfl rfl ?_
  refine z_iconst X (v := nI 4) (pc' := 6) dX4_buffered_5 (by decide) rfl ?_
  refine z_icmp_geN X (tgt := 103) (pc' := 9) (by omega) (by decide) dX4_buffered_6 (by decide) rfl (fun h1 => ?_) (fun h1 => ?_)
  · have hx4 : x = 4 := by omega
    refine z_lload_n X (pc' := 104) dX4_buffered_103 rfl 1 rfl rfl ?_
    exact z_lret X () (by rw [hx4]; rfl) rfl (Nat.le_of_ble_eq_true rfl) (Nat.le_of_ble_eq_true rfl) dX4_buffered_104
  · have hx4 : x < 4 := by omega
    have hw2 := (hL x hx4).1
    have hxl := (hL x hx4).2
    refine z_lload_n X (pc' := 10) dX4_buffered_9 rfl 1 rfl rfl ?_
    refine z_iconst X (v := nI 2) (pc' := 11) dX4_buffered_10 (by decide) rfl ?_
    refine z_lshl X (pc' := 12) dX4_buffered_11 rfl rfl ?_
    refine z_aload_n X (pc' := 13) dX4_buffered_12 rfl 2 rfl rfl ?_
    refine z_get X (v := .ref (ad 16)) (pc' := 16) 0 rfl rfl inX4 16 (by decide) mF_X4_53 rfl dX4_buffered_13 rfl ?_
    refine z_iload_n X (pc' := 17) dX4_buffered_16 rfl 0 rfl rfl ?_
    refine z_iald X (pc' := 18) 1 0 rfl rfl (by omega) (by omega) dX4_buffered_17 rfl ?_
    refine z_topi (y := nI (wt (ml n x))) (hW.1 x hx4).2.1 ?_
    refine z_i2l X (pc' := 19) dX4_buffered_18 rfl rfl ?_
    refine z_lor X (pc' := 20) dX4_buffered_19 rfl ?_
    refine z_topl (y := lN (pB n x * 4 + wt (ml n x))) (ll_push (k := 2) (pB n x) (by decide) (wt_lt _)) ?_
    refine z_lstore_n X (lv' := [(1, .long (lN (pB n x * 4 + wt (ml n x)))), (3, .int (nI x)), (0, .ref mo)]) (pc' := 21) dX4_buffered_20 rfl (by decide) rfl rfl ?_
    refine z_iconst X (v := nI 0) (pc' := 22) dX4_buffered_21 (by decide) rfl ?_
    refine z_istore X (lv' := [(4, .int (nI 0)), (1, .long (lN (pB n x * 4 + wt (ml n x)))), (3, .int (nI x)), (0, .ref mo)]) (pc' := 24) dX4_buffered_22 (by decide) rfl rfl ?_
    refine z_iload X (pc' := 26) dX4_buffered_24 0 rfl rfl ?_
    refine z_iconst X (v := nI 2) (pc' := 27) dX4_buffered_26 (by decide) rfl ?_
    refine z_icmp_geN X (tgt := 97) (pc' := 30) (by omega) (by omega) dX4_buffered_27 (by decide) rfl (fun h2 => ?_) (fun h2 => ?_)
    · exact absurd h2 (by decide)
    · clear h2
      refine z_iload X (pc' := 32) dX4_buffered_30 0 rfl rfl ?_
      refine z_aload_n X (pc' := 33) dX4_buffered_32 rfl 3 rfl rfl ?_
      refine z_get X (v := .ref (ad 16)) (pc' := 36) 0 rfl rfl inX4 16 (by decide) mF_X4_53 rfl dX4_buffered_33 rfl ?_
      refine z_iload_n X (pc' := 37) dX4_buffered_36 rfl 2 rfl rfl ?_
      refine z_iald X (pc' := 38) 1 0 rfl rfl (by omega) (by omega) dX4_buffered_37 rfl ?_
      refine z_topi (y := nI (wt (ml n x))) (hW.1 x hx4).2.1 ?_
      refine z_icmp_geN X (tgt := 45) (pc' := 41) (by omega) (by omega) dX4_buffered_38 (by decide) rfl (fun h3 => ?_) (fun h3 => ?_)
      · have he0 : en (ml n x) 0 = 0 := by have h1 : wt (ml n x) ≤ 0 := (by omega); show (ml n x) / 2 ^ (5 + 4 * 0) % 16 = 0; rw [show wt (ml n x) = 0 by omega] at hxl; omega
        refine z_iconst X (v := nI 0) (pc' := 46) dX4_buffered_45 (by decide) rfl ?_
        refine z_istore X (lv' := [(5, .int (nI 0)), (4, .int (nI 0)), (1, .long (lN (pB n x * 4 + wt (ml n x)))), (3, .int (nI x)), (0, .ref mo)]) (pc' := 48) dX4_buffered_46 (by decide) rfl rfl ?_
        refine z_lload_n X (pc' := 49) dX4_buffered_48 rfl 2 rfl rfl ?_
        refine z_iconst X (v := nI 4) (pc' := 50) dX4_buffered_49 (by decide) rfl ?_
        refine z_lshl X (pc' := 51) dX4_buffered_50 rfl rfl ?_
        refine z_topl (y := lN ((pB n x * 4 + wt (ml n x)) * 2 ^ 4)) (wb_shl _ (by decide)) ?_
        refine z_iload X (pc' := 53) dX4_buffered_51 0 rfl rfl ?_
        refine z_if_eqN X (tgt := 88) (pc' := 56) (by omega) dX4_buffered_53 (by decide) rfl (fun h4 => ?_) (fun h4 => ?_)
        · clear h4
          refine z_lconst X (v := lN 0) (pc' := 89) dX4_buffered_88 (by decide) rfl ?_
          refine z_topl (y := lN (en (ml n x) 0)) (by rw [he0]) ?_
          refine z_lor X (pc' := 90) dX4_buffered_89 rfl ?_
          refine z_topl (y := lN ((pB n x * 4 + wt (ml n x)) * 16 + en (ml n x) 0)) (ll_or (k := 4) (en_lt _ _)) ?_
          refine z_lstore_n X (lv' := [(1, .long (lN ((pB n x * 4 + wt (ml n x)) * 16 + en (ml n x) 0))), (5, .int (nI 0)), (4, .int (nI 0)), (3, .int (nI x)), (0, .ref mo)]) (pc' := 91) dX4_buffered_90 rfl (by decide) rfl rfl ?_
          refine z_iinc X (v := nI 1) (lv' := [(4, .int (nI 1)), (1, .long (lN ((pB n x * 4 + wt (ml n x)) * 16 + en (ml n x) 0))), (5, .int (nI 0)), (3, .int (nI x)), (0, .ref mo)]) (k := 2) (pc' := 94) dX4_buffered_91 rfl (by decide) (by decide) rfl rfl ?_
          refine z_goto X (tgt := 24) dX4_buffered_94 (by decide) ?_
          refine z_iload X (pc' := 26) dX4_buffered_24 0 rfl rfl ?_
          refine z_iconst X (v := nI 2) (pc' := 27) dX4_buffered_26 (by decide) rfl ?_
          refine z_icmp_geN X (tgt := 97) (pc' := 30) (by omega) (by omega) dX4_buffered_27 (by decide) rfl (fun h5 => ?_) (fun h5 => ?_)
          · exact absurd h5 (by decide)
          · clear h5
            refine z_iload X (pc' := 32) dX4_buffered_30 0 rfl rfl ?_
            refine z_aload_n X (pc' := 33) dX4_buffered_32 rfl 4 rfl rfl ?_
            refine z_get X (v := .ref (ad 16)) (pc' := 36) 0 rfl rfl inX4 16 (by decide) mF_X4_53 rfl dX4_buffered_33 rfl ?_
            refine z_iload_n X (pc' := 37) dX4_buffered_36 rfl 3 rfl rfl ?_
            refine z_iald X (pc' := 38) 1 0 rfl rfl (by omega) (by omega) dX4_buffered_37 rfl ?_
            refine z_topi (y := nI (wt (ml n x))) (hW.1 x hx4).2.1 ?_
            refine z_icmp_geN X (tgt := 45) (pc' := 41) (by omega) (by omega) dX4_buffered_38 (by decide) rfl (fun h6 => ?_) (fun h6 => ?_)
            · have he1 : en (ml n x) 1 = 0 := by have h1 : wt (ml n x) ≤ 1 := (by omega); show (ml n x) / 2 ^ (5 + 4 * 1) % 16 = 0; rcases (show wt (ml n x) = 0 ∨ wt (ml n x) = 1 by omega) with g | g <;> (rw [g] at hxl; omega)
              refine z_iconst X (v := nI 0) (pc' := 46) dX4_buffered_45 (by decide) rfl ?_
              refine z_istore X (lv' := [(5, .int (nI 0)), (4, .int (nI 1)), (1, .long (lN ((pB n x * 4 + wt (ml n x)) * 16 + en (ml n x) 0))), (3, .int (nI x)), (0, .ref mo)]) (pc' := 48) dX4_buffered_46 (by decide) rfl rfl ?_
              refine z_lload_n X (pc' := 49) dX4_buffered_48 rfl 2 rfl rfl ?_
              refine z_iconst X (v := nI 4) (pc' := 50) dX4_buffered_49 (by decide) rfl ?_
              refine z_lshl X (pc' := 51) dX4_buffered_50 rfl rfl ?_
              refine z_topl (y := lN (((pB n x * 4 + wt (ml n x)) * 16 + en (ml n x) 0) * 2 ^ 4)) (wb_shl _ (by decide)) ?_
              refine z_iload X (pc' := 53) dX4_buffered_51 0 rfl rfl ?_
              refine z_if_eqN X (tgt := 88) (pc' := 56) (by omega) dX4_buffered_53 (by decide) rfl (fun h7 => ?_) (fun h7 => ?_)
              · clear h7
                refine z_lconst X (v := lN 0) (pc' := 89) dX4_buffered_88 (by decide) rfl ?_
                refine z_topl (y := lN (en (ml n x) 1)) (by rw [he1]) ?_
                refine z_lor X (pc' := 90) dX4_buffered_89 rfl ?_
                refine z_topl (y := lN (((pB n x * 4 + wt (ml n x)) * 16 + en (ml n x) 0) * 16 + en (ml n x) 1)) (ll_or (k := 4) (en_lt _ _)) ?_
                refine z_lstore_n X (lv' := [(1, .long (lN (((pB n x * 4 + wt (ml n x)) * 16 + en (ml n x) 0) * 16 + en (ml n x) 1))), (5, .int (nI 0)), (4, .int (nI 1)), (3, .int (nI x)), (0, .ref mo)]) (pc' := 91) dX4_buffered_90 rfl (by decide) rfl rfl ?_
                refine z_iinc X (v := nI 2) (lv' := [(4, .int (nI 2)), (1, .long (lN (((pB n x * 4 + wt (ml n x)) * 16 + en (ml n x) 0) * 16 + en (ml n x) 1))), (5, .int (nI 0)), (3, .int (nI x)), (0, .ref mo)]) (k := 2) (pc' := 94) dX4_buffered_91 rfl (by decide) (by decide) rfl rfl ?_
                refine z_goto X (tgt := 24) dX4_buffered_94 (by decide) ?_
                refine z_iload X (pc' := 26) dX4_buffered_24 0 rfl rfl ?_
                refine z_iconst X (v := nI 2) (pc' := 27) dX4_buffered_26 (by decide) rfl ?_
                refine z_icmp_geN X (tgt := 97) (pc' := 30) (by omega) (by omega) dX4_buffered_27 (by decide) rfl (fun h8 => ?_) (fun h8 => ?_)
                · clear h8
                  refine z_lve (lv' := [(4, .int (nI 2)), (1, .long (lN (pB n (x + 1)))), (5, .int (nI 0)), (3, .int (nI x)), (0, .ref mo)]) (by rw [show (((pB n x * 4 + wt (ml n x)) * 16 + en (ml n x) 0) * 16 + en (ml n x) 1) = pB n (x + 1) by show _ = pB n x * 1024 + (wt (ml n x) * 256 + en (ml n x) 0 * 16 + en (ml n x) 1); omega]) ?_
                  refine z_iinc X (v := nI (x + 1)) (lv' := [(3, .int (nI (x + 1))), (4, .int (nI 2)), (1, .long (lN (pB n (x + 1)))), (5, .int (nI 0)), (0, .ref mo)]) (k := 3) (pc' := 100) dX4_buffered_97 rfl (nI_1 _) (by decide) rfl rfl ?_
                  refine z_goto X (tgt := 4) dX4_buffered_100 (by decide) ?_
                  refine z_lv (lv' := [(3, .int (nI (x + 1))), (1, .long (lN (pB n (x + 1)))), (0, .ref mo)]) [0, 2, 4] rfl ?_
                  exact ih1 (x + 1) (show x + 1 ≤ 4 by omega) (by omega)
                · exact absurd h8 (by decide)
              · exact absurd h7 (by decide)
            · have hh1 := (hW.1 x hx4).2.2 1 (by omega)
              refine z_iconst X (v := nI 1) (pc' := 42) dX4_buffered_41 (by decide) rfl ?_
              refine z_goto X (tgt := 46) dX4_buffered_42 (by decide) ?_
              refine z_istore X (lv' := [(5, .int (nI 1)), (4, .int (nI 1)), (1, .long (lN ((pB n x * 4 + wt (ml n x)) * 16 + en (ml n x) 0))), (3, .int (nI x)), (0, .ref mo)]) (pc' := 48) dX4_buffered_46 (by decide) rfl rfl ?_
              refine z_lload_n X (pc' := 49) dX4_buffered_48 rfl 2 rfl rfl ?_
              refine z_iconst X (v := nI 4) (pc' := 50) dX4_buffered_49 (by decide) rfl ?_
              refine z_lshl X (pc' := 51) dX4_buffered_50 rfl rfl ?_
              refine z_topl (y := lN (((pB n x * 4 + wt (ml n x)) * 16 + en (ml n x) 0) * 2 ^ 4)) (wb_shl _ (by decide)) ?_
              refine z_iload X (pc' := 53) dX4_buffered_51 0 rfl rfl ?_
              refine z_if_eqN X (tgt := 88) (pc' := 56) (by omega) dX4_buffered_53 (by decide) rfl (fun h9 => ?_) (fun h9 => ?_)
              · exact absurd h9 (by decide)
              · clear h9
                refine z_ldc2 X (v := lN 4) (pc' := 59) mJ_X4_90 dX4_buffered_56 rfl ?_
                refine z_aload_n X (pc' := 60) dX4_buffered_59 rfl 4 rfl rfl ?_
                refine z_get X (v := .ref (ad 17)) (pc' := 63) 0 rfl rfl inX4 17 (by decide) mF_X4_56 rfl dX4_buffered_60 rfl ?_
                refine z_iconst X (v := nI 2) (pc' := 64) dX4_buffered_63 (by decide) rfl ?_
                refine z_iload_n X (pc' := 65) dX4_buffered_64 rfl 3 rfl rfl ?_
                refine z_imul X (pc' := 66) dX4_buffered_65 rfl ?_
                refine z_topi (y := nI (2 * x)) (pk_mul _ _) ?_
                refine z_iload X (pc' := 68) dX4_buffered_66 1 rfl rfl ?_
                refine z_iadd X (pc' := 69) dX4_buffered_68 rfl ?_
                refine z_topi (y := nI ((2 * x) + 1)) (nI_add _ _) ?_
                refine z_iald X (pc' := 70) 2 0 rfl rfl (by omega) (by omega) dX4_buffered_69 rfl ?_
                refine z_topi (y := nI (en (ml n x) 1 / 4)) hh1.1 ?_
                refine z_i2l X (pc' := 71) dX4_buffered_70 rfl rfl ?_
                refine z_topl (y := lN (en (ml n x) 1 / 4)) (nI_l (by have := en_lt (ml n x) 1; omega)) ?_
                refine z_lmul X (pc' := 72) dX4_buffered_71 rfl ?_
                refine z_topl (y := lN (4 * (en (ml n x) 1 / 4))) (lN_mul _ _) ?_
                refine z_aload_n X (pc' := 73) dX4_buffered_72 rfl 4 rfl rfl ?_
                refine z_get X (v := .ref (ad 18)) (pc' := 76) 0 rfl rfl inX4 18 (by decide) mF_X4_59 rfl dX4_buffered_73 rfl ?_
                refine z_iconst X (v := nI 2) (pc' := 77) dX4_buffered_76 (by decide) rfl ?_
                refine z_iload_n X (pc' := 78) dX4_buffered_77 rfl 3 rfl rfl ?_
                refine z_imul X (pc' := 79) dX4_buffered_78 rfl ?_
                refine z_topi (y := nI (2 * x)) (pk_mul _ _) ?_
                refine z_iload X (pc' := 81) dX4_buffered_79 1 rfl rfl ?_
                refine z_iadd X (pc' := 82) dX4_buffered_81 rfl ?_
                refine z_topi (y := nI ((2 * x) + 1)) (nI_add _ _) ?_
                refine z_iald X (pc' := 83) 3 0 rfl rfl (by omega) (by omega) dX4_buffered_82 rfl ?_
                refine z_topi (y := nI (en (ml n x) 1 % 4)) hh1.2 ?_
                refine z_i2l X (pc' := 84) dX4_buffered_83 rfl rfl ?_
                refine z_topl (y := lN (en (ml n x) 1 % 4)) (nI_l (by omega)) ?_
                refine z_ladd X (pc' := 85) dX4_buffered_84 rfl ?_
                refine z_topl (y := lN (en (ml n x) 1)) ((lN_add _ _).trans (by congr 1; omega)) ?_
                refine z_goto X (tgt := 89) dX4_buffered_85 (by decide) ?_
                refine z_lor X (pc' := 90) dX4_buffered_89 rfl ?_
                refine z_topl (y := lN (((pB n x * 4 + wt (ml n x)) * 16 + en (ml n x) 0) * 16 + en (ml n x) 1)) (ll_or (k := 4) (en_lt _ _)) ?_
                refine z_lstore_n X (lv' := [(1, .long (lN (((pB n x * 4 + wt (ml n x)) * 16 + en (ml n x) 0) * 16 + en (ml n x) 1))), (5, .int (nI 1)), (4, .int (nI 1)), (3, .int (nI x)), (0, .ref mo)]) (pc' := 91) dX4_buffered_90 rfl (by decide) rfl rfl ?_
                refine z_iinc X (v := nI 2) (lv' := [(4, .int (nI 2)), (1, .long (lN (((pB n x * 4 + wt (ml n x)) * 16 + en (ml n x) 0) * 16 + en (ml n x) 1))), (5, .int (nI 1)), (3, .int (nI x)), (0, .ref mo)]) (k := 2) (pc' := 94) dX4_buffered_91 rfl (by decide) (by decide) rfl rfl ?_
                refine z_goto X (tgt := 24) dX4_buffered_94 (by decide) ?_
                refine z_iload X (pc' := 26) dX4_buffered_24 0 rfl rfl ?_
                refine z_iconst X (v := nI 2) (pc' := 27) dX4_buffered_26 (by decide) rfl ?_
                refine z_icmp_geN X (tgt := 97) (pc' := 30) (by omega) (by omega) dX4_buffered_27 (by decide) rfl (fun h10 => ?_) (fun h10 => ?_)
                · clear h10
                  refine z_lve (lv' := [(4, .int (nI 2)), (1, .long (lN (pB n (x + 1)))), (5, .int (nI 1)), (3, .int (nI x)), (0, .ref mo)]) (by rw [show (((pB n x * 4 + wt (ml n x)) * 16 + en (ml n x) 0) * 16 + en (ml n x) 1) = pB n (x + 1) by show _ = pB n x * 1024 + (wt (ml n x) * 256 + en (ml n x) 0 * 16 + en (ml n x) 1); omega]) ?_
                  refine z_iinc X (v := nI (x + 1)) (lv' := [(3, .int (nI (x + 1))), (4, .int (nI 2)), (1, .long (lN (pB n (x + 1)))), (5, .int (nI 1)), (0, .ref mo)]) (k := 3) (pc' := 100) dX4_buffered_97 rfl (nI_1 _) (by decide) rfl rfl ?_
                  refine z_goto X (tgt := 4) dX4_buffered_100 (by decide) ?_
                  refine z_lv (lv' := [(3, .int (nI (x + 1))), (1, .long (lN (pB n (x + 1)))), (0, .ref mo)]) [0, 2, 4] rfl ?_
                  exact ih1 (x + 1) (show x + 1 ≤ 4 by omega) (by omega)
                · exact absurd h10 (by decide)
        · exact absurd h4 (by decide)
      · have hh0 := (hW.1 x hx4).2.2 0 (by omega)
        refine z_iconst X (v := nI 1) (pc' := 42) dX4_buffered_41 (by decide) rfl ?_
        refine z_goto X (tgt := 46) dX4_buffered_42 (by decide) ?_
        refine z_istore X (lv' := [(5, .int (nI 1)), (4, .int (nI 0)), (1, .long (lN (pB n x * 4 + wt (ml n x)))), (3, .int (nI x)), (0, .ref mo)]) (pc' := 48) dX4_buffered_46 (by decide) rfl rfl ?_
        refine z_lload_n X (pc' := 49) dX4_buffered_48 rfl 2 rfl rfl ?_
        refine z_iconst X (v := nI 4) (pc' := 50) dX4_buffered_49 (by decide) rfl ?_
        refine z_lshl X (pc' := 51) dX4_buffered_50 rfl rfl ?_
        refine z_topl (y := lN ((pB n x * 4 + wt (ml n x)) * 2 ^ 4)) (wb_shl _ (by decide)) ?_
        refine z_iload X (pc' := 53) dX4_buffered_51 0 rfl rfl ?_
        refine z_if_eqN X (tgt := 88) (pc' := 56) (by omega) dX4_buffered_53 (by decide) rfl (fun h11 => ?_) (fun h11 => ?_)
        · exact absurd h11 (by decide)
        · clear h11
          refine z_ldc2 X (v := lN 4) (pc' := 59) mJ_X4_90 dX4_buffered_56 rfl ?_
          refine z_aload_n X (pc' := 60) dX4_buffered_59 rfl 4 rfl rfl ?_
          refine z_get X (v := .ref (ad 17)) (pc' := 63) 0 rfl rfl inX4 17 (by decide) mF_X4_56 rfl dX4_buffered_60 rfl ?_
          refine z_iconst X (v := nI 2) (pc' := 64) dX4_buffered_63 (by decide) rfl ?_
          refine z_iload_n X (pc' := 65) dX4_buffered_64 rfl 3 rfl rfl ?_
          refine z_imul X (pc' := 66) dX4_buffered_65 rfl ?_
          refine z_topi (y := nI (2 * x)) (pk_mul _ _) ?_
          refine z_iload X (pc' := 68) dX4_buffered_66 1 rfl rfl ?_
          refine z_iadd X (pc' := 69) dX4_buffered_68 rfl ?_
          refine z_topi (y := nI ((2 * x) + 0)) (nI_add _ _) ?_
          refine z_iald X (pc' := 70) 2 0 rfl rfl (by omega) (by omega) dX4_buffered_69 rfl ?_
          refine z_topi (y := nI (en (ml n x) 0 / 4)) hh0.1 ?_
          refine z_i2l X (pc' := 71) dX4_buffered_70 rfl rfl ?_
          refine z_topl (y := lN (en (ml n x) 0 / 4)) (nI_l (by have := en_lt (ml n x) 0; omega)) ?_
          refine z_lmul X (pc' := 72) dX4_buffered_71 rfl ?_
          refine z_topl (y := lN (4 * (en (ml n x) 0 / 4))) (lN_mul _ _) ?_
          refine z_aload_n X (pc' := 73) dX4_buffered_72 rfl 4 rfl rfl ?_
          refine z_get X (v := .ref (ad 18)) (pc' := 76) 0 rfl rfl inX4 18 (by decide) mF_X4_59 rfl dX4_buffered_73 rfl ?_
          refine z_iconst X (v := nI 2) (pc' := 77) dX4_buffered_76 (by decide) rfl ?_
          refine z_iload_n X (pc' := 78) dX4_buffered_77 rfl 3 rfl rfl ?_
          refine z_imul X (pc' := 79) dX4_buffered_78 rfl ?_
          refine z_topi (y := nI (2 * x)) (pk_mul _ _) ?_
          refine z_iload X (pc' := 81) dX4_buffered_79 1 rfl rfl ?_
          refine z_iadd X (pc' := 82) dX4_buffered_81 rfl ?_
          refine z_topi (y := nI ((2 * x) + 0)) (nI_add _ _) ?_
          refine z_iald X (pc' := 83) 3 0 rfl rfl (by omega) (by omega) dX4_buffered_82 rfl ?_
          refine z_topi (y := nI (en (ml n x) 0 % 4)) hh0.2 ?_
          refine z_i2l X (pc' := 84) dX4_buffered_83 rfl rfl ?_
          refine z_topl (y := lN (en (ml n x) 0 % 4)) (nI_l (by omega)) ?_
          refine z_ladd X (pc' := 85) dX4_buffered_84 rfl ?_
          refine z_topl (y := lN (en (ml n x) 0)) ((lN_add _ _).trans (by congr 1; omega)) ?_
          refine z_goto X (tgt := 89) dX4_buffered_85 (by decide) ?_
          refine z_lor X (pc' := 90) dX4_buffered_89 rfl ?_
          refine z_topl (y := lN ((pB n x * 4 + wt (ml n x)) * 16 + en (ml n x) 0)) (ll_or (k := 4) (en_lt _ _)) ?_
          refine z_lstore_n X (lv' := [(1, .long (lN ((pB n x * 4 + wt (ml n x)) * 16 + en (ml n x) 0))), (5, .int (nI 1)), (4, .int (nI 0)), (3, .int (nI x)), (0, .ref mo)]) (pc' := 91) dX4_buffered_90 rfl (by decide) rfl rfl ?_
          refine z_iinc X (v := nI 1) (lv' := [(4, .int (nI 1)), (1, .long (lN ((pB n x * 4 + wt (ml n x)) * 16 + en (ml n x) 0))), (5, .int (nI 1)), (3, .int (nI x)), (0, .ref mo)]) (k := 2) (pc' := 94) dX4_buffered_91 rfl (by decide) (by decide) rfl rfl ?_
          refine z_goto X (tgt := 24) dX4_buffered_94 (by decide) ?_
          refine z_iload X (pc' := 26) dX4_buffered_24 0 rfl rfl ?_
          refine z_iconst X (v := nI 2) (pc' := 27) dX4_buffered_26 (by decide) rfl ?_
          refine z_icmp_geN X (tgt := 97) (pc' := 30) (by omega) (by omega) dX4_buffered_27 (by decide) rfl (fun h12 => ?_) (fun h12 => ?_)
          · exact absurd h12 (by decide)
          · clear h12
            refine z_iload X (pc' := 32) dX4_buffered_30 0 rfl rfl ?_
            refine z_aload_n X (pc' := 33) dX4_buffered_32 rfl 4 rfl rfl ?_
            refine z_get X (v := .ref (ad 16)) (pc' := 36) 0 rfl rfl inX4 16 (by decide) mF_X4_53 rfl dX4_buffered_33 rfl ?_
            refine z_iload_n X (pc' := 37) dX4_buffered_36 rfl 3 rfl rfl ?_
            refine z_iald X (pc' := 38) 1 0 rfl rfl (by omega) (by omega) dX4_buffered_37 rfl ?_
            refine z_topi (y := nI (wt (ml n x))) (hW.1 x hx4).2.1 ?_
            refine z_icmp_geN X (tgt := 45) (pc' := 41) (by omega) (by omega) dX4_buffered_38 (by decide) rfl (fun h13 => ?_) (fun h13 => ?_)
            · have he1 : en (ml n x) 1 = 0 := by have h1 : wt (ml n x) ≤ 1 := (by omega); show (ml n x) / 2 ^ (5 + 4 * 1) % 16 = 0; rcases (show wt (ml n x) = 0 ∨ wt (ml n x) = 1 by omega) with g | g <;> (rw [g] at hxl; omega)
              refine z_iconst X (v := nI 0) (pc' := 46) dX4_buffered_45 (by decide) rfl ?_
              refine z_istore X (lv' := [(5, .int (nI 0)), (4, .int (nI 1)), (1, .long (lN ((pB n x * 4 + wt (ml n x)) * 16 + en (ml n x) 0))), (3, .int (nI x)), (0, .ref mo)]) (pc' := 48) dX4_buffered_46 (by decide) rfl rfl ?_
              refine z_lload_n X (pc' := 49) dX4_buffered_48 rfl 2 rfl rfl ?_
              refine z_iconst X (v := nI 4) (pc' := 50) dX4_buffered_49 (by decide) rfl ?_
              refine z_lshl X (pc' := 51) dX4_buffered_50 rfl rfl ?_
              refine z_topl (y := lN (((pB n x * 4 + wt (ml n x)) * 16 + en (ml n x) 0) * 2 ^ 4)) (wb_shl _ (by decide)) ?_
              refine z_iload X (pc' := 53) dX4_buffered_51 0 rfl rfl ?_
              refine z_if_eqN X (tgt := 88) (pc' := 56) (by omega) dX4_buffered_53 (by decide) rfl (fun h14 => ?_) (fun h14 => ?_)
              · clear h14
                refine z_lconst X (v := lN 0) (pc' := 89) dX4_buffered_88 (by decide) rfl ?_
                refine z_topl (y := lN (en (ml n x) 1)) (by rw [he1]) ?_
                refine z_lor X (pc' := 90) dX4_buffered_89 rfl ?_
                refine z_topl (y := lN (((pB n x * 4 + wt (ml n x)) * 16 + en (ml n x) 0) * 16 + en (ml n x) 1)) (ll_or (k := 4) (en_lt _ _)) ?_
                refine z_lstore_n X (lv' := [(1, .long (lN (((pB n x * 4 + wt (ml n x)) * 16 + en (ml n x) 0) * 16 + en (ml n x) 1))), (5, .int (nI 0)), (4, .int (nI 1)), (3, .int (nI x)), (0, .ref mo)]) (pc' := 91) dX4_buffered_90 rfl (by decide) rfl rfl ?_
                refine z_iinc X (v := nI 2) (lv' := [(4, .int (nI 2)), (1, .long (lN (((pB n x * 4 + wt (ml n x)) * 16 + en (ml n x) 0) * 16 + en (ml n x) 1))), (5, .int (nI 0)), (3, .int (nI x)), (0, .ref mo)]) (k := 2) (pc' := 94) dX4_buffered_91 rfl (by decide) (by decide) rfl rfl ?_
                refine z_goto X (tgt := 24) dX4_buffered_94 (by decide) ?_
                refine z_iload X (pc' := 26) dX4_buffered_24 0 rfl rfl ?_
                refine z_iconst X (v := nI 2) (pc' := 27) dX4_buffered_26 (by decide) rfl ?_
                refine z_icmp_geN X (tgt := 97) (pc' := 30) (by omega) (by omega) dX4_buffered_27 (by decide) rfl (fun h15 => ?_) (fun h15 => ?_)
                · clear h15
                  refine z_lve (lv' := [(4, .int (nI 2)), (1, .long (lN (pB n (x + 1)))), (5, .int (nI 0)), (3, .int (nI x)), (0, .ref mo)]) (by rw [show (((pB n x * 4 + wt (ml n x)) * 16 + en (ml n x) 0) * 16 + en (ml n x) 1) = pB n (x + 1) by show _ = pB n x * 1024 + (wt (ml n x) * 256 + en (ml n x) 0 * 16 + en (ml n x) 1); omega]) ?_
                  refine z_iinc X (v := nI (x + 1)) (lv' := [(3, .int (nI (x + 1))), (4, .int (nI 2)), (1, .long (lN (pB n (x + 1)))), (5, .int (nI 0)), (0, .ref mo)]) (k := 3) (pc' := 100) dX4_buffered_97 rfl (nI_1 _) (by decide) rfl rfl ?_
                  refine z_goto X (tgt := 4) dX4_buffered_100 (by decide) ?_
                  refine z_lv (lv' := [(3, .int (nI (x + 1))), (1, .long (lN (pB n (x + 1)))), (0, .ref mo)]) [0, 2, 4] rfl ?_
                  exact ih1 (x + 1) (show x + 1 ≤ 4 by omega) (by omega)
                · exact absurd h15 (by decide)
              · exact absurd h14 (by decide)
            · have hh1 := (hW.1 x hx4).2.2 1 (by omega)
              refine z_iconst X (v := nI 1) (pc' := 42) dX4_buffered_41 (by decide) rfl ?_
              refine z_goto X (tgt := 46) dX4_buffered_42 (by decide) ?_
              refine z_istore X (lv' := [(5, .int (nI 1)), (4, .int (nI 1)), (1, .long (lN ((pB n x * 4 + wt (ml n x)) * 16 + en (ml n x) 0))), (3, .int (nI x)), (0, .ref mo)]) (pc' := 48) dX4_buffered_46 (by decide) rfl rfl ?_
              refine z_lload_n X (pc' := 49) dX4_buffered_48 rfl 2 rfl rfl ?_
              refine z_iconst X (v := nI 4) (pc' := 50) dX4_buffered_49 (by decide) rfl ?_
              refine z_lshl X (pc' := 51) dX4_buffered_50 rfl rfl ?_
              refine z_topl (y := lN (((pB n x * 4 + wt (ml n x)) * 16 + en (ml n x) 0) * 2 ^ 4)) (wb_shl _ (by decide)) ?_
              refine z_iload X (pc' := 53) dX4_buffered_51 0 rfl rfl ?_
              refine z_if_eqN X (tgt := 88) (pc' := 56) (by omega) dX4_buffered_53 (by decide) rfl (fun h16 => ?_) (fun h16 => ?_)
              · exact absurd h16 (by decide)
              · clear h16
                refine z_ldc2 X (v := lN 4) (pc' := 59) mJ_X4_90 dX4_buffered_56 rfl ?_
                refine z_aload_n X (pc' := 60) dX4_buffered_59 rfl 4 rfl rfl ?_
                refine z_get X (v := .ref (ad 17)) (pc' := 63) 0 rfl rfl inX4 17 (by decide) mF_X4_56 rfl dX4_buffered_60 rfl ?_
                refine z_iconst X (v := nI 2) (pc' := 64) dX4_buffered_63 (by decide) rfl ?_
                refine z_iload_n X (pc' := 65) dX4_buffered_64 rfl 3 rfl rfl ?_
                refine z_imul X (pc' := 66) dX4_buffered_65 rfl ?_
                refine z_topi (y := nI (2 * x)) (pk_mul _ _) ?_
                refine z_iload X (pc' := 68) dX4_buffered_66 1 rfl rfl ?_
                refine z_iadd X (pc' := 69) dX4_buffered_68 rfl ?_
                refine z_topi (y := nI ((2 * x) + 1)) (nI_add _ _) ?_
                refine z_iald X (pc' := 70) 2 0 rfl rfl (by omega) (by omega) dX4_buffered_69 rfl ?_
                refine z_topi (y := nI (en (ml n x) 1 / 4)) hh1.1 ?_
                refine z_i2l X (pc' := 71) dX4_buffered_70 rfl rfl ?_
                refine z_topl (y := lN (en (ml n x) 1 / 4)) (nI_l (by have := en_lt (ml n x) 1; omega)) ?_
                refine z_lmul X (pc' := 72) dX4_buffered_71 rfl ?_
                refine z_topl (y := lN (4 * (en (ml n x) 1 / 4))) (lN_mul _ _) ?_
                refine z_aload_n X (pc' := 73) dX4_buffered_72 rfl 4 rfl rfl ?_
                refine z_get X (v := .ref (ad 18)) (pc' := 76) 0 rfl rfl inX4 18 (by decide) mF_X4_59 rfl dX4_buffered_73 rfl ?_
                refine z_iconst X (v := nI 2) (pc' := 77) dX4_buffered_76 (by decide) rfl ?_
                refine z_iload_n X (pc' := 78) dX4_buffered_77 rfl 3 rfl rfl ?_
                refine z_imul X (pc' := 79) dX4_buffered_78 rfl ?_
                refine z_topi (y := nI (2 * x)) (pk_mul _ _) ?_
                refine z_iload X (pc' := 81) dX4_buffered_79 1 rfl rfl ?_
                refine z_iadd X (pc' := 82) dX4_buffered_81 rfl ?_
                refine z_topi (y := nI ((2 * x) + 1)) (nI_add _ _) ?_
                refine z_iald X (pc' := 83) 3 0 rfl rfl (by omega) (by omega) dX4_buffered_82 rfl ?_
                refine z_topi (y := nI (en (ml n x) 1 % 4)) hh1.2 ?_
                refine z_i2l X (pc' := 84) dX4_buffered_83 rfl rfl ?_
                refine z_topl (y := lN (en (ml n x) 1 % 4)) (nI_l (by omega)) ?_
                refine z_ladd X (pc' := 85) dX4_buffered_84 rfl ?_
                refine z_topl (y := lN (en (ml n x) 1)) ((lN_add _ _).trans (by congr 1; omega)) ?_
                refine z_goto X (tgt := 89) dX4_buffered_85 (by decide) ?_
                refine z_lor X (pc' := 90) dX4_buffered_89 rfl ?_
                refine z_topl (y := lN (((pB n x * 4 + wt (ml n x)) * 16 + en (ml n x) 0) * 16 + en (ml n x) 1)) (ll_or (k := 4) (en_lt _ _)) ?_
                refine z_lstore_n X (lv' := [(1, .long (lN (((pB n x * 4 + wt (ml n x)) * 16 + en (ml n x) 0) * 16 + en (ml n x) 1))), (5, .int (nI 1)), (4, .int (nI 1)), (3, .int (nI x)), (0, .ref mo)]) (pc' := 91) dX4_buffered_90 rfl (by decide) rfl rfl ?_
                refine z_iinc X (v := nI 2) (lv' := [(4, .int (nI 2)), (1, .long (lN (((pB n x * 4 + wt (ml n x)) * 16 + en (ml n x) 0) * 16 + en (ml n x) 1))), (5, .int (nI 1)), (3, .int (nI x)), (0, .ref mo)]) (k := 2) (pc' := 94) dX4_buffered_91 rfl (by decide) (by decide) rfl rfl ?_
                refine z_goto X (tgt := 24) dX4_buffered_94 (by decide) ?_
                refine z_iload X (pc' := 26) dX4_buffered_24 0 rfl rfl ?_
                refine z_iconst X (v := nI 2) (pc' := 27) dX4_buffered_26 (by decide) rfl ?_
                refine z_icmp_geN X (tgt := 97) (pc' := 30) (by omega) (by omega) dX4_buffered_27 (by decide) rfl (fun h17 => ?_) (fun h17 => ?_)
                · clear h17
                  refine z_lve (lv' := [(4, .int (nI 2)), (1, .long (lN (pB n (x + 1)))), (5, .int (nI 1)), (3, .int (nI x)), (0, .ref mo)]) (by rw [show (((pB n x * 4 + wt (ml n x)) * 16 + en (ml n x) 0) * 16 + en (ml n x) 1) = pB n (x + 1) by show _ = pB n x * 1024 + (wt (ml n x) * 256 + en (ml n x) 0 * 16 + en (ml n x) 1); omega]) ?_
                  refine z_iinc X (v := nI (x + 1)) (lv' := [(3, .int (nI (x + 1))), (4, .int (nI 2)), (1, .long (lN (pB n (x + 1)))), (5, .int (nI 1)), (0, .ref mo)]) (k := 3) (pc' := 100) dX4_buffered_97 rfl (nI_1 _) (by decide) rfl rfl ?_
                  refine z_goto X (tgt := 4) dX4_buffered_100 (by decide) ?_
                  refine z_lv (lv' := [(3, .int (nI (x + 1))), (1, .long (lN (pB n (x + 1)))), (0, .ref mo)]) [0, 2, 4] rfl ?_
                  exact ih1 (x + 1) (show x + 1 ≤ 4 by omega) (by omega)
                · exact absurd h17 (by decide)


theorem vpL_vpL (f : Nat → Int64) (t : Nat) (x y : Int64) : vp_updL (vp_updL f t x) t y = vp_updL f t y := by
  funext j
  by_cases e : j = t
  · rw [e, pk_uLs, pk_uLs]
  · rw [pk_uLn e, pk_uLn e, pk_uLn e]
def wyC (mv : Nat → Nat) (d c : Nat) : Nat := wz mv c (min 12 d - c) * 32 ^ c
def rsC (mv : Nat → Nat) (d c : Nat) : Nat := wz mv (max c 12) (d - max c 12) * 32 ^ (max c 12 - 12)
theorem wyC_d (mv : Nat → Nat) (d : Nat) : wyC mv d d = 0 := by
  unfold wyC
  rw [show min 12 d - d = 0 by omega]
  exact Nat.zero_mul _
theorem rsC_d (mv : Nat → Nat) (d : Nat) : rsC mv d d = 0 := by
  unfold rsC
  rw [show d - max d 12 = 0 by omega]
  exact Nat.zero_mul _
theorem p32 (k : Nat) : (32 : Nat) ^ k = 2 ^ (5 * k) := by rw [Nat.pow_mul]
theorem wz_or {mv : Nat → Nat} {a m k : Nat} (hmv : ∀ k, mv k < 32) : lN (wz mv (a + 1) m * 32 ^ (k + 1)) ||| lN (mv a * 2 ^ (5 * k)) = lN (wz mv a (m + 1) * 32 ^ k) := by
  have h1 := hmv a
  have e : (2 : Nat) ^ (5 * (k + 1)) = 2 ^ (5 * k) * 32 := by rw [show 5 * (k + 1) = 5 * k + 5 by omega, Nat.pow_add]
  have h2 : mv a * 2 ^ (5 * k) < 2 ^ (5 * (k + 1)) := by
    rw [e, Nat.mul_comm]
    exact (Nat.mul_lt_mul_left (Nat.two_pow_pos _)).mpr h1
  rw [p32 (k + 1), ll_or h2]
  congr 1
  show _ = (mv a + 32 * wz mv (a + 1) m) * 32 ^ k
  rw [e, p32 k, Nat.add_mul, Nat.add_comm, ← Nat.mul_assoc, Nat.mul_assoc 32, Nat.mul_comm 32]
theorem wyC_s {mv : Nat → Nat} {d c : Nat} (hmv : ∀ k, mv k < 32) (h0 : 0 < c) (hc : c ≤ d) (h12 : c - 1 < 12) : lN (wyC mv d c) ||| lN (mv (c - 1) * 2 ^ (5 * (c - 1))) = lN (wyC mv d (c - 1)) := by
  unfold wyC
  obtain ⟨k, rfl⟩ : ∃ x, c = x + 1 := ⟨c - 1, by omega⟩
  rw [Nat.add_sub_cancel]
  have := wz_or (mv := mv) (a := k) (m := min 12 d - (k + 1)) (k := k) hmv
  rw [show min 12 d - (k + 1) + 1 = min 12 d - k by omega] at this
  exact this
theorem rsC_s {mv : Nat → Nat} {d c : Nat} (hmv : ∀ k, mv k < 32) (hc : c ≤ d) (h12 : ¬ c - 1 < 12) : lN (rsC mv d c) ||| lN (mv (c - 1) * 2 ^ (5 * (c - 1 - 12))) = lN (rsC mv d (c - 1)) := by
  unfold rsC
  obtain ⟨k, rfl⟩ : ∃ x, c = x + 13 := ⟨c - 13, by omega⟩
  rw [show max (k + 13) 12 = k + 12 + 1 by omega, show k + 13 - 1 = k + 12 by omega, show max (k + 12) 12 = k + 12 by omega, show k + 12 + 1 - 12 = k + 1 by omega, show k + 12 - 12 = k by omega]
  have := wz_or (mv := mv) (a := k + 12) (m := d - (k + 12 + 1)) (k := k) hmv
  rw [show d - (k + 12 + 1) + 1 = d - (k + 12) by omega] at this
  exact this
theorem wyC_12 {mv : Nat → Nat} {d c : Nat} (h12 : ¬ c - 1 < 12) : wyC mv d (c - 1) = wyC mv d c := by
  unfold wyC
  rw [show min 12 d - (c - 1) = 0 by omega, show min 12 d - c = 0 by omega]
  show 0 * _ = 0 * _
  rw [Nat.zero_mul, Nat.zero_mul]
theorem rsC_12 {mv : Nat → Nat} {d c : Nat} (h12 : c - 1 < 12) : rsC mv d (c - 1) = rsC mv d c := by
  unfold rsC
  rw [show max (c - 1) 12 = max c 12 by omega]
theorem wyC_0 (F : Nat → Nat) (i : Nat) : wyC (mvA F i) (dpt F i) 0 = wyA F i := by
  unfold wyC wyA
  rw [Nat.pow_zero, Nat.mul_one, Nat.sub_zero]
theorem rsC_0 (F : Nat → Nat) (i : Nat) : rsC (mvA F i) (dpt F i) 0 = rsA F i := by
  unfold rsC rsA
  rw [show max 0 12 = 12 by decide, Nat.sub_self, Nat.pow_zero, Nat.mul_one]
set_option maxHeartbeats 4000000 in
set_option maxRecDepth 100000 in
/-- an outcome is kept -/
theorem r_keep (l : Launch) (D : va_G) (cI cJ : ClassId) (sz : Nat) (mo th st e0 ts tf td : Nat) (ad : Nat → Nat) (i0 : Nat) (f1 f2 : Nat → Int64) (ff fm fb fl fg : Nat → Int32) (fo : Nat → Int64) (fn : Nat → Int32) (fy fz : Nat → Int64) (S : List (Nat × Nat)) (F : List Nat) (C : Bool → Nat → Nat) (hI0 : rI S F C f1 f2 ff fm fb fl fg) (hi0 : i0 < S.length) (he : e0 < 20000) (hd24 : dpt (fun j => F.getD j 0) i0 ≤ 24) : KV l D cI cJ yX4_keep cX4_keep 4 none 0 0 0 0 [.ref mo, .int (nI i0)] [(mo, .inr (4, [.int (nI th), .ref (ad 1), .ref (ad 2), .ref (ad 3), .ref (ad 4), .int (nI st), .ref (ad 6), .ref (ad 7), .ref (ad 8), .ref (ad 9), .ref (ad 10), .ref (ad 11), .ref (ad 12), .ref (ad 13), .ref (ad 14), .ref (ad 15), .ref (ad 16), .ref (ad 17), .ref (ad 18), .int (nI e0), .int (nI ts), .int (nI tf), .int (nI td), .ref (ad 23), .ref (ad 24), .ref (ad 25), .ref (ad 26)])), (ad 6, .inl (cJ, 20000, .inr (.inl f1))), (ad 8, .inl (cI, 20000, .inl ff)), (ad 9, .inl (cI, 20000, .inl fm)), (ad 10, .inl (cI, 20000, .inl fb)), (ad 23, .inl (cJ, 20000, .inr (.inl fo))), (ad 24, .inl (cI, 20000, .inl fn)), (ad 25, .inl (cJ, 20000, .inr (.inl fy))), (ad 26, .inl (cJ, 20000, .inr (.inl fz)))] sz (S := Unit) (fun _ => True) (fun _ => [(mo, .inr (4, [.int (nI th), .ref (ad 1), .ref (ad 2), .ref (ad 3), .ref (ad 4), .int (nI st), .ref (ad 6), .ref (ad 7), .ref (ad 8), .ref (ad 9), .ref (ad 10), .ref (ad 11), .ref (ad 12), .ref (ad 13), .ref (ad 14), .ref (ad 15), .ref (ad 16), .ref (ad 17), .ref (ad 18), .int (nI (e0 + 1)), .int (nI ts), .int (nI tf), .int (nI td), .ref (ad 23), .ref (ad 24), .ref (ad 25), .ref (ad 26)])), (ad 6, .inl (cJ, 20000, .inr (.inl f1))), (ad 8, .inl (cI, 20000, .inl ff)), (ad 9, .inl (cI, 20000, .inl fm)), (ad 10, .inl (cI, 20000, .inl fb)), (ad 23, .inl (cJ, 20000, .inr (.inl (vp_updL fo e0 (lN (S.getD i0 (0, 0)).1))))), (ad 24, .inl (cI, 20000, .inl (upd fn e0 (nI (dpt (fun j => F.getD j 0) i0))))), (ad 25, .inl (cJ, 20000, .inr (.inl (vp_updL fy e0 (lN (wyA (fun j => F.getD j 0) i0)))))), (ad 26, .inl (cJ, 20000, .inr (.inl (vp_updL fz e0 (lN (rsA (fun j => F.getD j 0) i0))))))]) := by
  refine zMetV (lv := [(0, .ref mo), (1, .int (nI i0))]) NS0_ok (by decide) rfl (Nat.le_of_ble_eq_true rfl) rfl ?_
  intro p e s m args below meth c A X hin hA
  have hi9 := id hI0
  obtain ⟨i1, i2, i3, i4, i5, i6, i7, i8⟩ := hi9
  have hdn : dpt (fun j => F.getD j 0) i0 ≤ 24 := hd24
  refine z_aload_n X (pc' := 1) dX4_keep_0 rfl 0 rfl rfl ?_
  refine z_get X (v := .ref (ad 23)) (pc' := 4) 0 rfl rfl inX4 23 (by decide) mF_X4_62 rfl dX4_keep_1 rfl ?_
  refine z_aload_n X (pc' := 5) dX4_keep_4 rfl 0 rfl rfl ?_
  refine z_get X (v := .int (nI e0)) (pc' := 8) 0 rfl rfl inX4 19 (by decide) mF_X4_150 rfl dX4_keep_5 rfl ?_
  refine z_aload_n X (pc' := 9) dX4_keep_8 rfl 0 rfl rfl ?_
  refine z_get X (v := .ref (ad 6)) (pc' := 12) 0 rfl rfl inX4 6 (by decide) mF_X4_22 rfl dX4_keep_9 rfl ?_
  refine z_iload_n X (pc' := 13) dX4_keep_12 rfl 1 rfl rfl ?_
  refine z_lald X (pc' := 14) 1 1 rfl rfl (by omega) (by omega) dX4_keep_13 rfl ?_
  refine z_topl (y := lN (pk1 (S.getD i0 (0, 0)))) (i4 i0 hi0).1 ?_
  refine z_ldc2 X (v := lN 1099511627775) (pc' := 17) mJ_X4_163 dX4_keep_14 rfl ?_
  refine z_land X (pc' := 18) dX4_keep_17 rfl ?_
  refine z_topl (y := lN ((S.getD i0 (0, 0)).1)) ((ll_and (k := 40) _ (by decide)).trans (by rw [pk1_lo (i3 _ (getD_mem hi0)).1])) ?_
  refine z_last X (ws' := [(mo, .inr (4, [.int (nI th), .ref (ad 1), .ref (ad 2), .ref (ad 3), .ref (ad 4), .int (nI st), .ref (ad 6), .ref (ad 7), .ref (ad 8), .ref (ad 9), .ref (ad 10), .ref (ad 11), .ref (ad 12), .ref (ad 13), .ref (ad 14), .ref (ad 15), .ref (ad 16), .ref (ad 17), .ref (ad 18), .int (nI e0), .int (nI ts), .int (nI tf), .int (nI td), .ref (ad 23), .ref (ad 24), .ref (ad 25), .ref (ad 26)])), (ad 6, .inl (cJ, 20000, .inr (.inl f1))), (ad 8, .inl (cI, 20000, .inl ff)), (ad 9, .inl (cI, 20000, .inl fm)), (ad 10, .inl (cI, 20000, .inl fb)), (ad 23, .inl (cJ, 20000, .inr (.inl (vp_updL fo e0 (lN ((S.getD i0 (0, 0)).1)))))), (ad 24, .inl (cI, 20000, .inl fn)), (ad 25, .inl (cJ, 20000, .inr (.inl fy))), (ad 26, .inl (cJ, 20000, .inr (.inl fz)))]) (pc' := 19) 5 1 rfl rfl (by omega) (by omega) dX4_keep_18 rfl rfl ?_
  refine z_aload_n X (pc' := 20) dX4_keep_19 rfl 0 rfl rfl ?_
  refine z_get X (v := .ref (ad 24)) (pc' := 23) 0 rfl rfl inX4 24 (by decide) mF_X4_65 rfl dX4_keep_20 rfl ?_
  refine z_aload_n X (pc' := 24) dX4_keep_23 rfl 0 rfl rfl ?_
  refine z_get X (v := .int (nI e0)) (pc' := 27) 0 rfl rfl inX4 19 (by decide) mF_X4_150 rfl dX4_keep_24 rfl ?_
  refine z_aload_n X (pc' := 28) dX4_keep_27 rfl 0 rfl rfl ?_
  refine z_get X (v := .ref (ad 8)) (pc' := 31) 0 rfl rfl inX4 8 (by decide) mF_X4_29 rfl dX4_keep_28 rfl ?_
  refine z_iload_n X (pc' := 32) dX4_keep_31 rfl 1 rfl rfl ?_
  refine z_iald X (pc' := 33) 2 0 rfl rfl (by omega) (by omega) dX4_keep_32 rfl ?_
  refine z_topi (y := nI (dpt (fun j => F.getD j 0) i0)) (i4 i0 hi0).2.2 ?_
  refine z_iast X (ws' := [(mo, .inr (4, [.int (nI th), .ref (ad 1), .ref (ad 2), .ref (ad 3), .ref (ad 4), .int (nI st), .ref (ad 6), .ref (ad 7), .ref (ad 8), .ref (ad 9), .ref (ad 10), .ref (ad 11), .ref (ad 12), .ref (ad 13), .ref (ad 14), .ref (ad 15), .ref (ad 16), .ref (ad 17), .ref (ad 18), .int (nI e0), .int (nI ts), .int (nI tf), .int (nI td), .ref (ad 23), .ref (ad 24), .ref (ad 25), .ref (ad 26)])), (ad 6, .inl (cJ, 20000, .inr (.inl f1))), (ad 8, .inl (cI, 20000, .inl ff)), (ad 9, .inl (cI, 20000, .inl fm)), (ad 10, .inl (cI, 20000, .inl fb)), (ad 23, .inl (cJ, 20000, .inr (.inl (vp_updL fo e0 (lN ((S.getD i0 (0, 0)).1)))))), (ad 24, .inl (cI, 20000, .inl (upd fn e0 (nI (dpt (fun j => F.getD j 0) i0))))), (ad 25, .inl (cJ, 20000, .inr (.inl fy))), (ad 26, .inl (cJ, 20000, .inr (.inl fz)))]) (pc' := 34) 6 0 rfl rfl (by omega) (by omega) dX4_keep_33 rfl rfl ?_
  refine z_aload_n X (pc' := 35) dX4_keep_34 rfl 0 rfl rfl ?_
  refine z_get X (v := .ref (ad 25)) (pc' := 38) 0 rfl rfl inX4 25 (by decide) mF_X4_68 rfl dX4_keep_35 rfl ?_
  refine z_aload_n X (pc' := 39) dX4_keep_38 rfl 0 rfl rfl ?_
  refine z_get X (v := .int (nI e0)) (pc' := 42) 0 rfl rfl inX4 19 (by decide) mF_X4_150 rfl dX4_keep_39 rfl ?_
  refine z_lconst X (v := lN 0) (pc' := 43) dX4_keep_42 (by decide) rfl ?_
  refine z_last X (ws' := [(mo, .inr (4, [.int (nI th), .ref (ad 1), .ref (ad 2), .ref (ad 3), .ref (ad 4), .int (nI st), .ref (ad 6), .ref (ad 7), .ref (ad 8), .ref (ad 9), .ref (ad 10), .ref (ad 11), .ref (ad 12), .ref (ad 13), .ref (ad 14), .ref (ad 15), .ref (ad 16), .ref (ad 17), .ref (ad 18), .int (nI e0), .int (nI ts), .int (nI tf), .int (nI td), .ref (ad 23), .ref (ad 24), .ref (ad 25), .ref (ad 26)])), (ad 6, .inl (cJ, 20000, .inr (.inl f1))), (ad 8, .inl (cI, 20000, .inl ff)), (ad 9, .inl (cI, 20000, .inl fm)), (ad 10, .inl (cI, 20000, .inl fb)), (ad 23, .inl (cJ, 20000, .inr (.inl (vp_updL fo e0 (lN ((S.getD i0 (0, 0)).1)))))), (ad 24, .inl (cI, 20000, .inl (upd fn e0 (nI (dpt (fun j => F.getD j 0) i0))))), (ad 25, .inl (cJ, 20000, .inr (.inl (vp_updL fy e0 (lN 0))))), (ad 26, .inl (cJ, 20000, .inr (.inl fz)))]) (pc' := 44) 7 1 rfl rfl (by omega) (by omega) dX4_keep_43 rfl rfl ?_
  refine z_aload_n X (pc' := 45) dX4_keep_44 rfl 0 rfl rfl ?_
  refine z_get X (v := .ref (ad 26)) (pc' := 48) 0 rfl rfl inX4 26 (by decide) mF_X4_71 rfl dX4_keep_45 rfl ?_
  refine z_aload_n X (pc' := 49) dX4_keep_48 rfl 0 rfl rfl ?_
  refine z_get X (v := .int (nI e0)) (pc' := 52) 0 rfl rfl inX4 19 (by decide) mF_X4_150 rfl dX4_keep_49 rfl ?_
  refine z_lconst X (v := lN 0) (pc' := 53) dX4_keep_52 (by decide) rfl ?_
  refine z_last X (ws' := [(mo, .inr (4, [.int (nI th), .ref (ad 1), .ref (ad 2), .ref (ad 3), .ref (ad 4), .int (nI st), .ref (ad 6), .ref (ad 7), .ref (ad 8), .ref (ad 9), .ref (ad 10), .ref (ad 11), .ref (ad 12), .ref (ad 13), .ref (ad 14), .ref (ad 15), .ref (ad 16), .ref (ad 17), .ref (ad 18), .int (nI e0), .int (nI ts), .int (nI tf), .int (nI td), .ref (ad 23), .ref (ad 24), .ref (ad 25), .ref (ad 26)])), (ad 6, .inl (cJ, 20000, .inr (.inl f1))), (ad 8, .inl (cI, 20000, .inl ff)), (ad 9, .inl (cI, 20000, .inl fm)), (ad 10, .inl (cI, 20000, .inl fb)), (ad 23, .inl (cJ, 20000, .inr (.inl (vp_updL fo e0 (lN ((S.getD i0 (0, 0)).1)))))), (ad 24, .inl (cI, 20000, .inl (upd fn e0 (nI (dpt (fun j => F.getD j 0) i0))))), (ad 25, .inl (cJ, 20000, .inr (.inl (vp_updL fy e0 (lN 0))))), (ad 26, .inl (cJ, 20000, .inr (.inl (vp_updL fz e0 (lN 0)))))]) (pc' := 54) 8 1 rfl rfl (by omega) (by omega) dX4_keep_53 rfl rfl ?_
  refine z_iload_n X (pc' := 55) dX4_keep_54 rfl 1 rfl rfl ?_
  refine z_istore_n X (lv' := [(2, .int (nI i0)), (0, .ref mo), (1, .int (nI i0))]) (pc' := 56) dX4_keep_55 rfl (by decide) rfl rfl ?_
  refine z_aload_n X (pc' := 57) dX4_keep_56 rfl 1 rfl rfl ?_
  refine z_get X (v := .ref (ad 8)) (pc' := 60) 0 rfl rfl inX4 8 (by decide) mF_X4_29 rfl dX4_keep_57 rfl ?_
  refine z_iload_n X (pc' := 61) dX4_keep_60 rfl 2 rfl rfl ?_
  refine z_iald X (pc' := 62) 2 0 rfl rfl (by omega) (by omega) dX4_keep_61 rfl ?_
  refine z_topi (y := nI (dpt (fun j => F.getD j 0) i0)) (i4 i0 hi0).2.2 ?_
  refine z_iconst X (v := nI 1) (pc' := 63) dX4_keep_62 (by decide) rfl ?_
  refine z_isub X (pc' := 64) dX4_keep_63 rfl ?_
  refine z_topi (y := nI (dpt (fun j => F.getD j 0) i0) - nI 1) rfl ?_
  refine z_istore_n X (lv' := [(3, .int (nI (dpt (fun j => F.getD j 0) i0) - nI 1)), (2, .int (nI i0)), (0, .ref mo), (1, .int (nI i0))]) (pc' := 65) dX4_keep_64 rfl (by decide) rfl rfl ?_
  refine z_ws (ws' := [(mo, .inr (4, [.int (nI th), .ref (ad 1), .ref (ad 2), .ref (ad 3), .ref (ad 4), .int (nI st), .ref (ad 6), .ref (ad 7), .ref (ad 8), .ref (ad 9), .ref (ad 10), .ref (ad 11), .ref (ad 12), .ref (ad 13), .ref (ad 14), .ref (ad 15), .ref (ad 16), .ref (ad 17), .ref (ad 18), .int (nI e0), .int (nI ts), .int (nI tf), .int (nI td), .ref (ad 23), .ref (ad 24), .ref (ad 25), .ref (ad 26)])), (ad 6, .inl (cJ, 20000, .inr (.inl f1))), (ad 8, .inl (cI, 20000, .inl ff)), (ad 9, .inl (cI, 20000, .inl fm)), (ad 10, .inl (cI, 20000, .inl fb)), (ad 23, .inl (cJ, 20000, .inr (.inl (vp_updL fo e0 (lN ((S.getD i0 (0, 0)).1)))))), (ad 24, .inl (cI, 20000, .inl (upd fn e0 (nI (dpt (fun j => F.getD j 0) i0))))), (ad 25, .inl (cJ, 20000, .inr (.inl (vp_updL fy e0 (lN 0))))), (ad 26, .inl (cJ, 20000, .inr (.inl (vp_updL fz e0 (lN 0)))))]) [0, 1, 2, 3, 4, 5, 6, 7, 8] (by decide) rfl ?_
  refine z_wse (ws' := [(mo, .inr (4, [.int (nI th), .ref (ad 1), .ref (ad 2), .ref (ad 3), .ref (ad 4), .int (nI st), .ref (ad 6), .ref (ad 7), .ref (ad 8), .ref (ad 9), .ref (ad 10), .ref (ad 11), .ref (ad 12), .ref (ad 13), .ref (ad 14), .ref (ad 15), .ref (ad 16), .ref (ad 17), .ref (ad 18), .int (nI e0), .int (nI ts), .int (nI tf), .int (nI td), .ref (ad 23), .ref (ad 24), .ref (ad 25), .ref (ad 26)])), (ad 6, .inl (cJ, 20000, .inr (.inl f1))), (ad 8, .inl (cI, 20000, .inl ff)), (ad 9, .inl (cI, 20000, .inl fm)), (ad 10, .inl (cI, 20000, .inl fb)), (ad 23, .inl (cJ, 20000, .inr (.inl (vp_updL fo e0 (lN (S.getD i0 (0, 0)).1))))), (ad 24, .inl (cI, 20000, .inl (upd fn e0 (nI (dpt (fun j => F.getD j 0) i0))))), (ad 25, .inl (cJ, 20000, .inr (.inl (vp_updL fy e0 (lN (wyC (mvA (fun j => F.getD j 0) i0) (dpt (fun j => F.getD j 0) i0) (dpt (fun j => F.getD j 0) i0))))))), (ad 26, .inl (cJ, 20000, .inr (.inl (vp_updL fz e0 (lN (rsC (mvA (fun j => F.getD j 0) i0) (dpt (fun j => F.getD j 0) i0) (dpt (fun j => F.getD j 0) i0)))))))]) (by rw [wyC_d, rsC_d]) ?_
  refine z_lve (lv' := [(3, .int (nI (dpt (fun j => F.getD j 0) i0) - nI 1)), (2, .int (nI (anc (fun j => F.getD j 0) (dpt (fun j => F.getD j 0) i0 - dpt (fun j => F.getD j 0) i0) i0))), (0, .ref mo), (1, .int (nI i0))]) (by rw [Nat.sub_self]; rfl) ?_
  refine z_lv (lv' := [(3, .int (nI (dpt (fun j => F.getD j 0) i0) - nI 1)), (2, .int (nI (anc (fun j => F.getD j 0) (dpt (fun j => F.getD j 0) i0 - dpt (fun j => F.getD j 0) i0) i0))), (0, .ref mo), (1, .int (nI i0))]) [0, 1, 2, 3] rfl ?_
  refine z_loop (σ := Nat) (fun x => x ≤ dpt (fun j => F.getD j 0) i0) (fun x => x) (fun x => [(3, .int (nI x - nI 1)), (2, .int (nI (anc (fun j => F.getD j 0) (dpt (fun j => F.getD j 0) i0 - x) i0))), (0, .ref mo), (1, .int (nI i0))]) (fun x => [(mo, .inr (4, [.int (nI th), .ref (ad 1), .ref (ad 2), .ref (ad 3), .ref (ad 4), .int (nI st), .ref (ad 6), .ref (ad 7), .ref (ad 8), .ref (ad 9), .ref (ad 10), .ref (ad 11), .ref (ad 12), .ref (ad 13), .ref (ad 14), .ref (ad 15), .ref (ad 16), .ref (ad 17), .ref (ad 18), .int (nI e0), .int (nI ts), .int (nI tf), .int (nI td), .ref (ad 23), .ref (ad 24), .ref (ad 25), .ref (ad 26)])), (ad 6, .inl (cJ, 20000, .inr (.inl f1))), (ad 8, .inl (cI, 20000, .inl ff)), (ad 9, .inl (cI, 20000, .inl fm)), (ad 10, .inl (cI, 20000, .inl fb)), (ad 23, .inl (cJ, 20000, .inr (.inl (vp_updL fo e0 (lN (S.getD i0 (0, 0)).1))))), (ad 24, .inl (cI, 20000, .inl (upd fn e0 (nI (dpt (fun j => F.getD j 0) i0))))), (ad 25, .inl (cJ, 20000, .inr (.inl (vp_updL fy e0 (lN (wyC (mvA (fun j => F.getD j 0) i0) (dpt (fun j => F.getD j 0) i0) x)))))), (ad 26, .inl (cJ, 20000, .inr (.inl (vp_updL fz e0 (lN (rsC (mvA (fun j => F.getD j 0) i0) (dpt (fun j => F.getD j 0) i0) x))))))]) (fun x => 0) (fun x => 0) (dpt (fun j => F.getD j 0) i0) (Nat.le_refl _) ?_
  intro x hI ih
  show Z _ _ _ _ _ _ _ _ _ _ _ _ _ _ _ 65 [(3, .int (nI x - nI 1)), (2, .int (nI (anc (fun j => F.getD j 0) (dpt (fun j => F.getD j 0) i0 - x) i0))), (0, .ref mo), (1, .int (nI i0))] [] [(mo, .inr (4, [.int (nI th), .ref (ad 1), .ref (ad 2), .ref (ad 3), .ref (ad 4), .int (nI st), .ref (ad 6), .ref (ad 7), .ref (ad 8), .ref (ad 9), .ref (ad 10), .ref (ad 11), .ref (ad 12), .ref (ad 13), .ref (ad 14), .ref (ad 15), .ref (ad 16), .ref (ad 17), .ref (ad 18), .int (nI e0), .int (nI ts), .int (nI tf), .int (nI td), .ref (ad 23), .ref (ad 24), .ref (ad 25), .ref (ad 26)])), (ad 6, .inl (cJ, 20000, .inr (.inl f1))), (ad 8, .inl (cI, 20000, .inl ff)), (ad 9, .inl (cI, 20000, .inl fm)), (ad 10, .inl (cI, 20000, .inl fb)), (ad 23, .inl (cJ, 20000, .inr (.inl (vp_updL fo e0 (lN (S.getD i0 (0, 0)).1))))), (ad 24, .inl (cI, 20000, .inl (upd fn e0 (nI (dpt (fun j => F.getD j 0) i0))))), (ad 25, .inl (cJ, 20000, .inr (.inl (vp_updL fy e0 (lN (wyC (mvA (fun j => F.getD j 0) i0) (dpt (fun j => F.getD j 0) i0) x)))))), (ad 26, .inl (cJ, 20000, .inr (.inl (vp_updL fz e0 (lN (rsC (mvA (fun j => F.getD j 0) i0) (dpt (fun j => F.getD j 0) i0) x))))))] 0 0
  by_cases hz : x = 0
  · refine z_lve (lv' := [(3, .int ((-1))), (2, .int (nI (anc (fun j => F.getD j 0) (dpt (fun j => F.getD j 0) i0 - x) i0))), (0, .ref mo), (1, .int (nI i0))]) (by rw [show nI x - nI 1 = -1 by rw [hz]; exact i_01]) ?_
    refine z_iload_n X (pc' := 66) dX4_keep_65 rfl 0 rfl rfl ?_
    refine z_if_lt X (tgt := 140) (pc' := 69) dX4_keep_66 (by decide) rfl (fun h1 => ?_) (fun h1 => ?_)
    · refine z_aload_n X (pc' := 141) dX4_keep_140 rfl 2 rfl rfl ?_
      refine z_dup X (pc' := 142) dX4_keep_141 rfl rfl ?_
      refine z_get X (v := .int (nI e0)) (pc' := 145) 0 rfl rfl inX4 19 (by decide) mF_X4_150 rfl dX4_keep_142 rfl ?_
      refine z_iconst X (v := nI 1) (pc' := 146) dX4_keep_145 (by decide) rfl ?_
      refine z_iadd X (pc' := 147) dX4_keep_146 rfl ?_
      refine z_topi (y := nI (e0 + 1)) (nI_add _ _) ?_
      refine z_put X (t1 := .int) (ws' := [(mo, .inr (4, [.int (nI th), .ref (ad 1), .ref (ad 2), .ref (ad 3), .ref (ad 4), .int (nI st), .ref (ad 6), .ref (ad 7), .ref (ad 8), .ref (ad 9), .ref (ad 10), .ref (ad 11), .ref (ad 12), .ref (ad 13), .ref (ad 14), .ref (ad 15), .ref (ad 16), .ref (ad 17), .ref (ad 18), .int (nI (e0 + 1)), .int (nI ts), .int (nI tf), .int (nI td), .ref (ad 23), .ref (ad 24), .ref (ad 25), .ref (ad 26)])), (ad 6, .inl (cJ, 20000, .inr (.inl f1))), (ad 8, .inl (cI, 20000, .inl ff)), (ad 9, .inl (cI, 20000, .inl fm)), (ad 10, .inl (cI, 20000, .inl fb)), (ad 23, .inl (cJ, 20000, .inr (.inl (vp_updL fo e0 (lN (S.getD i0 (0, 0)).1))))), (ad 24, .inl (cI, 20000, .inl (upd fn e0 (nI (dpt (fun j => F.getD j 0) i0))))), (ad 25, .inl (cJ, 20000, .inr (.inl (vp_updL fy e0 (lN (wyC (mvA (fun j => F.getD j 0) i0) (dpt (fun j => F.getD j 0) i0) x)))))), (ad 26, .inl (cJ, 20000, .inr (.inl (vp_updL fz e0 (lN (rsC (mvA (fun j => F.getD j 0) i0) (dpt (fun j => F.getD j 0) i0) x))))))]) (pc' := 150) 0 rfl rfl inX4 tyX4 tyX4_ok nmX4 19 (by decide) mF_X4_150 rfl (by decide +kernel) rfl rfl (Nat.le_of_ble_eq_true rfl) dX4_keep_147 rfl rfl ?_
      refine z_ws (ws' := [(mo, .inr (4, [.int (nI th), .ref (ad 1), .ref (ad 2), .ref (ad 3), .ref (ad 4), .int (nI st), .ref (ad 6), .ref (ad 7), .ref (ad 8), .ref (ad 9), .ref (ad 10), .ref (ad 11), .ref (ad 12), .ref (ad 13), .ref (ad 14), .ref (ad 15), .ref (ad 16), .ref (ad 17), .ref (ad 18), .int (nI (e0 + 1)), .int (nI ts), .int (nI tf), .int (nI td), .ref (ad 23), .ref (ad 24), .ref (ad 25), .ref (ad 26)])), (ad 6, .inl (cJ, 20000, .inr (.inl f1))), (ad 8, .inl (cI, 20000, .inl ff)), (ad 9, .inl (cI, 20000, .inl fm)), (ad 10, .inl (cI, 20000, .inl fb)), (ad 23, .inl (cJ, 20000, .inr (.inl (vp_updL fo e0 (lN (S.getD i0 (0, 0)).1))))), (ad 24, .inl (cI, 20000, .inl (upd fn e0 (nI (dpt (fun j => F.getD j 0) i0))))), (ad 25, .inl (cJ, 20000, .inr (.inl (vp_updL fy e0 (lN (wyC (mvA (fun j => F.getD j 0) i0) (dpt (fun j => F.getD j 0) i0) x)))))), (ad 26, .inl (cJ, 20000, .inr (.inl (vp_updL fz e0 (lN (rsC (mvA (fun j => F.getD j 0) i0) (dpt (fun j => F.getD j 0) i0) x))))))]) [0, 1, 2, 3, 4, 5, 6, 7, 8] (by decide) rfl ?_
      refine z_wse (ws' := [(mo, .inr (4, [.int (nI th), .ref (ad 1), .ref (ad 2), .ref (ad 3), .ref (ad 4), .int (nI st), .ref (ad 6), .ref (ad 7), .ref (ad 8), .ref (ad 9), .ref (ad 10), .ref (ad 11), .ref (ad 12), .ref (ad 13), .ref (ad 14), .ref (ad 15), .ref (ad 16), .ref (ad 17), .ref (ad 18), .int (nI (e0 + 1)), .int (nI ts), .int (nI tf), .int (nI td), .ref (ad 23), .ref (ad 24), .ref (ad 25), .ref (ad 26)])), (ad 6, .inl (cJ, 20000, .inr (.inl f1))), (ad 8, .inl (cI, 20000, .inl ff)), (ad 9, .inl (cI, 20000, .inl fm)), (ad 10, .inl (cI, 20000, .inl fb)), (ad 23, .inl (cJ, 20000, .inr (.inl (vp_updL fo e0 (lN (S.getD i0 (0, 0)).1))))), (ad 24, .inl (cI, 20000, .inl (upd fn e0 (nI (dpt (fun j => F.getD j 0) i0))))), (ad 25, .inl (cJ, 20000, .inr (.inl (vp_updL fy e0 (lN (wyA (fun j => F.getD j 0) i0)))))), (ad 26, .inl (cJ, 20000, .inr (.inl (vp_updL fz e0 (lN (rsA (fun j => F.getD j 0) i0))))))]) (by rw [hz, wyC_0, rsC_0]) ?_
      exact z_vret X () (trivial) rfl (Nat.le_of_ble_eq_true rfl) (Nat.le_of_ble_eq_true rfl) dX4_keep_150
    · exact absurd (by decide) h1
  · refine z_lve (lv' := [(3, .int (nI (x - 1))), (2, .int (nI (anc (fun j => F.getD j 0) (dpt (fun j => F.getD j 0) i0 - x) i0))), (0, .ref mo), (1, .int (nI i0))]) (by rw [show nI x - nI 1 = nI (x - 1) from pk_sub (by omega)]) ?_
    obtain ⟨ha1, ha2⟩ := anc_dpt (F := (fun j => F.getD j 0)) (n := S.length) (fun j a b => (i5 j a b).2.2) (dpt (fun j => F.getD j 0) i0 - x) i0 hi0 (by omega)
    have hap : 0 < anc (fun j => F.getD j 0) (dpt (fun j => F.getD j 0) i0 - x) i0 := by rcases Nat.eq_zero_or_pos (anc (fun j => F.getD j 0) (dpt (fun j => F.getD j 0) i0 - x) i0) with g | g; (rw [g] at ha1; have h00 : dpt (fun j => F.getD j 0) 0 = 0 := rfl; omega); exact g
    have h5 := i5 _ hap ha2
    have hmk : F.getD (anc (fun j => F.getD j 0) (dpt (fun j => F.getD j 0) i0 - x) i0) 0 % 20 = mvA (fun j => F.getD j 0) i0 (x - 1) := by unfold mvA; rw [show dpt (fun j => F.getD j 0) i0 - 1 - (x - 1) = dpt (fun j => F.getD j 0) i0 - x by omega]
    refine z_iload_n X (pc' := 66) dX4_keep_65 rfl 0 rfl rfl ?_
    refine z_if_ltN X (tgt := 140) (pc' := 69) (by omega) dX4_keep_66 (by decide) rfl ?_
    refine z_iload_n X (pc' := 70) dX4_keep_69 rfl 0 rfl rfl ?_
    refine z_bipush X (v := nI 12) (pc' := 72) dX4_keep_70 (by decide) rfl ?_
    refine z_icmp_geN X (tgt := 101) (pc' := 75) (by omega) (by decide) dX4_keep_72 (by decide) rfl (fun h2 => ?_) (fun h2 => ?_)
    · have h12 : ¬ x - 1 < 12 := by omega
      refine z_aload_n X (pc' := 102) dX4_keep_101 rfl 2 rfl rfl ?_
      refine z_get X (v := .ref (ad 26)) (pc' := 105) 0 rfl rfl inX4 26 (by decide) mF_X4_71 rfl dX4_keep_102 rfl ?_
      refine z_aload_n X (pc' := 106) dX4_keep_105 rfl 2 rfl rfl ?_
      refine z_get X (v := .int (nI e0)) (pc' := 109) 0 rfl rfl inX4 19 (by decide) mF_X4_150 rfl dX4_keep_106 rfl ?_
      refine z_dup2_11 X (pc' := 110) dX4_keep_109 rfl rfl rfl ?_
      refine z_lald X (pc' := 111) 8 1 rfl rfl (by omega) (by omega) dX4_keep_110 rfl ?_
      refine z_topl (y := lN (rsC (mvA (fun j => F.getD j 0) i0) (dpt (fun j => F.getD j 0) i0) x)) pk_uLs ?_
      refine z_aload_n X (pc' := 112) dX4_keep_111 rfl 2 rfl rfl ?_
      refine z_get X (v := .ref (ad 10)) (pc' := 115) 0 rfl rfl inX4 10 (by decide) mF_X4_35 rfl dX4_keep_112 rfl ?_
      refine z_iload_n X (pc' := 116) dX4_keep_115 rfl 1 rfl rfl ?_
      refine z_iald X (pc' := 117) 4 0 rfl rfl (by omega) (by omega) dX4_keep_116 rfl ?_
      refine z_topi (y := nI (mvA (fun j => F.getD j 0) i0 (x - 1))) (h5.2.1.trans (by rw [hmk])) ?_
      refine z_i2l X (pc' := 118) dX4_keep_117 rfl rfl ?_
      refine z_topl (y := lN (mvA (fun j => F.getD j 0) i0 (x - 1))) (nI_l (Nat.lt_trans (mvA_lt (fun j => F.getD j 0) i0 (x - 1)) (by decide))) ?_
      refine z_iconst X (v := nI 5) (pc' := 119) dX4_keep_118 (by decide) rfl ?_
      refine z_iload_n X (pc' := 120) dX4_keep_119 rfl 0 rfl rfl ?_
      refine z_bipush X (v := nI 12) (pc' := 122) dX4_keep_120 (by decide) rfl ?_
      refine z_isub X (pc' := 123) dX4_keep_122 rfl ?_
      refine z_topi (y := nI (x - 1 - 12)) (pk_sub (by omega)) ?_
      refine z_imul X (pc' := 124) dX4_keep_123 rfl ?_
      refine z_topi (y := nI (5 * (x - 1 - 12))) (pk_mul _ _) ?_
      refine z_lshl X (pc' := 125) dX4_keep_124 rfl rfl ?_
      refine z_topl (y := lN (mvA (fun j => F.getD j 0) i0 (x - 1) * 2 ^ (5 * (x - 1 - 12)))) (wb_shl _ (by omega)) ?_
      refine z_lor X (pc' := 126) dX4_keep_125 rfl ?_
      refine z_topl (y := lN (rsC (mvA (fun j => F.getD j 0) i0) (dpt (fun j => F.getD j 0) i0) (x - 1))) (rsC_s (mvA_lt (fun j => F.getD j 0) i0) hI h12) ?_
      refine z_last X (ws' := [(mo, .inr (4, [.int (nI th), .ref (ad 1), .ref (ad 2), .ref (ad 3), .ref (ad 4), .int (nI st), .ref (ad 6), .ref (ad 7), .ref (ad 8), .ref (ad 9), .ref (ad 10), .ref (ad 11), .ref (ad 12), .ref (ad 13), .ref (ad 14), .ref (ad 15), .ref (ad 16), .ref (ad 17), .ref (ad 18), .int (nI e0), .int (nI ts), .int (nI tf), .int (nI td), .ref (ad 23), .ref (ad 24), .ref (ad 25), .ref (ad 26)])), (ad 6, .inl (cJ, 20000, .inr (.inl f1))), (ad 8, .inl (cI, 20000, .inl ff)), (ad 9, .inl (cI, 20000, .inl fm)), (ad 10, .inl (cI, 20000, .inl fb)), (ad 23, .inl (cJ, 20000, .inr (.inl (vp_updL fo e0 (lN (S.getD i0 (0, 0)).1))))), (ad 24, .inl (cI, 20000, .inl (upd fn e0 (nI (dpt (fun j => F.getD j 0) i0))))), (ad 25, .inl (cJ, 20000, .inr (.inl (vp_updL fy e0 (lN (wyC (mvA (fun j => F.getD j 0) i0) (dpt (fun j => F.getD j 0) i0) x)))))), (ad 26, .inl (cJ, 20000, .inr (.inl (vp_updL (vp_updL fz e0 (lN (rsC (mvA (fun j => F.getD j 0) i0) (dpt (fun j => F.getD j 0) i0) x))) e0 (lN (rsC (mvA (fun j => F.getD j 0) i0) (dpt (fun j => F.getD j 0) i0) (x - 1)))))))]) (pc' := 127) 8 1 rfl rfl (by omega) (by omega) dX4_keep_126 rfl rfl ?_
      refine z_aload_n X (pc' := 128) dX4_keep_127 rfl 2 rfl rfl ?_
      refine z_get X (v := .ref (ad 9)) (pc' := 131) 0 rfl rfl inX4 9 (by decide) mF_X4_32 rfl dX4_keep_128 rfl ?_
      refine z_iload_n X (pc' := 132) dX4_keep_131 rfl 1 rfl rfl ?_
      refine z_iald X (pc' := 133) 3 0 rfl rfl (by omega) (by omega) dX4_keep_132 rfl ?_
      refine z_topi (y := nI (F.getD (anc (fun j => F.getD j 0) (dpt (fun j => F.getD j 0) i0 - x) i0) 0 / 20)) h5.1 ?_
      refine z_istore_n X (lv' := [(2, .int (nI (F.getD (anc (fun j => F.getD j 0) (dpt (fun j => F.getD j 0) i0 - x) i0) 0 / 20))), (3, .int (nI (x - 1))), (0, .ref mo), (1, .int (nI i0))]) (pc' := 134) dX4_keep_133 rfl (by decide) rfl rfl ?_
      refine z_iinc X (v := nI (x - 1) - nI 1) (lv' := [(3, .int (nI (x - 1) - nI 1)), (2, .int (nI (F.getD (anc (fun j => F.getD j 0) (dpt (fun j => F.getD j 0) i0 - x) i0) 0 / 20))), (0, .ref mo), (1, .int (nI i0))]) (k := 1) (pc' := 137) dX4_keep_134 rfl i_m1 (by decide) rfl rfl ?_
      refine z_goto X (tgt := 65) dX4_keep_137 (by decide) ?_
      refine z_ws (ws' := [(mo, .inr (4, [.int (nI th), .ref (ad 1), .ref (ad 2), .ref (ad 3), .ref (ad 4), .int (nI st), .ref (ad 6), .ref (ad 7), .ref (ad 8), .ref (ad 9), .ref (ad 10), .ref (ad 11), .ref (ad 12), .ref (ad 13), .ref (ad 14), .ref (ad 15), .ref (ad 16), .ref (ad 17), .ref (ad 18), .int (nI e0), .int (nI ts), .int (nI tf), .int (nI td), .ref (ad 23), .ref (ad 24), .ref (ad 25), .ref (ad 26)])), (ad 6, .inl (cJ, 20000, .inr (.inl f1))), (ad 8, .inl (cI, 20000, .inl ff)), (ad 9, .inl (cI, 20000, .inl fm)), (ad 10, .inl (cI, 20000, .inl fb)), (ad 23, .inl (cJ, 20000, .inr (.inl (vp_updL fo e0 (lN (S.getD i0 (0, 0)).1))))), (ad 24, .inl (cI, 20000, .inl (upd fn e0 (nI (dpt (fun j => F.getD j 0) i0))))), (ad 25, .inl (cJ, 20000, .inr (.inl (vp_updL fy e0 (lN (wyC (mvA (fun j => F.getD j 0) i0) (dpt (fun j => F.getD j 0) i0) x)))))), (ad 26, .inl (cJ, 20000, .inr (.inl (vp_updL (vp_updL fz e0 (lN (rsC (mvA (fun j => F.getD j 0) i0) (dpt (fun j => F.getD j 0) i0) x))) e0 (lN (rsC (mvA (fun j => F.getD j 0) i0) (dpt (fun j => F.getD j 0) i0) (x - 1)))))))]) [0, 1, 2, 3, 4, 5, 6, 7, 8] (by decide) rfl ?_
      refine z_wse (ws' := [(mo, .inr (4, [.int (nI th), .ref (ad 1), .ref (ad 2), .ref (ad 3), .ref (ad 4), .int (nI st), .ref (ad 6), .ref (ad 7), .ref (ad 8), .ref (ad 9), .ref (ad 10), .ref (ad 11), .ref (ad 12), .ref (ad 13), .ref (ad 14), .ref (ad 15), .ref (ad 16), .ref (ad 17), .ref (ad 18), .int (nI e0), .int (nI ts), .int (nI tf), .int (nI td), .ref (ad 23), .ref (ad 24), .ref (ad 25), .ref (ad 26)])), (ad 6, .inl (cJ, 20000, .inr (.inl f1))), (ad 8, .inl (cI, 20000, .inl ff)), (ad 9, .inl (cI, 20000, .inl fm)), (ad 10, .inl (cI, 20000, .inl fb)), (ad 23, .inl (cJ, 20000, .inr (.inl (vp_updL fo e0 (lN (S.getD i0 (0, 0)).1))))), (ad 24, .inl (cI, 20000, .inl (upd fn e0 (nI (dpt (fun j => F.getD j 0) i0))))), (ad 25, .inl (cJ, 20000, .inr (.inl (vp_updL fy e0 (lN (wyC (mvA (fun j => F.getD j 0) i0) (dpt (fun j => F.getD j 0) i0) (x - 1))))))), (ad 26, .inl (cJ, 20000, .inr (.inl (vp_updL fz e0 (lN (rsC (mvA (fun j => F.getD j 0) i0) (dpt (fun j => F.getD j 0) i0) (x - 1)))))))]) (by rw [vpL_vpL, wyC_12 h12]) ?_
      refine z_lve (lv' := [(3, .int (nI (x - 1) - nI 1)), (2, .int (nI (anc (fun j => F.getD j 0) (dpt (fun j => F.getD j 0) i0 - (x - 1)) i0))), (0, .ref mo), (1, .int (nI i0))]) (by rw [show anc (fun j => F.getD j 0) (dpt (fun j => F.getD j 0) i0 - (x - 1)) i0 = F.getD (anc (fun j => F.getD j 0) (dpt (fun j => F.getD j 0) i0 - x) i0) 0 / 20 by rw [show dpt (fun j => F.getD j 0) i0 - (x - 1) = dpt (fun j => F.getD j 0) i0 - x + 1 by omega, anc_s]]) ?_
      refine z_lv (lv' := [(3, .int (nI (x - 1) - nI 1)), (2, .int (nI (anc (fun j => F.getD j 0) (dpt (fun j => F.getD j 0) i0 - (x - 1)) i0))), (0, .ref mo), (1, .int (nI i0))]) [0, 1, 2, 3] rfl ?_
      exact ih (x - 1) (show x - 1 ≤ dpt (fun j => F.getD j 0) i0 by omega) (by omega)
    · have h12 : x - 1 < 12 := by omega
      refine z_aload_n X (pc' := 76) dX4_keep_75 rfl 2 rfl rfl ?_
      refine z_get X (v := .ref (ad 25)) (pc' := 79) 0 rfl rfl inX4 25 (by decide) mF_X4_68 rfl dX4_keep_76 rfl ?_
      refine z_aload_n X (pc' := 80) dX4_keep_79 rfl 2 rfl rfl ?_
      refine z_get X (v := .int (nI e0)) (pc' := 83) 0 rfl rfl inX4 19 (by decide) mF_X4_150 rfl dX4_keep_80 rfl ?_
      refine z_dup2_11 X (pc' := 84) dX4_keep_83 rfl rfl rfl ?_
      refine z_lald X (pc' := 85) 7 1 rfl rfl (by omega) (by omega) dX4_keep_84 rfl ?_
      refine z_topl (y := lN (wyC (mvA (fun j => F.getD j 0) i0) (dpt (fun j => F.getD j 0) i0) x)) pk_uLs ?_
      refine z_aload_n X (pc' := 86) dX4_keep_85 rfl 2 rfl rfl ?_
      refine z_get X (v := .ref (ad 10)) (pc' := 89) 0 rfl rfl inX4 10 (by decide) mF_X4_35 rfl dX4_keep_86 rfl ?_
      refine z_iload_n X (pc' := 90) dX4_keep_89 rfl 1 rfl rfl ?_
      refine z_iald X (pc' := 91) 4 0 rfl rfl (by omega) (by omega) dX4_keep_90 rfl ?_
      refine z_topi (y := nI (mvA (fun j => F.getD j 0) i0 (x - 1))) (h5.2.1.trans (by rw [hmk])) ?_
      refine z_i2l X (pc' := 92) dX4_keep_91 rfl rfl ?_
      refine z_topl (y := lN (mvA (fun j => F.getD j 0) i0 (x - 1))) (nI_l (Nat.lt_trans (mvA_lt (fun j => F.getD j 0) i0 (x - 1)) (by decide))) ?_
      refine z_iconst X (v := nI 5) (pc' := 93) dX4_keep_92 (by decide) rfl ?_
      refine z_iload_n X (pc' := 94) dX4_keep_93 rfl 0 rfl rfl ?_
      refine z_imul X (pc' := 95) dX4_keep_94 rfl ?_
      refine z_topi (y := nI (5 * (x - 1))) (pk_mul _ _) ?_
      refine z_lshl X (pc' := 96) dX4_keep_95 rfl rfl ?_
      refine z_topl (y := lN (mvA (fun j => F.getD j 0) i0 (x - 1) * 2 ^ (5 * (x - 1)))) (wb_shl _ (by omega)) ?_
      refine z_lor X (pc' := 97) dX4_keep_96 rfl ?_
      refine z_topl (y := lN (wyC (mvA (fun j => F.getD j 0) i0) (dpt (fun j => F.getD j 0) i0) (x - 1))) (wyC_s (mvA_lt (fun j => F.getD j 0) i0) (by omega) hI h12) ?_
      refine z_last X (ws' := [(mo, .inr (4, [.int (nI th), .ref (ad 1), .ref (ad 2), .ref (ad 3), .ref (ad 4), .int (nI st), .ref (ad 6), .ref (ad 7), .ref (ad 8), .ref (ad 9), .ref (ad 10), .ref (ad 11), .ref (ad 12), .ref (ad 13), .ref (ad 14), .ref (ad 15), .ref (ad 16), .ref (ad 17), .ref (ad 18), .int (nI e0), .int (nI ts), .int (nI tf), .int (nI td), .ref (ad 23), .ref (ad 24), .ref (ad 25), .ref (ad 26)])), (ad 6, .inl (cJ, 20000, .inr (.inl f1))), (ad 8, .inl (cI, 20000, .inl ff)), (ad 9, .inl (cI, 20000, .inl fm)), (ad 10, .inl (cI, 20000, .inl fb)), (ad 23, .inl (cJ, 20000, .inr (.inl (vp_updL fo e0 (lN (S.getD i0 (0, 0)).1))))), (ad 24, .inl (cI, 20000, .inl (upd fn e0 (nI (dpt (fun j => F.getD j 0) i0))))), (ad 25, .inl (cJ, 20000, .inr (.inl (vp_updL (vp_updL fy e0 (lN (wyC (mvA (fun j => F.getD j 0) i0) (dpt (fun j => F.getD j 0) i0) x))) e0 (lN (wyC (mvA (fun j => F.getD j 0) i0) (dpt (fun j => F.getD j 0) i0) (x - 1))))))), (ad 26, .inl (cJ, 20000, .inr (.inl (vp_updL fz e0 (lN (rsC (mvA (fun j => F.getD j 0) i0) (dpt (fun j => F.getD j 0) i0) x))))))]) (pc' := 98) 7 1 rfl rfl (by omega) (by omega) dX4_keep_97 rfl rfl ?_
      refine z_goto X (tgt := 127) dX4_keep_98 (by decide) ?_
      refine z_aload_n X (pc' := 128) dX4_keep_127 rfl 2 rfl rfl ?_
      refine z_get X (v := .ref (ad 9)) (pc' := 131) 0 rfl rfl inX4 9 (by decide) mF_X4_32 rfl dX4_keep_128 rfl ?_
      refine z_iload_n X (pc' := 132) dX4_keep_131 rfl 1 rfl rfl ?_
      refine z_iald X (pc' := 133) 3 0 rfl rfl (by omega) (by omega) dX4_keep_132 rfl ?_
      refine z_topi (y := nI (F.getD (anc (fun j => F.getD j 0) (dpt (fun j => F.getD j 0) i0 - x) i0) 0 / 20)) h5.1 ?_
      refine z_istore_n X (lv' := [(2, .int (nI (F.getD (anc (fun j => F.getD j 0) (dpt (fun j => F.getD j 0) i0 - x) i0) 0 / 20))), (3, .int (nI (x - 1))), (0, .ref mo), (1, .int (nI i0))]) (pc' := 134) dX4_keep_133 rfl (by decide) rfl rfl ?_
      refine z_iinc X (v := nI (x - 1) - nI 1) (lv' := [(3, .int (nI (x - 1) - nI 1)), (2, .int (nI (F.getD (anc (fun j => F.getD j 0) (dpt (fun j => F.getD j 0) i0 - x) i0) 0 / 20))), (0, .ref mo), (1, .int (nI i0))]) (k := 1) (pc' := 137) dX4_keep_134 rfl i_m1 (by decide) rfl rfl ?_
      refine z_goto X (tgt := 65) dX4_keep_137 (by decide) ?_
      refine z_ws (ws' := [(mo, .inr (4, [.int (nI th), .ref (ad 1), .ref (ad 2), .ref (ad 3), .ref (ad 4), .int (nI st), .ref (ad 6), .ref (ad 7), .ref (ad 8), .ref (ad 9), .ref (ad 10), .ref (ad 11), .ref (ad 12), .ref (ad 13), .ref (ad 14), .ref (ad 15), .ref (ad 16), .ref (ad 17), .ref (ad 18), .int (nI e0), .int (nI ts), .int (nI tf), .int (nI td), .ref (ad 23), .ref (ad 24), .ref (ad 25), .ref (ad 26)])), (ad 6, .inl (cJ, 20000, .inr (.inl f1))), (ad 8, .inl (cI, 20000, .inl ff)), (ad 9, .inl (cI, 20000, .inl fm)), (ad 10, .inl (cI, 20000, .inl fb)), (ad 23, .inl (cJ, 20000, .inr (.inl (vp_updL fo e0 (lN (S.getD i0 (0, 0)).1))))), (ad 24, .inl (cI, 20000, .inl (upd fn e0 (nI (dpt (fun j => F.getD j 0) i0))))), (ad 25, .inl (cJ, 20000, .inr (.inl (vp_updL (vp_updL fy e0 (lN (wyC (mvA (fun j => F.getD j 0) i0) (dpt (fun j => F.getD j 0) i0) x))) e0 (lN (wyC (mvA (fun j => F.getD j 0) i0) (dpt (fun j => F.getD j 0) i0) (x - 1))))))), (ad 26, .inl (cJ, 20000, .inr (.inl (vp_updL fz e0 (lN (rsC (mvA (fun j => F.getD j 0) i0) (dpt (fun j => F.getD j 0) i0) x))))))]) [0, 1, 2, 3, 4, 5, 6, 7, 8] (by decide) rfl ?_
      refine z_wse (ws' := [(mo, .inr (4, [.int (nI th), .ref (ad 1), .ref (ad 2), .ref (ad 3), .ref (ad 4), .int (nI st), .ref (ad 6), .ref (ad 7), .ref (ad 8), .ref (ad 9), .ref (ad 10), .ref (ad 11), .ref (ad 12), .ref (ad 13), .ref (ad 14), .ref (ad 15), .ref (ad 16), .ref (ad 17), .ref (ad 18), .int (nI e0), .int (nI ts), .int (nI tf), .int (nI td), .ref (ad 23), .ref (ad 24), .ref (ad 25), .ref (ad 26)])), (ad 6, .inl (cJ, 20000, .inr (.inl f1))), (ad 8, .inl (cI, 20000, .inl ff)), (ad 9, .inl (cI, 20000, .inl fm)), (ad 10, .inl (cI, 20000, .inl fb)), (ad 23, .inl (cJ, 20000, .inr (.inl (vp_updL fo e0 (lN (S.getD i0 (0, 0)).1))))), (ad 24, .inl (cI, 20000, .inl (upd fn e0 (nI (dpt (fun j => F.getD j 0) i0))))), (ad 25, .inl (cJ, 20000, .inr (.inl (vp_updL fy e0 (lN (wyC (mvA (fun j => F.getD j 0) i0) (dpt (fun j => F.getD j 0) i0) (x - 1))))))), (ad 26, .inl (cJ, 20000, .inr (.inl (vp_updL fz e0 (lN (rsC (mvA (fun j => F.getD j 0) i0) (dpt (fun j => F.getD j 0) i0) (x - 1)))))))]) (by rw [vpL_vpL, rsC_12 h12]) ?_
      refine z_lve (lv' := [(3, .int (nI (x - 1) - nI 1)), (2, .int (nI (anc (fun j => F.getD j 0) (dpt (fun j => F.getD j 0) i0 - (x - 1)) i0))), (0, .ref mo), (1, .int (nI i0))]) (by rw [show anc (fun j => F.getD j 0) (dpt (fun j => F.getD j 0) i0 - (x - 1)) i0 = F.getD (anc (fun j => F.getD j 0) (dpt (fun j => F.getD j 0) i0 - x) i0) 0 / 20 by rw [show dpt (fun j => F.getD j 0) i0 - (x - 1) = dpt (fun j => F.getD j 0) i0 - x + 1 by omega, anc_s]]) ?_
      refine z_lv (lv' := [(3, .int (nI (x - 1) - nI 1)), (2, .int (nI (anc (fun j => F.getD j 0) (dpt (fun j => F.getD j 0) i0 - (x - 1)) i0))), (0, .ref mo), (1, .int (nI i0))]) [0, 1, 2, 3] rfl ?_
      exact ih (x - 1) (show x - 1 ≤ dpt (fun j => F.getD j 0) i0 by omega) (by omega)
set_option maxHeartbeats 4000000 in
set_option maxRecDepth 100000 in
/-- two outcomes change places -/
theorem r_turn (l : Launch) (D : va_G) (cI cJ : ClassId) (sz : Nat) (mo th st tol ts tf td : Nat) (ad : Nat → Nat) (i j : Nat) (fo : Nat → Int64) (fn : Nat → Int32) (fy fz : Nat → Int64) (hi : i < 20000) (hj : j < 20000) : KV l D cI cJ yX4_turn cX4_turn 6 none 0 0 0 0 [.ref mo, .int (nI i), .int (nI j)] [(mo, .inr (4, [.int (nI th), .ref (ad 1), .ref (ad 2), .ref (ad 3), .ref (ad 4), .int (nI st), .ref (ad 6), .ref (ad 7), .ref (ad 8), .ref (ad 9), .ref (ad 10), .ref (ad 11), .ref (ad 12), .ref (ad 13), .ref (ad 14), .ref (ad 15), .ref (ad 16), .ref (ad 17), .ref (ad 18), .int (nI tol), .int (nI ts), .int (nI tf), .int (nI td), .ref (ad 23), .ref (ad 24), .ref (ad 25), .ref (ad 26)])), (ad 23, .inl (cJ, 20000, .inr (.inl fo))), (ad 24, .inl (cI, 20000, .inl fn)), (ad 25, .inl (cJ, 20000, .inr (.inl fy))), (ad 26, .inl (cJ, 20000, .inr (.inl fz)))] sz (S := Unit) (fun _ => True) (fun _ => [(mo, .inr (4, [.int (nI th), .ref (ad 1), .ref (ad 2), .ref (ad 3), .ref (ad 4), .int (nI st), .ref (ad 6), .ref (ad 7), .ref (ad 8), .ref (ad 9), .ref (ad 10), .ref (ad 11), .ref (ad 12), .ref (ad 13), .ref (ad 14), .ref (ad 15), .ref (ad 16), .ref (ad 17), .ref (ad 18), .int (nI tol), .int (nI ts), .int (nI tf), .int (nI td), .ref (ad 23), .ref (ad 24), .ref (ad 25), .ref (ad 26)])), (ad 23, .inl (cJ, 20000, .inr (.inl (vp_updL (vp_updL fo i (fo j)) j (fo i))))), (ad 24, .inl (cI, 20000, .inl (upd (upd fn i (fn j)) j (fn i)))), (ad 25, .inl (cJ, 20000, .inr (.inl (vp_updL (vp_updL fy i (fy j)) j (fy i))))), (ad 26, .inl (cJ, 20000, .inr (.inl (vp_updL (vp_updL fz i (fz j)) j (fz i)))))]) := by
  refine zMetV (lv := [(0, .ref mo), (1, .int (nI i)), (2, .int (nI j))]) NS0_ok (by decide) rfl (Nat.le_of_ble_eq_true rfl) rfl ?_
  intro p e s m args below meth c A X hin hA
  refine z_aload_n X (pc' := 1) dX4_turn_0 rfl 0 rfl rfl ?_
  refine z_get X (v := .ref (ad 23)) (pc' := 4) 0 rfl rfl inX4 23 (by decide) mF_X4_62 rfl dX4_turn_1 rfl ?_
  refine z_iload_n X (pc' := 5) dX4_turn_4 rfl 1 rfl rfl ?_
  refine z_lald X (pc' := 6) 1 1 rfl rfl (by omega) (by omega) dX4_turn_5 rfl ?_
  refine z_lstore_n X (lv' := [(3, .long (fo i)), (0, .ref mo), (1, .int (nI i)), (2, .int (nI j))]) (pc' := 7) dX4_turn_6 rfl (by decide) rfl rfl ?_
  refine z_aload_n X (pc' := 8) dX4_turn_7 rfl 1 rfl rfl ?_
  refine z_get X (v := .ref (ad 23)) (pc' := 11) 0 rfl rfl inX4 23 (by decide) mF_X4_62 rfl dX4_turn_8 rfl ?_
  refine z_iload_n X (pc' := 12) dX4_turn_11 rfl 2 rfl rfl ?_
  refine z_aload_n X (pc' := 13) dX4_turn_12 rfl 1 rfl rfl ?_
  refine z_get X (v := .ref (ad 23)) (pc' := 16) 0 rfl rfl inX4 23 (by decide) mF_X4_62 rfl dX4_turn_13 rfl ?_
  refine z_iload_n X (pc' := 17) dX4_turn_16 rfl 3 rfl rfl ?_
  refine z_lald X (pc' := 18) 1 1 rfl rfl (by omega) (by omega) dX4_turn_17 rfl ?_
  refine z_last X (ws' := [(mo, .inr (4, [.int (nI th), .ref (ad 1), .ref (ad 2), .ref (ad 3), .ref (ad 4), .int (nI st), .ref (ad 6), .ref (ad 7), .ref (ad 8), .ref (ad 9), .ref (ad 10), .ref (ad 11), .ref (ad 12), .ref (ad 13), .ref (ad 14), .ref (ad 15), .ref (ad 16), .ref (ad 17), .ref (ad 18), .int (nI tol), .int (nI ts), .int (nI tf), .int (nI td), .ref (ad 23), .ref (ad 24), .ref (ad 25), .ref (ad 26)])), (ad 23, .inl (cJ, 20000, .inr (.inl (vp_updL fo i (fo j))))), (ad 24, .inl (cI, 20000, .inl fn)), (ad 25, .inl (cJ, 20000, .inr (.inl fy))), (ad 26, .inl (cJ, 20000, .inr (.inl fz)))]) (pc' := 19) 1 1 rfl rfl (by omega) (by omega) dX4_turn_18 rfl rfl ?_
  refine z_aload_n X (pc' := 20) dX4_turn_19 rfl 1 rfl rfl ?_
  refine z_get X (v := .ref (ad 23)) (pc' := 23) 0 rfl rfl inX4 23 (by decide) mF_X4_62 rfl dX4_turn_20 rfl ?_
  refine z_iload_n X (pc' := 24) dX4_turn_23 rfl 3 rfl rfl ?_
  refine z_lload_n X (pc' := 25) dX4_turn_24 rfl 0 rfl rfl ?_
  refine z_last X (ws' := [(mo, .inr (4, [.int (nI th), .ref (ad 1), .ref (ad 2), .ref (ad 3), .ref (ad 4), .int (nI st), .ref (ad 6), .ref (ad 7), .ref (ad 8), .ref (ad 9), .ref (ad 10), .ref (ad 11), .ref (ad 12), .ref (ad 13), .ref (ad 14), .ref (ad 15), .ref (ad 16), .ref (ad 17), .ref (ad 18), .int (nI tol), .int (nI ts), .int (nI tf), .int (nI td), .ref (ad 23), .ref (ad 24), .ref (ad 25), .ref (ad 26)])), (ad 23, .inl (cJ, 20000, .inr (.inl (vp_updL (vp_updL fo i (fo j)) j (fo i))))), (ad 24, .inl (cI, 20000, .inl fn)), (ad 25, .inl (cJ, 20000, .inr (.inl fy))), (ad 26, .inl (cJ, 20000, .inr (.inl fz)))]) (pc' := 26) 1 1 rfl rfl (by omega) (by omega) dX4_turn_25 rfl rfl ?_
  refine z_aload_n X (pc' := 27) dX4_turn_26 rfl 1 rfl rfl ?_
  refine z_get X (v := .ref (ad 25)) (pc' := 30) 0 rfl rfl inX4 25 (by decide) mF_X4_68 rfl dX4_turn_27 rfl ?_
  refine z_iload_n X (pc' := 31) dX4_turn_30 rfl 2 rfl rfl ?_
  refine z_lald X (pc' := 32) 3 1 rfl rfl (by omega) (by omega) dX4_turn_31 rfl ?_
  refine z_lstore_n X (lv' := [(3, .long (fy i)), (0, .ref mo), (1, .int (nI i)), (2, .int (nI j))]) (pc' := 33) dX4_turn_32 rfl (by decide) rfl rfl ?_
  refine z_aload_n X (pc' := 34) dX4_turn_33 rfl 1 rfl rfl ?_
  refine z_get X (v := .ref (ad 25)) (pc' := 37) 0 rfl rfl inX4 25 (by decide) mF_X4_68 rfl dX4_turn_34 rfl ?_
  refine z_iload_n X (pc' := 38) dX4_turn_37 rfl 2 rfl rfl ?_
  refine z_aload_n X (pc' := 39) dX4_turn_38 rfl 1 rfl rfl ?_
  refine z_get X (v := .ref (ad 25)) (pc' := 42) 0 rfl rfl inX4 25 (by decide) mF_X4_68 rfl dX4_turn_39 rfl ?_
  refine z_iload_n X (pc' := 43) dX4_turn_42 rfl 3 rfl rfl ?_
  refine z_lald X (pc' := 44) 3 1 rfl rfl (by omega) (by omega) dX4_turn_43 rfl ?_
  refine z_last X (ws' := [(mo, .inr (4, [.int (nI th), .ref (ad 1), .ref (ad 2), .ref (ad 3), .ref (ad 4), .int (nI st), .ref (ad 6), .ref (ad 7), .ref (ad 8), .ref (ad 9), .ref (ad 10), .ref (ad 11), .ref (ad 12), .ref (ad 13), .ref (ad 14), .ref (ad 15), .ref (ad 16), .ref (ad 17), .ref (ad 18), .int (nI tol), .int (nI ts), .int (nI tf), .int (nI td), .ref (ad 23), .ref (ad 24), .ref (ad 25), .ref (ad 26)])), (ad 23, .inl (cJ, 20000, .inr (.inl (vp_updL (vp_updL fo i (fo j)) j (fo i))))), (ad 24, .inl (cI, 20000, .inl fn)), (ad 25, .inl (cJ, 20000, .inr (.inl (vp_updL fy i (fy j))))), (ad 26, .inl (cJ, 20000, .inr (.inl fz)))]) (pc' := 45) 3 1 rfl rfl (by omega) (by omega) dX4_turn_44 rfl rfl ?_
  refine z_aload_n X (pc' := 46) dX4_turn_45 rfl 1 rfl rfl ?_
  refine z_get X (v := .ref (ad 25)) (pc' := 49) 0 rfl rfl inX4 25 (by decide) mF_X4_68 rfl dX4_turn_46 rfl ?_
  refine z_iload_n X (pc' := 50) dX4_turn_49 rfl 3 rfl rfl ?_
  refine z_lload_n X (pc' := 51) dX4_turn_50 rfl 0 rfl rfl ?_
  refine z_last X (ws' := [(mo, .inr (4, [.int (nI th), .ref (ad 1), .ref (ad 2), .ref (ad 3), .ref (ad 4), .int (nI st), .ref (ad 6), .ref (ad 7), .ref (ad 8), .ref (ad 9), .ref (ad 10), .ref (ad 11), .ref (ad 12), .ref (ad 13), .ref (ad 14), .ref (ad 15), .ref (ad 16), .ref (ad 17), .ref (ad 18), .int (nI tol), .int (nI ts), .int (nI tf), .int (nI td), .ref (ad 23), .ref (ad 24), .ref (ad 25), .ref (ad 26)])), (ad 23, .inl (cJ, 20000, .inr (.inl (vp_updL (vp_updL fo i (fo j)) j (fo i))))), (ad 24, .inl (cI, 20000, .inl fn)), (ad 25, .inl (cJ, 20000, .inr (.inl (vp_updL (vp_updL fy i (fy j)) j (fy i))))), (ad 26, .inl (cJ, 20000, .inr (.inl fz)))]) (pc' := 52) 3 1 rfl rfl (by omega) (by omega) dX4_turn_51 rfl rfl ?_
  refine z_aload_n X (pc' := 53) dX4_turn_52 rfl 1 rfl rfl ?_
  refine z_get X (v := .ref (ad 26)) (pc' := 56) 0 rfl rfl inX4 26 (by decide) mF_X4_71 rfl dX4_turn_53 rfl ?_
  refine z_iload_n X (pc' := 57) dX4_turn_56 rfl 2 rfl rfl ?_
  refine z_lald X (pc' := 58) 4 1 rfl rfl (by omega) (by omega) dX4_turn_57 rfl ?_
  refine z_lstore_n X (lv' := [(3, .long (fz i)), (0, .ref mo), (1, .int (nI i)), (2, .int (nI j))]) (pc' := 59) dX4_turn_58 rfl (by decide) rfl rfl ?_
  refine z_aload_n X (pc' := 60) dX4_turn_59 rfl 1 rfl rfl ?_
  refine z_get X (v := .ref (ad 26)) (pc' := 63) 0 rfl rfl inX4 26 (by decide) mF_X4_71 rfl dX4_turn_60 rfl ?_
  refine z_iload_n X (pc' := 64) dX4_turn_63 rfl 2 rfl rfl ?_
  refine z_aload_n X (pc' := 65) dX4_turn_64 rfl 1 rfl rfl ?_
  refine z_get X (v := .ref (ad 26)) (pc' := 68) 0 rfl rfl inX4 26 (by decide) mF_X4_71 rfl dX4_turn_65 rfl ?_
  refine z_iload_n X (pc' := 69) dX4_turn_68 rfl 3 rfl rfl ?_
  refine z_lald X (pc' := 70) 4 1 rfl rfl (by omega) (by omega) dX4_turn_69 rfl ?_
  refine z_last X (ws' := [(mo, .inr (4, [.int (nI th), .ref (ad 1), .ref (ad 2), .ref (ad 3), .ref (ad 4), .int (nI st), .ref (ad 6), .ref (ad 7), .ref (ad 8), .ref (ad 9), .ref (ad 10), .ref (ad 11), .ref (ad 12), .ref (ad 13), .ref (ad 14), .ref (ad 15), .ref (ad 16), .ref (ad 17), .ref (ad 18), .int (nI tol), .int (nI ts), .int (nI tf), .int (nI td), .ref (ad 23), .ref (ad 24), .ref (ad 25), .ref (ad 26)])), (ad 23, .inl (cJ, 20000, .inr (.inl (vp_updL (vp_updL fo i (fo j)) j (fo i))))), (ad 24, .inl (cI, 20000, .inl fn)), (ad 25, .inl (cJ, 20000, .inr (.inl (vp_updL (vp_updL fy i (fy j)) j (fy i))))), (ad 26, .inl (cJ, 20000, .inr (.inl (vp_updL fz i (fz j)))))]) (pc' := 71) 4 1 rfl rfl (by omega) (by omega) dX4_turn_70 rfl rfl ?_
  refine z_aload_n X (pc' := 72) dX4_turn_71 rfl 1 rfl rfl ?_
  refine z_get X (v := .ref (ad 26)) (pc' := 75) 0 rfl rfl inX4 26 (by decide) mF_X4_71 rfl dX4_turn_72 rfl ?_
  refine z_iload_n X (pc' := 76) dX4_turn_75 rfl 3 rfl rfl ?_
  refine z_lload_n X (pc' := 77) dX4_turn_76 rfl 0 rfl rfl ?_
  refine z_last X (ws' := [(mo, .inr (4, [.int (nI th), .ref (ad 1), .ref (ad 2), .ref (ad 3), .ref (ad 4), .int (nI st), .ref (ad 6), .ref (ad 7), .ref (ad 8), .ref (ad 9), .ref (ad 10), .ref (ad 11), .ref (ad 12), .ref (ad 13), .ref (ad 14), .ref (ad 15), .ref (ad 16), .ref (ad 17), .ref (ad 18), .int (nI tol), .int (nI ts), .int (nI tf), .int (nI td), .ref (ad 23), .ref (ad 24), .ref (ad 25), .ref (ad 26)])), (ad 23, .inl (cJ, 20000, .inr (.inl (vp_updL (vp_updL fo i (fo j)) j (fo i))))), (ad 24, .inl (cI, 20000, .inl fn)), (ad 25, .inl (cJ, 20000, .inr (.inl (vp_updL (vp_updL fy i (fy j)) j (fy i))))), (ad 26, .inl (cJ, 20000, .inr (.inl (vp_updL (vp_updL fz i (fz j)) j (fz i)))))]) (pc' := 78) 4 1 rfl rfl (by omega) (by omega) dX4_turn_77 rfl rfl ?_
  refine z_aload_n X (pc' := 79) dX4_turn_78 rfl 1 rfl rfl ?_
  refine z_get X (v := .ref (ad 24)) (pc' := 82) 0 rfl rfl inX4 24 (by decide) mF_X4_65 rfl dX4_turn_79 rfl ?_
  refine z_iload_n X (pc' := 83) dX4_turn_82 rfl 2 rfl rfl ?_
  refine z_iald X (pc' := 84) 2 0 rfl rfl (by omega) (by omega) dX4_turn_83 rfl ?_
  refine z_istore X (lv' := [(5, .int (fn i)), (3, .long (fz i)), (0, .ref mo), (1, .int (nI i)), (2, .int (nI j))]) (pc' := 86) dX4_turn_84 (by decide) rfl rfl ?_
  refine z_aload_n X (pc' := 87) dX4_turn_86 rfl 2 rfl rfl ?_
  refine z_get X (v := .ref (ad 24)) (pc' := 90) 0 rfl rfl inX4 24 (by decide) mF_X4_65 rfl dX4_turn_87 rfl ?_
  refine z_iload_n X (pc' := 91) dX4_turn_90 rfl 3 rfl rfl ?_
  refine z_aload_n X (pc' := 92) dX4_turn_91 rfl 2 rfl rfl ?_
  refine z_get X (v := .ref (ad 24)) (pc' := 95) 0 rfl rfl inX4 24 (by decide) mF_X4_65 rfl dX4_turn_92 rfl ?_
  refine z_iload_n X (pc' := 96) dX4_turn_95 rfl 4 rfl rfl ?_
  refine z_iald X (pc' := 97) 2 0 rfl rfl (by omega) (by omega) dX4_turn_96 rfl ?_
  refine z_iast X (ws' := [(mo, .inr (4, [.int (nI th), .ref (ad 1), .ref (ad 2), .ref (ad 3), .ref (ad 4), .int (nI st), .ref (ad 6), .ref (ad 7), .ref (ad 8), .ref (ad 9), .ref (ad 10), .ref (ad 11), .ref (ad 12), .ref (ad 13), .ref (ad 14), .ref (ad 15), .ref (ad 16), .ref (ad 17), .ref (ad 18), .int (nI tol), .int (nI ts), .int (nI tf), .int (nI td), .ref (ad 23), .ref (ad 24), .ref (ad 25), .ref (ad 26)])), (ad 23, .inl (cJ, 20000, .inr (.inl (vp_updL (vp_updL fo i (fo j)) j (fo i))))), (ad 24, .inl (cI, 20000, .inl (upd fn i (fn j)))), (ad 25, .inl (cJ, 20000, .inr (.inl (vp_updL (vp_updL fy i (fy j)) j (fy i))))), (ad 26, .inl (cJ, 20000, .inr (.inl (vp_updL (vp_updL fz i (fz j)) j (fz i)))))]) (pc' := 98) 2 0 rfl rfl (by omega) (by omega) dX4_turn_97 rfl rfl ?_
  refine z_aload_n X (pc' := 99) dX4_turn_98 rfl 2 rfl rfl ?_
  refine z_get X (v := .ref (ad 24)) (pc' := 102) 0 rfl rfl inX4 24 (by decide) mF_X4_65 rfl dX4_turn_99 rfl ?_
  refine z_iload_n X (pc' := 103) dX4_turn_102 rfl 4 rfl rfl ?_
  refine z_iload X (pc' := 105) dX4_turn_103 0 rfl rfl ?_
  refine z_iast X (ws' := [(mo, .inr (4, [.int (nI th), .ref (ad 1), .ref (ad 2), .ref (ad 3), .ref (ad 4), .int (nI st), .ref (ad 6), .ref (ad 7), .ref (ad 8), .ref (ad 9), .ref (ad 10), .ref (ad 11), .ref (ad 12), .ref (ad 13), .ref (ad 14), .ref (ad 15), .ref (ad 16), .ref (ad 17), .ref (ad 18), .int (nI tol), .int (nI ts), .int (nI tf), .int (nI td), .ref (ad 23), .ref (ad 24), .ref (ad 25), .ref (ad 26)])), (ad 23, .inl (cJ, 20000, .inr (.inl (vp_updL (vp_updL fo i (fo j)) j (fo i))))), (ad 24, .inl (cI, 20000, .inl (upd (upd fn i (fn j)) j (fn i)))), (ad 25, .inl (cJ, 20000, .inr (.inl (vp_updL (vp_updL fy i (fy j)) j (fy i))))), (ad 26, .inl (cJ, 20000, .inr (.inl (vp_updL (vp_updL fz i (fz j)) j (fz i)))))]) (pc' := 106) 2 0 rfl rfl (by omega) (by omega) dX4_turn_105 rfl rfl ?_
  exact z_vret X () (trivial) rfl (Nat.le_of_ble_eq_true rfl) (Nat.le_of_ble_eq_true rfl) dX4_turn_106
/-- the four rows of the outcomes, by the states' places T -/
def rep4 (n : Nat) (T : Nat → Nat) (K Ln Wy Rs : Nat → Nat) (fo : Nat → Int64) (fn : Nat → Int32) (fy fz : Nat → Int64) : Prop := ∀ k, k < n → fo k = lN (K (T k)) ∧ fn k = nI (Ln (T k)) ∧ fy k = lN (Wy (T k)) ∧ fz k = lN (Rs (T k))
theorem rep4_sw {n i j : Nat} {T K Ln Wy Rs : Nat → Nat} {fo : Nat → Int64} {fn : Nat → Int32} {fy fz : Nat → Int64} (h : rep4 n T K Ln Wy Rs fo fn fy fz) (hi : i < n) (hj : j < n) : rep4 n (sw T i j) K Ln Wy Rs (vp_updL (vp_updL fo i (fo j)) j (fo i)) (upd (upd fn i (fn j)) j (fn i)) (vp_updL (vp_updL fy i (fy j)) j (fy i)) (vp_updL (vp_updL fz i (fz j)) j (fz i)) := by
  intro k hk
  unfold sw
  by_cases e : k = j
  · rw [if_pos e, e, pk_uLs, pk_us, pk_uLs, pk_uLs]; exact h i hi
  · rw [if_neg e, pk_uLn e, pk_un e, pk_uLn e, pk_uLn e]
    by_cases e2 : k = i
    · rw [if_pos e2, e2, pk_uLs, pk_us, pk_uLs, pk_uLs]; exact h j hj
    · rw [if_neg e2, pk_uLn e2, pk_un e2, pk_uLn e2, pk_uLn e2]; exact h k hk
def gp : Nat → Nat
  | 0 => 0
  | j + 1 => 3 * gp j + 1
def srt (K T : Nat → Nat) (m : Nat) : Prop := ∀ a b, a < b → b < m → K (T a) ≤ K (T b)
/-- in order but for the place i -/
def srx (K T : Nat → Nat) (i k : Nat) : Prop := (∀ a b, a < b → b ≤ k → a ≠ i → b ≠ i → K (T a) ≤ K (T b)) ∧ ∀ b, i < b → b ≤ k → K (T i) ≤ K (T b)
theorem srx_0 {K T : Nat → Nat} {k : Nat} (h : srt K T k) : srx K T k k := ⟨fun a b h1 h2 _ h4 => h a b h1 (by omega), fun b h1 h2 => by omega⟩
theorem srx_end0 {K T : Nat → Nat} {k : Nat} (h : srx K T 0 k) : srt K T (k + 1) := fun a b h1 h2 => by
  rcases Nat.eq_zero_or_pos a with z | z
  · rw [z]; exact h.2 b (by omega) (by omega)
  · exact h.1 a b h1 (by omega) (by omega) (by omega)
theorem srx_end {K T : Nat → Nat} {i k : Nat} (h : srx K T i k) (hi : 0 < i) (hk : i ≤ k) (hle : K (T (i - 1)) ≤ K (T i)) : srt K T (k + 1) := fun a b h1 h2 => by
  by_cases e1 : a = i
  · rw [e1]; exact h.2 b (by omega) (by omega)
  · by_cases e2 : b = i
    · rw [e2]
      rcases Nat.eq_or_lt_of_le (show a ≤ i - 1 by omega) with q | q
      · rw [q]; exact hle
      · exact Nat.le_trans (h.1 a (i - 1) q (by omega) e1 (by omega)) hle
    · exact h.1 a b h1 (by omega) e1 e2
theorem srx_sw {K T : Nat → Nat} {i k : Nat} (h : srx K T i k) (hi : 0 < i) (hk : i ≤ k) (hlt : K (T i) < K (T (i - 1))) : srx K (sw T i (i - 1)) (i - 1) k := by
  have e1 : sw T i (i - 1) (i - 1) = T i := by unfold sw; rw [if_pos rfl]
  have e2 : sw T i (i - 1) i = T (i - 1) := by unfold sw; rw [if_neg (by omega), if_pos rfl]
  have e3 : ∀ x, x ≠ i → x ≠ i - 1 → sw T i (i - 1) x = T x := fun x a b => by unfold sw; rw [if_neg b, if_neg a]
  constructor
  · intro a b h1 h2 h3 h4
    by_cases ea : a = i
    · rw [ea, e2, e3 b (by omega) h4]; exact h.1 (i - 1) b (by omega) h2 (by omega) (by omega)
    · by_cases eb : b = i
      · rw [eb, e2, e3 a ea h3]; exact h.1 a (i - 1) (by omega) (by omega) ea (by omega)
      · rw [e3 a ea h3, e3 b eb h4]; exact h.1 a b h1 h2 ea eb
  · intro b h1 h2
    rw [e1]
    by_cases eb : b = i
    · rw [eb, e2]; omega
    · rw [e3 b eb (by omega)]; exact h.2 b (by omega) h2
abbrev Q4 : Type := (Nat → Nat) × (Nat → Int64) × (Nat → Int32) × (Nat → Int64) × (Nat → Int64)
theorem sKeep_map {n : Nat} {T T0 : Nat → Nat} (K : Nat → Nat) (h : sKeep n n T T0) : hs_same (fun k => K (T k)) (fun k => K (T0 k)) n := ⟨fun i hi => by obtain ⟨j, hj, e⟩ := h.1.1 i hi; exact ⟨j, hj, by show K (T i) = K (T0 j); rw [e]⟩, fun j hj => by obtain ⟨i, hi, e⟩ := h.1.2 j hj; exact ⟨i, hi, by show K (T i) = K (T0 j); rw [e]⟩⟩
theorem same_lt {n m : Nat} {E E0 : Nat → Nat} (h : hs_same E E0 n) (h0 : ∀ k, k < n → E0 k < m) : ∀ k, k < n → E k < m := fun k hk => by obtain ⟨j, hj, e⟩ := h.1 k hk; rw [e]; exact h0 j hj
set_option maxHeartbeats 4000000 in
set_option maxRecDepth 100000 in
/-- the outcomes in their order -/
theorem r_sort (l : Launch) (D : va_G) (cI cJ : ClassId) (sz : Nat) (mo th st n ts tf td : Nat) (ad : Nat → Nat) (fo : Nat → Int64) (fn : Nat → Int32) (fy fz : Nat → Int64) (T0 K Ln Wy Rs : Nat → Nat) (hn : n ≤ 20000) (hr : rep4 n T0 K Ln Wy Rs fo fn fy fz) (hK : ∀ k, k < n → K (T0 k) < 2 ^ 63) : KV l D cI cJ yX4_sort cX4_sort 4 none 1 25 0 0 [.ref mo] [(mo, .inr (4, [.int (nI th), .ref (ad 1), .ref (ad 2), .ref (ad 3), .ref (ad 4), .int (nI st), .ref (ad 6), .ref (ad 7), .ref (ad 8), .ref (ad 9), .ref (ad 10), .ref (ad 11), .ref (ad 12), .ref (ad 13), .ref (ad 14), .ref (ad 15), .ref (ad 16), .ref (ad 17), .ref (ad 18), .int (nI n), .int (nI ts), .int (nI tf), .int (nI td), .ref (ad 23), .ref (ad 24), .ref (ad 25), .ref (ad 26)])), (ad 23, .inl (cJ, 20000, .inr (.inl fo))), (ad 24, .inl (cI, 20000, .inl fn)), (ad 25, .inl (cJ, 20000, .inr (.inl fy))), (ad 26, .inl (cJ, 20000, .inr (.inl fz)))] sz (S := Q4) (fun u => rep4 n u.1 K Ln Wy Rs u.2.1 u.2.2.1 u.2.2.2.1 u.2.2.2.2 ∧ sKeep n n u.1 T0 ∧ srt K u.1 n) (fun u => [(mo, .inr (4, [.int (nI th), .ref (ad 1), .ref (ad 2), .ref (ad 3), .ref (ad 4), .int (nI st), .ref (ad 6), .ref (ad 7), .ref (ad 8), .ref (ad 9), .ref (ad 10), .ref (ad 11), .ref (ad 12), .ref (ad 13), .ref (ad 14), .ref (ad 15), .ref (ad 16), .ref (ad 17), .ref (ad 18), .int (nI n), .int (nI ts), .int (nI tf), .int (nI td), .ref (ad 23), .ref (ad 24), .ref (ad 25), .ref (ad 26)])), (ad 23, .inl (cJ, 20000, .inr (.inl u.2.1))), (ad 24, .inl (cI, 20000, .inl u.2.2.1)), (ad 25, .inl (cJ, 20000, .inr (.inl u.2.2.2.1))), (ad 26, .inl (cJ, 20000, .inr (.inl u.2.2.2.2)))]) := by
  refine zMetV (lv := [(0, .ref mo)]) NS0_ok (by decide) rfl (Nat.le_of_ble_eq_true rfl) rfl ?_
  intro p e s m args below meth c A X hin hA
  refine z_iconst X (v := nI 1) (pc' := 1) dX4_sort_0 (by decide) rfl ?_
  refine z_topi (y := nI (gp 1)) rfl ?_
  refine z_istore_n X (lv' := [(1, .int (nI (gp 1))), (0, .ref mo)]) (pc' := 2) dX4_sort_1 rfl (by decide) rfl rfl ?_
  refine z_lv (lv' := [(1, .int (nI (gp 1))), (0, .ref mo)]) [0, 1] rfl ?_
  refine z_loop (σ := Nat) (fun x => 1 ≤ x ∧ gp x ≤ 60001) (fun x => 60001 - gp x) (fun x => [(1, .int (nI (gp x))), (0, .ref mo)]) (fun x => [(mo, .inr (4, [.int (nI th), .ref (ad 1), .ref (ad 2), .ref (ad 3), .ref (ad 4), .int (nI st), .ref (ad 6), .ref (ad 7), .ref (ad 8), .ref (ad 9), .ref (ad 10), .ref (ad 11), .ref (ad 12), .ref (ad 13), .ref (ad 14), .ref (ad 15), .ref (ad 16), .ref (ad 17), .ref (ad 18), .int (nI n), .int (nI ts), .int (nI tf), .int (nI td), .ref (ad 23), .ref (ad 24), .ref (ad 25), .ref (ad 26)])), (ad 23, .inl (cJ, 20000, .inr (.inl fo))), (ad 24, .inl (cI, 20000, .inl fn)), (ad 25, .inl (cJ, 20000, .inr (.inl fy))), (ad 26, .inl (cJ, 20000, .inr (.inl fz)))]) (fun x => 0) (fun x => 0) 1 ⟨Nat.le_refl 1, by decide⟩ ?_
  intro x hI ih1
  obtain ⟨hx1, hx2⟩ := hI
  show Z _ _ _ _ _ _ _ _ _ _ _ _ _ _ _ 2 [(1, .int (nI (gp x))), (0, .ref mo)] [] [(mo, .inr (4, [.int (nI th), .ref (ad 1), .ref (ad 2), .ref (ad 3), .ref (ad 4), .int (nI st), .ref (ad 6), .ref (ad 7), .ref (ad 8), .ref (ad 9), .ref (ad 10), .ref (ad 11), .ref (ad 12), .ref (ad 13), .ref (ad 14), .ref (ad 15), .ref (ad 16), .ref (ad 17), .ref (ad 18), .int (nI n), .int (nI ts), .int (nI tf), .int (nI td), .ref (ad 23), .ref (ad 24), .ref (ad 25), .ref (ad 26)])), (ad 23, .inl (cJ, 20000, .inr (.inl fo))), (ad 24, .inl (cI, 20000, .inl fn)), (ad 25, .inl (cJ, 20000, .inr (.inl fy))), (ad 26, .inl (cJ, 20000, .inr (.inl fz)))] 0 0
  refine z_iload_n X (pc' := 3) dX4_sort_2 rfl 0 rfl rfl ?_
  refine z_aload_n X (pc' := 4) dX4_sort_3 rfl 1 rfl rfl ?_
  refine z_get X (v := .int (nI n)) (pc' := 7) 0 rfl rfl inX4 19 (by decide) mF_X4_150 rfl dX4_sort_4 rfl ?_
  refine z_icmp_geN X (tgt := 19) (pc' := 10) (by omega) (by omega) dX4_sort_7 (by decide) rfl (fun h1 => ?_) (fun h1 => ?_)
  · refine z_lv (lv' := [(1, .int (nI (gp x))), (0, .ref mo)]) [0, 1] rfl ?_
    refine z_loop (σ := Nat × Q4) (fun y => gp y.1 ≤ 60001 ∧ rep4 n y.2.1 K Ln Wy Rs y.2.2.1 y.2.2.2.1 y.2.2.2.2.1 y.2.2.2.2.2 ∧ sKeep n n y.2.1 T0 ∧ (y.1 = 0 → srt K y.2.1 n)) (fun y => y.1) (fun y => [(1, .int (nI (gp y.1))), (0, .ref mo)]) (fun y => [(mo, .inr (4, [.int (nI th), .ref (ad 1), .ref (ad 2), .ref (ad 3), .ref (ad 4), .int (nI st), .ref (ad 6), .ref (ad 7), .ref (ad 8), .ref (ad 9), .ref (ad 10), .ref (ad 11), .ref (ad 12), .ref (ad 13), .ref (ad 14), .ref (ad 15), .ref (ad 16), .ref (ad 17), .ref (ad 18), .int (nI n), .int (nI ts), .int (nI tf), .int (nI td), .ref (ad 23), .ref (ad 24), .ref (ad 25), .ref (ad 26)])), (ad 23, .inl (cJ, 20000, .inr (.inl y.2.2.1))), (ad 24, .inl (cI, 20000, .inl y.2.2.2.1)), (ad 25, .inl (cJ, 20000, .inr (.inl y.2.2.2.2.1))), (ad 26, .inl (cJ, 20000, .inr (.inl y.2.2.2.2.2)))]) (fun y => 0) (fun y => 0) ((x, T0, fo, fn, fy, fz)) ⟨hx2, hr, sKeep_rf, fun g => absurd (show x = 0 from g) (by omega)⟩ ?_
    intro y hI ih2
    obtain ⟨j1, j2, j3, j4⟩ := hI
    show Z _ _ _ _ _ _ _ _ _ _ _ _ _ _ _ 19 [(1, .int (nI (gp y.1))), (0, .ref mo)] [] [(mo, .inr (4, [.int (nI th), .ref (ad 1), .ref (ad 2), .ref (ad 3), .ref (ad 4), .int (nI st), .ref (ad 6), .ref (ad 7), .ref (ad 8), .ref (ad 9), .ref (ad 10), .ref (ad 11), .ref (ad 12), .ref (ad 13), .ref (ad 14), .ref (ad 15), .ref (ad 16), .ref (ad 17), .ref (ad 18), .int (nI n), .int (nI ts), .int (nI tf), .int (nI td), .ref (ad 23), .ref (ad 24), .ref (ad 25), .ref (ad 26)])), (ad 23, .inl (cJ, 20000, .inr (.inl y.2.2.1))), (ad 24, .inl (cI, 20000, .inl y.2.2.2.1)), (ad 25, .inl (cJ, 20000, .inr (.inl y.2.2.2.2.1))), (ad 26, .inl (cJ, 20000, .inr (.inl y.2.2.2.2.2)))] 0 0
    refine z_iload_n X (pc' := 20) dX4_sort_19 rfl 0 rfl rfl ?_
    refine z_if_leN X (tgt := 86) (pc' := 23) (by omega) dX4_sort_20 (by decide) rfl (fun h2 => ?_) (fun h2 => ?_)
    · have hy0 : y.1 = 0 := by rcases Nat.eq_zero_or_pos y.1 with g | g; exact g; (exfalso; obtain ⟨q, hq⟩ : ∃ q, y.1 = q + 1 := ⟨y.1 - 1, by omega⟩; have h9 : gp y.1 ≤ 0 := h2; rw [hq] at h9; have h8 : 3 * gp q + 1 ≤ 0 := h9; omega)
      exact z_vret X y.2 (⟨j2, j3, j4 hy0⟩) rfl (Nat.le_of_ble_eq_true rfl) (Nat.le_of_ble_eq_true rfl) dX4_sort_86
    · have hgp : 0 < gp y.1 := by omega
      have hy0 : 0 < y.1 := by rcases Nat.eq_zero_or_pos y.1 with g | g; (rw [g] at hgp; exact absurd hgp (by decide)); exact g
      have hg3 : gp y.1 / 3 = gp (y.1 - 1) := by obtain ⟨q, hq⟩ : ∃ q, y.1 = q + 1 := ⟨y.1 - 1, by omega⟩; rw [hq]; show (3 * gp q + 1) / 3 = gp q; omega
      have hgl : gp (y.1 - 1) ≤ gp y.1 := by rw [← hg3]; exact Nat.div_le_self _ _
      refine z_iload_n X (pc' := 24) dX4_sort_23 rfl 0 rfl rfl ?_
      refine z_istore_n X (lv' := [(2, .int (nI (gp y.1))), (1, .int (nI (gp y.1))), (0, .ref mo)]) (pc' := 25) dX4_sort_24 rfl (by decide) rfl rfl ?_
      refine z_lv (lv' := [(2, .int (nI (gp y.1))), (1, .int (nI (gp y.1))), (0, .ref mo)]) [0, 1, 2] rfl ?_
      refine z_loop (σ := Nat × Q4) (fun z => (gp y.1 ≤ z.1 ∧ z.1 ≤ max n (gp y.1)) ∧ rep4 n z.2.1 K Ln Wy Rs z.2.2.1 z.2.2.2.1 z.2.2.2.2.1 z.2.2.2.2.2 ∧ sKeep n n z.2.1 T0 ∧ (gp y.1 = 1 → srt K z.2.1 z.1)) (fun z => n - z.1) (fun z => [(2, .int (nI z.1)), (1, .int (nI (gp y.1))), (0, .ref mo)]) (fun z => [(mo, .inr (4, [.int (nI th), .ref (ad 1), .ref (ad 2), .ref (ad 3), .ref (ad 4), .int (nI st), .ref (ad 6), .ref (ad 7), .ref (ad 8), .ref (ad 9), .ref (ad 10), .ref (ad 11), .ref (ad 12), .ref (ad 13), .ref (ad 14), .ref (ad 15), .ref (ad 16), .ref (ad 17), .ref (ad 18), .int (nI n), .int (nI ts), .int (nI tf), .int (nI td), .ref (ad 23), .ref (ad 24), .ref (ad 25), .ref (ad 26)])), (ad 23, .inl (cJ, 20000, .inr (.inl z.2.2.1))), (ad 24, .inl (cI, 20000, .inl z.2.2.2.1)), (ad 25, .inl (cJ, 20000, .inr (.inl z.2.2.2.2.1))), (ad 26, .inl (cJ, 20000, .inr (.inl z.2.2.2.2.2)))]) (fun z => 0) (fun z => 0) ((gp y.1, y.2)) ⟨⟨Nat.le_refl _, Nat.le_max_right _ _⟩, j2, j3, fun g a b h1 h2 => by have h2 : b < gp y.1 := h2; omega⟩ ?_
      intro z hI ih3
      obtain ⟨⟨k0, k1⟩, k2, k3, k4⟩ := hI
      show Z _ _ _ _ _ _ _ _ _ _ _ _ _ _ _ 25 [(2, .int (nI z.1)), (1, .int (nI (gp y.1))), (0, .ref mo)] [] [(mo, .inr (4, [.int (nI th), .ref (ad 1), .ref (ad 2), .ref (ad 3), .ref (ad 4), .int (nI st), .ref (ad 6), .ref (ad 7), .ref (ad 8), .ref (ad 9), .ref (ad 10), .ref (ad 11), .ref (ad 12), .ref (ad 13), .ref (ad 14), .ref (ad 15), .ref (ad 16), .ref (ad 17), .ref (ad 18), .int (nI n), .int (nI ts), .int (nI tf), .int (nI td), .ref (ad 23), .ref (ad 24), .ref (ad 25), .ref (ad 26)])), (ad 23, .inl (cJ, 20000, .inr (.inl z.2.2.1))), (ad 24, .inl (cI, 20000, .inl z.2.2.2.1)), (ad 25, .inl (cJ, 20000, .inr (.inl z.2.2.2.2.1))), (ad 26, .inl (cJ, 20000, .inr (.inl z.2.2.2.2.2)))] 0 0
      refine z_iload_n X (pc' := 26) dX4_sort_25 rfl 0 rfl rfl ?_
      refine z_aload_n X (pc' := 27) dX4_sort_26 rfl 2 rfl rfl ?_
      refine z_get X (v := .int (nI n)) (pc' := 30) 0 rfl rfl inX4 19 (by decide) mF_X4_150 rfl dX4_sort_27 rfl ?_
      refine z_icmp_geN X (tgt := 79) (pc' := 33) (by omega) (by omega) dX4_sort_30 (by decide) rfl (fun h3 => ?_) (fun h3 => ?_)
      · have hzn : n ≤ z.1 := h3
        have k4 : gp y.1 = 1 → srt K z.2.1 n := fun g a b h1 h2 => k4 g a b h1 (by omega)
        refine z_iload_n X (pc' := 80) dX4_sort_79 rfl 1 rfl rfl ?_
        refine z_iconst X (v := nI 3) (pc' := 81) dX4_sort_80 (by decide) rfl ?_
        refine z_idiv X (pc' := 82) dX4_sort_81 (by decide) rfl ?_
        refine z_topi (y := nI (gp y.1 / 3)) (pk_div (by omega) (by decide) (by decide)) ?_
        refine z_istore_n X (lv' := [(1, .int (nI (gp y.1 / 3))), (2, .int (nI z.1)), (0, .ref mo)]) (pc' := 83) dX4_sort_82 rfl (by decide) rfl rfl ?_
        refine z_goto X (tgt := 19) dX4_sort_83 (by decide) ?_
        refine z_lve (lv' := [(1, .int (nI (gp (y.1 - 1)))), (2, .int (nI z.1)), (0, .ref mo)]) (by rw [hg3]) ?_
        refine z_lv (lv' := [(1, .int (nI (gp (y.1 - 1)))), (0, .ref mo)]) [0, 2] rfl ?_
        exact ih2 ((y.1 - 1, z.2)) ⟨by show gp (y.1 - 1) ≤ 60001; omega, k2, k3, fun g => k4 (by have g : y.1 - 1 = 0 := g; rw [show y.1 = 1 by omega]; rfl)⟩ (by show y.1 - 1 < y.1; omega)
      · have hzn : z.1 < n := by omega
        refine z_iload_n X (pc' := 34) dX4_sort_33 rfl 0 rfl rfl ?_
        refine z_istore_n X (lv' := [(3, .int (nI z.1)), (2, .int (nI z.1)), (1, .int (nI (gp y.1))), (0, .ref mo)]) (pc' := 35) dX4_sort_34 rfl (by decide) rfl rfl ?_
        refine z_lv (lv' := [(3, .int (nI z.1)), (2, .int (nI z.1)), (1, .int (nI (gp y.1))), (0, .ref mo)]) [0, 1, 2, 3] rfl ?_
        refine z_loop (σ := Nat × Q4) (fun w => w.1 ≤ z.1 ∧ rep4 n w.2.1 K Ln Wy Rs w.2.2.1 w.2.2.2.1 w.2.2.2.2.1 w.2.2.2.2.2 ∧ sKeep n n w.2.1 T0 ∧ (gp y.1 = 1 → srx K w.2.1 w.1 z.1)) (fun w => w.1) (fun w => [(3, .int (nI w.1)), (2, .int (nI z.1)), (1, .int (nI (gp y.1))), (0, .ref mo)]) (fun w => [(mo, .inr (4, [.int (nI th), .ref (ad 1), .ref (ad 2), .ref (ad 3), .ref (ad 4), .int (nI st), .ref (ad 6), .ref (ad 7), .ref (ad 8), .ref (ad 9), .ref (ad 10), .ref (ad 11), .ref (ad 12), .ref (ad 13), .ref (ad 14), .ref (ad 15), .ref (ad 16), .ref (ad 17), .ref (ad 18), .int (nI n), .int (nI ts), .int (nI tf), .int (nI td), .ref (ad 23), .ref (ad 24), .ref (ad 25), .ref (ad 26)])), (ad 23, .inl (cJ, 20000, .inr (.inl w.2.2.1))), (ad 24, .inl (cI, 20000, .inl w.2.2.2.1)), (ad 25, .inl (cJ, 20000, .inr (.inl w.2.2.2.2.1))), (ad 26, .inl (cJ, 20000, .inr (.inl w.2.2.2.2.2)))]) (fun w => 0) (fun w => 0) ((z.1, z.2)) ⟨Nat.le_refl _, k2, k3, fun g => srx_0 (k4 g)⟩ ?_
        intro w hI ih4
        obtain ⟨l1, l2, l3, l4⟩ := hI
        show Z _ _ _ _ _ _ _ _ _ _ _ _ _ _ _ 35 [(3, .int (nI w.1)), (2, .int (nI z.1)), (1, .int (nI (gp y.1))), (0, .ref mo)] [] [(mo, .inr (4, [.int (nI th), .ref (ad 1), .ref (ad 2), .ref (ad 3), .ref (ad 4), .int (nI st), .ref (ad 6), .ref (ad 7), .ref (ad 8), .ref (ad 9), .ref (ad 10), .ref (ad 11), .ref (ad 12), .ref (ad 13), .ref (ad 14), .ref (ad 15), .ref (ad 16), .ref (ad 17), .ref (ad 18), .int (nI n), .int (nI ts), .int (nI tf), .int (nI td), .ref (ad 23), .ref (ad 24), .ref (ad 25), .ref (ad 26)])), (ad 23, .inl (cJ, 20000, .inr (.inl w.2.2.1))), (ad 24, .inl (cI, 20000, .inl w.2.2.2.1)), (ad 25, .inl (cJ, 20000, .inr (.inl w.2.2.2.2.1))), (ad 26, .inl (cJ, 20000, .inr (.inl w.2.2.2.2.2)))] 0 0
        refine z_iload_n X (pc' := 36) dX4_sort_35 rfl 0 rfl rfl ?_
        refine z_iload_n X (pc' := 37) dX4_sort_36 rfl 2 rfl rfl ?_
        refine z_icmp_ltN X (tgt := 73) (pc' := 40) (by omega) (by omega) dX4_sort_37 (by decide) rfl (fun h4 => ?_) (fun h4 => ?_)
        · have hwg : w.1 < gp y.1 := h4
          have hsd : gp y.1 = 1 → srt K w.2.1 (z.1 + 1) := fun g => by have h9 := l4 g; rw [show w.1 = 0 by omega] at h9; exact srx_end0 h9
          refine z_iinc X (v := nI (z.1 + 1)) (lv' := [(2, .int (nI (z.1 + 1))), (3, .int (nI w.1)), (1, .int (nI (gp y.1))), (0, .ref mo)]) (k := 1) (pc' := 76) dX4_sort_73 rfl (nI_1 _) (by decide) rfl rfl ?_
          refine z_goto X (tgt := 25) dX4_sort_76 (by decide) ?_
          refine z_lv (lv' := [(2, .int (nI (z.1 + 1))), (1, .int (nI (gp y.1))), (0, .ref mo)]) [0, 2, 3] rfl ?_
          exact ih3 ((z.1 + 1, w.2)) ⟨⟨by show gp y.1 ≤ z.1 + 1; omega, by show z.1 + 1 ≤ _; omega⟩, l2, l3, fun g => hsd g⟩ (by show n - (z.1 + 1) < n - z.1; omega)
        · have hwg : gp y.1 ≤ w.1 := by omega
          have hk1 := same_lt (m := 2 ^ 63) (sKeep_map K l3) hK
          refine z_aload_n X (pc' := 41) dX4_sort_40 rfl 3 rfl rfl ?_
          refine z_get X (v := .ref (ad 23)) (pc' := 44) 0 rfl rfl inX4 23 (by decide) mF_X4_62 rfl dX4_sort_41 rfl ?_
          refine z_iload_n X (pc' := 45) dX4_sort_44 rfl 0 rfl rfl ?_
          refine z_lald X (pc' := 46) 1 1 rfl rfl (by omega) (by omega) dX4_sort_45 rfl ?_
          refine z_topl (y := lN (K (w.2.1 w.1))) (l2 w.1 (by omega)).1 ?_
          refine z_aload_n X (pc' := 47) dX4_sort_46 rfl 3 rfl rfl ?_
          refine z_get X (v := .ref (ad 23)) (pc' := 50) 0 rfl rfl inX4 23 (by decide) mF_X4_62 rfl dX4_sort_47 rfl ?_
          refine z_iload_n X (pc' := 51) dX4_sort_50 rfl 0 rfl rfl ?_
          refine z_iload_n X (pc' := 52) dX4_sort_51 rfl 2 rfl rfl ?_
          refine z_isub X (pc' := 53) dX4_sort_52 rfl ?_
          refine z_topi (y := nI (w.1 - gp y.1)) (pk_sub hwg) ?_
          refine z_lald X (pc' := 54) 1 1 rfl rfl (by omega) (by omega) dX4_sort_53 rfl ?_
          refine z_topl (y := lN (K (w.2.1 (w.1 - gp y.1)))) (l2 (w.1 - gp y.1) (by omega)).1 ?_
          refine z_lcmp X (pc' := 55) dX4_sort_54 rfl ?_
          refine z_if_ge X (tgt := 73) (pc' := 58) dX4_sort_55 (by decide) rfl (fun h5 => ?_) (fun h5 => ?_)
          · have hkk : ¬ K (w.2.1 w.1) < K (w.2.1 (w.1 - gp y.1)) := fun g => absurd (h5) (z_cmpL.mpr ((ll_lt (hk1 _ (by omega)) (hk1 _ (by omega))).mpr g))
            have hsd : gp y.1 = 1 → srt K w.2.1 (z.1 + 1) := fun g => srx_end (l4 g) (by omega) l1 (by rw [← g]; omega)
            refine z_iinc X (v := nI (z.1 + 1)) (lv' := [(2, .int (nI (z.1 + 1))), (3, .int (nI w.1)), (1, .int (nI (gp y.1))), (0, .ref mo)]) (k := 1) (pc' := 76) dX4_sort_73 rfl (nI_1 _) (by decide) rfl rfl ?_
            refine z_goto X (tgt := 25) dX4_sort_76 (by decide) ?_
            refine z_lv (lv' := [(2, .int (nI (z.1 + 1))), (1, .int (nI (gp y.1))), (0, .ref mo)]) [0, 2, 3] rfl ?_
            exact ih3 ((z.1 + 1, w.2)) ⟨⟨by show gp y.1 ≤ z.1 + 1; omega, by show z.1 + 1 ≤ _; omega⟩, l2, l3, fun g => hsd g⟩ (by show n - (z.1 + 1) < n - z.1; omega)
          · have hkk : K (w.2.1 w.1) < K (w.2.1 (w.1 - gp y.1)) := (ll_lt (hk1 _ (by omega)) (hk1 _ (by omega))).mp (z_cmpL.mp h5)
            refine z_aload_n X (pc' := 59) dX4_sort_58 rfl 3 rfl rfl ?_
            refine z_iload_n X (pc' := 60) dX4_sort_59 rfl 0 rfl rfl ?_
            refine z_iload_n X (pc' := 61) dX4_sort_60 rfl 0 rfl rfl ?_
            refine z_iload_n X (pc' := 62) dX4_sort_61 rfl 2 rfl rfl ?_
            refine z_isub X (pc' := 63) dX4_sort_62 rfl ?_
            refine z_topi (y := nI (w.1 - gp y.1)) (pk_sub hwg) ?_
            refine z_callVv X (pc' := 66) (fun sz => r_turn l D cI cJ sz mo th st n ts tf td ad w.1 (w.1 - gp y.1) (w.2.2.1) (w.2.2.2.1) (w.2.2.2.2.1) (w.2.2.2.2.2) (by omega) (by omega)) (zcwV X TTg 2 mL_X4_165 mI_X4_turn mS_X4_turn mN_X4 mK_X4_turn rfl rfl (by decide +kernel) ⟨(Nat.le_of_ble_eq_true rfl), (Nat.le_of_ble_eq_true rfl)⟩) (wr := []) [0, 1, 2, 3, 4] [] rfl rfl rfl rfl (by decide) 4 0 rfl rfl rfl rfl rfl (Nat.le_of_ble_eq_true rfl) dX4_sort_63 ⟨Nat.le_of_ble_eq_true rfl, Nat.le_of_ble_eq_true rfl⟩ rfl (fun u hu => ?_)
            refine z_wse (ws' := [(mo, .inr (4, [.int (nI th), .ref (ad 1), .ref (ad 2), .ref (ad 3), .ref (ad 4), .int (nI st), .ref (ad 6), .ref (ad 7), .ref (ad 8), .ref (ad 9), .ref (ad 10), .ref (ad 11), .ref (ad 12), .ref (ad 13), .ref (ad 14), .ref (ad 15), .ref (ad 16), .ref (ad 17), .ref (ad 18), .int (nI n), .int (nI ts), .int (nI tf), .int (nI td), .ref (ad 23), .ref (ad 24), .ref (ad 25), .ref (ad 26)])), (ad 23, .inl (cJ, 20000, .inr (.inl (vp_updL (vp_updL (w.2.2.1) w.1 ((w.2.2.1) (w.1 - gp y.1))) (w.1 - gp y.1) ((w.2.2.1) w.1))))), (ad 24, .inl (cI, 20000, .inl (upd (upd (w.2.2.2.1) w.1 ((w.2.2.2.1) (w.1 - gp y.1))) (w.1 - gp y.1) ((w.2.2.2.1) w.1)))), (ad 25, .inl (cJ, 20000, .inr (.inl (vp_updL (vp_updL (w.2.2.2.2.1) w.1 ((w.2.2.2.2.1) (w.1 - gp y.1))) (w.1 - gp y.1) ((w.2.2.2.2.1) w.1))))), (ad 26, .inl (cJ, 20000, .inr (.inl (vp_updL (vp_updL (w.2.2.2.2.2) w.1 ((w.2.2.2.2.2) (w.1 - gp y.1))) (w.1 - gp y.1) ((w.2.2.2.2.2) w.1)))))]) rfl ?_
            refine z_iload_n X (pc' := 67) dX4_sort_66 rfl 0 rfl rfl ?_
            refine z_iload_n X (pc' := 68) dX4_sort_67 rfl 2 rfl rfl ?_
            refine z_isub X (pc' := 69) dX4_sort_68 rfl ?_
            refine z_topi (y := nI (w.1 - gp y.1)) (pk_sub hwg) ?_
            refine z_istore_n X (lv' := [(3, .int (nI (w.1 - gp y.1))), (2, .int (nI z.1)), (1, .int (nI (gp y.1))), (0, .ref mo)]) (pc' := 70) dX4_sort_69 rfl (by decide) rfl rfl ?_
            refine z_goto X (tgt := 35) dX4_sort_70 (by decide) ?_
            refine z_lv (lv' := [(3, .int (nI (w.1 - gp y.1))), (2, .int (nI z.1)), (1, .int (nI (gp y.1))), (0, .ref mo)]) [0, 1, 2, 3] rfl ?_
            exact ih4 ((w.1 - gp y.1, sw w.2.1 w.1 (w.1 - gp y.1), vp_updL (vp_updL (w.2.2.1) w.1 ((w.2.2.1) (w.1 - gp y.1))) (w.1 - gp y.1) ((w.2.2.1) w.1), upd (upd (w.2.2.2.1) w.1 ((w.2.2.2.1) (w.1 - gp y.1))) (w.1 - gp y.1) ((w.2.2.2.1) w.1), vp_updL (vp_updL (w.2.2.2.2.1) w.1 ((w.2.2.2.2.1) (w.1 - gp y.1))) (w.1 - gp y.1) ((w.2.2.2.2.1) w.1), vp_updL (vp_updL (w.2.2.2.2.2) w.1 ((w.2.2.2.2.2) (w.1 - gp y.1))) (w.1 - gp y.1) ((w.2.2.2.2.2) w.1))) ⟨by show w.1 - gp y.1 ≤ z.1; omega, rep4_sw l2 (by omega) (by omega), sKeep_sw l3 (by omega) (by omega) (Nat.le_refl _), fun g => by have h9 := srx_sw (l4 g) (by omega) l1 (by rw [← g]; exact hkk); rw [← g] at h9; exact h9⟩ (by show w.1 - gp y.1 < w.1; omega)
  · have hlt : gp x < n := by omega
    refine z_iconst X (v := nI 3) (pc' := 11) dX4_sort_10 (by decide) rfl ?_
    refine z_iload_n X (pc' := 12) dX4_sort_11 rfl 0 rfl rfl ?_
    refine z_imul X (pc' := 13) dX4_sort_12 rfl ?_
    refine z_topi (y := nI (3 * (gp x))) (pk_mul _ _) ?_
    refine z_iconst X (v := nI 1) (pc' := 14) dX4_sort_13 (by decide) rfl ?_
    refine z_iadd X (pc' := 15) dX4_sort_14 rfl ?_
    refine z_topi (y := nI ((3 * (gp x)) + 1)) (nI_add _ _) ?_
    refine z_topi (y := nI (gp (x + 1))) rfl ?_
    refine z_istore_n X (lv' := [(1, .int (nI (gp (x + 1)))), (0, .ref mo)]) (pc' := 16) dX4_sort_15 rfl (by decide) rfl rfl ?_
    refine z_goto X (tgt := 2) dX4_sort_16 (by decide) ?_
    refine z_lv (lv' := [(1, .int (nI (gp (x + 1)))), (0, .ref mo)]) [0, 1] rfl ?_
    exact ih1 (x + 1) ⟨by omega, by show 3 * gp x + 1 ≤ 60001; omega⟩ (by show 60001 - (3 * gp x + 1) < 60001 - gp x; omega)


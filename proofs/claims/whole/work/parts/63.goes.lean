/-- the reference's program: how many of each thread, their numbers, a and b -/
def QRep (P : Nat → List Nat) (gm gn ga gb : Nat → Int32) : Prop := ∀ t, t < 4 → gm t = nI (P t).length ∧ ∀ i k, (P t)[i]? = some k → gn (6 * t + i) = nI (k / 16) ∧ ga (6 * t + i) = nI (k / 4 % 4) ∧ gb (6 * t + i) = nI (k % 4)
def rOpW (o : Option (Nat × Nat)) (r : Int32) (u : W6) : Prop := match o with
  | none => r = nI 0
  | some q => r = nI 1 ∧ WS q.1 q.2 u.1 u.2.1 u.2.2.1 u.2.2.2.1 u.2.2.2.2.1 u.2.2.2.2.2
theorem WS_fin {h n t p : Nat} {fa fr fw fh fW fV : Nat → Int32} (H : WS h n fa fr fw fh fW fV) (hL : Lok (ml n t)) (ht : t < 4) (hp : p < 8) : WS (st_fin t p (h, n)).1 (st_fin t p (h, n)).2 (upd fa t (nI p)) fr fw fh fW fV := ⟨WL_at H.1 hL ht hp, H.2⟩
theorem WL_a {n : Nat} {fa ga fh fW fV : Nat → Int32} (H : WL n fa fh fW fV) (h : ∀ t, t < 4 → ga t = fa t) : WL n ga fh fW fV := fun t ht => ⟨(h t ht).trans (H t ht).1, (H t ht).2⟩
theorem upd_upd (f : Nat → Int32) (t : Nat) (x y : Int32) : upd (upd f t x) t y = upd f t y := by
  funext j
  by_cases e : j = t
  · rw [e, pk_us, pk_us]
  · rw [pk_un e, pk_un e, pk_un e]
theorem upd_self {f : Nat → Int32} {t : Nat} {x : Int32} (h : f t = x) : upd f t x = f := by
  funext j
  by_cases e : j = t
  · rw [e, pk_us, h]
  · rw [pk_un e]
/-- a store's rows, whatever the places are: they are put back behind it -/
theorem WS_store {md h n t w v : Nat} {q : Nat × Nat} {fa fr fw fh fW fV : Nat → Int32} (H : WS h n fa fr fw fh fW fV) (hLs : ∀ s, s < 4 → Lok (ml n s)) (ht : t < 4) (hw : w < 4) (hv : v < 4) (e : st_store md h n t w v = some q) :
    (md = 0 ∧ WS q.1 q.2 fa fr (upd fw w (nI v)) fh fW fV) ∨ (¬ md = 0 ∧ wt (ml n t) < 2 ∧ WS q.1 q.2 fa fr fw (upd fh t (nI (wt (ml n t) + 1))) (upd fW (2 * t + wt (ml n t)) (nI w)) (upd fV (2 * t + wt (ml n t)) (nI v))) := by
  unfold st_store at e
  split at e
  · rename_i h0
    cases e
    exact Or.inl ⟨h0, WS_word H hw hv⟩
  · rename_i h0
    split at e
    · cases e
    · rename_i h2
      cases e
      exact Or.inr ⟨h0, by omega, WL_put H.1 (fun s hs => (hLs s hs).1) (hLs t ht) h2 ht hw hv, H.2⟩
set_option maxHeartbeats 4000000 in
set_option maxRecDepth 100000 in
/-- a store -/
theorem r_store (l : Launch) (D : va_G) (cI cJ : ClassId) (sz : Nat) (mo th st tol ts tf td : Nat) (ad : Nat → Nat) (t w v md wn : Nat) (fw fh fW fV : Nat → Int32) (ht : t < 4) (hw : w < 4) (hfh : fh t = nI wn) (hwn : md = 0 ∨ wn < 2) (hmd : md < 3) : KV l D cI cJ yX4_store cX4_store 5 none 0 0 0 0 [.ref mo, .int (nI t), .int (nI w), .int (nI v), .int (nI md)] [(mo, .inr (4, [.int (nI th), .ref (ad 1), .ref (ad 2), .ref (ad 3), .ref (ad 4), .int (nI st), .ref (ad 6), .ref (ad 7), .ref (ad 8), .ref (ad 9), .ref (ad 10), .ref (ad 11), .ref (ad 12), .ref (ad 13), .ref (ad 14), .ref (ad 15), .ref (ad 16), .ref (ad 17), .ref (ad 18), .int (nI tol), .int (nI ts), .int (nI tf), .int (nI td), .ref (ad 23), .ref (ad 24), .ref (ad 25), .ref (ad 26)])), (ad 15, .inl (cI, 4, .inl fw)), (ad 16, .inl (cI, 4, .inl fh)), (ad 17, .inl (cI, 8, .inl fW)), (ad 18, .inl (cI, 8, .inl fV))] sz (S := (Nat → Int32) × (Nat → Int32) × (Nat → Int32) × (Nat → Int32)) (fun u => (md = 0 ∧ u = (upd fw w (nI v), fh, fW, fV)) ∨ (¬ md = 0 ∧ u = (fw, upd fh t (nI (wn + 1)), upd fW (2 * t + wn) (nI w), upd fV (2 * t + wn) (nI v)))) (fun u => [(mo, .inr (4, [.int (nI th), .ref (ad 1), .ref (ad 2), .ref (ad 3), .ref (ad 4), .int (nI st), .ref (ad 6), .ref (ad 7), .ref (ad 8), .ref (ad 9), .ref (ad 10), .ref (ad 11), .ref (ad 12), .ref (ad 13), .ref (ad 14), .ref (ad 15), .ref (ad 16), .ref (ad 17), .ref (ad 18), .int (nI tol), .int (nI ts), .int (nI tf), .int (nI td), .ref (ad 23), .ref (ad 24), .ref (ad 25), .ref (ad 26)])), (ad 15, .inl (cI, 4, .inl u.1)), (ad 16, .inl (cI, 4, .inl u.2.1)), (ad 17, .inl (cI, 8, .inl u.2.2.1)), (ad 18, .inl (cI, 8, .inl u.2.2.2))]) := by
  refine zMetV (lv := [(0, .ref mo), (1, .int (nI t)), (2, .int (nI w)), (3, .int (nI v)), (4, .int (nI md))]) NS0_ok (by decide) rfl (Nat.le_of_ble_eq_true rfl) rfl ?_
  intro p e s m args below meth c A X hin hA
  refine z_iload X (pc' := 2) dX4_store_0 4 rfl rfl ?_
  refine z_if_neN X (tgt := 13) (pc' := 5) (by omega) dX4_store_2 (by decide) rfl (fun h1 => ?_) (fun h1 => ?_)
  · have hm : ¬ md = 0 := h1
    refine z_aload_n X (pc' := 14) dX4_store_13 rfl 0 rfl rfl ?_
    refine z_get X (v := .ref (ad 17)) (pc' := 17) 0 rfl rfl inX4 17 (by decide) mF_X4_56 rfl dX4_store_14 rfl ?_
    refine z_iconst X (v := nI 2) (pc' := 18) dX4_store_17 (by decide) rfl ?_
    refine z_iload_n X (pc' := 19) dX4_store_18 rfl 1 rfl rfl ?_
    refine z_imul X (pc' := 20) dX4_store_19 rfl ?_
    refine z_topi (y := nI (2 * t)) (pk_mul _ _) ?_
    refine z_aload_n X (pc' := 21) dX4_store_20 rfl 0 rfl rfl ?_
    refine z_get X (v := .ref (ad 16)) (pc' := 24) 0 rfl rfl inX4 16 (by decide) mF_X4_53 rfl dX4_store_21 rfl ?_
    refine z_iload_n X (pc' := 25) dX4_store_24 rfl 1 rfl rfl ?_
    refine z_iald X (pc' := 26) 2 0 rfl rfl (by omega) (by omega) dX4_store_25 rfl ?_
    refine z_topi (y := nI wn) hfh ?_
    refine z_iadd X (pc' := 27) dX4_store_26 rfl ?_
    refine z_topi (y := nI ((2 * t) + wn)) (nI_add _ _) ?_
    refine z_iload_n X (pc' := 28) dX4_store_27 rfl 2 rfl rfl ?_
    refine z_iast X (ws' := [(mo, .inr (4, [.int (nI th), .ref (ad 1), .ref (ad 2), .ref (ad 3), .ref (ad 4), .int (nI st), .ref (ad 6), .ref (ad 7), .ref (ad 8), .ref (ad 9), .ref (ad 10), .ref (ad 11), .ref (ad 12), .ref (ad 13), .ref (ad 14), .ref (ad 15), .ref (ad 16), .ref (ad 17), .ref (ad 18), .int (nI tol), .int (nI ts), .int (nI tf), .int (nI td), .ref (ad 23), .ref (ad 24), .ref (ad 25), .ref (ad 26)])), (ad 15, .inl (cI, 4, .inl fw)), (ad 16, .inl (cI, 4, .inl fh)), (ad 17, .inl (cI, 8, .inl (upd fW ((2 * t) + wn) (nI w)))), (ad 18, .inl (cI, 8, .inl fV))]) (pc' := 29) 3 0 rfl rfl (by omega) (by omega) dX4_store_28 rfl rfl ?_
    refine z_aload_n X (pc' := 30) dX4_store_29 rfl 0 rfl rfl ?_
    refine z_get X (v := .ref (ad 18)) (pc' := 33) 0 rfl rfl inX4 18 (by decide) mF_X4_59 rfl dX4_store_30 rfl ?_
    refine z_iconst X (v := nI 2) (pc' := 34) dX4_store_33 (by decide) rfl ?_
    refine z_iload_n X (pc' := 35) dX4_store_34 rfl 1 rfl rfl ?_
    refine z_imul X (pc' := 36) dX4_store_35 rfl ?_
    refine z_topi (y := nI (2 * t)) (pk_mul _ _) ?_
    refine z_aload_n X (pc' := 37) dX4_store_36 rfl 0 rfl rfl ?_
    refine z_get X (v := .ref (ad 16)) (pc' := 40) 0 rfl rfl inX4 16 (by decide) mF_X4_53 rfl dX4_store_37 rfl ?_
    refine z_iload_n X (pc' := 41) dX4_store_40 rfl 1 rfl rfl ?_
    refine z_iald X (pc' := 42) 2 0 rfl rfl (by omega) (by omega) dX4_store_41 rfl ?_
    refine z_topi (y := nI wn) hfh ?_
    refine z_iadd X (pc' := 43) dX4_store_42 rfl ?_
    refine z_topi (y := nI ((2 * t) + wn)) (nI_add _ _) ?_
    refine z_iload_n X (pc' := 44) dX4_store_43 rfl 3 rfl rfl ?_
    refine z_iast X (ws' := [(mo, .inr (4, [.int (nI th), .ref (ad 1), .ref (ad 2), .ref (ad 3), .ref (ad 4), .int (nI st), .ref (ad 6), .ref (ad 7), .ref (ad 8), .ref (ad 9), .ref (ad 10), .ref (ad 11), .ref (ad 12), .ref (ad 13), .ref (ad 14), .ref (ad 15), .ref (ad 16), .ref (ad 17), .ref (ad 18), .int (nI tol), .int (nI ts), .int (nI tf), .int (nI td), .ref (ad 23), .ref (ad 24), .ref (ad 25), .ref (ad 26)])), (ad 15, .inl (cI, 4, .inl fw)), (ad 16, .inl (cI, 4, .inl fh)), (ad 17, .inl (cI, 8, .inl (upd fW ((2 * t) + wn) (nI w)))), (ad 18, .inl (cI, 8, .inl (upd fV ((2 * t) + wn) (nI v))))]) (pc' := 45) 4 0 rfl rfl (by omega) (by omega) dX4_store_44 rfl rfl ?_
    refine z_aload_n X (pc' := 46) dX4_store_45 rfl 0 rfl rfl ?_
    refine z_get X (v := .ref (ad 16)) (pc' := 49) 0 rfl rfl inX4 16 (by decide) mF_X4_53 rfl dX4_store_46 rfl ?_
    refine z_iload_n X (pc' := 50) dX4_store_49 rfl 1 rfl rfl ?_
    refine z_dup2_11 X (pc' := 51) dX4_store_50 rfl rfl rfl ?_
    refine z_iald X (pc' := 52) 2 0 rfl rfl (by omega) (by omega) dX4_store_51 rfl ?_
    refine z_topi (y := nI wn) hfh ?_
    refine z_iconst X (v := nI 1) (pc' := 53) dX4_store_52 (by decide) rfl ?_
    refine z_iadd X (pc' := 54) dX4_store_53 rfl ?_
    refine z_topi (y := nI (wn + 1)) (nI_add _ _) ?_
    refine z_iast X (ws' := [(mo, .inr (4, [.int (nI th), .ref (ad 1), .ref (ad 2), .ref (ad 3), .ref (ad 4), .int (nI st), .ref (ad 6), .ref (ad 7), .ref (ad 8), .ref (ad 9), .ref (ad 10), .ref (ad 11), .ref (ad 12), .ref (ad 13), .ref (ad 14), .ref (ad 15), .ref (ad 16), .ref (ad 17), .ref (ad 18), .int (nI tol), .int (nI ts), .int (nI tf), .int (nI td), .ref (ad 23), .ref (ad 24), .ref (ad 25), .ref (ad 26)])), (ad 15, .inl (cI, 4, .inl fw)), (ad 16, .inl (cI, 4, .inl (upd fh t (nI (wn + 1))))), (ad 17, .inl (cI, 8, .inl (upd fW ((2 * t) + wn) (nI w)))), (ad 18, .inl (cI, 8, .inl (upd fV ((2 * t) + wn) (nI v))))]) (pc' := 55) 2 0 rfl rfl (by omega) (by omega) dX4_store_54 rfl rfl ?_
    exact z_vret X (fw, upd fh t (nI (wn + 1)), upd fW (2 * t + wn) (nI w), upd fV (2 * t + wn) (nI v)) (Or.inr ⟨hm, rfl⟩) rfl (Nat.le_of_ble_eq_true rfl) (Nat.le_of_ble_eq_true rfl) dX4_store_55
  · have hm : md = 0 := h1
    refine z_aload_n X (pc' := 6) dX4_store_5 rfl 0 rfl rfl ?_
    refine z_get X (v := .ref (ad 15)) (pc' := 9) 0 rfl rfl inX4 15 (by decide) mF_X4_50 rfl dX4_store_6 rfl ?_
    refine z_iload_n X (pc' := 10) dX4_store_9 rfl 2 rfl rfl ?_
    refine z_iload_n X (pc' := 11) dX4_store_10 rfl 3 rfl rfl ?_
    refine z_iast X (ws' := [(mo, .inr (4, [.int (nI th), .ref (ad 1), .ref (ad 2), .ref (ad 3), .ref (ad 4), .int (nI st), .ref (ad 6), .ref (ad 7), .ref (ad 8), .ref (ad 9), .ref (ad 10), .ref (ad 11), .ref (ad 12), .ref (ad 13), .ref (ad 14), .ref (ad 15), .ref (ad 16), .ref (ad 17), .ref (ad 18), .int (nI tol), .int (nI ts), .int (nI tf), .int (nI td), .ref (ad 23), .ref (ad 24), .ref (ad 25), .ref (ad 26)])), (ad 15, .inl (cI, 4, .inl (upd fw w (nI v)))), (ad 16, .inl (cI, 4, .inl fh)), (ad 17, .inl (cI, 8, .inl fW)), (ad 18, .inl (cI, 8, .inl fV))]) (pc' := 12) 1 0 rfl rfl (by omega) (by omega) dX4_store_11 rfl rfl ?_
    exact z_vret X (upd fw w (nI v), fh, fW, fV) (Or.inl ⟨hm, rfl⟩) rfl (Nat.le_of_ble_eq_true rfl) (Nat.le_of_ble_eq_true rfl) dX4_store_12
set_option maxHeartbeats 4000000 in
set_option maxRecDepth 100000 in
/-- what a thread sees -/
theorem r_seen (l : Launch) (D : va_G) (cI cJ : ClassId) (sz : Nat) (mo th st tol ts tf td : Nat) (ad : Nat → Nat) (h n t w : Nat) (fa fr fw fh fW fV : Nat → Int32) (ht : t < 4) (hw : w < 4) (h2 : wt (ml n t) ≤ 2) (hW : WS h n fa fr fw fh fW fV) : KI l D cI cJ yX4_seen cX4_seen 5 (some .int) 0 0 0 0 [.ref mo, .int (nI t), .int (nI w)] [(mo, .inr (4, [.int (nI th), .ref (ad 1), .ref (ad 2), .ref (ad 3), .ref (ad 4), .int (nI st), .ref (ad 6), .ref (ad 7), .ref (ad 8), .ref (ad 9), .ref (ad 10), .ref (ad 11), .ref (ad 12), .ref (ad 13), .ref (ad 14), .ref (ad 15), .ref (ad 16), .ref (ad 17), .ref (ad 18), .int (nI tol), .int (nI ts), .int (nI tf), .int (nI td), .ref (ad 23), .ref (ad 24), .ref (ad 25), .ref (ad 26)])), (ad 15, .inl (cI, 4, .inl fw)), (ad 16, .inl (cI, 4, .inl fh)), (ad 17, .inl (cI, 8, .inl fW)), (ad 18, .inl (cI, 8, .inl fV))] sz (S := Unit) (fun r _ => r = nI (st_seen h (ml n t) w)) (fun _ => [(mo, .inr (4, [.int (nI th), .ref (ad 1), .ref (ad 2), .ref (ad 3), .ref (ad 4), .int (nI st), .ref (ad 6), .ref (ad 7), .ref (ad 8), .ref (ad 9), .ref (ad 10), .ref (ad 11), .ref (ad 12), .ref (ad 13), .ref (ad 14), .ref (ad 15), .ref (ad 16), .ref (ad 17), .ref (ad 18), .int (nI tol), .int (nI ts), .int (nI tf), .int (nI td), .ref (ad 23), .ref (ad 24), .ref (ad 25), .ref (ad 26)])), (ad 15, .inl (cI, 4, .inl fw)), (ad 16, .inl (cI, 4, .inl fh)), (ad 17, .inl (cI, 8, .inl fW)), (ad 18, .inl (cI, 8, .inl fV))]) := by
  refine zMetI (lv := [(0, .ref mo), (1, .int (nI t)), (2, .int (nI w))]) NS0_ok (by decide) rfl (Nat.le_of_ble_eq_true rfl) rfl ?_
  intro p e s m args below meth c A X hin hA
  refine z_aload_n X (pc' := 1) dX4_seen_0 rfl 0 rfl rfl ?_
  refine z_get X (v := .ref (ad 15)) (pc' := 4) 0 rfl rfl inX4 15 (by decide) mF_X4_50 rfl dX4_seen_1 rfl ?_
  refine z_iload_n X (pc' := 5) dX4_seen_4 rfl 2 rfl rfl ?_
  refine z_iald X (pc' := 6) 1 0 rfl rfl (by omega) (by omega) dX4_seen_5 rfl ?_
  refine z_topi (y := nI (mi h (16 + w))) (hW.2.2 w hw) ?_
  refine z_istore_n X (lv' := [(3, .int (nI (mi h (16 + w)))), (0, .ref mo), (1, .int (nI t)), (2, .int (nI w))]) (pc' := 7) dX4_seen_6 rfl (by decide) rfl rfl ?_
  refine z_iconst X (v := nI 0) (pc' := 8) dX4_seen_7 (by decide) rfl ?_
  rcases (show wt (ml n t) = 0 ∨ wt (ml n t) = 1 ∨ wt (ml n t) = 2 by omega) with hwt | hwt | hwt
  · have hd := hW.1 t ht
    refine z_istore X (lv' := [(4, .int (nI 0)), (3, .int (nI (mi h (16 + w)))), (0, .ref mo), (1, .int (nI t)), (2, .int (nI w))]) (pc' := 10) dX4_seen_8 (by decide) rfl rfl ?_
    refine z_iload X (pc' := 12) dX4_seen_10 0 rfl rfl ?_
    refine z_aload_n X (pc' := 13) dX4_seen_12 rfl 2 rfl rfl ?_
    refine z_get X (v := .ref (ad 16)) (pc' := 16) 0 rfl rfl inX4 16 (by decide) mF_X4_53 rfl dX4_seen_13 rfl ?_
    refine z_iload_n X (pc' := 17) dX4_seen_16 rfl 3 rfl rfl ?_
    refine z_iald X (pc' := 18) 2 0 rfl rfl (by omega) (by omega) dX4_seen_17 rfl ?_
    refine z_topi (y := nI 0) (by rw [hd.2.1, hwt]) ?_
    refine z_icmp_geN X (tgt := 54) (pc' := 21) (by omega) (by omega) dX4_seen_18 (by decide) rfl (fun h1 => ?_) (fun h1 => ?_)
    · clear h1
      refine z_iload_n X (pc' := 55) dX4_seen_54 rfl 1 rfl rfl ?_
      exact z_iret X (t1 := .int) rfl rfl () (by show _ = nI (st_seen h (ml n t) w); unfold st_seen; rw [if_neg (fun x => by omega), if_neg (fun x => by omega)]) rfl (Nat.le_of_ble_eq_true rfl) (Nat.le_of_ble_eq_true rfl) dX4_seen_55
    · exact absurd h1 (by decide)
  · have hd := hW.1 t ht
    refine z_istore X (lv' := [(4, .int (nI 0)), (3, .int (nI (mi h (16 + w)))), (0, .ref mo), (1, .int (nI t)), (2, .int (nI w))]) (pc' := 10) dX4_seen_8 (by decide) rfl rfl ?_
    refine z_iload X (pc' := 12) dX4_seen_10 0 rfl rfl ?_
    refine z_aload_n X (pc' := 13) dX4_seen_12 rfl 2 rfl rfl ?_
    refine z_get X (v := .ref (ad 16)) (pc' := 16) 0 rfl rfl inX4 16 (by decide) mF_X4_53 rfl dX4_seen_13 rfl ?_
    refine z_iload_n X (pc' := 17) dX4_seen_16 rfl 3 rfl rfl ?_
    refine z_iald X (pc' := 18) 2 0 rfl rfl (by omega) (by omega) dX4_seen_17 rfl ?_
    refine z_topi (y := nI 1) (by rw [hd.2.1, hwt]) ?_
    refine z_icmp_geN X (tgt := 54) (pc' := 21) (by omega) (by omega) dX4_seen_18 (by decide) rfl (fun h2 => ?_) (fun h2 => ?_)
    · exact absurd h2 (by decide)
    · clear h2
      refine z_aload_n X (pc' := 22) dX4_seen_21 rfl 2 rfl rfl ?_
      refine z_get X (v := .ref (ad 17)) (pc' := 25) 0 rfl rfl inX4 17 (by decide) mF_X4_56 rfl dX4_seen_22 rfl ?_
      refine z_iconst X (v := nI 2) (pc' := 26) dX4_seen_25 (by decide) rfl ?_
      refine z_iload_n X (pc' := 27) dX4_seen_26 rfl 3 rfl rfl ?_
      refine z_imul X (pc' := 28) dX4_seen_27 rfl ?_
      refine z_topi (y := nI (2 * t)) (pk_mul _ _) ?_
      refine z_iload X (pc' := 30) dX4_seen_28 0 rfl rfl ?_
      refine z_iadd X (pc' := 31) dX4_seen_30 rfl ?_
      refine z_topi (y := nI ((2 * t) + 0)) (nI_add _ _) ?_
      refine z_iald X (pc' := 32) 3 0 rfl rfl (by omega) (by omega) dX4_seen_31 rfl ?_
      refine z_topi (y := nI (en (ml n t) 0 / 4)) (hd.2.2 0 (by omega)).1 ?_
      refine z_iload_n X (pc' := 33) dX4_seen_32 rfl 4 rfl rfl ?_
      have hl0 := en_lt (ml n t) 0
      refine z_icmp_neN X (tgt := 48) (pc' := 36) (by omega) (by omega) dX4_seen_33 (by decide) rfl (fun h3 => ?_) (fun h3 => ?_)
      · have hq0 : ¬ en (ml n t) 0 / 4 = w := h3
        refine z_iinc X (v := nI 1) (lv' := [(4, .int (nI 1)), (3, .int (nI (mi h (16 + w)))), (0, .ref mo), (1, .int (nI t)), (2, .int (nI w))]) (k := 0) (pc' := 51) dX4_seen_48 rfl (by decide) (by decide) rfl rfl ?_
        refine z_goto X (tgt := 10) dX4_seen_51 (by decide) ?_
        refine z_iload X (pc' := 12) dX4_seen_10 0 rfl rfl ?_
        refine z_aload_n X (pc' := 13) dX4_seen_12 rfl 2 rfl rfl ?_
        refine z_get X (v := .ref (ad 16)) (pc' := 16) 0 rfl rfl inX4 16 (by decide) mF_X4_53 rfl dX4_seen_13 rfl ?_
        refine z_iload_n X (pc' := 17) dX4_seen_16 rfl 3 rfl rfl ?_
        refine z_iald X (pc' := 18) 2 0 rfl rfl (by omega) (by omega) dX4_seen_17 rfl ?_
        refine z_topi (y := nI 1) (by rw [hd.2.1, hwt]) ?_
        refine z_icmp_geN X (tgt := 54) (pc' := 21) (by omega) (by omega) dX4_seen_18 (by decide) rfl (fun h4 => ?_) (fun h4 => ?_)
        · clear h4
          refine z_iload_n X (pc' := 55) dX4_seen_54 rfl 1 rfl rfl ?_
          exact z_iret X (t1 := .int) rfl rfl () (by show _ = nI (st_seen h (ml n t) w); unfold st_seen; rw [if_neg (fun x => by omega), if_neg (fun x => hq0 x.2)]) rfl (Nat.le_of_ble_eq_true rfl) (Nat.le_of_ble_eq_true rfl) dX4_seen_55
        · exact absurd h4 (by decide)
      · have hq0 : en (ml n t) 0 / 4 = w := h3
        refine z_aload_n X (pc' := 37) dX4_seen_36 rfl 2 rfl rfl ?_
        refine z_get X (v := .ref (ad 18)) (pc' := 40) 0 rfl rfl inX4 18 (by decide) mF_X4_59 rfl dX4_seen_37 rfl ?_
        refine z_iconst X (v := nI 2) (pc' := 41) dX4_seen_40 (by decide) rfl ?_
        refine z_iload_n X (pc' := 42) dX4_seen_41 rfl 3 rfl rfl ?_
        refine z_imul X (pc' := 43) dX4_seen_42 rfl ?_
        refine z_topi (y := nI (2 * t)) (pk_mul _ _) ?_
        refine z_iload X (pc' := 45) dX4_seen_43 0 rfl rfl ?_
        refine z_iadd X (pc' := 46) dX4_seen_45 rfl ?_
        refine z_topi (y := nI ((2 * t) + 0)) (nI_add _ _) ?_
        refine z_iald X (pc' := 47) 4 0 rfl rfl (by omega) (by omega) dX4_seen_46 rfl ?_
        refine z_topi (y := nI (en (ml n t) 0 % 4)) (hd.2.2 0 (by omega)).2 ?_
        refine z_istore_n X (lv' := [(3, .int (nI (en (ml n t) 0 % 4))), (4, .int (nI 0)), (0, .ref mo), (1, .int (nI t)), (2, .int (nI w))]) (pc' := 48) dX4_seen_47 rfl (by decide) rfl rfl ?_
        refine z_iinc X (v := nI 1) (lv' := [(4, .int (nI 1)), (3, .int (nI (en (ml n t) 0 % 4))), (0, .ref mo), (1, .int (nI t)), (2, .int (nI w))]) (k := 1) (pc' := 51) dX4_seen_48 rfl (by decide) (by decide) rfl rfl ?_
        refine z_goto X (tgt := 10) dX4_seen_51 (by decide) ?_
        refine z_iload X (pc' := 12) dX4_seen_10 0 rfl rfl ?_
        refine z_aload_n X (pc' := 13) dX4_seen_12 rfl 2 rfl rfl ?_
        refine z_get X (v := .ref (ad 16)) (pc' := 16) 0 rfl rfl inX4 16 (by decide) mF_X4_53 rfl dX4_seen_13 rfl ?_
        refine z_iload_n X (pc' := 17) dX4_seen_16 rfl 3 rfl rfl ?_
        refine z_iald X (pc' := 18) 2 0 rfl rfl (by omega) (by omega) dX4_seen_17 rfl ?_
        refine z_topi (y := nI 1) (by rw [hd.2.1, hwt]) ?_
        refine z_icmp_geN X (tgt := 54) (pc' := 21) (by omega) (by omega) dX4_seen_18 (by decide) rfl (fun h5 => ?_) (fun h5 => ?_)
        · clear h5
          refine z_iload_n X (pc' := 55) dX4_seen_54 rfl 1 rfl rfl ?_
          exact z_iret X (t1 := .int) rfl rfl () (by show _ = nI (st_seen h (ml n t) w); unfold st_seen; rw [if_neg (fun x => by omega), if_pos ⟨by omega, hq0⟩]) rfl (Nat.le_of_ble_eq_true rfl) (Nat.le_of_ble_eq_true rfl) dX4_seen_55
        · exact absurd h5 (by decide)
  · have hd := hW.1 t ht
    refine z_istore X (lv' := [(4, .int (nI 0)), (3, .int (nI (mi h (16 + w)))), (0, .ref mo), (1, .int (nI t)), (2, .int (nI w))]) (pc' := 10) dX4_seen_8 (by decide) rfl rfl ?_
    refine z_iload X (pc' := 12) dX4_seen_10 0 rfl rfl ?_
    refine z_aload_n X (pc' := 13) dX4_seen_12 rfl 2 rfl rfl ?_
    refine z_get X (v := .ref (ad 16)) (pc' := 16) 0 rfl rfl inX4 16 (by decide) mF_X4_53 rfl dX4_seen_13 rfl ?_
    refine z_iload_n X (pc' := 17) dX4_seen_16 rfl 3 rfl rfl ?_
    refine z_iald X (pc' := 18) 2 0 rfl rfl (by omega) (by omega) dX4_seen_17 rfl ?_
    refine z_topi (y := nI 2) (by rw [hd.2.1, hwt]) ?_
    refine z_icmp_geN X (tgt := 54) (pc' := 21) (by omega) (by omega) dX4_seen_18 (by decide) rfl (fun h6 => ?_) (fun h6 => ?_)
    · exact absurd h6 (by decide)
    · clear h6
      refine z_aload_n X (pc' := 22) dX4_seen_21 rfl 2 rfl rfl ?_
      refine z_get X (v := .ref (ad 17)) (pc' := 25) 0 rfl rfl inX4 17 (by decide) mF_X4_56 rfl dX4_seen_22 rfl ?_
      refine z_iconst X (v := nI 2) (pc' := 26) dX4_seen_25 (by decide) rfl ?_
      refine z_iload_n X (pc' := 27) dX4_seen_26 rfl 3 rfl rfl ?_
      refine z_imul X (pc' := 28) dX4_seen_27 rfl ?_
      refine z_topi (y := nI (2 * t)) (pk_mul _ _) ?_
      refine z_iload X (pc' := 30) dX4_seen_28 0 rfl rfl ?_
      refine z_iadd X (pc' := 31) dX4_seen_30 rfl ?_
      refine z_topi (y := nI ((2 * t) + 0)) (nI_add _ _) ?_
      refine z_iald X (pc' := 32) 3 0 rfl rfl (by omega) (by omega) dX4_seen_31 rfl ?_
      refine z_topi (y := nI (en (ml n t) 0 / 4)) (hd.2.2 0 (by omega)).1 ?_
      refine z_iload_n X (pc' := 33) dX4_seen_32 rfl 4 rfl rfl ?_
      have hl0 := en_lt (ml n t) 0
      refine z_icmp_neN X (tgt := 48) (pc' := 36) (by omega) (by omega) dX4_seen_33 (by decide) rfl (fun h7 => ?_) (fun h7 => ?_)
      · have hq0 : ¬ en (ml n t) 0 / 4 = w := h7
        refine z_iinc X (v := nI 1) (lv' := [(4, .int (nI 1)), (3, .int (nI (mi h (16 + w)))), (0, .ref mo), (1, .int (nI t)), (2, .int (nI w))]) (k := 0) (pc' := 51) dX4_seen_48 rfl (by decide) (by decide) rfl rfl ?_
        refine z_goto X (tgt := 10) dX4_seen_51 (by decide) ?_
        refine z_iload X (pc' := 12) dX4_seen_10 0 rfl rfl ?_
        refine z_aload_n X (pc' := 13) dX4_seen_12 rfl 2 rfl rfl ?_
        refine z_get X (v := .ref (ad 16)) (pc' := 16) 0 rfl rfl inX4 16 (by decide) mF_X4_53 rfl dX4_seen_13 rfl ?_
        refine z_iload_n X (pc' := 17) dX4_seen_16 rfl 3 rfl rfl ?_
        refine z_iald X (pc' := 18) 2 0 rfl rfl (by omega) (by omega) dX4_seen_17 rfl ?_
        refine z_topi (y := nI 2) (by rw [hd.2.1, hwt]) ?_
        refine z_icmp_geN X (tgt := 54) (pc' := 21) (by omega) (by omega) dX4_seen_18 (by decide) rfl (fun h8 => ?_) (fun h8 => ?_)
        · exact absurd h8 (by decide)
        · clear h8
          refine z_aload_n X (pc' := 22) dX4_seen_21 rfl 2 rfl rfl ?_
          refine z_get X (v := .ref (ad 17)) (pc' := 25) 0 rfl rfl inX4 17 (by decide) mF_X4_56 rfl dX4_seen_22 rfl ?_
          refine z_iconst X (v := nI 2) (pc' := 26) dX4_seen_25 (by decide) rfl ?_
          refine z_iload_n X (pc' := 27) dX4_seen_26 rfl 3 rfl rfl ?_
          refine z_imul X (pc' := 28) dX4_seen_27 rfl ?_
          refine z_topi (y := nI (2 * t)) (pk_mul _ _) ?_
          refine z_iload X (pc' := 30) dX4_seen_28 0 rfl rfl ?_
          refine z_iadd X (pc' := 31) dX4_seen_30 rfl ?_
          refine z_topi (y := nI ((2 * t) + 1)) (nI_add _ _) ?_
          refine z_iald X (pc' := 32) 3 0 rfl rfl (by omega) (by omega) dX4_seen_31 rfl ?_
          refine z_topi (y := nI (en (ml n t) 1 / 4)) (hd.2.2 1 (by omega)).1 ?_
          refine z_iload_n X (pc' := 33) dX4_seen_32 rfl 4 rfl rfl ?_
          have hl1 := en_lt (ml n t) 1
          refine z_icmp_neN X (tgt := 48) (pc' := 36) (by omega) (by omega) dX4_seen_33 (by decide) rfl (fun h9 => ?_) (fun h9 => ?_)
          · have hq1 : ¬ en (ml n t) 1 / 4 = w := h9
            refine z_iinc X (v := nI 2) (lv' := [(4, .int (nI 2)), (3, .int (nI (mi h (16 + w)))), (0, .ref mo), (1, .int (nI t)), (2, .int (nI w))]) (k := 0) (pc' := 51) dX4_seen_48 rfl (by decide) (by decide) rfl rfl ?_
            refine z_goto X (tgt := 10) dX4_seen_51 (by decide) ?_
            refine z_iload X (pc' := 12) dX4_seen_10 0 rfl rfl ?_
            refine z_aload_n X (pc' := 13) dX4_seen_12 rfl 2 rfl rfl ?_
            refine z_get X (v := .ref (ad 16)) (pc' := 16) 0 rfl rfl inX4 16 (by decide) mF_X4_53 rfl dX4_seen_13 rfl ?_
            refine z_iload_n X (pc' := 17) dX4_seen_16 rfl 3 rfl rfl ?_
            refine z_iald X (pc' := 18) 2 0 rfl rfl (by omega) (by omega) dX4_seen_17 rfl ?_
            refine z_topi (y := nI 2) (by rw [hd.2.1, hwt]) ?_
            refine z_icmp_geN X (tgt := 54) (pc' := 21) (by omega) (by omega) dX4_seen_18 (by decide) rfl (fun h10 => ?_) (fun h10 => ?_)
            · clear h10
              refine z_iload_n X (pc' := 55) dX4_seen_54 rfl 1 rfl rfl ?_
              exact z_iret X (t1 := .int) rfl rfl () (by show _ = nI (st_seen h (ml n t) w); unfold st_seen; rw [if_neg (fun x => hq1 x.2), if_neg (fun x => hq0 x.2)]) rfl (Nat.le_of_ble_eq_true rfl) (Nat.le_of_ble_eq_true rfl) dX4_seen_55
            · exact absurd h10 (by decide)
          · have hq1 : en (ml n t) 1 / 4 = w := h9
            refine z_aload_n X (pc' := 37) dX4_seen_36 rfl 2 rfl rfl ?_
            refine z_get X (v := .ref (ad 18)) (pc' := 40) 0 rfl rfl inX4 18 (by decide) mF_X4_59 rfl dX4_seen_37 rfl ?_
            refine z_iconst X (v := nI 2) (pc' := 41) dX4_seen_40 (by decide) rfl ?_
            refine z_iload_n X (pc' := 42) dX4_seen_41 rfl 3 rfl rfl ?_
            refine z_imul X (pc' := 43) dX4_seen_42 rfl ?_
            refine z_topi (y := nI (2 * t)) (pk_mul _ _) ?_
            refine z_iload X (pc' := 45) dX4_seen_43 0 rfl rfl ?_
            refine z_iadd X (pc' := 46) dX4_seen_45 rfl ?_
            refine z_topi (y := nI ((2 * t) + 1)) (nI_add _ _) ?_
            refine z_iald X (pc' := 47) 4 0 rfl rfl (by omega) (by omega) dX4_seen_46 rfl ?_
            refine z_topi (y := nI (en (ml n t) 1 % 4)) (hd.2.2 1 (by omega)).2 ?_
            refine z_istore_n X (lv' := [(3, .int (nI (en (ml n t) 1 % 4))), (4, .int (nI 1)), (0, .ref mo), (1, .int (nI t)), (2, .int (nI w))]) (pc' := 48) dX4_seen_47 rfl (by decide) rfl rfl ?_
            refine z_iinc X (v := nI 2) (lv' := [(4, .int (nI 2)), (3, .int (nI (en (ml n t) 1 % 4))), (0, .ref mo), (1, .int (nI t)), (2, .int (nI w))]) (k := 1) (pc' := 51) dX4_seen_48 rfl (by decide) (by decide) rfl rfl ?_
            refine z_goto X (tgt := 10) dX4_seen_51 (by decide) ?_
            refine z_iload X (pc' := 12) dX4_seen_10 0 rfl rfl ?_
            refine z_aload_n X (pc' := 13) dX4_seen_12 rfl 2 rfl rfl ?_
            refine z_get X (v := .ref (ad 16)) (pc' := 16) 0 rfl rfl inX4 16 (by decide) mF_X4_53 rfl dX4_seen_13 rfl ?_
            refine z_iload_n X (pc' := 17) dX4_seen_16 rfl 3 rfl rfl ?_
            refine z_iald X (pc' := 18) 2 0 rfl rfl (by omega) (by omega) dX4_seen_17 rfl ?_
            refine z_topi (y := nI 2) (by rw [hd.2.1, hwt]) ?_
            refine z_icmp_geN X (tgt := 54) (pc' := 21) (by omega) (by omega) dX4_seen_18 (by decide) rfl (fun h11 => ?_) (fun h11 => ?_)
            · clear h11
              refine z_iload_n X (pc' := 55) dX4_seen_54 rfl 1 rfl rfl ?_
              exact z_iret X (t1 := .int) rfl rfl () (by show _ = nI (st_seen h (ml n t) w); unfold st_seen; rw [if_pos ⟨by omega, hq1⟩]) rfl (Nat.le_of_ble_eq_true rfl) (Nat.le_of_ble_eq_true rfl) dX4_seen_55
            · exact absurd h11 (by decide)
      · have hq0 : en (ml n t) 0 / 4 = w := h7
        refine z_aload_n X (pc' := 37) dX4_seen_36 rfl 2 rfl rfl ?_
        refine z_get X (v := .ref (ad 18)) (pc' := 40) 0 rfl rfl inX4 18 (by decide) mF_X4_59 rfl dX4_seen_37 rfl ?_
        refine z_iconst X (v := nI 2) (pc' := 41) dX4_seen_40 (by decide) rfl ?_
        refine z_iload_n X (pc' := 42) dX4_seen_41 rfl 3 rfl rfl ?_
        refine z_imul X (pc' := 43) dX4_seen_42 rfl ?_
        refine z_topi (y := nI (2 * t)) (pk_mul _ _) ?_
        refine z_iload X (pc' := 45) dX4_seen_43 0 rfl rfl ?_
        refine z_iadd X (pc' := 46) dX4_seen_45 rfl ?_
        refine z_topi (y := nI ((2 * t) + 0)) (nI_add _ _) ?_
        refine z_iald X (pc' := 47) 4 0 rfl rfl (by omega) (by omega) dX4_seen_46 rfl ?_
        refine z_topi (y := nI (en (ml n t) 0 % 4)) (hd.2.2 0 (by omega)).2 ?_
        refine z_istore_n X (lv' := [(3, .int (nI (en (ml n t) 0 % 4))), (4, .int (nI 0)), (0, .ref mo), (1, .int (nI t)), (2, .int (nI w))]) (pc' := 48) dX4_seen_47 rfl (by decide) rfl rfl ?_
        refine z_iinc X (v := nI 1) (lv' := [(4, .int (nI 1)), (3, .int (nI (en (ml n t) 0 % 4))), (0, .ref mo), (1, .int (nI t)), (2, .int (nI w))]) (k := 1) (pc' := 51) dX4_seen_48 rfl (by decide) (by decide) rfl rfl ?_
        refine z_goto X (tgt := 10) dX4_seen_51 (by decide) ?_
        refine z_iload X (pc' := 12) dX4_seen_10 0 rfl rfl ?_
        refine z_aload_n X (pc' := 13) dX4_seen_12 rfl 2 rfl rfl ?_
        refine z_get X (v := .ref (ad 16)) (pc' := 16) 0 rfl rfl inX4 16 (by decide) mF_X4_53 rfl dX4_seen_13 rfl ?_
        refine z_iload_n X (pc' := 17) dX4_seen_16 rfl 3 rfl rfl ?_
        refine z_iald X (pc' := 18) 2 0 rfl rfl (by omega) (by omega) dX4_seen_17 rfl ?_
        refine z_topi (y := nI 2) (by rw [hd.2.1, hwt]) ?_
        refine z_icmp_geN X (tgt := 54) (pc' := 21) (by omega) (by omega) dX4_seen_18 (by decide) rfl (fun h12 => ?_) (fun h12 => ?_)
        · exact absurd h12 (by decide)
        · clear h12
          refine z_aload_n X (pc' := 22) dX4_seen_21 rfl 2 rfl rfl ?_
          refine z_get X (v := .ref (ad 17)) (pc' := 25) 0 rfl rfl inX4 17 (by decide) mF_X4_56 rfl dX4_seen_22 rfl ?_
          refine z_iconst X (v := nI 2) (pc' := 26) dX4_seen_25 (by decide) rfl ?_
          refine z_iload_n X (pc' := 27) dX4_seen_26 rfl 3 rfl rfl ?_
          refine z_imul X (pc' := 28) dX4_seen_27 rfl ?_
          refine z_topi (y := nI (2 * t)) (pk_mul _ _) ?_
          refine z_iload X (pc' := 30) dX4_seen_28 0 rfl rfl ?_
          refine z_iadd X (pc' := 31) dX4_seen_30 rfl ?_
          refine z_topi (y := nI ((2 * t) + 1)) (nI_add _ _) ?_
          refine z_iald X (pc' := 32) 3 0 rfl rfl (by omega) (by omega) dX4_seen_31 rfl ?_
          refine z_topi (y := nI (en (ml n t) 1 / 4)) (hd.2.2 1 (by omega)).1 ?_
          refine z_iload_n X (pc' := 33) dX4_seen_32 rfl 4 rfl rfl ?_
          have hl1 := en_lt (ml n t) 1
          refine z_icmp_neN X (tgt := 48) (pc' := 36) (by omega) (by omega) dX4_seen_33 (by decide) rfl (fun h13 => ?_) (fun h13 => ?_)
          · have hq1 : ¬ en (ml n t) 1 / 4 = w := h13
            refine z_iinc X (v := nI 2) (lv' := [(4, .int (nI 2)), (3, .int (nI (en (ml n t) 0 % 4))), (0, .ref mo), (1, .int (nI t)), (2, .int (nI w))]) (k := 0) (pc' := 51) dX4_seen_48 rfl (by decide) (by decide) rfl rfl ?_
            refine z_goto X (tgt := 10) dX4_seen_51 (by decide) ?_
            refine z_iload X (pc' := 12) dX4_seen_10 0 rfl rfl ?_
            refine z_aload_n X (pc' := 13) dX4_seen_12 rfl 2 rfl rfl ?_
            refine z_get X (v := .ref (ad 16)) (pc' := 16) 0 rfl rfl inX4 16 (by decide) mF_X4_53 rfl dX4_seen_13 rfl ?_
            refine z_iload_n X (pc' := 17) dX4_seen_16 rfl 3 rfl rfl ?_
            refine z_iald X (pc' := 18) 2 0 rfl rfl (by omega) (by omega) dX4_seen_17 rfl ?_
            refine z_topi (y := nI 2) (by rw [hd.2.1, hwt]) ?_
            refine z_icmp_geN X (tgt := 54) (pc' := 21) (by omega) (by omega) dX4_seen_18 (by decide) rfl (fun h14 => ?_) (fun h14 => ?_)
            · clear h14
              refine z_iload_n X (pc' := 55) dX4_seen_54 rfl 1 rfl rfl ?_
              exact z_iret X (t1 := .int) rfl rfl () (by show _ = nI (st_seen h (ml n t) w); unfold st_seen; rw [if_neg (fun x => hq1 x.2), if_pos ⟨by omega, hq0⟩]) rfl (Nat.le_of_ble_eq_true rfl) (Nat.le_of_ble_eq_true rfl) dX4_seen_55
            · exact absurd h14 (by decide)
          · have hq1 : en (ml n t) 1 / 4 = w := h13
            refine z_aload_n X (pc' := 37) dX4_seen_36 rfl 2 rfl rfl ?_
            refine z_get X (v := .ref (ad 18)) (pc' := 40) 0 rfl rfl inX4 18 (by decide) mF_X4_59 rfl dX4_seen_37 rfl ?_
            refine z_iconst X (v := nI 2) (pc' := 41) dX4_seen_40 (by decide) rfl ?_
            refine z_iload_n X (pc' := 42) dX4_seen_41 rfl 3 rfl rfl ?_
            refine z_imul X (pc' := 43) dX4_seen_42 rfl ?_
            refine z_topi (y := nI (2 * t)) (pk_mul _ _) ?_
            refine z_iload X (pc' := 45) dX4_seen_43 0 rfl rfl ?_
            refine z_iadd X (pc' := 46) dX4_seen_45 rfl ?_
            refine z_topi (y := nI ((2 * t) + 1)) (nI_add _ _) ?_
            refine z_iald X (pc' := 47) 4 0 rfl rfl (by omega) (by omega) dX4_seen_46 rfl ?_
            refine z_topi (y := nI (en (ml n t) 1 % 4)) (hd.2.2 1 (by omega)).2 ?_
            refine z_istore_n X (lv' := [(3, .int (nI (en (ml n t) 1 % 4))), (4, .int (nI 1)), (0, .ref mo), (1, .int (nI t)), (2, .int (nI w))]) (pc' := 48) dX4_seen_47 rfl (by decide) rfl rfl ?_
            refine z_iinc X (v := nI 2) (lv' := [(4, .int (nI 2)), (3, .int (nI (en (ml n t) 1 % 4))), (0, .ref mo), (1, .int (nI t)), (2, .int (nI w))]) (k := 1) (pc' := 51) dX4_seen_48 rfl (by decide) (by decide) rfl rfl ?_
            refine z_goto X (tgt := 10) dX4_seen_51 (by decide) ?_
            refine z_iload X (pc' := 12) dX4_seen_10 0 rfl rfl ?_
            refine z_aload_n X (pc' := 13) dX4_seen_12 rfl 2 rfl rfl ?_
            refine z_get X (v := .ref (ad 16)) (pc' := 16) 0 rfl rfl inX4 16 (by decide) mF_X4_53 rfl dX4_seen_13 rfl ?_
            refine z_iload_n X (pc' := 17) dX4_seen_16 rfl 3 rfl rfl ?_
            refine z_iald X (pc' := 18) 2 0 rfl rfl (by omega) (by omega) dX4_seen_17 rfl ?_
            refine z_topi (y := nI 2) (by rw [hd.2.1, hwt]) ?_
            refine z_icmp_geN X (tgt := 54) (pc' := 21) (by omega) (by omega) dX4_seen_18 (by decide) rfl (fun h15 => ?_) (fun h15 => ?_)
            · clear h15
              refine z_iload_n X (pc' := 55) dX4_seen_54 rfl 1 rfl rfl ?_
              exact z_iret X (t1 := .int) rfl rfl () (by show _ = nI (st_seen h (ml n t) w); unfold st_seen; rw [if_pos ⟨by omega, hq1⟩]) rfl (Nat.le_of_ble_eq_true rfl) (Nat.le_of_ble_eq_true rfl) dX4_seen_55
            · exact absurd h15 (by decide)
theorem mw_comm {h i j v w : Nat} (hh : h < 4 ^ 20) (hi : i < 20) (hj : j < 20) (hne : i ≠ j) (hv : v < 4) (hw : w < 4) : mw (mw h i v) j w = mw (mw h j w) i v := by
  refine dg_ext 20 _ _ (mw_lt (mw_lt hh hi hv) hj hw) (mw_lt (mw_lt hh hj hw) hi hv) fun k hk => ?_
  have e : ∀ x, dg 4 x k = mi x (19 - k) := fun x => by unfold mi; rw [show 19 - (19 - k) = k by omega]
  rw [e, e]
  by_cases e1 : 19 - k = j
  · rw [e1, mi_mw hw, mi_mw_ne hv hi hj (Ne.symm hne), mi_mw hw]
  · rw [mi_mw_ne hw hj (by omega) e1]
    by_cases e2 : 19 - k = i
    · rw [e2, mi_mw hv, mi_mw hv]
    · rw [mi_mw_ne hv hi (by omega) e2, mi_mw_ne hv hi (by omega) e2, mi_mw_ne hw hj (by omega) e1]
theorem WS_sw {h n w r : Nat} {fa fr fw fh fW fV : Nat → Int32} (H : WS h n fa fr fw fh fW fV) (hw : w < 4) (hr : r < 16) : WS (mw (mw h (16 + w) ((mi h (16 + w) + 1) % 4)) r (mi h (16 + w))) n fa (upd fr r (nI (mi h (16 + w)))) (upd fw w (nI ((mi h (16 + w) + 1) % 4))) fh fW fV :=
  WS_reg (WS_word H hw (Nat.mod_lt _ (by decide))) hr (mi_lt _ _)
set_option maxHeartbeats 4000000 in
set_option maxRecDepth 100000 in
/-- a thread goes on -/
theorem r_goesOn (l : Launch) (D : va_G) (cI cJ : ClassId) (sz : Nat) (mo th st tol ts tf td : Nat) (ad : Nat → Nat) (h n t md : Nat) (fa fr fw fh fW fV : Nat → Int32) (gm gn ga gb : Nat → Int32) (P : Nat → List Nat) (ht : t < 4) (hmd : md < 3) (hS : Sok P h n) (hz : Sz md n) (hP : Pok P) (hQ : QRep P gm gn ga gb) (hW : WS h n fa fr fw fh fW fV) : KI l D cI cJ yX4_goesOn cX4_goesOn 8 (some .boolean) 1 24 0 0 [.ref mo, .int (nI t), .int (nI md)] [(mo, .inr (4, [.int (nI th), .ref (ad 1), .ref (ad 2), .ref (ad 3), .ref (ad 4), .int (nI st), .ref (ad 6), .ref (ad 7), .ref (ad 8), .ref (ad 9), .ref (ad 10), .ref (ad 11), .ref (ad 12), .ref (ad 13), .ref (ad 14), .ref (ad 15), .ref (ad 16), .ref (ad 17), .ref (ad 18), .int (nI tol), .int (nI ts), .int (nI tf), .int (nI td), .ref (ad 23), .ref (ad 24), .ref (ad 25), .ref (ad 26)])), (ad 1, .inl (cI, 4, .inl gm)), (ad 2, .inl (cI, 24, .inl gn)), (ad 3, .inl (cI, 24, .inl ga)), (ad 4, .inl (cI, 24, .inl gb)), (ad 13, .inl (cI, 4, .inl fa)), (ad 14, .inl (cI, 16, .inl fr)), (ad 15, .inl (cI, 4, .inl fw)), (ad 16, .inl (cI, 4, .inl fh)), (ad 17, .inl (cI, 8, .inl fW)), (ad 18, .inl (cI, 8, .inl fV))] sz (S := W6) (fun r u => rOpW (st_go P md h n t) r u) (fun u => [(mo, .inr (4, [.int (nI th), .ref (ad 1), .ref (ad 2), .ref (ad 3), .ref (ad 4), .int (nI st), .ref (ad 6), .ref (ad 7), .ref (ad 8), .ref (ad 9), .ref (ad 10), .ref (ad 11), .ref (ad 12), .ref (ad 13), .ref (ad 14), .ref (ad 15), .ref (ad 16), .ref (ad 17), .ref (ad 18), .int (nI tol), .int (nI ts), .int (nI tf), .int (nI td), .ref (ad 23), .ref (ad 24), .ref (ad 25), .ref (ad 26)])), (ad 1, .inl (cI, 4, .inl gm)), (ad 2, .inl (cI, 24, .inl gn)), (ad 3, .inl (cI, 24, .inl ga)), (ad 4, .inl (cI, 24, .inl gb)), (ad 13, .inl (cI, 4, .inl u.1)), (ad 14, .inl (cI, 16, .inl u.2.1)), (ad 15, .inl (cI, 4, .inl u.2.2.1)), (ad 16, .inl (cI, 4, .inl u.2.2.2.1)), (ad 17, .inl (cI, 8, .inl u.2.2.2.2.1)), (ad 18, .inl (cI, 8, .inl u.2.2.2.2.2))]) := by
  refine zMetI (lv := [(0, .ref mo), (1, .int (nI t)), (2, .int (nI md))]) NS0_ok (by decide) rfl (Nat.le_of_ble_eq_true rfl) rfl ?_
  intro p e s m args below meth c A X hin hA
  have hd := hW.1 t ht
  have hLs : ∀ t, t < 4 → Lok (ml n t) := fun t ht => (hS.2.2 t ht).1
  have hp8 := pl_lt (ml n t)
  have hw4 := (hLs t ht).1
  have h6 := (hP t ht).1
  have hple := (hS.2.2 t ht).2
  refine z_aload_n X (pc' := 1) dX4_goesOn_0 rfl 0 rfl rfl ?_
  refine z_get X (v := .ref (ad 13)) (pc' := 4) 0 rfl rfl inX4 13 (by decide) mF_X4_44 rfl dX4_goesOn_1 rfl ?_
  refine z_iload_n X (pc' := 5) dX4_goesOn_4 rfl 1 rfl rfl ?_
  refine z_iald X (pc' := 6) 5 0 rfl rfl (by omega) (by omega) dX4_goesOn_5 rfl ?_
  refine z_topi (y := nI (pl (ml n t))) hd.1 ?_
  refine z_aload_n X (pc' := 7) dX4_goesOn_6 rfl 0 rfl rfl ?_
  refine z_get X (v := .ref (ad 1)) (pc' := 10) 0 rfl rfl inX4 1 (by decide) mF_X4_7 rfl dX4_goesOn_7 rfl ?_
  refine z_iload_n X (pc' := 11) dX4_goesOn_10 rfl 1 rfl rfl ?_
  refine z_iald X (pc' := 12) 1 0 rfl rfl (by omega) (by omega) dX4_goesOn_11 rfl ?_
  refine z_topi (y := nI ((P t).length)) (hQ t ht).1 ?_
  refine z_icmp_neN X (tgt := 17) (pc' := 15) (by omega) (by omega) dX4_goesOn_12 (by decide) rfl (fun h1 => ?_) (fun h1 => ?_)
  · have hlt : pl (ml n t) < (P t).length := by omega
    obtain ⟨k0, hk0⟩ : ∃ k0, (P t)[pl (ml n t)]? = some k0 := ⟨_, List.getElem?_eq_getElem hlt⟩
    have hk112 : k0 < 112 := (hP t ht).2 k0 (List.mem_of_getElem? hk0)
    have hgo : st_go P md h n t = st_do md h n t k0 (P t).length := by unfold st_go; rw [hk0]
    obtain ⟨hg1, hg2, hg3⟩ := (hQ t ht).2 _ _ hk0
    refine z_bipush X (v := nI 6) (pc' := 19) dX4_goesOn_17 (by decide) rfl ?_
    refine z_iload_n X (pc' := 20) dX4_goesOn_19 rfl 1 rfl rfl ?_
    refine z_imul X (pc' := 21) dX4_goesOn_20 rfl ?_
    refine z_topi (y := nI (6 * t)) (pk_mul _ _) ?_
    refine z_aload_n X (pc' := 22) dX4_goesOn_21 rfl 0 rfl rfl ?_
    refine z_get X (v := .ref (ad 13)) (pc' := 25) 0 rfl rfl inX4 13 (by decide) mF_X4_44 rfl dX4_goesOn_22 rfl ?_
    refine z_iload_n X (pc' := 26) dX4_goesOn_25 rfl 1 rfl rfl ?_
    refine z_iald X (pc' := 27) 5 0 rfl rfl (by omega) (by omega) dX4_goesOn_26 rfl ?_
    refine z_topi (y := nI (pl (ml n t))) hd.1 ?_
    refine z_iadd X (pc' := 28) dX4_goesOn_27 rfl ?_
    refine z_topi (y := nI ((6 * t) + (pl (ml n t)))) (nI_add _ _) ?_
    refine z_istore_n X (lv' := [(3, .int (nI ((6 * t) + (pl (ml n t))))), (0, .ref mo), (1, .int (nI t)), (2, .int (nI md))]) (pc' := 29) dX4_goesOn_28 rfl (by decide) rfl rfl ?_
    refine z_aload_n X (pc' := 30) dX4_goesOn_29 rfl 1 rfl rfl ?_
    refine z_get X (v := .ref (ad 2)) (pc' := 33) 0 rfl rfl inX4 2 (by decide) mF_X4_13 rfl dX4_goesOn_30 rfl ?_
    refine z_iload_n X (pc' := 34) dX4_goesOn_33 rfl 0 rfl rfl ?_
    refine z_iald X (pc' := 35) 2 0 rfl rfl (by omega) (by omega) dX4_goesOn_34 rfl ?_
    refine z_topi (y := nI (k0 / 16)) hg1 ?_
    refine z_istore X (lv' := [(4, .int (nI (k0 / 16))), (3, .int (nI ((6 * t) + (pl (ml n t))))), (0, .ref mo), (1, .int (nI t)), (2, .int (nI md))]) (pc' := 37) dX4_goesOn_35 (by decide) rfl rfl ?_
    refine z_aload_n X (pc' := 38) dX4_goesOn_37 rfl 2 rfl rfl ?_
    refine z_get X (v := .ref (ad 3)) (pc' := 41) 0 rfl rfl inX4 3 (by decide) mF_X4_16 rfl dX4_goesOn_38 rfl ?_
    refine z_iload_n X (pc' := 42) dX4_goesOn_41 rfl 1 rfl rfl ?_
    refine z_iald X (pc' := 43) 3 0 rfl rfl (by omega) (by omega) dX4_goesOn_42 rfl ?_
    refine z_topi (y := nI (k0 / 4 % 4)) hg2 ?_
    refine z_istore X (lv' := [(5, .int (nI (k0 / 4 % 4))), (4, .int (nI (k0 / 16))), (3, .int (nI ((6 * t) + (pl (ml n t))))), (0, .ref mo), (1, .int (nI t)), (2, .int (nI md))]) (pc' := 45) dX4_goesOn_43 (by decide) rfl rfl ?_
    refine z_iconst X (v := nI 4) (pc' := 46) dX4_goesOn_45 (by decide) rfl ?_
    refine z_iload_n X (pc' := 47) dX4_goesOn_46 rfl 4 rfl rfl ?_
    refine z_imul X (pc' := 48) dX4_goesOn_47 rfl ?_
    refine z_topi (y := nI (4 * t)) (pk_mul _ _) ?_
    refine z_aload_n X (pc' := 49) dX4_goesOn_48 rfl 3 rfl rfl ?_
    refine z_get X (v := .ref (ad 4)) (pc' := 52) 0 rfl rfl inX4 4 (by decide) mF_X4_19 rfl dX4_goesOn_49 rfl ?_
    refine z_iload_n X (pc' := 53) dX4_goesOn_52 rfl 2 rfl rfl ?_
    refine z_iald X (pc' := 54) 4 0 rfl rfl (by omega) (by omega) dX4_goesOn_53 rfl ?_
    refine z_topi (y := nI (k0 % 4)) hg3 ?_
    refine z_iadd X (pc' := 55) dX4_goesOn_54 rfl ?_
    refine z_topi (y := nI ((4 * t) + (k0 % 4))) (nI_add _ _) ?_
    refine z_istore X (lv' := [(6, .int (nI ((4 * t) + (k0 % 4)))), (5, .int (nI (k0 / 4 % 4))), (4, .int (nI (k0 / 16))), (3, .int (nI ((6 * t) + (pl (ml n t))))), (0, .ref mo), (1, .int (nI t)), (2, .int (nI md))]) (pc' := 57) dX4_goesOn_55 (by decide) rfl rfl ?_
    rcases (show k0 / 16 = 0 ∨ k0 / 16 = 1 ∨ k0 / 16 = 2 ∨ k0 / 16 = 3 ∨ k0 / 16 = 4 ∨ k0 / 16 = 5 ∨ k0 / 16 = 6 by omega) with hk | hk | hk | hk | hk | hk | hk
    · refine z_lve (lv' := [(6, .int (nI ((4 * t) + (k0 % 4)))), (5, .int (nI (k0 / 4 % 4))), (4, .int (nI 0)), (3, .int (nI ((6 * t) + (pl (ml n t))))), (0, .ref mo), (1, .int (nI t)), (2, .int (nI md))]) (by rw [hk]) ?_
      refine z_iload X (pc' := 59) dX4_goesOn_57 2 rfl rfl ?_
      refine z_iconst X (v := nI 1) (pc' := 60) dX4_goesOn_59 (by decide) rfl ?_
      refine z_icmp_gtN X (tgt := 73) (pc' := 63) (by omega) (by omega) dX4_goesOn_60 (by decide) rfl (fun h2 => ?_) (fun h2 => ?_)
      · exact absurd h2 (by decide)
      · clear h2
        refine z_aload_n X (pc' := 64) dX4_goesOn_63 rfl 4 rfl rfl ?_
        refine z_get X (v := .ref (ad 16)) (pc' := 67) 0 rfl rfl inX4 16 (by decide) mF_X4_53 rfl dX4_goesOn_64 rfl ?_
        refine z_iload_n X (pc' := 68) dX4_goesOn_67 rfl 5 rfl rfl ?_
        refine z_iald X (pc' := 69) 8 0 rfl rfl (by omega) (by omega) dX4_goesOn_68 rfl ?_
        refine z_topi (y := nI (wt (ml n t))) hd.2.1 ?_
        refine z_iconst X (v := nI 2) (pc' := 70) dX4_goesOn_69 (by decide) rfl ?_
        refine z_icmp_eqN X (tgt := 94) (pc' := 73) (by omega) (by omega) dX4_goesOn_70 (by decide) rfl (fun h3 => ?_) (fun h3 => ?_)
        · have hw2 : wt (ml n t) = 2 := h3
          refine z_iconst X (v := nI 0) (pc' := 95) dX4_goesOn_94 (by decide) rfl ?_
          refine z_ws (ws' := [(mo, .inr (4, [.int (nI th), .ref (ad 1), .ref (ad 2), .ref (ad 3), .ref (ad 4), .int (nI st), .ref (ad 6), .ref (ad 7), .ref (ad 8), .ref (ad 9), .ref (ad 10), .ref (ad 11), .ref (ad 12), .ref (ad 13), .ref (ad 14), .ref (ad 15), .ref (ad 16), .ref (ad 17), .ref (ad 18), .int (nI tol), .int (nI ts), .int (nI tf), .int (nI td), .ref (ad 23), .ref (ad 24), .ref (ad 25), .ref (ad 26)])), (ad 1, .inl (cI, 4, .inl gm)), (ad 2, .inl (cI, 24, .inl gn)), (ad 3, .inl (cI, 24, .inl ga)), (ad 4, .inl (cI, 24, .inl gb)), (ad 13, .inl (cI, 4, .inl fa)), (ad 14, .inl (cI, 16, .inl fr)), (ad 15, .inl (cI, 4, .inl fw)), (ad 16, .inl (cI, 4, .inl fh)), (ad 17, .inl (cI, 8, .inl fW)), (ad 18, .inl (cI, 8, .inl fV))]) [0, 1, 2, 3, 4, 5, 6, 7, 8, 9, 10] (by decide) rfl ?_
          exact z_iret X (t1 := .boolean) rfl rfl (fa, fr, fw, fh, fW, fV) (by show rOpW (st_go P md h n t) _ _; rw [hgo]; unfold st_do; rw [if_pos hk]; unfold st_store; rw [if_neg (fun g => by have := hz g t ht; omega), if_pos (by omega)]; exact rfl) rfl (Nat.le_of_ble_eq_true rfl) (Nat.le_of_ble_eq_true rfl) dX4_goesOn_95
        · have hw2 : ¬ wt (ml n t) = 2 := h3
          refine z_iload X (pc' := 75) dX4_goesOn_73 2 rfl rfl ?_
          refine z_iconst X (v := nI 3) (pc' := 76) dX4_goesOn_75 (by decide) rfl ?_
          refine z_icmp_ltN X (tgt := 96) (pc' := 79) (by omega) (by omega) dX4_goesOn_76 (by decide) rfl (fun h4 => ?_) (fun h4 => ?_)
          · clear h4
            refine z_aload_n X (pc' := 97) dX4_goesOn_96 rfl 4 rfl rfl ?_
            refine z_get X (v := .ref (ad 13)) (pc' := 100) 0 rfl rfl inX4 13 (by decide) mF_X4_44 rfl dX4_goesOn_97 rfl ?_
            refine z_iload_n X (pc' := 101) dX4_goesOn_100 rfl 5 rfl rfl ?_
            refine z_dup2_11 X (pc' := 102) dX4_goesOn_101 rfl rfl rfl ?_
            refine z_iald X (pc' := 103) 5 0 rfl rfl (by omega) (by omega) dX4_goesOn_102 rfl ?_
            refine z_topi (y := nI (pl (ml n t))) hd.1 ?_
            refine z_iconst X (v := nI 1) (pc' := 104) dX4_goesOn_103 (by decide) rfl ?_
            refine z_iadd X (pc' := 105) dX4_goesOn_104 rfl ?_
            refine z_topi (y := nI ((pl (ml n t)) + 1)) (nI_add _ _) ?_
            refine z_iast X (ws' := [(mo, .inr (4, [.int (nI th), .ref (ad 1), .ref (ad 2), .ref (ad 3), .ref (ad 4), .int (nI st), .ref (ad 6), .ref (ad 7), .ref (ad 8), .ref (ad 9), .ref (ad 10), .ref (ad 11), .ref (ad 12), .ref (ad 13), .ref (ad 14), .ref (ad 15), .ref (ad 16), .ref (ad 17), .ref (ad 18), .int (nI tol), .int (nI ts), .int (nI tf), .int (nI td), .ref (ad 23), .ref (ad 24), .ref (ad 25), .ref (ad 26)])), (ad 1, .inl (cI, 4, .inl gm)), (ad 2, .inl (cI, 24, .inl gn)), (ad 3, .inl (cI, 24, .inl ga)), (ad 4, .inl (cI, 24, .inl gb)), (ad 13, .inl (cI, 4, .inl (upd fa t (nI ((pl (ml n t)) + 1))))), (ad 14, .inl (cI, 16, .inl fr)), (ad 15, .inl (cI, 4, .inl fw)), (ad 16, .inl (cI, 4, .inl fh)), (ad 17, .inl (cI, 8, .inl fW)), (ad 18, .inl (cI, 8, .inl fV))]) (pc' := 106) 5 0 rfl rfl (by omega) (by omega) dX4_goesOn_105 rfl rfl ?_
            refine z_iload X (pc' := 108) dX4_goesOn_106 2 rfl rfl ?_
            refine z_tableIn X (tgt := 148) dX4_goesOn_108 (by decide) (by decide) rfl (by decide) ?_
            refine z_aload_n X (pc' := 149) dX4_goesOn_148 rfl 4 rfl rfl ?_
            refine z_iload_n X (pc' := 150) dX4_goesOn_149 rfl 5 rfl rfl ?_
            refine z_iload X (pc' := 152) dX4_goesOn_150 1 rfl rfl ?_
            refine z_aload_n X (pc' := 153) dX4_goesOn_152 rfl 4 rfl rfl ?_
            refine z_get X (v := .ref (ad 4)) (pc' := 156) 0 rfl rfl inX4 4 (by decide) mF_X4_19 rfl dX4_goesOn_153 rfl ?_
            refine z_iload_n X (pc' := 157) dX4_goesOn_156 rfl 3 rfl rfl ?_
            refine z_iald X (pc' := 158) 4 0 rfl rfl (by omega) (by omega) dX4_goesOn_157 rfl ?_
            refine z_topi (y := nI (k0 % 4)) hg3 ?_
            refine z_iload_n X (pc' := 159) dX4_goesOn_158 rfl 6 rfl rfl ?_
            refine z_callVv X (pc' := 162) (fun sz => r_store l D cI cJ sz mo th st tol ts tf td ad t (k0 / 4 % 4) (k0 % 4) md (wt (ml n t)) fw fh fW fV ht (by omega) hd.2.1 (by by_cases g : md = 0; exact Or.inl g; exact Or.inr (by omega)) hmd) (zcwV X TTg 4 mL_X4_92 mI_X4_store mS_X4_store mN_X4 mK_X4_store rfl rfl (by decide +kernel) ⟨(Nat.le_of_ble_eq_true rfl), (Nat.le_of_ble_eq_true rfl)⟩) (wr := [(ad 1, .inl (cI, 4, .inl gm)), (ad 2, .inl (cI, 24, .inl gn)), (ad 3, .inl (cI, 24, .inl ga)), (ad 4, .inl (cI, 24, .inl gb)), (ad 13, .inl (cI, 4, .inl (upd fa t (nI ((pl (ml n t)) + 1))))), (ad 14, .inl (cI, 16, .inl fr))]) [0, 7, 8, 9, 10] [1, 2, 3, 4, 5, 6] rfl rfl rfl rfl (by decide) 4 0 rfl rfl rfl rfl rfl (Nat.le_of_ble_eq_true rfl) dX4_goesOn_159 ⟨Nat.le_of_ble_eq_true rfl, Nat.le_of_ble_eq_true rfl⟩ rfl (fun u hu => ?_)
            refine z_wse (ws' := [(ad 1, .inl (cI, 4, .inl gm)), (ad 2, .inl (cI, 24, .inl gn)), (ad 3, .inl (cI, 24, .inl ga)), (ad 4, .inl (cI, 24, .inl gb)), (ad 13, .inl (cI, 4, .inl (upd fa t (nI ((pl (ml n t)) + 1))))), (ad 14, .inl (cI, 16, .inl fr)), (mo, .inr (4, [.int (nI th), .ref (ad 1), .ref (ad 2), .ref (ad 3), .ref (ad 4), .int (nI st), .ref (ad 6), .ref (ad 7), .ref (ad 8), .ref (ad 9), .ref (ad 10), .ref (ad 11), .ref (ad 12), .ref (ad 13), .ref (ad 14), .ref (ad 15), .ref (ad 16), .ref (ad 17), .ref (ad 18), .int (nI tol), .int (nI ts), .int (nI tf), .int (nI td), .ref (ad 23), .ref (ad 24), .ref (ad 25), .ref (ad 26)])), (ad 15, .inl (cI, 4, .inl u.1)), (ad 16, .inl (cI, 4, .inl u.2.1)), (ad 17, .inl (cI, 8, .inl u.2.2.1)), (ad 18, .inl (cI, 8, .inl u.2.2.2))]) rfl ?_
            refine z_goto X (tgt := 325) dX4_goesOn_162 (by decide) ?_
            refine z_iconst X (v := nI 1) (pc' := 326) dX4_goesOn_325 (by decide) rfl ?_
            refine z_ws (ws' := [(mo, .inr (4, [.int (nI th), .ref (ad 1), .ref (ad 2), .ref (ad 3), .ref (ad 4), .int (nI st), .ref (ad 6), .ref (ad 7), .ref (ad 8), .ref (ad 9), .ref (ad 10), .ref (ad 11), .ref (ad 12), .ref (ad 13), .ref (ad 14), .ref (ad 15), .ref (ad 16), .ref (ad 17), .ref (ad 18), .int (nI tol), .int (nI ts), .int (nI tf), .int (nI td), .ref (ad 23), .ref (ad 24), .ref (ad 25), .ref (ad 26)])), (ad 1, .inl (cI, 4, .inl gm)), (ad 2, .inl (cI, 24, .inl gn)), (ad 3, .inl (cI, 24, .inl ga)), (ad 4, .inl (cI, 24, .inl gb)), (ad 13, .inl (cI, 4, .inl (upd fa t (nI ((pl (ml n t)) + 1))))), (ad 14, .inl (cI, 16, .inl fr)), (ad 15, .inl (cI, 4, .inl u.1)), (ad 16, .inl (cI, 4, .inl u.2.1)), (ad 17, .inl (cI, 8, .inl u.2.2.1)), (ad 18, .inl (cI, 8, .inl u.2.2.2))]) [6, 0, 1, 2, 3, 4, 5, 7, 8, 9, 10] (by decide) rfl ?_
            exact z_iret X (t1 := .boolean) rfl rfl (upd fa t (nI ((pl (ml n t)) + 1)), fr, u.1, u.2.1, u.2.2.1, u.2.2.2) (by show rOpW (st_go P md h n t) _ _; rw [hgo]; unfold st_do; rw [if_pos hk]; obtain ⟨q, hq⟩ : ∃ q, st_store md h n t (k0 / 4 % 4) (k0 % 4) = some q := (by unfold st_store; split; exact ⟨_, rfl⟩; rw [if_neg (by omega)]; exact ⟨_, rfl⟩); rw [hq, show min (pl (ml n t) + 1) (P t).length = pl (ml n t) + 1 by omega]; have hs1 := Sok_store hS ht (by omega) (by omega) hq; refine ⟨rfl, WS_fin (h := q.1) (n := q.2) ?_ (hs1.1.2.2 t ht).1 ht (by omega)⟩; rcases WS_store hW hLs ht (by omega) (by omega) hq with ⟨g1, g2⟩ | ⟨g1, g2, g3⟩; (rcases hu with ⟨u1, u2⟩ | ⟨u1, u2⟩; (rw [u2]; exact g2); exact absurd g1 u1); (rcases hu with ⟨u1, u2⟩ | ⟨u1, u2⟩; exact absurd u1 g1; (rw [u2]; exact g3))) rfl (Nat.le_of_ble_eq_true rfl) (Nat.le_of_ble_eq_true rfl) dX4_goesOn_326
          · exact absurd h4 (by decide)
    · refine z_lve (lv' := [(6, .int (nI ((4 * t) + (k0 % 4)))), (5, .int (nI (k0 / 4 % 4))), (4, .int (nI 1)), (3, .int (nI ((6 * t) + (pl (ml n t))))), (0, .ref mo), (1, .int (nI t)), (2, .int (nI md))]) (by rw [hk]) ?_
      refine z_iload X (pc' := 59) dX4_goesOn_57 2 rfl rfl ?_
      refine z_iconst X (v := nI 1) (pc' := 60) dX4_goesOn_59 (by decide) rfl ?_
      refine z_icmp_gtN X (tgt := 73) (pc' := 63) (by omega) (by omega) dX4_goesOn_60 (by decide) rfl (fun h5 => ?_) (fun h5 => ?_)
      · exact absurd h5 (by decide)
      · clear h5
        refine z_aload_n X (pc' := 64) dX4_goesOn_63 rfl 4 rfl rfl ?_
        refine z_get X (v := .ref (ad 16)) (pc' := 67) 0 rfl rfl inX4 16 (by decide) mF_X4_53 rfl dX4_goesOn_64 rfl ?_
        refine z_iload_n X (pc' := 68) dX4_goesOn_67 rfl 5 rfl rfl ?_
        refine z_iald X (pc' := 69) 8 0 rfl rfl (by omega) (by omega) dX4_goesOn_68 rfl ?_
        refine z_topi (y := nI (wt (ml n t))) hd.2.1 ?_
        refine z_iconst X (v := nI 2) (pc' := 70) dX4_goesOn_69 (by decide) rfl ?_
        refine z_icmp_eqN X (tgt := 94) (pc' := 73) (by omega) (by omega) dX4_goesOn_70 (by decide) rfl (fun h6 => ?_) (fun h6 => ?_)
        · have hw2 : wt (ml n t) = 2 := h6
          refine z_iconst X (v := nI 0) (pc' := 95) dX4_goesOn_94 (by decide) rfl ?_
          refine z_ws (ws' := [(mo, .inr (4, [.int (nI th), .ref (ad 1), .ref (ad 2), .ref (ad 3), .ref (ad 4), .int (nI st), .ref (ad 6), .ref (ad 7), .ref (ad 8), .ref (ad 9), .ref (ad 10), .ref (ad 11), .ref (ad 12), .ref (ad 13), .ref (ad 14), .ref (ad 15), .ref (ad 16), .ref (ad 17), .ref (ad 18), .int (nI tol), .int (nI ts), .int (nI tf), .int (nI td), .ref (ad 23), .ref (ad 24), .ref (ad 25), .ref (ad 26)])), (ad 1, .inl (cI, 4, .inl gm)), (ad 2, .inl (cI, 24, .inl gn)), (ad 3, .inl (cI, 24, .inl ga)), (ad 4, .inl (cI, 24, .inl gb)), (ad 13, .inl (cI, 4, .inl fa)), (ad 14, .inl (cI, 16, .inl fr)), (ad 15, .inl (cI, 4, .inl fw)), (ad 16, .inl (cI, 4, .inl fh)), (ad 17, .inl (cI, 8, .inl fW)), (ad 18, .inl (cI, 8, .inl fV))]) [0, 1, 2, 3, 4, 5, 6, 7, 8, 9, 10] (by decide) rfl ?_
          exact z_iret X (t1 := .boolean) rfl rfl (fa, fr, fw, fh, fW, fV) (by show rOpW (st_go P md h n t) _ _; rw [hgo]; unfold st_do; rw [if_neg (by omega), if_pos hk]; unfold st_store; rw [if_neg (fun g => by have := hz g t ht; omega), if_pos (by omega)]; exact rfl) rfl (Nat.le_of_ble_eq_true rfl) (Nat.le_of_ble_eq_true rfl) dX4_goesOn_95
        · have hw2 : ¬ wt (ml n t) = 2 := h6
          refine z_iload X (pc' := 75) dX4_goesOn_73 2 rfl rfl ?_
          refine z_iconst X (v := nI 3) (pc' := 76) dX4_goesOn_75 (by decide) rfl ?_
          refine z_icmp_ltN X (tgt := 96) (pc' := 79) (by omega) (by omega) dX4_goesOn_76 (by decide) rfl (fun h7 => ?_) (fun h7 => ?_)
          · clear h7
            refine z_aload_n X (pc' := 97) dX4_goesOn_96 rfl 4 rfl rfl ?_
            refine z_get X (v := .ref (ad 13)) (pc' := 100) 0 rfl rfl inX4 13 (by decide) mF_X4_44 rfl dX4_goesOn_97 rfl ?_
            refine z_iload_n X (pc' := 101) dX4_goesOn_100 rfl 5 rfl rfl ?_
            refine z_dup2_11 X (pc' := 102) dX4_goesOn_101 rfl rfl rfl ?_
            refine z_iald X (pc' := 103) 5 0 rfl rfl (by omega) (by omega) dX4_goesOn_102 rfl ?_
            refine z_topi (y := nI (pl (ml n t))) hd.1 ?_
            refine z_iconst X (v := nI 1) (pc' := 104) dX4_goesOn_103 (by decide) rfl ?_
            refine z_iadd X (pc' := 105) dX4_goesOn_104 rfl ?_
            refine z_topi (y := nI ((pl (ml n t)) + 1)) (nI_add _ _) ?_
            refine z_iast X (ws' := [(mo, .inr (4, [.int (nI th), .ref (ad 1), .ref (ad 2), .ref (ad 3), .ref (ad 4), .int (nI st), .ref (ad 6), .ref (ad 7), .ref (ad 8), .ref (ad 9), .ref (ad 10), .ref (ad 11), .ref (ad 12), .ref (ad 13), .ref (ad 14), .ref (ad 15), .ref (ad 16), .ref (ad 17), .ref (ad 18), .int (nI tol), .int (nI ts), .int (nI tf), .int (nI td), .ref (ad 23), .ref (ad 24), .ref (ad 25), .ref (ad 26)])), (ad 1, .inl (cI, 4, .inl gm)), (ad 2, .inl (cI, 24, .inl gn)), (ad 3, .inl (cI, 24, .inl ga)), (ad 4, .inl (cI, 24, .inl gb)), (ad 13, .inl (cI, 4, .inl (upd fa t (nI ((pl (ml n t)) + 1))))), (ad 14, .inl (cI, 16, .inl fr)), (ad 15, .inl (cI, 4, .inl fw)), (ad 16, .inl (cI, 4, .inl fh)), (ad 17, .inl (cI, 8, .inl fW)), (ad 18, .inl (cI, 8, .inl fV))]) (pc' := 106) 5 0 rfl rfl (by omega) (by omega) dX4_goesOn_105 rfl rfl ?_
            refine z_iload X (pc' := 108) dX4_goesOn_106 2 rfl rfl ?_
            refine z_tableIn X (tgt := 165) dX4_goesOn_108 (by decide) (by decide) rfl (by decide) ?_
            refine z_aload_n X (pc' := 166) dX4_goesOn_165 rfl 4 rfl rfl ?_
            refine z_iload_n X (pc' := 167) dX4_goesOn_166 rfl 5 rfl rfl ?_
            refine z_iload X (pc' := 169) dX4_goesOn_167 1 rfl rfl ?_
            refine z_aload_n X (pc' := 170) dX4_goesOn_169 rfl 4 rfl rfl ?_
            refine z_get X (v := .ref (ad 14)) (pc' := 173) 0 rfl rfl inX4 14 (by decide) mF_X4_47 rfl dX4_goesOn_170 rfl ?_
            refine z_iload X (pc' := 175) dX4_goesOn_173 0 rfl rfl ?_
            refine z_iald X (pc' := 176) 6 0 rfl rfl (by omega) (by omega) dX4_goesOn_175 rfl ?_
            refine z_topi (y := nI (mi h (4 * t + k0 % 4))) (hW.2.1 _ (by omega)) ?_
            refine z_iload_n X (pc' := 177) dX4_goesOn_176 rfl 6 rfl rfl ?_
            refine z_callVv X (pc' := 180) (fun sz => r_store l D cI cJ sz mo th st tol ts tf td ad t (k0 / 4 % 4) (mi h (4 * t + k0 % 4)) md (wt (ml n t)) fw fh fW fV ht (by omega) hd.2.1 (by by_cases g : md = 0; exact Or.inl g; exact Or.inr (by omega)) hmd) (zcwV X TTg 4 mL_X4_92 mI_X4_store mS_X4_store mN_X4 mK_X4_store rfl rfl (by decide +kernel) ⟨(Nat.le_of_ble_eq_true rfl), (Nat.le_of_ble_eq_true rfl)⟩) (wr := [(ad 1, .inl (cI, 4, .inl gm)), (ad 2, .inl (cI, 24, .inl gn)), (ad 3, .inl (cI, 24, .inl ga)), (ad 4, .inl (cI, 24, .inl gb)), (ad 13, .inl (cI, 4, .inl (upd fa t (nI ((pl (ml n t)) + 1))))), (ad 14, .inl (cI, 16, .inl fr))]) [0, 7, 8, 9, 10] [1, 2, 3, 4, 5, 6] rfl rfl rfl rfl (by decide) 4 0 rfl rfl rfl rfl rfl (Nat.le_of_ble_eq_true rfl) dX4_goesOn_177 ⟨Nat.le_of_ble_eq_true rfl, Nat.le_of_ble_eq_true rfl⟩ rfl (fun u hu => ?_)
            refine z_wse (ws' := [(ad 1, .inl (cI, 4, .inl gm)), (ad 2, .inl (cI, 24, .inl gn)), (ad 3, .inl (cI, 24, .inl ga)), (ad 4, .inl (cI, 24, .inl gb)), (ad 13, .inl (cI, 4, .inl (upd fa t (nI ((pl (ml n t)) + 1))))), (ad 14, .inl (cI, 16, .inl fr)), (mo, .inr (4, [.int (nI th), .ref (ad 1), .ref (ad 2), .ref (ad 3), .ref (ad 4), .int (nI st), .ref (ad 6), .ref (ad 7), .ref (ad 8), .ref (ad 9), .ref (ad 10), .ref (ad 11), .ref (ad 12), .ref (ad 13), .ref (ad 14), .ref (ad 15), .ref (ad 16), .ref (ad 17), .ref (ad 18), .int (nI tol), .int (nI ts), .int (nI tf), .int (nI td), .ref (ad 23), .ref (ad 24), .ref (ad 25), .ref (ad 26)])), (ad 15, .inl (cI, 4, .inl u.1)), (ad 16, .inl (cI, 4, .inl u.2.1)), (ad 17, .inl (cI, 8, .inl u.2.2.1)), (ad 18, .inl (cI, 8, .inl u.2.2.2))]) rfl ?_
            refine z_goto X (tgt := 325) dX4_goesOn_180 (by decide) ?_
            refine z_iconst X (v := nI 1) (pc' := 326) dX4_goesOn_325 (by decide) rfl ?_
            refine z_ws (ws' := [(mo, .inr (4, [.int (nI th), .ref (ad 1), .ref (ad 2), .ref (ad 3), .ref (ad 4), .int (nI st), .ref (ad 6), .ref (ad 7), .ref (ad 8), .ref (ad 9), .ref (ad 10), .ref (ad 11), .ref (ad 12), .ref (ad 13), .ref (ad 14), .ref (ad 15), .ref (ad 16), .ref (ad 17), .ref (ad 18), .int (nI tol), .int (nI ts), .int (nI tf), .int (nI td), .ref (ad 23), .ref (ad 24), .ref (ad 25), .ref (ad 26)])), (ad 1, .inl (cI, 4, .inl gm)), (ad 2, .inl (cI, 24, .inl gn)), (ad 3, .inl (cI, 24, .inl ga)), (ad 4, .inl (cI, 24, .inl gb)), (ad 13, .inl (cI, 4, .inl (upd fa t (nI ((pl (ml n t)) + 1))))), (ad 14, .inl (cI, 16, .inl fr)), (ad 15, .inl (cI, 4, .inl u.1)), (ad 16, .inl (cI, 4, .inl u.2.1)), (ad 17, .inl (cI, 8, .inl u.2.2.1)), (ad 18, .inl (cI, 8, .inl u.2.2.2))]) [6, 0, 1, 2, 3, 4, 5, 7, 8, 9, 10] (by decide) rfl ?_
            exact z_iret X (t1 := .boolean) rfl rfl (upd fa t (nI ((pl (ml n t)) + 1)), fr, u.1, u.2.1, u.2.2.1, u.2.2.2) (by show rOpW (st_go P md h n t) _ _; rw [hgo]; unfold st_do; rw [if_neg (by omega), if_pos hk]; obtain ⟨q, hq⟩ : ∃ q, st_store md h n t (k0 / 4 % 4) (mi h (4 * t + k0 % 4)) = some q := (by unfold st_store; split; exact ⟨_, rfl⟩; rw [if_neg (by omega)]; exact ⟨_, rfl⟩); rw [hq, show min (pl (ml n t) + 1) (P t).length = pl (ml n t) + 1 by omega]; have hs1 := Sok_store hS ht (by omega) (mi_lt _ _) hq; refine ⟨rfl, WS_fin (h := q.1) (n := q.2) ?_ (hs1.1.2.2 t ht).1 ht (by omega)⟩; rcases WS_store hW hLs ht (by omega) (mi_lt _ _) hq with ⟨g1, g2⟩ | ⟨g1, g2, g3⟩; (rcases hu with ⟨u1, u2⟩ | ⟨u1, u2⟩; (rw [u2]; exact g2); exact absurd g1 u1); (rcases hu with ⟨u1, u2⟩ | ⟨u1, u2⟩; exact absurd u1 g1; (rw [u2]; exact g3))) rfl (Nat.le_of_ble_eq_true rfl) (Nat.le_of_ble_eq_true rfl) dX4_goesOn_326
          · exact absurd h7 (by decide)
    · refine z_lve (lv' := [(6, .int (nI ((4 * t) + (k0 % 4)))), (5, .int (nI (k0 / 4 % 4))), (4, .int (nI 2)), (3, .int (nI ((6 * t) + (pl (ml n t))))), (0, .ref mo), (1, .int (nI t)), (2, .int (nI md))]) (by rw [hk]) ?_
      refine z_iload X (pc' := 59) dX4_goesOn_57 2 rfl rfl ?_
      refine z_iconst X (v := nI 1) (pc' := 60) dX4_goesOn_59 (by decide) rfl ?_
      refine z_icmp_gtN X (tgt := 73) (pc' := 63) (by omega) (by omega) dX4_goesOn_60 (by decide) rfl (fun h8 => ?_) (fun h8 => ?_)
      · clear h8
        refine z_iload X (pc' := 75) dX4_goesOn_73 2 rfl rfl ?_
        refine z_iconst X (v := nI 3) (pc' := 76) dX4_goesOn_75 (by decide) rfl ?_
        refine z_icmp_ltN X (tgt := 96) (pc' := 79) (by omega) (by omega) dX4_goesOn_76 (by decide) rfl (fun h9 => ?_) (fun h9 => ?_)
        · clear h9
          refine z_aload_n X (pc' := 97) dX4_goesOn_96 rfl 4 rfl rfl ?_
          refine z_get X (v := .ref (ad 13)) (pc' := 100) 0 rfl rfl inX4 13 (by decide) mF_X4_44 rfl dX4_goesOn_97 rfl ?_
          refine z_iload_n X (pc' := 101) dX4_goesOn_100 rfl 5 rfl rfl ?_
          refine z_dup2_11 X (pc' := 102) dX4_goesOn_101 rfl rfl rfl ?_
          refine z_iald X (pc' := 103) 5 0 rfl rfl (by omega) (by omega) dX4_goesOn_102 rfl ?_
          refine z_topi (y := nI (pl (ml n t))) hd.1 ?_
          refine z_iconst X (v := nI 1) (pc' := 104) dX4_goesOn_103 (by decide) rfl ?_
          refine z_iadd X (pc' := 105) dX4_goesOn_104 rfl ?_
          refine z_topi (y := nI ((pl (ml n t)) + 1)) (nI_add _ _) ?_
          refine z_iast X (ws' := [(mo, .inr (4, [.int (nI th), .ref (ad 1), .ref (ad 2), .ref (ad 3), .ref (ad 4), .int (nI st), .ref (ad 6), .ref (ad 7), .ref (ad 8), .ref (ad 9), .ref (ad 10), .ref (ad 11), .ref (ad 12), .ref (ad 13), .ref (ad 14), .ref (ad 15), .ref (ad 16), .ref (ad 17), .ref (ad 18), .int (nI tol), .int (nI ts), .int (nI tf), .int (nI td), .ref (ad 23), .ref (ad 24), .ref (ad 25), .ref (ad 26)])), (ad 1, .inl (cI, 4, .inl gm)), (ad 2, .inl (cI, 24, .inl gn)), (ad 3, .inl (cI, 24, .inl ga)), (ad 4, .inl (cI, 24, .inl gb)), (ad 13, .inl (cI, 4, .inl (upd fa t (nI ((pl (ml n t)) + 1))))), (ad 14, .inl (cI, 16, .inl fr)), (ad 15, .inl (cI, 4, .inl fw)), (ad 16, .inl (cI, 4, .inl fh)), (ad 17, .inl (cI, 8, .inl fW)), (ad 18, .inl (cI, 8, .inl fV))]) (pc' := 106) 5 0 rfl rfl (by omega) (by omega) dX4_goesOn_105 rfl rfl ?_
          refine z_iload X (pc' := 108) dX4_goesOn_106 2 rfl rfl ?_
          refine z_tableIn X (tgt := 183) dX4_goesOn_108 (by decide) (by decide) rfl (by decide) ?_
          refine z_aload_n X (pc' := 184) dX4_goesOn_183 rfl 4 rfl rfl ?_
          refine z_get X (v := .ref (ad 14)) (pc' := 187) 0 rfl rfl inX4 14 (by decide) mF_X4_47 rfl dX4_goesOn_184 rfl ?_
          refine z_iload X (pc' := 189) dX4_goesOn_187 0 rfl rfl ?_
          refine z_aload_n X (pc' := 190) dX4_goesOn_189 rfl 4 rfl rfl ?_
          refine z_iload_n X (pc' := 191) dX4_goesOn_190 rfl 5 rfl rfl ?_
          refine z_iload X (pc' := 193) dX4_goesOn_191 1 rfl rfl ?_
          refine z_callVi X (pc' := 196) (fun sz => r_seen l D cI cJ sz mo th st tol ts tf td ad h n t (k0 / 4 % 4) fa fr fw fh fW fV ht (by omega) (by omega) hW) (zcwV X TTg 2 mL_X4_96 mI_X4_seen mS_X4_seen mN_X4 mK_X4_seen rfl rfl (by decide +kernel) ⟨(Nat.le_of_ble_eq_true rfl), (Nat.le_of_ble_eq_true rfl)⟩) (wr := [(ad 1, .inl (cI, 4, .inl gm)), (ad 2, .inl (cI, 24, .inl gn)), (ad 3, .inl (cI, 24, .inl ga)), (ad 4, .inl (cI, 24, .inl gb)), (ad 13, .inl (cI, 4, .inl (upd fa t (nI ((pl (ml n t)) + 1))))), (ad 14, .inl (cI, 16, .inl fr))]) [0, 7, 8, 9, 10] [1, 2, 3, 4, 5, 6] rfl rfl rfl rfl (by decide) 4 0 rfl rfl rfl rfl rfl (Nat.le_of_ble_eq_true rfl) dX4_goesOn_193 ⟨Nat.le_of_ble_eq_true rfl, Nat.le_of_ble_eq_true rfl⟩ rfl (fun r u hu => ?_)
          have hu : r = nI (st_seen h (ml n t) (k0 / 4 % 4)) := hu
          subst hu
          refine z_wse (ws' := [(ad 1, .inl (cI, 4, .inl gm)), (ad 2, .inl (cI, 24, .inl gn)), (ad 3, .inl (cI, 24, .inl ga)), (ad 4, .inl (cI, 24, .inl gb)), (ad 13, .inl (cI, 4, .inl (upd fa t (nI ((pl (ml n t)) + 1))))), (ad 14, .inl (cI, 16, .inl fr)), (mo, .inr (4, [.int (nI th), .ref (ad 1), .ref (ad 2), .ref (ad 3), .ref (ad 4), .int (nI st), .ref (ad 6), .ref (ad 7), .ref (ad 8), .ref (ad 9), .ref (ad 10), .ref (ad 11), .ref (ad 12), .ref (ad 13), .ref (ad 14), .ref (ad 15), .ref (ad 16), .ref (ad 17), .ref (ad 18), .int (nI tol), .int (nI ts), .int (nI tf), .int (nI td), .ref (ad 23), .ref (ad 24), .ref (ad 25), .ref (ad 26)])), (ad 15, .inl (cI, 4, .inl fw)), (ad 16, .inl (cI, 4, .inl fh)), (ad 17, .inl (cI, 8, .inl fW)), (ad 18, .inl (cI, 8, .inl fV))]) rfl ?_
          refine z_iast X (ws' := [(ad 1, .inl (cI, 4, .inl gm)), (ad 2, .inl (cI, 24, .inl gn)), (ad 3, .inl (cI, 24, .inl ga)), (ad 4, .inl (cI, 24, .inl gb)), (ad 13, .inl (cI, 4, .inl (upd fa t (nI ((pl (ml n t)) + 1))))), (ad 14, .inl (cI, 16, .inl (upd fr ((4 * t) + (k0 % 4)) (nI (st_seen h (ml n t) (k0 / 4 % 4)))))), (mo, .inr (4, [.int (nI th), .ref (ad 1), .ref (ad 2), .ref (ad 3), .ref (ad 4), .int (nI st), .ref (ad 6), .ref (ad 7), .ref (ad 8), .ref (ad 9), .ref (ad 10), .ref (ad 11), .ref (ad 12), .ref (ad 13), .ref (ad 14), .ref (ad 15), .ref (ad 16), .ref (ad 17), .ref (ad 18), .int (nI tol), .int (nI ts), .int (nI tf), .int (nI td), .ref (ad 23), .ref (ad 24), .ref (ad 25), .ref (ad 26)])), (ad 15, .inl (cI, 4, .inl fw)), (ad 16, .inl (cI, 4, .inl fh)), (ad 17, .inl (cI, 8, .inl fW)), (ad 18, .inl (cI, 8, .inl fV))]) (pc' := 197) 5 0 rfl rfl (by omega) (by omega) dX4_goesOn_196 rfl rfl ?_
          refine z_goto X (tgt := 325) dX4_goesOn_197 (by decide) ?_
          refine z_iconst X (v := nI 1) (pc' := 326) dX4_goesOn_325 (by decide) rfl ?_
          refine z_ws (ws' := [(mo, .inr (4, [.int (nI th), .ref (ad 1), .ref (ad 2), .ref (ad 3), .ref (ad 4), .int (nI st), .ref (ad 6), .ref (ad 7), .ref (ad 8), .ref (ad 9), .ref (ad 10), .ref (ad 11), .ref (ad 12), .ref (ad 13), .ref (ad 14), .ref (ad 15), .ref (ad 16), .ref (ad 17), .ref (ad 18), .int (nI tol), .int (nI ts), .int (nI tf), .int (nI td), .ref (ad 23), .ref (ad 24), .ref (ad 25), .ref (ad 26)])), (ad 1, .inl (cI, 4, .inl gm)), (ad 2, .inl (cI, 24, .inl gn)), (ad 3, .inl (cI, 24, .inl ga)), (ad 4, .inl (cI, 24, .inl gb)), (ad 13, .inl (cI, 4, .inl (upd fa t (nI ((pl (ml n t)) + 1))))), (ad 14, .inl (cI, 16, .inl (upd fr ((4 * t) + (k0 % 4)) (nI (st_seen h (ml n t) (k0 / 4 % 4)))))), (ad 15, .inl (cI, 4, .inl fw)), (ad 16, .inl (cI, 4, .inl fh)), (ad 17, .inl (cI, 8, .inl fW)), (ad 18, .inl (cI, 8, .inl fV))]) [6, 0, 1, 2, 3, 4, 5, 7, 8, 9, 10] (by decide) rfl ?_
          exact z_iret X (t1 := .boolean) rfl rfl (upd fa t (nI ((pl (ml n t)) + 1)), upd fr ((4 * t) + (k0 % 4)) (nI (st_seen h (ml n t) (k0 / 4 % 4))), fw, fh, fW, fV) (by show rOpW (st_go P md h n t) _ _; rw [hgo]; unfold st_do; rw [if_neg (by omega), if_neg (by omega), if_pos hk, show min (pl (ml n t) + 1) (P t).length = pl (ml n t) + 1 by omega]; exact ⟨rfl, WS_fin (WS_reg hW (by omega) (st_seen_lt _ _ _)) (hLs t ht) ht (by omega)⟩) rfl (Nat.le_of_ble_eq_true rfl) (Nat.le_of_ble_eq_true rfl) dX4_goesOn_326
        · exact absurd h9 (by decide)
      · exact absurd h8 (by decide)
    · refine z_lve (lv' := [(6, .int (nI ((4 * t) + (k0 % 4)))), (5, .int (nI (k0 / 4 % 4))), (4, .int (nI 3)), (3, .int (nI ((6 * t) + (pl (ml n t))))), (0, .ref mo), (1, .int (nI t)), (2, .int (nI md))]) (by rw [hk]) ?_
      refine z_iload X (pc' := 59) dX4_goesOn_57 2 rfl rfl ?_
      refine z_iconst X (v := nI 1) (pc' := 60) dX4_goesOn_59 (by decide) rfl ?_
      refine z_icmp_gtN X (tgt := 73) (pc' := 63) (by omega) (by omega) dX4_goesOn_60 (by decide) rfl (fun h10 => ?_) (fun h10 => ?_)
      · clear h10
        refine z_iload X (pc' := 75) dX4_goesOn_73 2 rfl rfl ?_
        refine z_iconst X (v := nI 3) (pc' := 76) dX4_goesOn_75 (by decide) rfl ?_
        refine z_icmp_ltN X (tgt := 96) (pc' := 79) (by omega) (by omega) dX4_goesOn_76 (by decide) rfl (fun h11 => ?_) (fun h11 => ?_)
        · exact absurd h11 (by decide)
        · clear h11
          refine z_iload X (pc' := 81) dX4_goesOn_79 2 rfl rfl ?_
          refine z_iconst X (v := nI 5) (pc' := 82) dX4_goesOn_81 (by decide) rfl ?_
          refine z_icmp_gtN X (tgt := 96) (pc' := 85) (by omega) (by omega) dX4_goesOn_82 (by decide) rfl (fun h12 => ?_) (fun h12 => ?_)
          · exact absurd h12 (by decide)
          · clear h12
            refine z_aload_n X (pc' := 86) dX4_goesOn_85 rfl 4 rfl rfl ?_
            refine z_get X (v := .ref (ad 16)) (pc' := 89) 0 rfl rfl inX4 16 (by decide) mF_X4_53 rfl dX4_goesOn_86 rfl ?_
            refine z_iload_n X (pc' := 90) dX4_goesOn_89 rfl 5 rfl rfl ?_
            refine z_iald X (pc' := 91) 8 0 rfl rfl (by omega) (by omega) dX4_goesOn_90 rfl ?_
            refine z_topi (y := nI (wt (ml n t))) hd.2.1 ?_
            refine z_if_leN X (tgt := 96) (pc' := 94) (by omega) dX4_goesOn_91 (by decide) rfl (fun h13 => ?_) (fun h13 => ?_)
            · have hw0 : wt (ml n t) ≤ 0 := h13
              refine z_aload_n X (pc' := 97) dX4_goesOn_96 rfl 4 rfl rfl ?_
              refine z_get X (v := .ref (ad 13)) (pc' := 100) 0 rfl rfl inX4 13 (by decide) mF_X4_44 rfl dX4_goesOn_97 rfl ?_
              refine z_iload_n X (pc' := 101) dX4_goesOn_100 rfl 5 rfl rfl ?_
              refine z_dup2_11 X (pc' := 102) dX4_goesOn_101 rfl rfl rfl ?_
              refine z_iald X (pc' := 103) 5 0 rfl rfl (by omega) (by omega) dX4_goesOn_102 rfl ?_
              refine z_topi (y := nI (pl (ml n t))) hd.1 ?_
              refine z_iconst X (v := nI 1) (pc' := 104) dX4_goesOn_103 (by decide) rfl ?_
              refine z_iadd X (pc' := 105) dX4_goesOn_104 rfl ?_
              refine z_topi (y := nI ((pl (ml n t)) + 1)) (nI_add _ _) ?_
              refine z_iast X (ws' := [(mo, .inr (4, [.int (nI th), .ref (ad 1), .ref (ad 2), .ref (ad 3), .ref (ad 4), .int (nI st), .ref (ad 6), .ref (ad 7), .ref (ad 8), .ref (ad 9), .ref (ad 10), .ref (ad 11), .ref (ad 12), .ref (ad 13), .ref (ad 14), .ref (ad 15), .ref (ad 16), .ref (ad 17), .ref (ad 18), .int (nI tol), .int (nI ts), .int (nI tf), .int (nI td), .ref (ad 23), .ref (ad 24), .ref (ad 25), .ref (ad 26)])), (ad 1, .inl (cI, 4, .inl gm)), (ad 2, .inl (cI, 24, .inl gn)), (ad 3, .inl (cI, 24, .inl ga)), (ad 4, .inl (cI, 24, .inl gb)), (ad 13, .inl (cI, 4, .inl (upd fa t (nI ((pl (ml n t)) + 1))))), (ad 14, .inl (cI, 16, .inl fr)), (ad 15, .inl (cI, 4, .inl fw)), (ad 16, .inl (cI, 4, .inl fh)), (ad 17, .inl (cI, 8, .inl fW)), (ad 18, .inl (cI, 8, .inl fV))]) (pc' := 106) 5 0 rfl rfl (by omega) (by omega) dX4_goesOn_105 rfl rfl ?_
              refine z_iload X (pc' := 108) dX4_goesOn_106 2 rfl rfl ?_
              refine z_tableIn X (tgt := 200) dX4_goesOn_108 (by decide) (by decide) rfl (by decide) ?_
              refine z_goto X (tgt := 325) dX4_goesOn_200 (by decide) ?_
              refine z_iconst X (v := nI 1) (pc' := 326) dX4_goesOn_325 (by decide) rfl ?_
              refine z_ws (ws' := [(mo, .inr (4, [.int (nI th), .ref (ad 1), .ref (ad 2), .ref (ad 3), .ref (ad 4), .int (nI st), .ref (ad 6), .ref (ad 7), .ref (ad 8), .ref (ad 9), .ref (ad 10), .ref (ad 11), .ref (ad 12), .ref (ad 13), .ref (ad 14), .ref (ad 15), .ref (ad 16), .ref (ad 17), .ref (ad 18), .int (nI tol), .int (nI ts), .int (nI tf), .int (nI td), .ref (ad 23), .ref (ad 24), .ref (ad 25), .ref (ad 26)])), (ad 1, .inl (cI, 4, .inl gm)), (ad 2, .inl (cI, 24, .inl gn)), (ad 3, .inl (cI, 24, .inl ga)), (ad 4, .inl (cI, 24, .inl gb)), (ad 13, .inl (cI, 4, .inl (upd fa t (nI ((pl (ml n t)) + 1))))), (ad 14, .inl (cI, 16, .inl fr)), (ad 15, .inl (cI, 4, .inl fw)), (ad 16, .inl (cI, 4, .inl fh)), (ad 17, .inl (cI, 8, .inl fW)), (ad 18, .inl (cI, 8, .inl fV))]) [0, 1, 2, 3, 4, 5, 6, 7, 8, 9, 10] (by decide) rfl ?_
              exact z_iret X (t1 := .boolean) rfl rfl (upd fa t (nI ((pl (ml n t)) + 1)), fr, fw, fh, fW, fV) (by show rOpW (st_go P md h n t) _ _; rw [hgo]; unfold st_do; rw [if_neg (by omega), if_neg (by omega), if_neg (by omega), if_neg (by omega), if_neg (by omega), show min (pl (ml n t) + 1) (P t).length = pl (ml n t) + 1 by omega]; unfold st_once; rw [if_neg (by omega), if_neg (by omega)]; exact ⟨rfl, WS_fin hW (hLs t ht) ht (by omega)⟩) rfl (Nat.le_of_ble_eq_true rfl) (Nat.le_of_ble_eq_true rfl) dX4_goesOn_326
            · have hw0 : ¬ wt (ml n t) ≤ 0 := h13
              refine z_iconst X (v := nI 0) (pc' := 95) dX4_goesOn_94 (by decide) rfl ?_
              refine z_ws (ws' := [(mo, .inr (4, [.int (nI th), .ref (ad 1), .ref (ad 2), .ref (ad 3), .ref (ad 4), .int (nI st), .ref (ad 6), .ref (ad 7), .ref (ad 8), .ref (ad 9), .ref (ad 10), .ref (ad 11), .ref (ad 12), .ref (ad 13), .ref (ad 14), .ref (ad 15), .ref (ad 16), .ref (ad 17), .ref (ad 18), .int (nI tol), .int (nI ts), .int (nI tf), .int (nI td), .ref (ad 23), .ref (ad 24), .ref (ad 25), .ref (ad 26)])), (ad 1, .inl (cI, 4, .inl gm)), (ad 2, .inl (cI, 24, .inl gn)), (ad 3, .inl (cI, 24, .inl ga)), (ad 4, .inl (cI, 24, .inl gb)), (ad 13, .inl (cI, 4, .inl fa)), (ad 14, .inl (cI, 16, .inl fr)), (ad 15, .inl (cI, 4, .inl fw)), (ad 16, .inl (cI, 4, .inl fh)), (ad 17, .inl (cI, 8, .inl fW)), (ad 18, .inl (cI, 8, .inl fV))]) [0, 1, 2, 3, 4, 5, 6, 7, 8, 9, 10] (by decide) rfl ?_
              exact z_iret X (t1 := .boolean) rfl rfl (fa, fr, fw, fh, fW, fV) (by show rOpW (st_go P md h n t) _ _; rw [hgo]; unfold st_do; rw [if_neg (by omega), if_neg (by omega), if_neg (by omega), if_neg (by omega), if_pos (by omega)]; exact rfl) rfl (Nat.le_of_ble_eq_true rfl) (Nat.le_of_ble_eq_true rfl) dX4_goesOn_95
      · exact absurd h10 (by decide)
    · refine z_lve (lv' := [(6, .int (nI ((4 * t) + (k0 % 4)))), (5, .int (nI (k0 / 4 % 4))), (4, .int (nI 4)), (3, .int (nI ((6 * t) + (pl (ml n t))))), (0, .ref mo), (1, .int (nI t)), (2, .int (nI md))]) (by rw [hk]) ?_
      refine z_iload X (pc' := 59) dX4_goesOn_57 2 rfl rfl ?_
      refine z_iconst X (v := nI 1) (pc' := 60) dX4_goesOn_59 (by decide) rfl ?_
      refine z_icmp_gtN X (tgt := 73) (pc' := 63) (by omega) (by omega) dX4_goesOn_60 (by decide) rfl (fun h14 => ?_) (fun h14 => ?_)
      · clear h14
        refine z_iload X (pc' := 75) dX4_goesOn_73 2 rfl rfl ?_
        refine z_iconst X (v := nI 3) (pc' := 76) dX4_goesOn_75 (by decide) rfl ?_
        refine z_icmp_ltN X (tgt := 96) (pc' := 79) (by omega) (by omega) dX4_goesOn_76 (by decide) rfl (fun h15 => ?_) (fun h15 => ?_)
        · exact absurd h15 (by decide)
        · clear h15
          refine z_iload X (pc' := 81) dX4_goesOn_79 2 rfl rfl ?_
          refine z_iconst X (v := nI 5) (pc' := 82) dX4_goesOn_81 (by decide) rfl ?_
          refine z_icmp_gtN X (tgt := 96) (pc' := 85) (by omega) (by omega) dX4_goesOn_82 (by decide) rfl (fun h16 => ?_) (fun h16 => ?_)
          · exact absurd h16 (by decide)
          · clear h16
            refine z_aload_n X (pc' := 86) dX4_goesOn_85 rfl 4 rfl rfl ?_
            refine z_get X (v := .ref (ad 16)) (pc' := 89) 0 rfl rfl inX4 16 (by decide) mF_X4_53 rfl dX4_goesOn_86 rfl ?_
            refine z_iload_n X (pc' := 90) dX4_goesOn_89 rfl 5 rfl rfl ?_
            refine z_iald X (pc' := 91) 8 0 rfl rfl (by omega) (by omega) dX4_goesOn_90 rfl ?_
            refine z_topi (y := nI (wt (ml n t))) hd.2.1 ?_
            refine z_if_leN X (tgt := 96) (pc' := 94) (by omega) dX4_goesOn_91 (by decide) rfl (fun h17 => ?_) (fun h17 => ?_)
            · have hw0 : wt (ml n t) ≤ 0 := h17
              refine z_aload_n X (pc' := 97) dX4_goesOn_96 rfl 4 rfl rfl ?_
              refine z_get X (v := .ref (ad 13)) (pc' := 100) 0 rfl rfl inX4 13 (by decide) mF_X4_44 rfl dX4_goesOn_97 rfl ?_
              refine z_iload_n X (pc' := 101) dX4_goesOn_100 rfl 5 rfl rfl ?_
              refine z_dup2_11 X (pc' := 102) dX4_goesOn_101 rfl rfl rfl ?_
              refine z_iald X (pc' := 103) 5 0 rfl rfl (by omega) (by omega) dX4_goesOn_102 rfl ?_
              refine z_topi (y := nI (pl (ml n t))) hd.1 ?_
              refine z_iconst X (v := nI 1) (pc' := 104) dX4_goesOn_103 (by decide) rfl ?_
              refine z_iadd X (pc' := 105) dX4_goesOn_104 rfl ?_
              refine z_topi (y := nI ((pl (ml n t)) + 1)) (nI_add _ _) ?_
              refine z_iast X (ws' := [(mo, .inr (4, [.int (nI th), .ref (ad 1), .ref (ad 2), .ref (ad 3), .ref (ad 4), .int (nI st), .ref (ad 6), .ref (ad 7), .ref (ad 8), .ref (ad 9), .ref (ad 10), .ref (ad 11), .ref (ad 12), .ref (ad 13), .ref (ad 14), .ref (ad 15), .ref (ad 16), .ref (ad 17), .ref (ad 18), .int (nI tol), .int (nI ts), .int (nI tf), .int (nI td), .ref (ad 23), .ref (ad 24), .ref (ad 25), .ref (ad 26)])), (ad 1, .inl (cI, 4, .inl gm)), (ad 2, .inl (cI, 24, .inl gn)), (ad 3, .inl (cI, 24, .inl ga)), (ad 4, .inl (cI, 24, .inl gb)), (ad 13, .inl (cI, 4, .inl (upd fa t (nI ((pl (ml n t)) + 1))))), (ad 14, .inl (cI, 16, .inl fr)), (ad 15, .inl (cI, 4, .inl fw)), (ad 16, .inl (cI, 4, .inl fh)), (ad 17, .inl (cI, 8, .inl fW)), (ad 18, .inl (cI, 8, .inl fV))]) (pc' := 106) 5 0 rfl rfl (by omega) (by omega) dX4_goesOn_105 rfl rfl ?_
              refine z_iload X (pc' := 108) dX4_goesOn_106 2 rfl rfl ?_
              refine z_tableIn X (tgt := 203) dX4_goesOn_108 (by decide) (by decide) rfl (by decide) ?_
              refine z_aload_n X (pc' := 204) dX4_goesOn_203 rfl 4 rfl rfl ?_
              refine z_get X (v := .ref (ad 15)) (pc' := 207) 0 rfl rfl inX4 15 (by decide) mF_X4_50 rfl dX4_goesOn_204 rfl ?_
              refine z_iload X (pc' := 209) dX4_goesOn_207 1 rfl rfl ?_
              refine z_iald X (pc' := 210) 7 0 rfl rfl (by omega) (by omega) dX4_goesOn_209 rfl ?_
              refine z_topi (y := nI (mi h (16 + k0 / 4 % 4))) (hW.2.2 _ (by omega)) ?_
              refine z_istore X (lv' := [(7, .int (nI (mi h (16 + k0 / 4 % 4)))), (6, .int (nI ((4 * t) + (k0 % 4)))), (5, .int (nI (k0 / 4 % 4))), (4, .int (nI 4)), (3, .int (nI ((6 * t) + (pl (ml n t))))), (0, .ref mo), (1, .int (nI t)), (2, .int (nI md))]) (pc' := 212) dX4_goesOn_210 (by decide) rfl rfl ?_
              refine z_aload_n X (pc' := 213) dX4_goesOn_212 rfl 5 rfl rfl ?_
              refine z_get X (v := .ref (ad 15)) (pc' := 216) 0 rfl rfl inX4 15 (by decide) mF_X4_50 rfl dX4_goesOn_213 rfl ?_
              refine z_iload X (pc' := 218) dX4_goesOn_216 2 rfl rfl ?_
              refine z_aload_n X (pc' := 219) dX4_goesOn_218 rfl 5 rfl rfl ?_
              refine z_get X (v := .ref (ad 14)) (pc' := 222) 0 rfl rfl inX4 14 (by decide) mF_X4_47 rfl dX4_goesOn_219 rfl ?_
              refine z_iload X (pc' := 224) dX4_goesOn_222 1 rfl rfl ?_
              refine z_iald X (pc' := 225) 6 0 rfl rfl (by omega) (by omega) dX4_goesOn_224 rfl ?_
              refine z_topi (y := nI (mi h (4 * t + k0 % 4))) (hW.2.1 _ (by omega)) ?_
              refine z_iast X (ws' := [(mo, .inr (4, [.int (nI th), .ref (ad 1), .ref (ad 2), .ref (ad 3), .ref (ad 4), .int (nI st), .ref (ad 6), .ref (ad 7), .ref (ad 8), .ref (ad 9), .ref (ad 10), .ref (ad 11), .ref (ad 12), .ref (ad 13), .ref (ad 14), .ref (ad 15), .ref (ad 16), .ref (ad 17), .ref (ad 18), .int (nI tol), .int (nI ts), .int (nI tf), .int (nI td), .ref (ad 23), .ref (ad 24), .ref (ad 25), .ref (ad 26)])), (ad 1, .inl (cI, 4, .inl gm)), (ad 2, .inl (cI, 24, .inl gn)), (ad 3, .inl (cI, 24, .inl ga)), (ad 4, .inl (cI, 24, .inl gb)), (ad 13, .inl (cI, 4, .inl (upd fa t (nI ((pl (ml n t)) + 1))))), (ad 14, .inl (cI, 16, .inl fr)), (ad 15, .inl (cI, 4, .inl (upd fw (k0 / 4 % 4) (nI (mi h (4 * t + k0 % 4)))))), (ad 16, .inl (cI, 4, .inl fh)), (ad 17, .inl (cI, 8, .inl fW)), (ad 18, .inl (cI, 8, .inl fV))]) (pc' := 226) 7 0 rfl rfl (by omega) (by omega) dX4_goesOn_225 rfl rfl ?_
              refine z_aload_n X (pc' := 227) dX4_goesOn_226 rfl 5 rfl rfl ?_
              refine z_get X (v := .ref (ad 14)) (pc' := 230) 0 rfl rfl inX4 14 (by decide) mF_X4_47 rfl dX4_goesOn_227 rfl ?_
              refine z_iload X (pc' := 232) dX4_goesOn_230 1 rfl rfl ?_
              refine z_iload X (pc' := 234) dX4_goesOn_232 0 rfl rfl ?_
              refine z_iast X (ws' := [(mo, .inr (4, [.int (nI th), .ref (ad 1), .ref (ad 2), .ref (ad 3), .ref (ad 4), .int (nI st), .ref (ad 6), .ref (ad 7), .ref (ad 8), .ref (ad 9), .ref (ad 10), .ref (ad 11), .ref (ad 12), .ref (ad 13), .ref (ad 14), .ref (ad 15), .ref (ad 16), .ref (ad 17), .ref (ad 18), .int (nI tol), .int (nI ts), .int (nI tf), .int (nI td), .ref (ad 23), .ref (ad 24), .ref (ad 25), .ref (ad 26)])), (ad 1, .inl (cI, 4, .inl gm)), (ad 2, .inl (cI, 24, .inl gn)), (ad 3, .inl (cI, 24, .inl ga)), (ad 4, .inl (cI, 24, .inl gb)), (ad 13, .inl (cI, 4, .inl (upd fa t (nI ((pl (ml n t)) + 1))))), (ad 14, .inl (cI, 16, .inl (upd fr ((4 * t) + (k0 % 4)) (nI (mi h (16 + k0 / 4 % 4)))))), (ad 15, .inl (cI, 4, .inl (upd fw (k0 / 4 % 4) (nI (mi h (4 * t + k0 % 4)))))), (ad 16, .inl (cI, 4, .inl fh)), (ad 17, .inl (cI, 8, .inl fW)), (ad 18, .inl (cI, 8, .inl fV))]) (pc' := 235) 6 0 rfl rfl (by omega) (by omega) dX4_goesOn_234 rfl rfl ?_
              refine z_goto X (tgt := 325) dX4_goesOn_235 (by decide) ?_
              refine z_iconst X (v := nI 1) (pc' := 326) dX4_goesOn_325 (by decide) rfl ?_
              refine z_ws (ws' := [(mo, .inr (4, [.int (nI th), .ref (ad 1), .ref (ad 2), .ref (ad 3), .ref (ad 4), .int (nI st), .ref (ad 6), .ref (ad 7), .ref (ad 8), .ref (ad 9), .ref (ad 10), .ref (ad 11), .ref (ad 12), .ref (ad 13), .ref (ad 14), .ref (ad 15), .ref (ad 16), .ref (ad 17), .ref (ad 18), .int (nI tol), .int (nI ts), .int (nI tf), .int (nI td), .ref (ad 23), .ref (ad 24), .ref (ad 25), .ref (ad 26)])), (ad 1, .inl (cI, 4, .inl gm)), (ad 2, .inl (cI, 24, .inl gn)), (ad 3, .inl (cI, 24, .inl ga)), (ad 4, .inl (cI, 24, .inl gb)), (ad 13, .inl (cI, 4, .inl (upd fa t (nI ((pl (ml n t)) + 1))))), (ad 14, .inl (cI, 16, .inl (upd fr ((4 * t) + (k0 % 4)) (nI (mi h (16 + k0 / 4 % 4)))))), (ad 15, .inl (cI, 4, .inl (upd fw (k0 / 4 % 4) (nI (mi h (4 * t + k0 % 4)))))), (ad 16, .inl (cI, 4, .inl fh)), (ad 17, .inl (cI, 8, .inl fW)), (ad 18, .inl (cI, 8, .inl fV))]) [0, 1, 2, 3, 4, 5, 6, 7, 8, 9, 10] (by decide) rfl ?_
              exact z_iret X (t1 := .boolean) rfl rfl (upd fa t (nI ((pl (ml n t)) + 1)), upd fr ((4 * t) + (k0 % 4)) (nI (mi h (16 + k0 / 4 % 4))), upd fw (k0 / 4 % 4) (nI (mi h (4 * t + k0 % 4))), fh, fW, fV) (by show rOpW (st_go P md h n t) _ _; rw [hgo]; unfold st_do; rw [if_neg (by omega), if_neg (by omega), if_neg (by omega), if_neg (by omega), if_neg (by omega), show min (pl (ml n t) + 1) (P t).length = pl (ml n t) + 1 by omega]; unfold st_once; rw [if_pos hk]; exact ⟨rfl, WS_fin (WS_reg (WS_word hW (by omega) (mi_lt _ _)) (by omega) (mi_lt _ _)) (hLs t ht) ht (by omega)⟩) rfl (Nat.le_of_ble_eq_true rfl) (Nat.le_of_ble_eq_true rfl) dX4_goesOn_326
            · have hw0 : ¬ wt (ml n t) ≤ 0 := h17
              refine z_iconst X (v := nI 0) (pc' := 95) dX4_goesOn_94 (by decide) rfl ?_
              refine z_ws (ws' := [(mo, .inr (4, [.int (nI th), .ref (ad 1), .ref (ad 2), .ref (ad 3), .ref (ad 4), .int (nI st), .ref (ad 6), .ref (ad 7), .ref (ad 8), .ref (ad 9), .ref (ad 10), .ref (ad 11), .ref (ad 12), .ref (ad 13), .ref (ad 14), .ref (ad 15), .ref (ad 16), .ref (ad 17), .ref (ad 18), .int (nI tol), .int (nI ts), .int (nI tf), .int (nI td), .ref (ad 23), .ref (ad 24), .ref (ad 25), .ref (ad 26)])), (ad 1, .inl (cI, 4, .inl gm)), (ad 2, .inl (cI, 24, .inl gn)), (ad 3, .inl (cI, 24, .inl ga)), (ad 4, .inl (cI, 24, .inl gb)), (ad 13, .inl (cI, 4, .inl fa)), (ad 14, .inl (cI, 16, .inl fr)), (ad 15, .inl (cI, 4, .inl fw)), (ad 16, .inl (cI, 4, .inl fh)), (ad 17, .inl (cI, 8, .inl fW)), (ad 18, .inl (cI, 8, .inl fV))]) [0, 1, 2, 3, 4, 5, 6, 7, 8, 9, 10] (by decide) rfl ?_
              exact z_iret X (t1 := .boolean) rfl rfl (fa, fr, fw, fh, fW, fV) (by show rOpW (st_go P md h n t) _ _; rw [hgo]; unfold st_do; rw [if_neg (by omega), if_neg (by omega), if_neg (by omega), if_neg (by omega), if_pos (by omega)]; exact rfl) rfl (Nat.le_of_ble_eq_true rfl) (Nat.le_of_ble_eq_true rfl) dX4_goesOn_95
      · exact absurd h14 (by decide)
    · refine z_lve (lv' := [(6, .int (nI ((4 * t) + (k0 % 4)))), (5, .int (nI (k0 / 4 % 4))), (4, .int (nI 5)), (3, .int (nI ((6 * t) + (pl (ml n t))))), (0, .ref mo), (1, .int (nI t)), (2, .int (nI md))]) (by rw [hk]) ?_
      refine z_iload X (pc' := 59) dX4_goesOn_57 2 rfl rfl ?_
      refine z_iconst X (v := nI 1) (pc' := 60) dX4_goesOn_59 (by decide) rfl ?_
      refine z_icmp_gtN X (tgt := 73) (pc' := 63) (by omega) (by omega) dX4_goesOn_60 (by decide) rfl (fun h18 => ?_) (fun h18 => ?_)
      · clear h18
        refine z_iload X (pc' := 75) dX4_goesOn_73 2 rfl rfl ?_
        refine z_iconst X (v := nI 3) (pc' := 76) dX4_goesOn_75 (by decide) rfl ?_
        refine z_icmp_ltN X (tgt := 96) (pc' := 79) (by omega) (by omega) dX4_goesOn_76 (by decide) rfl (fun h19 => ?_) (fun h19 => ?_)
        · exact absurd h19 (by decide)
        · clear h19
          refine z_iload X (pc' := 81) dX4_goesOn_79 2 rfl rfl ?_
          refine z_iconst X (v := nI 5) (pc' := 82) dX4_goesOn_81 (by decide) rfl ?_
          refine z_icmp_gtN X (tgt := 96) (pc' := 85) (by omega) (by omega) dX4_goesOn_82 (by decide) rfl (fun h20 => ?_) (fun h20 => ?_)
          · exact absurd h20 (by decide)
          · clear h20
            refine z_aload_n X (pc' := 86) dX4_goesOn_85 rfl 4 rfl rfl ?_
            refine z_get X (v := .ref (ad 16)) (pc' := 89) 0 rfl rfl inX4 16 (by decide) mF_X4_53 rfl dX4_goesOn_86 rfl ?_
            refine z_iload_n X (pc' := 90) dX4_goesOn_89 rfl 5 rfl rfl ?_
            refine z_iald X (pc' := 91) 8 0 rfl rfl (by omega) (by omega) dX4_goesOn_90 rfl ?_
            refine z_topi (y := nI (wt (ml n t))) hd.2.1 ?_
            refine z_if_leN X (tgt := 96) (pc' := 94) (by omega) dX4_goesOn_91 (by decide) rfl (fun h21 => ?_) (fun h21 => ?_)
            · have hw0 : wt (ml n t) ≤ 0 := h21
              refine z_aload_n X (pc' := 97) dX4_goesOn_96 rfl 4 rfl rfl ?_
              refine z_get X (v := .ref (ad 13)) (pc' := 100) 0 rfl rfl inX4 13 (by decide) mF_X4_44 rfl dX4_goesOn_97 rfl ?_
              refine z_iload_n X (pc' := 101) dX4_goesOn_100 rfl 5 rfl rfl ?_
              refine z_dup2_11 X (pc' := 102) dX4_goesOn_101 rfl rfl rfl ?_
              refine z_iald X (pc' := 103) 5 0 rfl rfl (by omega) (by omega) dX4_goesOn_102 rfl ?_
              refine z_topi (y := nI (pl (ml n t))) hd.1 ?_
              refine z_iconst X (v := nI 1) (pc' := 104) dX4_goesOn_103 (by decide) rfl ?_
              refine z_iadd X (pc' := 105) dX4_goesOn_104 rfl ?_
              refine z_topi (y := nI ((pl (ml n t)) + 1)) (nI_add _ _) ?_
              refine z_iast X (ws' := [(mo, .inr (4, [.int (nI th), .ref (ad 1), .ref (ad 2), .ref (ad 3), .ref (ad 4), .int (nI st), .ref (ad 6), .ref (ad 7), .ref (ad 8), .ref (ad 9), .ref (ad 10), .ref (ad 11), .ref (ad 12), .ref (ad 13), .ref (ad 14), .ref (ad 15), .ref (ad 16), .ref (ad 17), .ref (ad 18), .int (nI tol), .int (nI ts), .int (nI tf), .int (nI td), .ref (ad 23), .ref (ad 24), .ref (ad 25), .ref (ad 26)])), (ad 1, .inl (cI, 4, .inl gm)), (ad 2, .inl (cI, 24, .inl gn)), (ad 3, .inl (cI, 24, .inl ga)), (ad 4, .inl (cI, 24, .inl gb)), (ad 13, .inl (cI, 4, .inl (upd fa t (nI ((pl (ml n t)) + 1))))), (ad 14, .inl (cI, 16, .inl fr)), (ad 15, .inl (cI, 4, .inl fw)), (ad 16, .inl (cI, 4, .inl fh)), (ad 17, .inl (cI, 8, .inl fW)), (ad 18, .inl (cI, 8, .inl fV))]) (pc' := 106) 5 0 rfl rfl (by omega) (by omega) dX4_goesOn_105 rfl rfl ?_
              refine z_iload X (pc' := 108) dX4_goesOn_106 2 rfl rfl ?_
              refine z_tableIn X (tgt := 238) dX4_goesOn_108 (by decide) (by decide) rfl (by decide) ?_
              refine z_aload_n X (pc' := 239) dX4_goesOn_238 rfl 4 rfl rfl ?_
              refine z_get X (v := .ref (ad 14)) (pc' := 242) 0 rfl rfl inX4 14 (by decide) mF_X4_47 rfl dX4_goesOn_239 rfl ?_
              refine z_iload X (pc' := 244) dX4_goesOn_242 0 rfl rfl ?_
              refine z_aload_n X (pc' := 245) dX4_goesOn_244 rfl 4 rfl rfl ?_
              refine z_get X (v := .ref (ad 15)) (pc' := 248) 0 rfl rfl inX4 15 (by decide) mF_X4_50 rfl dX4_goesOn_245 rfl ?_
              refine z_iload X (pc' := 250) dX4_goesOn_248 1 rfl rfl ?_
              refine z_iald X (pc' := 251) 7 0 rfl rfl (by omega) (by omega) dX4_goesOn_250 rfl ?_
              refine z_topi (y := nI (mi h (16 + k0 / 4 % 4))) (hW.2.2 _ (by omega)) ?_
              refine z_iast X (ws' := [(mo, .inr (4, [.int (nI th), .ref (ad 1), .ref (ad 2), .ref (ad 3), .ref (ad 4), .int (nI st), .ref (ad 6), .ref (ad 7), .ref (ad 8), .ref (ad 9), .ref (ad 10), .ref (ad 11), .ref (ad 12), .ref (ad 13), .ref (ad 14), .ref (ad 15), .ref (ad 16), .ref (ad 17), .ref (ad 18), .int (nI tol), .int (nI ts), .int (nI tf), .int (nI td), .ref (ad 23), .ref (ad 24), .ref (ad 25), .ref (ad 26)])), (ad 1, .inl (cI, 4, .inl gm)), (ad 2, .inl (cI, 24, .inl gn)), (ad 3, .inl (cI, 24, .inl ga)), (ad 4, .inl (cI, 24, .inl gb)), (ad 13, .inl (cI, 4, .inl (upd fa t (nI ((pl (ml n t)) + 1))))), (ad 14, .inl (cI, 16, .inl (upd fr ((4 * t) + (k0 % 4)) (nI (mi h (16 + k0 / 4 % 4)))))), (ad 15, .inl (cI, 4, .inl fw)), (ad 16, .inl (cI, 4, .inl fh)), (ad 17, .inl (cI, 8, .inl fW)), (ad 18, .inl (cI, 8, .inl fV))]) (pc' := 252) 6 0 rfl rfl (by omega) (by omega) dX4_goesOn_251 rfl rfl ?_
              refine z_aload_n X (pc' := 253) dX4_goesOn_252 rfl 4 rfl rfl ?_
              refine z_get X (v := .ref (ad 15)) (pc' := 256) 0 rfl rfl inX4 15 (by decide) mF_X4_50 rfl dX4_goesOn_253 rfl ?_
              refine z_iload X (pc' := 258) dX4_goesOn_256 1 rfl rfl ?_
              refine z_aload_n X (pc' := 259) dX4_goesOn_258 rfl 4 rfl rfl ?_
              refine z_get X (v := .ref (ad 15)) (pc' := 262) 0 rfl rfl inX4 15 (by decide) mF_X4_50 rfl dX4_goesOn_259 rfl ?_
              refine z_iload X (pc' := 264) dX4_goesOn_262 1 rfl rfl ?_
              refine z_iald X (pc' := 265) 7 0 rfl rfl (by omega) (by omega) dX4_goesOn_264 rfl ?_
              refine z_topi (y := nI (mi h (16 + k0 / 4 % 4))) (hW.2.2 _ (by omega)) ?_
              refine z_iconst X (v := nI 1) (pc' := 266) dX4_goesOn_265 (by decide) rfl ?_
              refine z_iadd X (pc' := 267) dX4_goesOn_266 rfl ?_
              refine z_topi (y := nI ((mi h (16 + k0 / 4 % 4)) + 1)) (nI_add _ _) ?_
              refine z_iconst X (v := nI 4) (pc' := 268) dX4_goesOn_267 (by decide) rfl ?_
              refine z_irem X (pc' := 269) dX4_goesOn_268 (by decide) rfl ?_
              refine z_topi (y := nI ((mi h (16 + k0 / 4 % 4) + 1) % 4)) (pk_rem (by have := mi_lt h (16 + k0 / 4 % 4); omega) (by decide) (by decide)) ?_
              refine z_iast X (ws' := [(mo, .inr (4, [.int (nI th), .ref (ad 1), .ref (ad 2), .ref (ad 3), .ref (ad 4), .int (nI st), .ref (ad 6), .ref (ad 7), .ref (ad 8), .ref (ad 9), .ref (ad 10), .ref (ad 11), .ref (ad 12), .ref (ad 13), .ref (ad 14), .ref (ad 15), .ref (ad 16), .ref (ad 17), .ref (ad 18), .int (nI tol), .int (nI ts), .int (nI tf), .int (nI td), .ref (ad 23), .ref (ad 24), .ref (ad 25), .ref (ad 26)])), (ad 1, .inl (cI, 4, .inl gm)), (ad 2, .inl (cI, 24, .inl gn)), (ad 3, .inl (cI, 24, .inl ga)), (ad 4, .inl (cI, 24, .inl gb)), (ad 13, .inl (cI, 4, .inl (upd fa t (nI ((pl (ml n t)) + 1))))), (ad 14, .inl (cI, 16, .inl (upd fr ((4 * t) + (k0 % 4)) (nI (mi h (16 + k0 / 4 % 4)))))), (ad 15, .inl (cI, 4, .inl (upd fw (k0 / 4 % 4) (nI ((mi h (16 + k0 / 4 % 4) + 1) % 4))))), (ad 16, .inl (cI, 4, .inl fh)), (ad 17, .inl (cI, 8, .inl fW)), (ad 18, .inl (cI, 8, .inl fV))]) (pc' := 270) 7 0 rfl rfl (by omega) (by omega) dX4_goesOn_269 rfl rfl ?_
              refine z_goto X (tgt := 325) dX4_goesOn_270 (by decide) ?_
              refine z_iconst X (v := nI 1) (pc' := 326) dX4_goesOn_325 (by decide) rfl ?_
              refine z_ws (ws' := [(mo, .inr (4, [.int (nI th), .ref (ad 1), .ref (ad 2), .ref (ad 3), .ref (ad 4), .int (nI st), .ref (ad 6), .ref (ad 7), .ref (ad 8), .ref (ad 9), .ref (ad 10), .ref (ad 11), .ref (ad 12), .ref (ad 13), .ref (ad 14), .ref (ad 15), .ref (ad 16), .ref (ad 17), .ref (ad 18), .int (nI tol), .int (nI ts), .int (nI tf), .int (nI td), .ref (ad 23), .ref (ad 24), .ref (ad 25), .ref (ad 26)])), (ad 1, .inl (cI, 4, .inl gm)), (ad 2, .inl (cI, 24, .inl gn)), (ad 3, .inl (cI, 24, .inl ga)), (ad 4, .inl (cI, 24, .inl gb)), (ad 13, .inl (cI, 4, .inl (upd fa t (nI ((pl (ml n t)) + 1))))), (ad 14, .inl (cI, 16, .inl (upd fr ((4 * t) + (k0 % 4)) (nI (mi h (16 + k0 / 4 % 4)))))), (ad 15, .inl (cI, 4, .inl (upd fw (k0 / 4 % 4) (nI ((mi h (16 + k0 / 4 % 4) + 1) % 4))))), (ad 16, .inl (cI, 4, .inl fh)), (ad 17, .inl (cI, 8, .inl fW)), (ad 18, .inl (cI, 8, .inl fV))]) [0, 1, 2, 3, 4, 5, 6, 7, 8, 9, 10] (by decide) rfl ?_
              exact z_iret X (t1 := .boolean) rfl rfl (upd fa t (nI ((pl (ml n t)) + 1)), upd fr ((4 * t) + (k0 % 4)) (nI (mi h (16 + k0 / 4 % 4))), upd fw (k0 / 4 % 4) (nI ((mi h (16 + k0 / 4 % 4) + 1) % 4)), fh, fW, fV) (by show rOpW (st_go P md h n t) _ _; rw [hgo]; unfold st_do; rw [if_neg (by omega), if_neg (by omega), if_neg (by omega), if_neg (by omega), if_neg (by omega), show min (pl (ml n t) + 1) (P t).length = pl (ml n t) + 1 by omega]; unfold st_once; rw [if_neg (by omega), if_pos hk]; exact ⟨rfl, WS_fin (WS_sw hW (by omega) (by omega)) (hLs t ht) ht (by omega)⟩) rfl (Nat.le_of_ble_eq_true rfl) (Nat.le_of_ble_eq_true rfl) dX4_goesOn_326
            · have hw0 : ¬ wt (ml n t) ≤ 0 := h21
              refine z_iconst X (v := nI 0) (pc' := 95) dX4_goesOn_94 (by decide) rfl ?_
              refine z_ws (ws' := [(mo, .inr (4, [.int (nI th), .ref (ad 1), .ref (ad 2), .ref (ad 3), .ref (ad 4), .int (nI st), .ref (ad 6), .ref (ad 7), .ref (ad 8), .ref (ad 9), .ref (ad 10), .ref (ad 11), .ref (ad 12), .ref (ad 13), .ref (ad 14), .ref (ad 15), .ref (ad 16), .ref (ad 17), .ref (ad 18), .int (nI tol), .int (nI ts), .int (nI tf), .int (nI td), .ref (ad 23), .ref (ad 24), .ref (ad 25), .ref (ad 26)])), (ad 1, .inl (cI, 4, .inl gm)), (ad 2, .inl (cI, 24, .inl gn)), (ad 3, .inl (cI, 24, .inl ga)), (ad 4, .inl (cI, 24, .inl gb)), (ad 13, .inl (cI, 4, .inl fa)), (ad 14, .inl (cI, 16, .inl fr)), (ad 15, .inl (cI, 4, .inl fw)), (ad 16, .inl (cI, 4, .inl fh)), (ad 17, .inl (cI, 8, .inl fW)), (ad 18, .inl (cI, 8, .inl fV))]) [0, 1, 2, 3, 4, 5, 6, 7, 8, 9, 10] (by decide) rfl ?_
              exact z_iret X (t1 := .boolean) rfl rfl (fa, fr, fw, fh, fW, fV) (by show rOpW (st_go P md h n t) _ _; rw [hgo]; unfold st_do; rw [if_neg (by omega), if_neg (by omega), if_neg (by omega), if_neg (by omega), if_pos (by omega)]; exact rfl) rfl (Nat.le_of_ble_eq_true rfl) (Nat.le_of_ble_eq_true rfl) dX4_goesOn_95
      · exact absurd h18 (by decide)
    · refine z_lve (lv' := [(6, .int (nI ((4 * t) + (k0 % 4)))), (5, .int (nI (k0 / 4 % 4))), (4, .int (nI 6)), (3, .int (nI ((6 * t) + (pl (ml n t))))), (0, .ref mo), (1, .int (nI t)), (2, .int (nI md))]) (by rw [hk]) ?_
      have hout : (nI 6).toInt < 0 ∨ 5 < (nI 6).toInt := Or.inr (by decide)
      refine z_iload X (pc' := 59) dX4_goesOn_57 2 rfl rfl ?_
      refine z_iconst X (v := nI 1) (pc' := 60) dX4_goesOn_59 (by decide) rfl ?_
      refine z_icmp_gtN X (tgt := 73) (pc' := 63) (by omega) (by omega) dX4_goesOn_60 (by decide) rfl (fun h22 => ?_) (fun h22 => ?_)
      · clear h22
        refine z_iload X (pc' := 75) dX4_goesOn_73 2 rfl rfl ?_
        refine z_iconst X (v := nI 3) (pc' := 76) dX4_goesOn_75 (by decide) rfl ?_
        refine z_icmp_ltN X (tgt := 96) (pc' := 79) (by omega) (by omega) dX4_goesOn_76 (by decide) rfl (fun h23 => ?_) (fun h23 => ?_)
        · exact absurd h23 (by decide)
        · clear h23
          refine z_iload X (pc' := 81) dX4_goesOn_79 2 rfl rfl ?_
          refine z_iconst X (v := nI 5) (pc' := 82) dX4_goesOn_81 (by decide) rfl ?_
          refine z_icmp_gtN X (tgt := 96) (pc' := 85) (by omega) (by omega) dX4_goesOn_82 (by decide) rfl (fun h24 => ?_) (fun h24 => ?_)
          · clear h24
            refine z_aload_n X (pc' := 97) dX4_goesOn_96 rfl 4 rfl rfl ?_
            refine z_get X (v := .ref (ad 13)) (pc' := 100) 0 rfl rfl inX4 13 (by decide) mF_X4_44 rfl dX4_goesOn_97 rfl ?_
            refine z_iload_n X (pc' := 101) dX4_goesOn_100 rfl 5 rfl rfl ?_
            refine z_dup2_11 X (pc' := 102) dX4_goesOn_101 rfl rfl rfl ?_
            refine z_iald X (pc' := 103) 5 0 rfl rfl (by omega) (by omega) dX4_goesOn_102 rfl ?_
            refine z_topi (y := nI (pl (ml n t))) hd.1 ?_
            refine z_iconst X (v := nI 1) (pc' := 104) dX4_goesOn_103 (by decide) rfl ?_
            refine z_iadd X (pc' := 105) dX4_goesOn_104 rfl ?_
            refine z_topi (y := nI ((pl (ml n t)) + 1)) (nI_add _ _) ?_
            refine z_iast X (ws' := [(mo, .inr (4, [.int (nI th), .ref (ad 1), .ref (ad 2), .ref (ad 3), .ref (ad 4), .int (nI st), .ref (ad 6), .ref (ad 7), .ref (ad 8), .ref (ad 9), .ref (ad 10), .ref (ad 11), .ref (ad 12), .ref (ad 13), .ref (ad 14), .ref (ad 15), .ref (ad 16), .ref (ad 17), .ref (ad 18), .int (nI tol), .int (nI ts), .int (nI tf), .int (nI td), .ref (ad 23), .ref (ad 24), .ref (ad 25), .ref (ad 26)])), (ad 1, .inl (cI, 4, .inl gm)), (ad 2, .inl (cI, 24, .inl gn)), (ad 3, .inl (cI, 24, .inl ga)), (ad 4, .inl (cI, 24, .inl gb)), (ad 13, .inl (cI, 4, .inl (upd fa t (nI ((pl (ml n t)) + 1))))), (ad 14, .inl (cI, 16, .inl fr)), (ad 15, .inl (cI, 4, .inl fw)), (ad 16, .inl (cI, 4, .inl fh)), (ad 17, .inl (cI, 8, .inl fW)), (ad 18, .inl (cI, 8, .inl fV))]) (pc' := 106) 5 0 rfl rfl (by omega) (by omega) dX4_goesOn_105 rfl rfl ?_
            refine z_iload X (pc' := 108) dX4_goesOn_106 2 rfl rfl ?_
            refine z_tableOut X (tgt := 273) dX4_goesOn_108 hout (by decide) ?_
            refine z_aload_n X (pc' := 274) dX4_goesOn_273 rfl 4 rfl rfl ?_
            refine z_get X (v := .ref (ad 14)) (pc' := 277) 0 rfl rfl inX4 14 (by decide) mF_X4_47 rfl dX4_goesOn_274 rfl ?_
            refine z_iload X (pc' := 279) dX4_goesOn_277 0 rfl rfl ?_
            refine z_iald X (pc' := 280) 6 0 rfl rfl (by omega) (by omega) dX4_goesOn_279 rfl ?_
            refine z_topi (y := nI (mi h (4 * t + k0 % 4))) (hW.2.1 _ (by omega)) ?_
            refine z_if_neN X (tgt := 325) (pc' := 283) (by have := mi_lt h (4 * t + k0 % 4); omega) dX4_goesOn_280 (by decide) rfl (fun h25 => ?_) (fun h25 => ?_)
            · have hmi : ¬ mi h (4 * t + k0 % 4) = 0 := h25
              refine z_iconst X (v := nI 1) (pc' := 326) dX4_goesOn_325 (by decide) rfl ?_
              refine z_ws (ws' := [(mo, .inr (4, [.int (nI th), .ref (ad 1), .ref (ad 2), .ref (ad 3), .ref (ad 4), .int (nI st), .ref (ad 6), .ref (ad 7), .ref (ad 8), .ref (ad 9), .ref (ad 10), .ref (ad 11), .ref (ad 12), .ref (ad 13), .ref (ad 14), .ref (ad 15), .ref (ad 16), .ref (ad 17), .ref (ad 18), .int (nI tol), .int (nI ts), .int (nI tf), .int (nI td), .ref (ad 23), .ref (ad 24), .ref (ad 25), .ref (ad 26)])), (ad 1, .inl (cI, 4, .inl gm)), (ad 2, .inl (cI, 24, .inl gn)), (ad 3, .inl (cI, 24, .inl ga)), (ad 4, .inl (cI, 24, .inl gb)), (ad 13, .inl (cI, 4, .inl (upd fa t (nI ((pl (ml n t)) + 1))))), (ad 14, .inl (cI, 16, .inl fr)), (ad 15, .inl (cI, 4, .inl fw)), (ad 16, .inl (cI, 4, .inl fh)), (ad 17, .inl (cI, 8, .inl fW)), (ad 18, .inl (cI, 8, .inl fV))]) [0, 1, 2, 3, 4, 5, 6, 7, 8, 9, 10] (by decide) rfl ?_
              exact z_iret X (t1 := .boolean) rfl rfl (upd fa t (nI ((pl (ml n t)) + 1)), fr, fw, fh, fW, fV) (by show rOpW (st_go P md h n t) _ _; rw [hgo]; unfold st_do; rw [if_neg (by omega), if_neg (by omega), if_neg (by omega), if_pos hk, if_neg hmi, Nat.add_zero, show min (pl (ml n t) + 1) (P t).length = pl (ml n t) + 1 by omega]; exact ⟨rfl, WS_fin hW (hLs t ht) ht (by omega)⟩) rfl (Nat.le_of_ble_eq_true rfl) (Nat.le_of_ble_eq_true rfl) dX4_goesOn_326
            · have hmi : mi h (4 * t + k0 % 4) = 0 := h25
              refine z_aload_n X (pc' := 284) dX4_goesOn_283 rfl 4 rfl rfl ?_
              refine z_get X (v := .ref (ad 13)) (pc' := 287) 0 rfl rfl inX4 13 (by decide) mF_X4_44 rfl dX4_goesOn_284 rfl ?_
              refine z_iload_n X (pc' := 288) dX4_goesOn_287 rfl 5 rfl rfl ?_
              refine z_aload_n X (pc' := 289) dX4_goesOn_288 rfl 4 rfl rfl ?_
              refine z_get X (v := .ref (ad 13)) (pc' := 292) 0 rfl rfl inX4 13 (by decide) mF_X4_44 rfl dX4_goesOn_289 rfl ?_
              refine z_iload_n X (pc' := 293) dX4_goesOn_292 rfl 5 rfl rfl ?_
              refine z_iald X (pc' := 294) 5 0 rfl rfl (by omega) (by omega) dX4_goesOn_293 rfl ?_
              refine z_topi (y := nI (pl (ml n t) + 1)) pk_us ?_
              refine z_iload X (pc' := 296) dX4_goesOn_294 1 rfl rfl ?_
              refine z_iadd X (pc' := 297) dX4_goesOn_296 rfl ?_
              refine z_topi (y := nI ((pl (ml n t) + 1) + (k0 / 4 % 4))) (nI_add _ _) ?_
              refine z_aload_n X (pc' := 298) dX4_goesOn_297 rfl 4 rfl rfl ?_
              refine z_get X (v := .ref (ad 1)) (pc' := 301) 0 rfl rfl inX4 1 (by decide) mF_X4_7 rfl dX4_goesOn_298 rfl ?_
              refine z_iload_n X (pc' := 302) dX4_goesOn_301 rfl 5 rfl rfl ?_
              refine z_iald X (pc' := 303) 1 0 rfl rfl (by omega) (by omega) dX4_goesOn_302 rfl ?_
              refine z_topi (y := nI ((P t).length)) (hQ t ht).1 ?_
              refine z_icmp_geN X (tgt := 318) (pc' := 306) (by omega) (by omega) dX4_goesOn_303 (by decide) rfl (fun h26 => ?_) (fun h26 => ?_)
              · have hge : (P t).length ≤ pl (ml n t) + 1 + k0 / 4 % 4 := h26
                refine z_aload_n X (pc' := 319) dX4_goesOn_318 rfl 4 rfl rfl ?_
                refine z_get X (v := .ref (ad 1)) (pc' := 322) 0 rfl rfl inX4 1 (by decide) mF_X4_7 rfl dX4_goesOn_319 rfl ?_
                refine z_iload_n X (pc' := 323) dX4_goesOn_322 rfl 5 rfl rfl ?_
                refine z_iald X (pc' := 324) 1 0 rfl rfl (by omega) (by omega) dX4_goesOn_323 rfl ?_
                refine z_topi (y := nI ((P t).length)) (hQ t ht).1 ?_
                refine z_iast X (ws' := [(mo, .inr (4, [.int (nI th), .ref (ad 1), .ref (ad 2), .ref (ad 3), .ref (ad 4), .int (nI st), .ref (ad 6), .ref (ad 7), .ref (ad 8), .ref (ad 9), .ref (ad 10), .ref (ad 11), .ref (ad 12), .ref (ad 13), .ref (ad 14), .ref (ad 15), .ref (ad 16), .ref (ad 17), .ref (ad 18), .int (nI tol), .int (nI ts), .int (nI tf), .int (nI td), .ref (ad 23), .ref (ad 24), .ref (ad 25), .ref (ad 26)])), (ad 1, .inl (cI, 4, .inl gm)), (ad 2, .inl (cI, 24, .inl gn)), (ad 3, .inl (cI, 24, .inl ga)), (ad 4, .inl (cI, 24, .inl gb)), (ad 13, .inl (cI, 4, .inl (upd (upd fa t (nI ((pl (ml n t)) + 1))) t (nI ((P t).length))))), (ad 14, .inl (cI, 16, .inl fr)), (ad 15, .inl (cI, 4, .inl fw)), (ad 16, .inl (cI, 4, .inl fh)), (ad 17, .inl (cI, 8, .inl fW)), (ad 18, .inl (cI, 8, .inl fV))]) (pc' := 325) 5 0 rfl rfl (by omega) (by omega) dX4_goesOn_324 rfl rfl ?_
                refine z_iconst X (v := nI 1) (pc' := 326) dX4_goesOn_325 (by decide) rfl ?_
                refine z_ws (ws' := [(mo, .inr (4, [.int (nI th), .ref (ad 1), .ref (ad 2), .ref (ad 3), .ref (ad 4), .int (nI st), .ref (ad 6), .ref (ad 7), .ref (ad 8), .ref (ad 9), .ref (ad 10), .ref (ad 11), .ref (ad 12), .ref (ad 13), .ref (ad 14), .ref (ad 15), .ref (ad 16), .ref (ad 17), .ref (ad 18), .int (nI tol), .int (nI ts), .int (nI tf), .int (nI td), .ref (ad 23), .ref (ad 24), .ref (ad 25), .ref (ad 26)])), (ad 1, .inl (cI, 4, .inl gm)), (ad 2, .inl (cI, 24, .inl gn)), (ad 3, .inl (cI, 24, .inl ga)), (ad 4, .inl (cI, 24, .inl gb)), (ad 13, .inl (cI, 4, .inl (upd (upd fa t (nI ((pl (ml n t)) + 1))) t (nI ((P t).length))))), (ad 14, .inl (cI, 16, .inl fr)), (ad 15, .inl (cI, 4, .inl fw)), (ad 16, .inl (cI, 4, .inl fh)), (ad 17, .inl (cI, 8, .inl fW)), (ad 18, .inl (cI, 8, .inl fV))]) [0, 1, 2, 3, 4, 5, 6, 7, 8, 9, 10] (by decide) rfl ?_
                exact z_iret X (t1 := .boolean) rfl rfl (upd (upd fa t (nI ((pl (ml n t)) + 1))) t (nI ((P t).length)), fr, fw, fh, fW, fV) (by show rOpW (st_go P md h n t) _ _; rw [hgo]; unfold st_do; rw [if_neg (by omega), if_neg (by omega), if_neg (by omega), if_pos hk, if_pos hmi, show min (pl (ml n t) + 1 + k0 / 4 % 4) (P t).length = (P t).length by omega]; rw [upd_upd]; exact ⟨rfl, WS_fin hW (hLs t ht) ht (by omega)⟩) rfl (Nat.le_of_ble_eq_true rfl) (Nat.le_of_ble_eq_true rfl) dX4_goesOn_326
              · have hge : ¬ (P t).length ≤ pl (ml n t) + 1 + k0 / 4 % 4 := h26
                refine z_aload_n X (pc' := 307) dX4_goesOn_306 rfl 4 rfl rfl ?_
                refine z_get X (v := .ref (ad 13)) (pc' := 310) 0 rfl rfl inX4 13 (by decide) mF_X4_44 rfl dX4_goesOn_307 rfl ?_
                refine z_iload_n X (pc' := 311) dX4_goesOn_310 rfl 5 rfl rfl ?_
                refine z_iald X (pc' := 312) 5 0 rfl rfl (by omega) (by omega) dX4_goesOn_311 rfl ?_
                refine z_topi (y := nI (pl (ml n t) + 1)) pk_us ?_
                refine z_iload X (pc' := 314) dX4_goesOn_312 1 rfl rfl ?_
                refine z_iadd X (pc' := 315) dX4_goesOn_314 rfl ?_
                refine z_topi (y := nI ((pl (ml n t) + 1) + (k0 / 4 % 4))) (nI_add _ _) ?_
                refine z_goto X (tgt := 324) dX4_goesOn_315 (by decide) ?_
                refine z_iast X (ws' := [(mo, .inr (4, [.int (nI th), .ref (ad 1), .ref (ad 2), .ref (ad 3), .ref (ad 4), .int (nI st), .ref (ad 6), .ref (ad 7), .ref (ad 8), .ref (ad 9), .ref (ad 10), .ref (ad 11), .ref (ad 12), .ref (ad 13), .ref (ad 14), .ref (ad 15), .ref (ad 16), .ref (ad 17), .ref (ad 18), .int (nI tol), .int (nI ts), .int (nI tf), .int (nI td), .ref (ad 23), .ref (ad 24), .ref (ad 25), .ref (ad 26)])), (ad 1, .inl (cI, 4, .inl gm)), (ad 2, .inl (cI, 24, .inl gn)), (ad 3, .inl (cI, 24, .inl ga)), (ad 4, .inl (cI, 24, .inl gb)), (ad 13, .inl (cI, 4, .inl (upd (upd fa t (nI ((pl (ml n t)) + 1))) t (nI ((pl (ml n t) + 1) + (k0 / 4 % 4)))))), (ad 14, .inl (cI, 16, .inl fr)), (ad 15, .inl (cI, 4, .inl fw)), (ad 16, .inl (cI, 4, .inl fh)), (ad 17, .inl (cI, 8, .inl fW)), (ad 18, .inl (cI, 8, .inl fV))]) (pc' := 325) 5 0 rfl rfl (by omega) (by omega) dX4_goesOn_324 rfl rfl ?_
                refine z_iconst X (v := nI 1) (pc' := 326) dX4_goesOn_325 (by decide) rfl ?_
                refine z_ws (ws' := [(mo, .inr (4, [.int (nI th), .ref (ad 1), .ref (ad 2), .ref (ad 3), .ref (ad 4), .int (nI st), .ref (ad 6), .ref (ad 7), .ref (ad 8), .ref (ad 9), .ref (ad 10), .ref (ad 11), .ref (ad 12), .ref (ad 13), .ref (ad 14), .ref (ad 15), .ref (ad 16), .ref (ad 17), .ref (ad 18), .int (nI tol), .int (nI ts), .int (nI tf), .int (nI td), .ref (ad 23), .ref (ad 24), .ref (ad 25), .ref (ad 26)])), (ad 1, .inl (cI, 4, .inl gm)), (ad 2, .inl (cI, 24, .inl gn)), (ad 3, .inl (cI, 24, .inl ga)), (ad 4, .inl (cI, 24, .inl gb)), (ad 13, .inl (cI, 4, .inl (upd (upd fa t (nI ((pl (ml n t)) + 1))) t (nI ((pl (ml n t) + 1) + (k0 / 4 % 4)))))), (ad 14, .inl (cI, 16, .inl fr)), (ad 15, .inl (cI, 4, .inl fw)), (ad 16, .inl (cI, 4, .inl fh)), (ad 17, .inl (cI, 8, .inl fW)), (ad 18, .inl (cI, 8, .inl fV))]) [0, 1, 2, 3, 4, 5, 6, 7, 8, 9, 10] (by decide) rfl ?_
                exact z_iret X (t1 := .boolean) rfl rfl (upd (upd fa t (nI ((pl (ml n t)) + 1))) t (nI ((pl (ml n t) + 1) + (k0 / 4 % 4))), fr, fw, fh, fW, fV) (by show rOpW (st_go P md h n t) _ _; rw [hgo]; unfold st_do; rw [if_neg (by omega), if_neg (by omega), if_neg (by omega), if_pos hk, if_pos hmi, show min (pl (ml n t) + 1 + k0 / 4 % 4) (P t).length = pl (ml n t) + 1 + k0 / 4 % 4 by omega]; rw [upd_upd]; exact ⟨rfl, WS_fin hW (hLs t ht) ht (by omega)⟩) rfl (Nat.le_of_ble_eq_true rfl) (Nat.le_of_ble_eq_true rfl) dX4_goesOn_326
          · exact absurd h24 (by decide)
      · exact absurd h22 (by decide)
  · have hlt : pl (ml n t) = (P t).length := by omega
    refine z_iconst X (v := nI 0) (pc' := 16) dX4_goesOn_15 (by decide) rfl ?_
    refine z_ws (ws' := [(mo, .inr (4, [.int (nI th), .ref (ad 1), .ref (ad 2), .ref (ad 3), .ref (ad 4), .int (nI st), .ref (ad 6), .ref (ad 7), .ref (ad 8), .ref (ad 9), .ref (ad 10), .ref (ad 11), .ref (ad 12), .ref (ad 13), .ref (ad 14), .ref (ad 15), .ref (ad 16), .ref (ad 17), .ref (ad 18), .int (nI tol), .int (nI ts), .int (nI tf), .int (nI td), .ref (ad 23), .ref (ad 24), .ref (ad 25), .ref (ad 26)])), (ad 1, .inl (cI, 4, .inl gm)), (ad 2, .inl (cI, 24, .inl gn)), (ad 3, .inl (cI, 24, .inl ga)), (ad 4, .inl (cI, 24, .inl gb)), (ad 13, .inl (cI, 4, .inl fa)), (ad 14, .inl (cI, 16, .inl fr)), (ad 15, .inl (cI, 4, .inl fw)), (ad 16, .inl (cI, 4, .inl fh)), (ad 17, .inl (cI, 8, .inl fW)), (ad 18, .inl (cI, 8, .inl fV))]) [0, 1, 2, 3, 4, 5, 6, 7, 8, 9, 10] (by decide) rfl ?_
    exact z_iret X (t1 := .boolean) rfl rfl (fa, fr, fw, fh, fW, fV) (by show rOpW (st_go P md h n t) _ _; unfold st_go; rw [List.getElem?_eq_none (by omega)]; exact rfl) rfl (Nat.le_of_ble_eq_true rfl) (Nat.le_of_ble_eq_true rfl) dX4_goesOn_16


set_option maxHeartbeats 4000000 in
set_option maxRecDepth 100000 in
/-- a store leaves -/
theorem r_leaves (l : Launch) (D : va_G) (cI cJ : ClassId) (sz : Nat) (mo th st tol ts tf td : Nat) (ad : Nat → Nat) (h n t w md : Nat) (fa fr fw fh fW fV : Nat → Int32) (P : Nat → List Nat) (ht : t < 4) (hw : w < 4) (hmd : md < 3) (hS : Sok P h n) (hW : WS h n fa fr fw fh fW fV) : KI l D cI cJ yX4_leaves cX4_leaves 5 (some .boolean) 0 0 0 0 [.ref mo, .int (nI t), .int (nI w), .int (nI md)] [(mo, .inr (4, [.int (nI th), .ref (ad 1), .ref (ad 2), .ref (ad 3), .ref (ad 4), .int (nI st), .ref (ad 6), .ref (ad 7), .ref (ad 8), .ref (ad 9), .ref (ad 10), .ref (ad 11), .ref (ad 12), .ref (ad 13), .ref (ad 14), .ref (ad 15), .ref (ad 16), .ref (ad 17), .ref (ad 18), .int (nI tol), .int (nI ts), .int (nI tf), .int (nI td), .ref (ad 23), .ref (ad 24), .ref (ad 25), .ref (ad 26)])), (ad 13, .inl (cI, 4, .inl fa)), (ad 14, .inl (cI, 16, .inl fr)), (ad 15, .inl (cI, 4, .inl fw)), (ad 16, .inl (cI, 4, .inl fh)), (ad 17, .inl (cI, 8, .inl fW)), (ad 18, .inl (cI, 8, .inl fV))] sz (S := W6) (fun r u => rOpW (st_rel md h n t w) r u) (fun u => [(mo, .inr (4, [.int (nI th), .ref (ad 1), .ref (ad 2), .ref (ad 3), .ref (ad 4), .int (nI st), .ref (ad 6), .ref (ad 7), .ref (ad 8), .ref (ad 9), .ref (ad 10), .ref (ad 11), .ref (ad 12), .ref (ad 13), .ref (ad 14), .ref (ad 15), .ref (ad 16), .ref (ad 17), .ref (ad 18), .int (nI tol), .int (nI ts), .int (nI tf), .int (nI td), .ref (ad 23), .ref (ad 24), .ref (ad 25), .ref (ad 26)])), (ad 13, .inl (cI, 4, .inl u.1)), (ad 14, .inl (cI, 16, .inl u.2.1)), (ad 15, .inl (cI, 4, .inl u.2.2.1)), (ad 16, .inl (cI, 4, .inl u.2.2.2.1)), (ad 17, .inl (cI, 8, .inl u.2.2.2.2.1)), (ad 18, .inl (cI, 8, .inl u.2.2.2.2.2))]) := by
  refine zMetI (lv := [(0, .ref mo), (1, .int (nI t)), (2, .int (nI w)), (3, .int (nI md))]) NS0_ok (by decide) rfl (Nat.le_of_ble_eq_true rfl) rfl ?_
  intro p e s m args below meth c A X hin hA
  have hLs : ∀ t, t < 4 → Lok (ml n t) := fun t ht => (hS.2.2 t ht).1
  have hw4 := (hLs t ht).1
  refine z_iconst X (v := nI 0) (pc' := 1) dX4_leaves_0 (by decide) rfl ?_
  rcases (show wt (ml n t) = 0 ∨ wt (ml n t) = 1 ∨ wt (ml n t) = 2 by omega) with hwt | hwt | hwt
  · have hd := hW.1 t ht
    refine z_istore X (lv' := [(4, .int (nI 0)), (0, .ref mo), (1, .int (nI t)), (2, .int (nI w)), (3, .int (nI md))]) (pc' := 3) dX4_leaves_1 (by decide) rfl rfl ?_
    refine z_iload X (pc' := 5) dX4_leaves_3 0 rfl rfl ?_
    refine z_aload_n X (pc' := 6) dX4_leaves_5 rfl 1 rfl rfl ?_
    refine z_get X (v := .ref (ad 16)) (pc' := 9) 0 rfl rfl inX4 16 (by decide) mF_X4_53 rfl dX4_leaves_6 rfl ?_
    refine z_iload_n X (pc' := 10) dX4_leaves_9 rfl 2 rfl rfl ?_
    refine z_iald X (pc' := 11) 4 0 rfl rfl (by omega) (by omega) dX4_leaves_10 rfl ?_
    refine z_topi (y := nI 0) (by rw [hd.2.1, hwt]) ?_
    refine z_icmp_geN X (tgt := 35) (pc' := 14) (by omega) (by omega) dX4_leaves_11 (by decide) rfl (fun h1 => ?_) (fun h1 => ?_)
    · clear h1
      refine z_iload X (pc' := 37) dX4_leaves_35 0 rfl rfl ?_
      refine z_aload_n X (pc' := 38) dX4_leaves_37 rfl 1 rfl rfl ?_
      refine z_get X (v := .ref (ad 16)) (pc' := 41) 0 rfl rfl inX4 16 (by decide) mF_X4_53 rfl dX4_leaves_38 rfl ?_
      refine z_iload_n X (pc' := 42) dX4_leaves_41 rfl 2 rfl rfl ?_
      refine z_iald X (pc' := 43) 4 0 rfl rfl (by omega) (by omega) dX4_leaves_42 rfl ?_
      refine z_topi (y := nI 0) (by rw [hd.2.1, hwt]) ?_
      refine z_icmp_eqN X (tgt := 56) (pc' := 46) (by omega) (by omega) dX4_leaves_43 (by decide) rfl (fun h2 => ?_) (fun h2 => ?_)
      · clear h2
        refine z_iconst X (v := nI 0) (pc' := 57) dX4_leaves_56 (by decide) rfl ?_
        exact z_iret X (t1 := .boolean) rfl rfl (fa, fr, fw, fh, fW, fV) (by show rOpW (st_rel md h n t w) _ _; unfold st_rel; rw [if_neg (fun x => by omega), if_neg (fun x => by omega)]; exact rfl) rfl (Nat.le_of_ble_eq_true rfl) (Nat.le_of_ble_eq_true rfl) dX4_leaves_57
      · exact absurd h2 (by decide)
    · exact absurd h1 (by decide)
  · have hd := hW.1 t ht
    refine z_istore X (lv' := [(4, .int (nI 0)), (0, .ref mo), (1, .int (nI t)), (2, .int (nI w)), (3, .int (nI md))]) (pc' := 3) dX4_leaves_1 (by decide) rfl rfl ?_
    refine z_iload X (pc' := 5) dX4_leaves_3 0 rfl rfl ?_
    refine z_aload_n X (pc' := 6) dX4_leaves_5 rfl 1 rfl rfl ?_
    refine z_get X (v := .ref (ad 16)) (pc' := 9) 0 rfl rfl inX4 16 (by decide) mF_X4_53 rfl dX4_leaves_6 rfl ?_
    refine z_iload_n X (pc' := 10) dX4_leaves_9 rfl 2 rfl rfl ?_
    refine z_iald X (pc' := 11) 4 0 rfl rfl (by omega) (by omega) dX4_leaves_10 rfl ?_
    refine z_topi (y := nI 1) (by rw [hd.2.1, hwt]) ?_
    refine z_icmp_geN X (tgt := 35) (pc' := 14) (by omega) (by omega) dX4_leaves_11 (by decide) rfl (fun h3 => ?_) (fun h3 => ?_)
    · exact absurd h3 (by decide)
    · clear h3
      refine z_aload_n X (pc' := 15) dX4_leaves_14 rfl 1 rfl rfl ?_
      refine z_get X (v := .ref (ad 17)) (pc' := 18) 0 rfl rfl inX4 17 (by decide) mF_X4_56 rfl dX4_leaves_15 rfl ?_
      refine z_iconst X (v := nI 2) (pc' := 19) dX4_leaves_18 (by decide) rfl ?_
      refine z_iload_n X (pc' := 20) dX4_leaves_19 rfl 2 rfl rfl ?_
      refine z_imul X (pc' := 21) dX4_leaves_20 rfl ?_
      refine z_topi (y := nI (2 * t)) (pk_mul _ _) ?_
      refine z_iload X (pc' := 23) dX4_leaves_21 0 rfl rfl ?_
      refine z_iadd X (pc' := 24) dX4_leaves_23 rfl ?_
      refine z_topi (y := nI ((2 * t) + 0)) (nI_add _ _) ?_
      refine z_topi (y := nI ((2 * t) + 0)) rfl ?_
      refine z_iald X (pc' := 25) 5 0 rfl rfl (by omega) (by omega) dX4_leaves_24 rfl ?_
      refine z_topi (y := nI (en (ml n t) 0 / 4)) (hd.2.2 0 (by omega)).1 ?_
      refine z_iload_n X (pc' := 26) dX4_leaves_25 rfl 3 rfl rfl ?_
      have hl0 := en_lt (ml n t) 0
      refine z_icmp_eqN X (tgt := 35) (pc' := 29) (by omega) (by omega) dX4_leaves_26 (by decide) rfl (fun h4 => ?_) (fun h4 => ?_)
      · have hq0 : en (ml n t) 0 / 4 = w := h4
        refine z_iload X (pc' := 37) dX4_leaves_35 0 rfl rfl ?_
        refine z_aload_n X (pc' := 38) dX4_leaves_37 rfl 1 rfl rfl ?_
        refine z_get X (v := .ref (ad 16)) (pc' := 41) 0 rfl rfl inX4 16 (by decide) mF_X4_53 rfl dX4_leaves_38 rfl ?_
        refine z_iload_n X (pc' := 42) dX4_leaves_41 rfl 2 rfl rfl ?_
        refine z_iald X (pc' := 43) 4 0 rfl rfl (by omega) (by omega) dX4_leaves_42 rfl ?_
        refine z_topi (y := nI 1) (by rw [hd.2.1, hwt]) ?_
        refine z_icmp_eqN X (tgt := 56) (pc' := 46) (by omega) (by omega) dX4_leaves_43 (by decide) rfl (fun h5 => ?_) (fun h5 => ?_)
        · exact absurd h5 (by decide)
        · clear h5
          refine z_iload_n X (pc' := 47) dX4_leaves_46 rfl 4 rfl rfl ?_
          refine z_iconst X (v := nI 1) (pc' := 48) dX4_leaves_47 (by decide) rfl ?_
          refine z_icmp_neN X (tgt := 58) (pc' := 51) (by omega) (by decide) dX4_leaves_48 (by decide) rfl (fun h6 => ?_) (fun h6 => ?_)
          · have hm1 : ¬ md = 1 := h6
            refine z_aload_n X (pc' := 59) dX4_leaves_58 rfl 1 rfl rfl ?_
            refine z_get X (v := .ref (ad 15)) (pc' := 62) 0 rfl rfl inX4 15 (by decide) mF_X4_50 rfl dX4_leaves_59 rfl ?_
            refine z_iload_n X (pc' := 63) dX4_leaves_62 rfl 3 rfl rfl ?_
            refine z_aload_n X (pc' := 64) dX4_leaves_63 rfl 1 rfl rfl ?_
            refine z_get X (v := .ref (ad 18)) (pc' := 67) 0 rfl rfl inX4 18 (by decide) mF_X4_59 rfl dX4_leaves_64 rfl ?_
            refine z_iconst X (v := nI 2) (pc' := 68) dX4_leaves_67 (by decide) rfl ?_
            refine z_iload_n X (pc' := 69) dX4_leaves_68 rfl 2 rfl rfl ?_
            refine z_imul X (pc' := 70) dX4_leaves_69 rfl ?_
            refine z_topi (y := nI (2 * t)) (pk_mul _ _) ?_
            refine z_iload X (pc' := 72) dX4_leaves_70 0 rfl rfl ?_
            refine z_iadd X (pc' := 73) dX4_leaves_72 rfl ?_
            refine z_topi (y := nI ((2 * t) + 0)) (nI_add _ _) ?_
            refine z_topi (y := nI ((2 * t) + 0)) rfl ?_
            refine z_iald X (pc' := 74) 6 0 rfl rfl (by omega) (by omega) dX4_leaves_73 rfl ?_
            refine z_topi (y := nI (en (ml n t) 0 % 4)) (hd.2.2 0 (by omega)).2 ?_
            refine z_iast X (ws' := [(mo, .inr (4, [.int (nI th), .ref (ad 1), .ref (ad 2), .ref (ad 3), .ref (ad 4), .int (nI st), .ref (ad 6), .ref (ad 7), .ref (ad 8), .ref (ad 9), .ref (ad 10), .ref (ad 11), .ref (ad 12), .ref (ad 13), .ref (ad 14), .ref (ad 15), .ref (ad 16), .ref (ad 17), .ref (ad 18), .int (nI tol), .int (nI ts), .int (nI tf), .int (nI td), .ref (ad 23), .ref (ad 24), .ref (ad 25), .ref (ad 26)])), (ad 13, .inl (cI, 4, .inl fa)), (ad 14, .inl (cI, 16, .inl fr)), (ad 15, .inl (cI, 4, .inl (upd fw w (nI (en (ml n t) 0 % 4))))), (ad 16, .inl (cI, 4, .inl fh)), (ad 17, .inl (cI, 8, .inl fW)), (ad 18, .inl (cI, 8, .inl fV))]) (pc' := 75) 3 0 rfl rfl (by omega) (by omega) dX4_leaves_74 rfl rfl ?_
            refine z_aload_n X (pc' := 76) dX4_leaves_75 rfl 1 rfl rfl ?_
            refine z_get X (v := .ref (ad 16)) (pc' := 79) 0 rfl rfl inX4 16 (by decide) mF_X4_53 rfl dX4_leaves_76 rfl ?_
            refine z_iload_n X (pc' := 80) dX4_leaves_79 rfl 2 rfl rfl ?_
            refine z_dup2_11 X (pc' := 81) dX4_leaves_80 rfl rfl rfl ?_
            refine z_iald X (pc' := 82) 4 0 rfl rfl (by omega) (by omega) dX4_leaves_81 rfl ?_
            refine z_topi (y := nI 1) (by rw [hd.2.1, hwt]) ?_
            refine z_iconst X (v := nI 1) (pc' := 83) dX4_leaves_82 (by decide) rfl ?_
            refine z_isub X (pc' := 84) dX4_leaves_83 rfl ?_
            refine z_topi (y := nI 0) (pk_sub (by decide)) ?_
            refine z_iast X (ws' := [(mo, .inr (4, [.int (nI th), .ref (ad 1), .ref (ad 2), .ref (ad 3), .ref (ad 4), .int (nI st), .ref (ad 6), .ref (ad 7), .ref (ad 8), .ref (ad 9), .ref (ad 10), .ref (ad 11), .ref (ad 12), .ref (ad 13), .ref (ad 14), .ref (ad 15), .ref (ad 16), .ref (ad 17), .ref (ad 18), .int (nI tol), .int (nI ts), .int (nI tf), .int (nI td), .ref (ad 23), .ref (ad 24), .ref (ad 25), .ref (ad 26)])), (ad 13, .inl (cI, 4, .inl fa)), (ad 14, .inl (cI, 16, .inl fr)), (ad 15, .inl (cI, 4, .inl (upd fw w (nI (en (ml n t) 0 % 4))))), (ad 16, .inl (cI, 4, .inl (upd fh t (nI 0)))), (ad 17, .inl (cI, 8, .inl fW)), (ad 18, .inl (cI, 8, .inl fV))]) (pc' := 85) 4 0 rfl rfl (by omega) (by omega) dX4_leaves_84 rfl rfl ?_
            refine z_iload X (pc' := 87) dX4_leaves_85 0 rfl rfl ?_
            refine z_aload_n X (pc' := 88) dX4_leaves_87 rfl 1 rfl rfl ?_
            refine z_get X (v := .ref (ad 16)) (pc' := 91) 0 rfl rfl inX4 16 (by decide) mF_X4_53 rfl dX4_leaves_88 rfl ?_
            refine z_iload_n X (pc' := 92) dX4_leaves_91 rfl 2 rfl rfl ?_
            refine z_iald X (pc' := 93) 4 0 rfl rfl (by omega) (by omega) dX4_leaves_92 rfl ?_
            refine z_topi (y := nI 0) pk_us ?_
            refine z_icmp_geN X (tgt := 150) (pc' := 96) (by omega) (by omega) dX4_leaves_93 (by decide) rfl (fun h7 => ?_) (fun h7 => ?_)
            · clear h7
              refine z_iconst X (v := nI 1) (pc' := 151) dX4_leaves_150 (by decide) rfl ?_
              exact z_iret X (t1 := .boolean) rfl rfl (fa, fr, upd fw w (nI (en (ml n t) 0 % 4)), upd fh t (nI 0), fW, fV) (by show rOpW (st_rel md h n t w) _ _; unfold st_rel; rw [if_pos ⟨by omega, hq0⟩]; have hw1 := WS_word hW hw (Nat.mod_lt (en (ml n t) 0) (by decide)); exact ⟨rfl, WL_wo1 hW.1 (hLs t ht) ht hwt, hw1.2⟩) rfl (Nat.le_of_ble_eq_true rfl) (Nat.le_of_ble_eq_true rfl) dX4_leaves_151
            · exact absurd h7 (by decide)
          · have hm1 : md = 1 := h6
            refine z_iload X (pc' := 53) dX4_leaves_51 0 rfl rfl ?_
            refine z_if_leN X (tgt := 58) (pc' := 56) (by omega) dX4_leaves_53 (by decide) rfl (fun h8 => ?_) (fun h8 => ?_)
            · clear h8
              refine z_aload_n X (pc' := 59) dX4_leaves_58 rfl 1 rfl rfl ?_
              refine z_get X (v := .ref (ad 15)) (pc' := 62) 0 rfl rfl inX4 15 (by decide) mF_X4_50 rfl dX4_leaves_59 rfl ?_
              refine z_iload_n X (pc' := 63) dX4_leaves_62 rfl 3 rfl rfl ?_
              refine z_aload_n X (pc' := 64) dX4_leaves_63 rfl 1 rfl rfl ?_
              refine z_get X (v := .ref (ad 18)) (pc' := 67) 0 rfl rfl inX4 18 (by decide) mF_X4_59 rfl dX4_leaves_64 rfl ?_
              refine z_iconst X (v := nI 2) (pc' := 68) dX4_leaves_67 (by decide) rfl ?_
              refine z_iload_n X (pc' := 69) dX4_leaves_68 rfl 2 rfl rfl ?_
              refine z_imul X (pc' := 70) dX4_leaves_69 rfl ?_
              refine z_topi (y := nI (2 * t)) (pk_mul _ _) ?_
              refine z_iload X (pc' := 72) dX4_leaves_70 0 rfl rfl ?_
              refine z_iadd X (pc' := 73) dX4_leaves_72 rfl ?_
              refine z_topi (y := nI ((2 * t) + 0)) (nI_add _ _) ?_
              refine z_topi (y := nI ((2 * t) + 0)) rfl ?_
              refine z_iald X (pc' := 74) 6 0 rfl rfl (by omega) (by omega) dX4_leaves_73 rfl ?_
              refine z_topi (y := nI (en (ml n t) 0 % 4)) (hd.2.2 0 (by omega)).2 ?_
              refine z_iast X (ws' := [(mo, .inr (4, [.int (nI th), .ref (ad 1), .ref (ad 2), .ref (ad 3), .ref (ad 4), .int (nI st), .ref (ad 6), .ref (ad 7), .ref (ad 8), .ref (ad 9), .ref (ad 10), .ref (ad 11), .ref (ad 12), .ref (ad 13), .ref (ad 14), .ref (ad 15), .ref (ad 16), .ref (ad 17), .ref (ad 18), .int (nI tol), .int (nI ts), .int (nI tf), .int (nI td), .ref (ad 23), .ref (ad 24), .ref (ad 25), .ref (ad 26)])), (ad 13, .inl (cI, 4, .inl fa)), (ad 14, .inl (cI, 16, .inl fr)), (ad 15, .inl (cI, 4, .inl (upd fw w (nI (en (ml n t) 0 % 4))))), (ad 16, .inl (cI, 4, .inl fh)), (ad 17, .inl (cI, 8, .inl fW)), (ad 18, .inl (cI, 8, .inl fV))]) (pc' := 75) 3 0 rfl rfl (by omega) (by omega) dX4_leaves_74 rfl rfl ?_
              refine z_aload_n X (pc' := 76) dX4_leaves_75 rfl 1 rfl rfl ?_
              refine z_get X (v := .ref (ad 16)) (pc' := 79) 0 rfl rfl inX4 16 (by decide) mF_X4_53 rfl dX4_leaves_76 rfl ?_
              refine z_iload_n X (pc' := 80) dX4_leaves_79 rfl 2 rfl rfl ?_
              refine z_dup2_11 X (pc' := 81) dX4_leaves_80 rfl rfl rfl ?_
              refine z_iald X (pc' := 82) 4 0 rfl rfl (by omega) (by omega) dX4_leaves_81 rfl ?_
              refine z_topi (y := nI 1) (by rw [hd.2.1, hwt]) ?_
              refine z_iconst X (v := nI 1) (pc' := 83) dX4_leaves_82 (by decide) rfl ?_
              refine z_isub X (pc' := 84) dX4_leaves_83 rfl ?_
              refine z_topi (y := nI 0) (pk_sub (by decide)) ?_
              refine z_iast X (ws' := [(mo, .inr (4, [.int (nI th), .ref (ad 1), .ref (ad 2), .ref (ad 3), .ref (ad 4), .int (nI st), .ref (ad 6), .ref (ad 7), .ref (ad 8), .ref (ad 9), .ref (ad 10), .ref (ad 11), .ref (ad 12), .ref (ad 13), .ref (ad 14), .ref (ad 15), .ref (ad 16), .ref (ad 17), .ref (ad 18), .int (nI tol), .int (nI ts), .int (nI tf), .int (nI td), .ref (ad 23), .ref (ad 24), .ref (ad 25), .ref (ad 26)])), (ad 13, .inl (cI, 4, .inl fa)), (ad 14, .inl (cI, 16, .inl fr)), (ad 15, .inl (cI, 4, .inl (upd fw w (nI (en (ml n t) 0 % 4))))), (ad 16, .inl (cI, 4, .inl (upd fh t (nI 0)))), (ad 17, .inl (cI, 8, .inl fW)), (ad 18, .inl (cI, 8, .inl fV))]) (pc' := 85) 4 0 rfl rfl (by omega) (by omega) dX4_leaves_84 rfl rfl ?_
              refine z_iload X (pc' := 87) dX4_leaves_85 0 rfl rfl ?_
              refine z_aload_n X (pc' := 88) dX4_leaves_87 rfl 1 rfl rfl ?_
              refine z_get X (v := .ref (ad 16)) (pc' := 91) 0 rfl rfl inX4 16 (by decide) mF_X4_53 rfl dX4_leaves_88 rfl ?_
              refine z_iload_n X (pc' := 92) dX4_leaves_91 rfl 2 rfl rfl ?_
              refine z_iald X (pc' := 93) 4 0 rfl rfl (by omega) (by omega) dX4_leaves_92 rfl ?_
              refine z_topi (y := nI 0) pk_us ?_
              refine z_icmp_geN X (tgt := 150) (pc' := 96) (by omega) (by omega) dX4_leaves_93 (by decide) rfl (fun h9 => ?_) (fun h9 => ?_)
              · clear h9
                refine z_iconst X (v := nI 1) (pc' := 151) dX4_leaves_150 (by decide) rfl ?_
                exact z_iret X (t1 := .boolean) rfl rfl (fa, fr, upd fw w (nI (en (ml n t) 0 % 4)), upd fh t (nI 0), fW, fV) (by show rOpW (st_rel md h n t w) _ _; unfold st_rel; rw [if_pos ⟨by omega, hq0⟩]; have hw1 := WS_word hW hw (Nat.mod_lt (en (ml n t) 0) (by decide)); exact ⟨rfl, WL_wo1 hW.1 (hLs t ht) ht hwt, hw1.2⟩) rfl (Nat.le_of_ble_eq_true rfl) (Nat.le_of_ble_eq_true rfl) dX4_leaves_151
              · exact absurd h9 (by decide)
            · exact absurd h8 (by decide)
      · have hq0 : ¬ en (ml n t) 0 / 4 = w := h4
        refine z_iinc X (v := nI 1) (lv' := [(4, .int (nI 1)), (0, .ref mo), (1, .int (nI t)), (2, .int (nI w)), (3, .int (nI md))]) (k := 0) (pc' := 32) dX4_leaves_29 rfl (by decide) (by decide) rfl rfl ?_
        refine z_goto X (tgt := 3) dX4_leaves_32 (by decide) ?_
        refine z_iload X (pc' := 5) dX4_leaves_3 0 rfl rfl ?_
        refine z_aload_n X (pc' := 6) dX4_leaves_5 rfl 1 rfl rfl ?_
        refine z_get X (v := .ref (ad 16)) (pc' := 9) 0 rfl rfl inX4 16 (by decide) mF_X4_53 rfl dX4_leaves_6 rfl ?_
        refine z_iload_n X (pc' := 10) dX4_leaves_9 rfl 2 rfl rfl ?_
        refine z_iald X (pc' := 11) 4 0 rfl rfl (by omega) (by omega) dX4_leaves_10 rfl ?_
        refine z_topi (y := nI 1) (by rw [hd.2.1, hwt]) ?_
        refine z_icmp_geN X (tgt := 35) (pc' := 14) (by omega) (by omega) dX4_leaves_11 (by decide) rfl (fun h10 => ?_) (fun h10 => ?_)
        · clear h10
          refine z_iload X (pc' := 37) dX4_leaves_35 0 rfl rfl ?_
          refine z_aload_n X (pc' := 38) dX4_leaves_37 rfl 1 rfl rfl ?_
          refine z_get X (v := .ref (ad 16)) (pc' := 41) 0 rfl rfl inX4 16 (by decide) mF_X4_53 rfl dX4_leaves_38 rfl ?_
          refine z_iload_n X (pc' := 42) dX4_leaves_41 rfl 2 rfl rfl ?_
          refine z_iald X (pc' := 43) 4 0 rfl rfl (by omega) (by omega) dX4_leaves_42 rfl ?_
          refine z_topi (y := nI 1) (by rw [hd.2.1, hwt]) ?_
          refine z_icmp_eqN X (tgt := 56) (pc' := 46) (by omega) (by omega) dX4_leaves_43 (by decide) rfl (fun h11 => ?_) (fun h11 => ?_)
          · clear h11
            refine z_iconst X (v := nI 0) (pc' := 57) dX4_leaves_56 (by decide) rfl ?_
            exact z_iret X (t1 := .boolean) rfl rfl (fa, fr, fw, fh, fW, fV) (by show rOpW (st_rel md h n t w) _ _; unfold st_rel; rw [if_neg (fun x => hq0 x.2), if_neg (fun x => by omega)]; exact rfl) rfl (Nat.le_of_ble_eq_true rfl) (Nat.le_of_ble_eq_true rfl) dX4_leaves_57
          · exact absurd h11 (by decide)
        · exact absurd h10 (by decide)
  · have hd := hW.1 t ht
    refine z_istore X (lv' := [(4, .int (nI 0)), (0, .ref mo), (1, .int (nI t)), (2, .int (nI w)), (3, .int (nI md))]) (pc' := 3) dX4_leaves_1 (by decide) rfl rfl ?_
    refine z_iload X (pc' := 5) dX4_leaves_3 0 rfl rfl ?_
    refine z_aload_n X (pc' := 6) dX4_leaves_5 rfl 1 rfl rfl ?_
    refine z_get X (v := .ref (ad 16)) (pc' := 9) 0 rfl rfl inX4 16 (by decide) mF_X4_53 rfl dX4_leaves_6 rfl ?_
    refine z_iload_n X (pc' := 10) dX4_leaves_9 rfl 2 rfl rfl ?_
    refine z_iald X (pc' := 11) 4 0 rfl rfl (by omega) (by omega) dX4_leaves_10 rfl ?_
    refine z_topi (y := nI 2) (by rw [hd.2.1, hwt]) ?_
    refine z_icmp_geN X (tgt := 35) (pc' := 14) (by omega) (by omega) dX4_leaves_11 (by decide) rfl (fun h12 => ?_) (fun h12 => ?_)
    · exact absurd h12 (by decide)
    · clear h12
      refine z_aload_n X (pc' := 15) dX4_leaves_14 rfl 1 rfl rfl ?_
      refine z_get X (v := .ref (ad 17)) (pc' := 18) 0 rfl rfl inX4 17 (by decide) mF_X4_56 rfl dX4_leaves_15 rfl ?_
      refine z_iconst X (v := nI 2) (pc' := 19) dX4_leaves_18 (by decide) rfl ?_
      refine z_iload_n X (pc' := 20) dX4_leaves_19 rfl 2 rfl rfl ?_
      refine z_imul X (pc' := 21) dX4_leaves_20 rfl ?_
      refine z_topi (y := nI (2 * t)) (pk_mul _ _) ?_
      refine z_iload X (pc' := 23) dX4_leaves_21 0 rfl rfl ?_
      refine z_iadd X (pc' := 24) dX4_leaves_23 rfl ?_
      refine z_topi (y := nI ((2 * t) + 0)) (nI_add _ _) ?_
      refine z_topi (y := nI ((2 * t) + 0)) rfl ?_
      refine z_iald X (pc' := 25) 5 0 rfl rfl (by omega) (by omega) dX4_leaves_24 rfl ?_
      refine z_topi (y := nI (en (ml n t) 0 / 4)) (hd.2.2 0 (by omega)).1 ?_
      refine z_iload_n X (pc' := 26) dX4_leaves_25 rfl 3 rfl rfl ?_
      have hl0 := en_lt (ml n t) 0
      refine z_icmp_eqN X (tgt := 35) (pc' := 29) (by omega) (by omega) dX4_leaves_26 (by decide) rfl (fun h13 => ?_) (fun h13 => ?_)
      · have hq0 : en (ml n t) 0 / 4 = w := h13
        refine z_iload X (pc' := 37) dX4_leaves_35 0 rfl rfl ?_
        refine z_aload_n X (pc' := 38) dX4_leaves_37 rfl 1 rfl rfl ?_
        refine z_get X (v := .ref (ad 16)) (pc' := 41) 0 rfl rfl inX4 16 (by decide) mF_X4_53 rfl dX4_leaves_38 rfl ?_
        refine z_iload_n X (pc' := 42) dX4_leaves_41 rfl 2 rfl rfl ?_
        refine z_iald X (pc' := 43) 4 0 rfl rfl (by omega) (by omega) dX4_leaves_42 rfl ?_
        refine z_topi (y := nI 2) (by rw [hd.2.1, hwt]) ?_
        refine z_icmp_eqN X (tgt := 56) (pc' := 46) (by omega) (by omega) dX4_leaves_43 (by decide) rfl (fun h14 => ?_) (fun h14 => ?_)
        · exact absurd h14 (by decide)
        · clear h14
          refine z_iload_n X (pc' := 47) dX4_leaves_46 rfl 4 rfl rfl ?_
          refine z_iconst X (v := nI 1) (pc' := 48) dX4_leaves_47 (by decide) rfl ?_
          refine z_icmp_neN X (tgt := 58) (pc' := 51) (by omega) (by decide) dX4_leaves_48 (by decide) rfl (fun h15 => ?_) (fun h15 => ?_)
          · have hm1 : ¬ md = 1 := h15
            refine z_aload_n X (pc' := 59) dX4_leaves_58 rfl 1 rfl rfl ?_
            refine z_get X (v := .ref (ad 15)) (pc' := 62) 0 rfl rfl inX4 15 (by decide) mF_X4_50 rfl dX4_leaves_59 rfl ?_
            refine z_iload_n X (pc' := 63) dX4_leaves_62 rfl 3 rfl rfl ?_
            refine z_aload_n X (pc' := 64) dX4_leaves_63 rfl 1 rfl rfl ?_
            refine z_get X (v := .ref (ad 18)) (pc' := 67) 0 rfl rfl inX4 18 (by decide) mF_X4_59 rfl dX4_leaves_64 rfl ?_
            refine z_iconst X (v := nI 2) (pc' := 68) dX4_leaves_67 (by decide) rfl ?_
            refine z_iload_n X (pc' := 69) dX4_leaves_68 rfl 2 rfl rfl ?_
            refine z_imul X (pc' := 70) dX4_leaves_69 rfl ?_
            refine z_topi (y := nI (2 * t)) (pk_mul _ _) ?_
            refine z_iload X (pc' := 72) dX4_leaves_70 0 rfl rfl ?_
            refine z_iadd X (pc' := 73) dX4_leaves_72 rfl ?_
            refine z_topi (y := nI ((2 * t) + 0)) (nI_add _ _) ?_
            refine z_topi (y := nI ((2 * t) + 0)) rfl ?_
            refine z_iald X (pc' := 74) 6 0 rfl rfl (by omega) (by omega) dX4_leaves_73 rfl ?_
            refine z_topi (y := nI (en (ml n t) 0 % 4)) (hd.2.2 0 (by omega)).2 ?_
            refine z_iast X (ws' := [(mo, .inr (4, [.int (nI th), .ref (ad 1), .ref (ad 2), .ref (ad 3), .ref (ad 4), .int (nI st), .ref (ad 6), .ref (ad 7), .ref (ad 8), .ref (ad 9), .ref (ad 10), .ref (ad 11), .ref (ad 12), .ref (ad 13), .ref (ad 14), .ref (ad 15), .ref (ad 16), .ref (ad 17), .ref (ad 18), .int (nI tol), .int (nI ts), .int (nI tf), .int (nI td), .ref (ad 23), .ref (ad 24), .ref (ad 25), .ref (ad 26)])), (ad 13, .inl (cI, 4, .inl fa)), (ad 14, .inl (cI, 16, .inl fr)), (ad 15, .inl (cI, 4, .inl (upd fw w (nI (en (ml n t) 0 % 4))))), (ad 16, .inl (cI, 4, .inl fh)), (ad 17, .inl (cI, 8, .inl fW)), (ad 18, .inl (cI, 8, .inl fV))]) (pc' := 75) 3 0 rfl rfl (by omega) (by omega) dX4_leaves_74 rfl rfl ?_
            refine z_aload_n X (pc' := 76) dX4_leaves_75 rfl 1 rfl rfl ?_
            refine z_get X (v := .ref (ad 16)) (pc' := 79) 0 rfl rfl inX4 16 (by decide) mF_X4_53 rfl dX4_leaves_76 rfl ?_
            refine z_iload_n X (pc' := 80) dX4_leaves_79 rfl 2 rfl rfl ?_
            refine z_dup2_11 X (pc' := 81) dX4_leaves_80 rfl rfl rfl ?_
            refine z_iald X (pc' := 82) 4 0 rfl rfl (by omega) (by omega) dX4_leaves_81 rfl ?_
            refine z_topi (y := nI 2) (by rw [hd.2.1, hwt]) ?_
            refine z_iconst X (v := nI 1) (pc' := 83) dX4_leaves_82 (by decide) rfl ?_
            refine z_isub X (pc' := 84) dX4_leaves_83 rfl ?_
            refine z_topi (y := nI 1) (pk_sub (by decide)) ?_
            refine z_iast X (ws' := [(mo, .inr (4, [.int (nI th), .ref (ad 1), .ref (ad 2), .ref (ad 3), .ref (ad 4), .int (nI st), .ref (ad 6), .ref (ad 7), .ref (ad 8), .ref (ad 9), .ref (ad 10), .ref (ad 11), .ref (ad 12), .ref (ad 13), .ref (ad 14), .ref (ad 15), .ref (ad 16), .ref (ad 17), .ref (ad 18), .int (nI tol), .int (nI ts), .int (nI tf), .int (nI td), .ref (ad 23), .ref (ad 24), .ref (ad 25), .ref (ad 26)])), (ad 13, .inl (cI, 4, .inl fa)), (ad 14, .inl (cI, 16, .inl fr)), (ad 15, .inl (cI, 4, .inl (upd fw w (nI (en (ml n t) 0 % 4))))), (ad 16, .inl (cI, 4, .inl (upd fh t (nI 1)))), (ad 17, .inl (cI, 8, .inl fW)), (ad 18, .inl (cI, 8, .inl fV))]) (pc' := 85) 4 0 rfl rfl (by omega) (by omega) dX4_leaves_84 rfl rfl ?_
            refine z_iload X (pc' := 87) dX4_leaves_85 0 rfl rfl ?_
            refine z_aload_n X (pc' := 88) dX4_leaves_87 rfl 1 rfl rfl ?_
            refine z_get X (v := .ref (ad 16)) (pc' := 91) 0 rfl rfl inX4 16 (by decide) mF_X4_53 rfl dX4_leaves_88 rfl ?_
            refine z_iload_n X (pc' := 92) dX4_leaves_91 rfl 2 rfl rfl ?_
            refine z_iald X (pc' := 93) 4 0 rfl rfl (by omega) (by omega) dX4_leaves_92 rfl ?_
            refine z_topi (y := nI 1) pk_us ?_
            refine z_icmp_geN X (tgt := 150) (pc' := 96) (by omega) (by omega) dX4_leaves_93 (by decide) rfl (fun h16 => ?_) (fun h16 => ?_)
            · exact absurd h16 (by decide)
            · clear h16
              refine z_aload_n X (pc' := 97) dX4_leaves_96 rfl 1 rfl rfl ?_
              refine z_get X (v := .ref (ad 17)) (pc' := 100) 0 rfl rfl inX4 17 (by decide) mF_X4_56 rfl dX4_leaves_97 rfl ?_
              refine z_iconst X (v := nI 2) (pc' := 101) dX4_leaves_100 (by decide) rfl ?_
              refine z_iload_n X (pc' := 102) dX4_leaves_101 rfl 2 rfl rfl ?_
              refine z_imul X (pc' := 103) dX4_leaves_102 rfl ?_
              refine z_topi (y := nI (2 * t)) (pk_mul _ _) ?_
              refine z_iload X (pc' := 105) dX4_leaves_103 0 rfl rfl ?_
              refine z_iadd X (pc' := 106) dX4_leaves_105 rfl ?_
              refine z_topi (y := nI ((2 * t) + 0)) (nI_add _ _) ?_
              refine z_topi (y := nI ((2 * t) + 0)) rfl ?_
              refine z_aload_n X (pc' := 107) dX4_leaves_106 rfl 1 rfl rfl ?_
              refine z_get X (v := .ref (ad 17)) (pc' := 110) 0 rfl rfl inX4 17 (by decide) mF_X4_56 rfl dX4_leaves_107 rfl ?_
              refine z_iconst X (v := nI 2) (pc' := 111) dX4_leaves_110 (by decide) rfl ?_
              refine z_iload_n X (pc' := 112) dX4_leaves_111 rfl 2 rfl rfl ?_
              refine z_imul X (pc' := 113) dX4_leaves_112 rfl ?_
              refine z_topi (y := nI (2 * t)) (pk_mul _ _) ?_
              refine z_iload X (pc' := 115) dX4_leaves_113 0 rfl rfl ?_
              refine z_iadd X (pc' := 116) dX4_leaves_115 rfl ?_
              refine z_topi (y := nI ((2 * t) + 0)) (nI_add _ _) ?_
              refine z_topi (y := nI ((2 * t) + 0)) rfl ?_
              refine z_iconst X (v := nI 1) (pc' := 117) dX4_leaves_116 (by decide) rfl ?_
              refine z_iadd X (pc' := 118) dX4_leaves_117 rfl ?_
              refine z_topi (y := nI (((2 * t) + 0) + 1)) (nI_add _ _) ?_
              refine z_iald X (pc' := 119) 5 0 rfl rfl (by omega) (by omega) dX4_leaves_118 rfl ?_
              refine z_topi (y := nI (en (ml n t) 1 / 4)) (hd.2.2 1 (by omega)).1 ?_
              refine z_iast X (ws' := [(mo, .inr (4, [.int (nI th), .ref (ad 1), .ref (ad 2), .ref (ad 3), .ref (ad 4), .int (nI st), .ref (ad 6), .ref (ad 7), .ref (ad 8), .ref (ad 9), .ref (ad 10), .ref (ad 11), .ref (ad 12), .ref (ad 13), .ref (ad 14), .ref (ad 15), .ref (ad 16), .ref (ad 17), .ref (ad 18), .int (nI tol), .int (nI ts), .int (nI tf), .int (nI td), .ref (ad 23), .ref (ad 24), .ref (ad 25), .ref (ad 26)])), (ad 13, .inl (cI, 4, .inl fa)), (ad 14, .inl (cI, 16, .inl fr)), (ad 15, .inl (cI, 4, .inl (upd fw w (nI (en (ml n t) 0 % 4))))), (ad 16, .inl (cI, 4, .inl (upd fh t (nI 1)))), (ad 17, .inl (cI, 8, .inl (upd fW ((2 * t) + 0) (nI (en (ml n t) 1 / 4))))), (ad 18, .inl (cI, 8, .inl fV))]) (pc' := 120) 5 0 rfl rfl (by omega) (by omega) dX4_leaves_119 rfl rfl ?_
              refine z_aload_n X (pc' := 121) dX4_leaves_120 rfl 1 rfl rfl ?_
              refine z_get X (v := .ref (ad 18)) (pc' := 124) 0 rfl rfl inX4 18 (by decide) mF_X4_59 rfl dX4_leaves_121 rfl ?_
              refine z_iconst X (v := nI 2) (pc' := 125) dX4_leaves_124 (by decide) rfl ?_
              refine z_iload_n X (pc' := 126) dX4_leaves_125 rfl 2 rfl rfl ?_
              refine z_imul X (pc' := 127) dX4_leaves_126 rfl ?_
              refine z_topi (y := nI (2 * t)) (pk_mul _ _) ?_
              refine z_iload X (pc' := 129) dX4_leaves_127 0 rfl rfl ?_
              refine z_iadd X (pc' := 130) dX4_leaves_129 rfl ?_
              refine z_topi (y := nI ((2 * t) + 0)) (nI_add _ _) ?_
              refine z_topi (y := nI ((2 * t) + 0)) rfl ?_
              refine z_aload_n X (pc' := 131) dX4_leaves_130 rfl 1 rfl rfl ?_
              refine z_get X (v := .ref (ad 18)) (pc' := 134) 0 rfl rfl inX4 18 (by decide) mF_X4_59 rfl dX4_leaves_131 rfl ?_
              refine z_iconst X (v := nI 2) (pc' := 135) dX4_leaves_134 (by decide) rfl ?_
              refine z_iload_n X (pc' := 136) dX4_leaves_135 rfl 2 rfl rfl ?_
              refine z_imul X (pc' := 137) dX4_leaves_136 rfl ?_
              refine z_topi (y := nI (2 * t)) (pk_mul _ _) ?_
              refine z_iload X (pc' := 139) dX4_leaves_137 0 rfl rfl ?_
              refine z_iadd X (pc' := 140) dX4_leaves_139 rfl ?_
              refine z_topi (y := nI ((2 * t) + 0)) (nI_add _ _) ?_
              refine z_topi (y := nI ((2 * t) + 0)) rfl ?_
              refine z_iconst X (v := nI 1) (pc' := 141) dX4_leaves_140 (by decide) rfl ?_
              refine z_iadd X (pc' := 142) dX4_leaves_141 rfl ?_
              refine z_topi (y := nI (((2 * t) + 0) + 1)) (nI_add _ _) ?_
              refine z_iald X (pc' := 143) 6 0 rfl rfl (by omega) (by omega) dX4_leaves_142 rfl ?_
              refine z_topi (y := nI (en (ml n t) 1 % 4)) (hd.2.2 1 (by omega)).2 ?_
              refine z_iast X (ws' := [(mo, .inr (4, [.int (nI th), .ref (ad 1), .ref (ad 2), .ref (ad 3), .ref (ad 4), .int (nI st), .ref (ad 6), .ref (ad 7), .ref (ad 8), .ref (ad 9), .ref (ad 10), .ref (ad 11), .ref (ad 12), .ref (ad 13), .ref (ad 14), .ref (ad 15), .ref (ad 16), .ref (ad 17), .ref (ad 18), .int (nI tol), .int (nI ts), .int (nI tf), .int (nI td), .ref (ad 23), .ref (ad 24), .ref (ad 25), .ref (ad 26)])), (ad 13, .inl (cI, 4, .inl fa)), (ad 14, .inl (cI, 16, .inl fr)), (ad 15, .inl (cI, 4, .inl (upd fw w (nI (en (ml n t) 0 % 4))))), (ad 16, .inl (cI, 4, .inl (upd fh t (nI 1)))), (ad 17, .inl (cI, 8, .inl (upd fW ((2 * t) + 0) (nI (en (ml n t) 1 / 4))))), (ad 18, .inl (cI, 8, .inl (upd fV ((2 * t) + 0) (nI (en (ml n t) 1 % 4)))))]) (pc' := 144) 6 0 rfl rfl (by omega) (by omega) dX4_leaves_143 rfl rfl ?_
              refine z_iinc X (v := nI 1) (lv' := [(4, .int (nI 1)), (0, .ref mo), (1, .int (nI t)), (2, .int (nI w)), (3, .int (nI md))]) (k := 0) (pc' := 147) dX4_leaves_144 rfl (by decide) (by decide) rfl rfl ?_
              refine z_goto X (tgt := 85) dX4_leaves_147 (by decide) ?_
              refine z_iload X (pc' := 87) dX4_leaves_85 0 rfl rfl ?_
              refine z_aload_n X (pc' := 88) dX4_leaves_87 rfl 1 rfl rfl ?_
              refine z_get X (v := .ref (ad 16)) (pc' := 91) 0 rfl rfl inX4 16 (by decide) mF_X4_53 rfl dX4_leaves_88 rfl ?_
              refine z_iload_n X (pc' := 92) dX4_leaves_91 rfl 2 rfl rfl ?_
              refine z_iald X (pc' := 93) 4 0 rfl rfl (by omega) (by omega) dX4_leaves_92 rfl ?_
              refine z_topi (y := nI 1) pk_us ?_
              refine z_icmp_geN X (tgt := 150) (pc' := 96) (by omega) (by omega) dX4_leaves_93 (by decide) rfl (fun h17 => ?_) (fun h17 => ?_)
              · clear h17
                refine z_iconst X (v := nI 1) (pc' := 151) dX4_leaves_150 (by decide) rfl ?_
                exact z_iret X (t1 := .boolean) rfl rfl (fa, fr, upd fw w (nI (en (ml n t) 0 % 4)), upd fh t (nI 1), upd fW ((2 * t) + 0) (nI (en (ml n t) 1 / 4)), upd fV ((2 * t) + 0) (nI (en (ml n t) 1 % 4))) (by show rOpW (st_rel md h n t w) _ _; unfold st_rel; rw [if_pos ⟨by omega, hq0⟩]; have hw1 := WS_word hW hw (Nat.mod_lt (en (ml n t) 0) (by decide)); exact ⟨rfl, WL_wo2 (i := 0) hW.1 (hLs t ht) ht (by decide) hwt pk_us pk_us (fun j hj => ⟨pk_un hj, pk_un hj⟩) (fun s hs => (hLs s hs).1), hw1.2⟩) rfl (Nat.le_of_ble_eq_true rfl) (Nat.le_of_ble_eq_true rfl) dX4_leaves_151
              · exact absurd h17 (by decide)
          · have hm1 : md = 1 := h15
            refine z_iload X (pc' := 53) dX4_leaves_51 0 rfl rfl ?_
            refine z_if_leN X (tgt := 58) (pc' := 56) (by omega) dX4_leaves_53 (by decide) rfl (fun h18 => ?_) (fun h18 => ?_)
            · clear h18
              refine z_aload_n X (pc' := 59) dX4_leaves_58 rfl 1 rfl rfl ?_
              refine z_get X (v := .ref (ad 15)) (pc' := 62) 0 rfl rfl inX4 15 (by decide) mF_X4_50 rfl dX4_leaves_59 rfl ?_
              refine z_iload_n X (pc' := 63) dX4_leaves_62 rfl 3 rfl rfl ?_
              refine z_aload_n X (pc' := 64) dX4_leaves_63 rfl 1 rfl rfl ?_
              refine z_get X (v := .ref (ad 18)) (pc' := 67) 0 rfl rfl inX4 18 (by decide) mF_X4_59 rfl dX4_leaves_64 rfl ?_
              refine z_iconst X (v := nI 2) (pc' := 68) dX4_leaves_67 (by decide) rfl ?_
              refine z_iload_n X (pc' := 69) dX4_leaves_68 rfl 2 rfl rfl ?_
              refine z_imul X (pc' := 70) dX4_leaves_69 rfl ?_
              refine z_topi (y := nI (2 * t)) (pk_mul _ _) ?_
              refine z_iload X (pc' := 72) dX4_leaves_70 0 rfl rfl ?_
              refine z_iadd X (pc' := 73) dX4_leaves_72 rfl ?_
              refine z_topi (y := nI ((2 * t) + 0)) (nI_add _ _) ?_
              refine z_topi (y := nI ((2 * t) + 0)) rfl ?_
              refine z_iald X (pc' := 74) 6 0 rfl rfl (by omega) (by omega) dX4_leaves_73 rfl ?_
              refine z_topi (y := nI (en (ml n t) 0 % 4)) (hd.2.2 0 (by omega)).2 ?_
              refine z_iast X (ws' := [(mo, .inr (4, [.int (nI th), .ref (ad 1), .ref (ad 2), .ref (ad 3), .ref (ad 4), .int (nI st), .ref (ad 6), .ref (ad 7), .ref (ad 8), .ref (ad 9), .ref (ad 10), .ref (ad 11), .ref (ad 12), .ref (ad 13), .ref (ad 14), .ref (ad 15), .ref (ad 16), .ref (ad 17), .ref (ad 18), .int (nI tol), .int (nI ts), .int (nI tf), .int (nI td), .ref (ad 23), .ref (ad 24), .ref (ad 25), .ref (ad 26)])), (ad 13, .inl (cI, 4, .inl fa)), (ad 14, .inl (cI, 16, .inl fr)), (ad 15, .inl (cI, 4, .inl (upd fw w (nI (en (ml n t) 0 % 4))))), (ad 16, .inl (cI, 4, .inl fh)), (ad 17, .inl (cI, 8, .inl fW)), (ad 18, .inl (cI, 8, .inl fV))]) (pc' := 75) 3 0 rfl rfl (by omega) (by omega) dX4_leaves_74 rfl rfl ?_
              refine z_aload_n X (pc' := 76) dX4_leaves_75 rfl 1 rfl rfl ?_
              refine z_get X (v := .ref (ad 16)) (pc' := 79) 0 rfl rfl inX4 16 (by decide) mF_X4_53 rfl dX4_leaves_76 rfl ?_
              refine z_iload_n X (pc' := 80) dX4_leaves_79 rfl 2 rfl rfl ?_
              refine z_dup2_11 X (pc' := 81) dX4_leaves_80 rfl rfl rfl ?_
              refine z_iald X (pc' := 82) 4 0 rfl rfl (by omega) (by omega) dX4_leaves_81 rfl ?_
              refine z_topi (y := nI 2) (by rw [hd.2.1, hwt]) ?_
              refine z_iconst X (v := nI 1) (pc' := 83) dX4_leaves_82 (by decide) rfl ?_
              refine z_isub X (pc' := 84) dX4_leaves_83 rfl ?_
              refine z_topi (y := nI 1) (pk_sub (by decide)) ?_
              refine z_iast X (ws' := [(mo, .inr (4, [.int (nI th), .ref (ad 1), .ref (ad 2), .ref (ad 3), .ref (ad 4), .int (nI st), .ref (ad 6), .ref (ad 7), .ref (ad 8), .ref (ad 9), .ref (ad 10), .ref (ad 11), .ref (ad 12), .ref (ad 13), .ref (ad 14), .ref (ad 15), .ref (ad 16), .ref (ad 17), .ref (ad 18), .int (nI tol), .int (nI ts), .int (nI tf), .int (nI td), .ref (ad 23), .ref (ad 24), .ref (ad 25), .ref (ad 26)])), (ad 13, .inl (cI, 4, .inl fa)), (ad 14, .inl (cI, 16, .inl fr)), (ad 15, .inl (cI, 4, .inl (upd fw w (nI (en (ml n t) 0 % 4))))), (ad 16, .inl (cI, 4, .inl (upd fh t (nI 1)))), (ad 17, .inl (cI, 8, .inl fW)), (ad 18, .inl (cI, 8, .inl fV))]) (pc' := 85) 4 0 rfl rfl (by omega) (by omega) dX4_leaves_84 rfl rfl ?_
              refine z_iload X (pc' := 87) dX4_leaves_85 0 rfl rfl ?_
              refine z_aload_n X (pc' := 88) dX4_leaves_87 rfl 1 rfl rfl ?_
              refine z_get X (v := .ref (ad 16)) (pc' := 91) 0 rfl rfl inX4 16 (by decide) mF_X4_53 rfl dX4_leaves_88 rfl ?_
              refine z_iload_n X (pc' := 92) dX4_leaves_91 rfl 2 rfl rfl ?_
              refine z_iald X (pc' := 93) 4 0 rfl rfl (by omega) (by omega) dX4_leaves_92 rfl ?_
              refine z_topi (y := nI 1) pk_us ?_
              refine z_icmp_geN X (tgt := 150) (pc' := 96) (by omega) (by omega) dX4_leaves_93 (by decide) rfl (fun h19 => ?_) (fun h19 => ?_)
              · exact absurd h19 (by decide)
              · clear h19
                refine z_aload_n X (pc' := 97) dX4_leaves_96 rfl 1 rfl rfl ?_
                refine z_get X (v := .ref (ad 17)) (pc' := 100) 0 rfl rfl inX4 17 (by decide) mF_X4_56 rfl dX4_leaves_97 rfl ?_
                refine z_iconst X (v := nI 2) (pc' := 101) dX4_leaves_100 (by decide) rfl ?_
                refine z_iload_n X (pc' := 102) dX4_leaves_101 rfl 2 rfl rfl ?_
                refine z_imul X (pc' := 103) dX4_leaves_102 rfl ?_
                refine z_topi (y := nI (2 * t)) (pk_mul _ _) ?_
                refine z_iload X (pc' := 105) dX4_leaves_103 0 rfl rfl ?_
                refine z_iadd X (pc' := 106) dX4_leaves_105 rfl ?_
                refine z_topi (y := nI ((2 * t) + 0)) (nI_add _ _) ?_
                refine z_topi (y := nI ((2 * t) + 0)) rfl ?_
                refine z_aload_n X (pc' := 107) dX4_leaves_106 rfl 1 rfl rfl ?_
                refine z_get X (v := .ref (ad 17)) (pc' := 110) 0 rfl rfl inX4 17 (by decide) mF_X4_56 rfl dX4_leaves_107 rfl ?_
                refine z_iconst X (v := nI 2) (pc' := 111) dX4_leaves_110 (by decide) rfl ?_
                refine z_iload_n X (pc' := 112) dX4_leaves_111 rfl 2 rfl rfl ?_
                refine z_imul X (pc' := 113) dX4_leaves_112 rfl ?_
                refine z_topi (y := nI (2 * t)) (pk_mul _ _) ?_
                refine z_iload X (pc' := 115) dX4_leaves_113 0 rfl rfl ?_
                refine z_iadd X (pc' := 116) dX4_leaves_115 rfl ?_
                refine z_topi (y := nI ((2 * t) + 0)) (nI_add _ _) ?_
                refine z_topi (y := nI ((2 * t) + 0)) rfl ?_
                refine z_iconst X (v := nI 1) (pc' := 117) dX4_leaves_116 (by decide) rfl ?_
                refine z_iadd X (pc' := 118) dX4_leaves_117 rfl ?_
                refine z_topi (y := nI (((2 * t) + 0) + 1)) (nI_add _ _) ?_
                refine z_iald X (pc' := 119) 5 0 rfl rfl (by omega) (by omega) dX4_leaves_118 rfl ?_
                refine z_topi (y := nI (en (ml n t) 1 / 4)) (hd.2.2 1 (by omega)).1 ?_
                refine z_iast X (ws' := [(mo, .inr (4, [.int (nI th), .ref (ad 1), .ref (ad 2), .ref (ad 3), .ref (ad 4), .int (nI st), .ref (ad 6), .ref (ad 7), .ref (ad 8), .ref (ad 9), .ref (ad 10), .ref (ad 11), .ref (ad 12), .ref (ad 13), .ref (ad 14), .ref (ad 15), .ref (ad 16), .ref (ad 17), .ref (ad 18), .int (nI tol), .int (nI ts), .int (nI tf), .int (nI td), .ref (ad 23), .ref (ad 24), .ref (ad 25), .ref (ad 26)])), (ad 13, .inl (cI, 4, .inl fa)), (ad 14, .inl (cI, 16, .inl fr)), (ad 15, .inl (cI, 4, .inl (upd fw w (nI (en (ml n t) 0 % 4))))), (ad 16, .inl (cI, 4, .inl (upd fh t (nI 1)))), (ad 17, .inl (cI, 8, .inl (upd fW ((2 * t) + 0) (nI (en (ml n t) 1 / 4))))), (ad 18, .inl (cI, 8, .inl fV))]) (pc' := 120) 5 0 rfl rfl (by omega) (by omega) dX4_leaves_119 rfl rfl ?_
                refine z_aload_n X (pc' := 121) dX4_leaves_120 rfl 1 rfl rfl ?_
                refine z_get X (v := .ref (ad 18)) (pc' := 124) 0 rfl rfl inX4 18 (by decide) mF_X4_59 rfl dX4_leaves_121 rfl ?_
                refine z_iconst X (v := nI 2) (pc' := 125) dX4_leaves_124 (by decide) rfl ?_
                refine z_iload_n X (pc' := 126) dX4_leaves_125 rfl 2 rfl rfl ?_
                refine z_imul X (pc' := 127) dX4_leaves_126 rfl ?_
                refine z_topi (y := nI (2 * t)) (pk_mul _ _) ?_
                refine z_iload X (pc' := 129) dX4_leaves_127 0 rfl rfl ?_
                refine z_iadd X (pc' := 130) dX4_leaves_129 rfl ?_
                refine z_topi (y := nI ((2 * t) + 0)) (nI_add _ _) ?_
                refine z_topi (y := nI ((2 * t) + 0)) rfl ?_
                refine z_aload_n X (pc' := 131) dX4_leaves_130 rfl 1 rfl rfl ?_
                refine z_get X (v := .ref (ad 18)) (pc' := 134) 0 rfl rfl inX4 18 (by decide) mF_X4_59 rfl dX4_leaves_131 rfl ?_
                refine z_iconst X (v := nI 2) (pc' := 135) dX4_leaves_134 (by decide) rfl ?_
                refine z_iload_n X (pc' := 136) dX4_leaves_135 rfl 2 rfl rfl ?_
                refine z_imul X (pc' := 137) dX4_leaves_136 rfl ?_
                refine z_topi (y := nI (2 * t)) (pk_mul _ _) ?_
                refine z_iload X (pc' := 139) dX4_leaves_137 0 rfl rfl ?_
                refine z_iadd X (pc' := 140) dX4_leaves_139 rfl ?_
                refine z_topi (y := nI ((2 * t) + 0)) (nI_add _ _) ?_
                refine z_topi (y := nI ((2 * t) + 0)) rfl ?_
                refine z_iconst X (v := nI 1) (pc' := 141) dX4_leaves_140 (by decide) rfl ?_
                refine z_iadd X (pc' := 142) dX4_leaves_141 rfl ?_
                refine z_topi (y := nI (((2 * t) + 0) + 1)) (nI_add _ _) ?_
                refine z_iald X (pc' := 143) 6 0 rfl rfl (by omega) (by omega) dX4_leaves_142 rfl ?_
                refine z_topi (y := nI (en (ml n t) 1 % 4)) (hd.2.2 1 (by omega)).2 ?_
                refine z_iast X (ws' := [(mo, .inr (4, [.int (nI th), .ref (ad 1), .ref (ad 2), .ref (ad 3), .ref (ad 4), .int (nI st), .ref (ad 6), .ref (ad 7), .ref (ad 8), .ref (ad 9), .ref (ad 10), .ref (ad 11), .ref (ad 12), .ref (ad 13), .ref (ad 14), .ref (ad 15), .ref (ad 16), .ref (ad 17), .ref (ad 18), .int (nI tol), .int (nI ts), .int (nI tf), .int (nI td), .ref (ad 23), .ref (ad 24), .ref (ad 25), .ref (ad 26)])), (ad 13, .inl (cI, 4, .inl fa)), (ad 14, .inl (cI, 16, .inl fr)), (ad 15, .inl (cI, 4, .inl (upd fw w (nI (en (ml n t) 0 % 4))))), (ad 16, .inl (cI, 4, .inl (upd fh t (nI 1)))), (ad 17, .inl (cI, 8, .inl (upd fW ((2 * t) + 0) (nI (en (ml n t) 1 / 4))))), (ad 18, .inl (cI, 8, .inl (upd fV ((2 * t) + 0) (nI (en (ml n t) 1 % 4)))))]) (pc' := 144) 6 0 rfl rfl (by omega) (by omega) dX4_leaves_143 rfl rfl ?_
                refine z_iinc X (v := nI 1) (lv' := [(4, .int (nI 1)), (0, .ref mo), (1, .int (nI t)), (2, .int (nI w)), (3, .int (nI md))]) (k := 0) (pc' := 147) dX4_leaves_144 rfl (by decide) (by decide) rfl rfl ?_
                refine z_goto X (tgt := 85) dX4_leaves_147 (by decide) ?_
                refine z_iload X (pc' := 87) dX4_leaves_85 0 rfl rfl ?_
                refine z_aload_n X (pc' := 88) dX4_leaves_87 rfl 1 rfl rfl ?_
                refine z_get X (v := .ref (ad 16)) (pc' := 91) 0 rfl rfl inX4 16 (by decide) mF_X4_53 rfl dX4_leaves_88 rfl ?_
                refine z_iload_n X (pc' := 92) dX4_leaves_91 rfl 2 rfl rfl ?_
                refine z_iald X (pc' := 93) 4 0 rfl rfl (by omega) (by omega) dX4_leaves_92 rfl ?_
                refine z_topi (y := nI 1) pk_us ?_
                refine z_icmp_geN X (tgt := 150) (pc' := 96) (by omega) (by omega) dX4_leaves_93 (by decide) rfl (fun h20 => ?_) (fun h20 => ?_)
                · clear h20
                  refine z_iconst X (v := nI 1) (pc' := 151) dX4_leaves_150 (by decide) rfl ?_
                  exact z_iret X (t1 := .boolean) rfl rfl (fa, fr, upd fw w (nI (en (ml n t) 0 % 4)), upd fh t (nI 1), upd fW ((2 * t) + 0) (nI (en (ml n t) 1 / 4)), upd fV ((2 * t) + 0) (nI (en (ml n t) 1 % 4))) (by show rOpW (st_rel md h n t w) _ _; unfold st_rel; rw [if_pos ⟨by omega, hq0⟩]; have hw1 := WS_word hW hw (Nat.mod_lt (en (ml n t) 0) (by decide)); exact ⟨rfl, WL_wo2 (i := 0) hW.1 (hLs t ht) ht (by decide) hwt pk_us pk_us (fun j hj => ⟨pk_un hj, pk_un hj⟩) (fun s hs => (hLs s hs).1), hw1.2⟩) rfl (Nat.le_of_ble_eq_true rfl) (Nat.le_of_ble_eq_true rfl) dX4_leaves_151
                · exact absurd h20 (by decide)
            · exact absurd h18 (by decide)
      · have hq0 : ¬ en (ml n t) 0 / 4 = w := h13
        refine z_iinc X (v := nI 1) (lv' := [(4, .int (nI 1)), (0, .ref mo), (1, .int (nI t)), (2, .int (nI w)), (3, .int (nI md))]) (k := 0) (pc' := 32) dX4_leaves_29 rfl (by decide) (by decide) rfl rfl ?_
        refine z_goto X (tgt := 3) dX4_leaves_32 (by decide) ?_
        refine z_iload X (pc' := 5) dX4_leaves_3 0 rfl rfl ?_
        refine z_aload_n X (pc' := 6) dX4_leaves_5 rfl 1 rfl rfl ?_
        refine z_get X (v := .ref (ad 16)) (pc' := 9) 0 rfl rfl inX4 16 (by decide) mF_X4_53 rfl dX4_leaves_6 rfl ?_
        refine z_iload_n X (pc' := 10) dX4_leaves_9 rfl 2 rfl rfl ?_
        refine z_iald X (pc' := 11) 4 0 rfl rfl (by omega) (by omega) dX4_leaves_10 rfl ?_
        refine z_topi (y := nI 2) (by rw [hd.2.1, hwt]) ?_
        refine z_icmp_geN X (tgt := 35) (pc' := 14) (by omega) (by omega) dX4_leaves_11 (by decide) rfl (fun h21 => ?_) (fun h21 => ?_)
        · exact absurd h21 (by decide)
        · clear h21
          refine z_aload_n X (pc' := 15) dX4_leaves_14 rfl 1 rfl rfl ?_
          refine z_get X (v := .ref (ad 17)) (pc' := 18) 0 rfl rfl inX4 17 (by decide) mF_X4_56 rfl dX4_leaves_15 rfl ?_
          refine z_iconst X (v := nI 2) (pc' := 19) dX4_leaves_18 (by decide) rfl ?_
          refine z_iload_n X (pc' := 20) dX4_leaves_19 rfl 2 rfl rfl ?_
          refine z_imul X (pc' := 21) dX4_leaves_20 rfl ?_
          refine z_topi (y := nI (2 * t)) (pk_mul _ _) ?_
          refine z_iload X (pc' := 23) dX4_leaves_21 0 rfl rfl ?_
          refine z_iadd X (pc' := 24) dX4_leaves_23 rfl ?_
          refine z_topi (y := nI ((2 * t) + 1)) (nI_add _ _) ?_
          refine z_topi (y := nI ((2 * t) + 1)) rfl ?_
          refine z_iald X (pc' := 25) 5 0 rfl rfl (by omega) (by omega) dX4_leaves_24 rfl ?_
          refine z_topi (y := nI (en (ml n t) 1 / 4)) (hd.2.2 1 (by omega)).1 ?_
          refine z_iload_n X (pc' := 26) dX4_leaves_25 rfl 3 rfl rfl ?_
          have hl1 := en_lt (ml n t) 1
          refine z_icmp_eqN X (tgt := 35) (pc' := 29) (by omega) (by omega) dX4_leaves_26 (by decide) rfl (fun h22 => ?_) (fun h22 => ?_)
          · have hq1 : en (ml n t) 1 / 4 = w := h22
            refine z_iload X (pc' := 37) dX4_leaves_35 0 rfl rfl ?_
            refine z_aload_n X (pc' := 38) dX4_leaves_37 rfl 1 rfl rfl ?_
            refine z_get X (v := .ref (ad 16)) (pc' := 41) 0 rfl rfl inX4 16 (by decide) mF_X4_53 rfl dX4_leaves_38 rfl ?_
            refine z_iload_n X (pc' := 42) dX4_leaves_41 rfl 2 rfl rfl ?_
            refine z_iald X (pc' := 43) 4 0 rfl rfl (by omega) (by omega) dX4_leaves_42 rfl ?_
            refine z_topi (y := nI 2) (by rw [hd.2.1, hwt]) ?_
            refine z_icmp_eqN X (tgt := 56) (pc' := 46) (by omega) (by omega) dX4_leaves_43 (by decide) rfl (fun h23 => ?_) (fun h23 => ?_)
            · exact absurd h23 (by decide)
            · clear h23
              refine z_iload_n X (pc' := 47) dX4_leaves_46 rfl 4 rfl rfl ?_
              refine z_iconst X (v := nI 1) (pc' := 48) dX4_leaves_47 (by decide) rfl ?_
              refine z_icmp_neN X (tgt := 58) (pc' := 51) (by omega) (by decide) dX4_leaves_48 (by decide) rfl (fun h24 => ?_) (fun h24 => ?_)
              · have hm1 : ¬ md = 1 := h24
                refine z_aload_n X (pc' := 59) dX4_leaves_58 rfl 1 rfl rfl ?_
                refine z_get X (v := .ref (ad 15)) (pc' := 62) 0 rfl rfl inX4 15 (by decide) mF_X4_50 rfl dX4_leaves_59 rfl ?_
                refine z_iload_n X (pc' := 63) dX4_leaves_62 rfl 3 rfl rfl ?_
                refine z_aload_n X (pc' := 64) dX4_leaves_63 rfl 1 rfl rfl ?_
                refine z_get X (v := .ref (ad 18)) (pc' := 67) 0 rfl rfl inX4 18 (by decide) mF_X4_59 rfl dX4_leaves_64 rfl ?_
                refine z_iconst X (v := nI 2) (pc' := 68) dX4_leaves_67 (by decide) rfl ?_
                refine z_iload_n X (pc' := 69) dX4_leaves_68 rfl 2 rfl rfl ?_
                refine z_imul X (pc' := 70) dX4_leaves_69 rfl ?_
                refine z_topi (y := nI (2 * t)) (pk_mul _ _) ?_
                refine z_iload X (pc' := 72) dX4_leaves_70 0 rfl rfl ?_
                refine z_iadd X (pc' := 73) dX4_leaves_72 rfl ?_
                refine z_topi (y := nI ((2 * t) + 1)) (nI_add _ _) ?_
                refine z_topi (y := nI ((2 * t) + 1)) rfl ?_
                refine z_iald X (pc' := 74) 6 0 rfl rfl (by omega) (by omega) dX4_leaves_73 rfl ?_
                refine z_topi (y := nI (en (ml n t) 1 % 4)) (hd.2.2 1 (by omega)).2 ?_
                refine z_iast X (ws' := [(mo, .inr (4, [.int (nI th), .ref (ad 1), .ref (ad 2), .ref (ad 3), .ref (ad 4), .int (nI st), .ref (ad 6), .ref (ad 7), .ref (ad 8), .ref (ad 9), .ref (ad 10), .ref (ad 11), .ref (ad 12), .ref (ad 13), .ref (ad 14), .ref (ad 15), .ref (ad 16), .ref (ad 17), .ref (ad 18), .int (nI tol), .int (nI ts), .int (nI tf), .int (nI td), .ref (ad 23), .ref (ad 24), .ref (ad 25), .ref (ad 26)])), (ad 13, .inl (cI, 4, .inl fa)), (ad 14, .inl (cI, 16, .inl fr)), (ad 15, .inl (cI, 4, .inl (upd fw w (nI (en (ml n t) 1 % 4))))), (ad 16, .inl (cI, 4, .inl fh)), (ad 17, .inl (cI, 8, .inl fW)), (ad 18, .inl (cI, 8, .inl fV))]) (pc' := 75) 3 0 rfl rfl (by omega) (by omega) dX4_leaves_74 rfl rfl ?_
                refine z_aload_n X (pc' := 76) dX4_leaves_75 rfl 1 rfl rfl ?_
                refine z_get X (v := .ref (ad 16)) (pc' := 79) 0 rfl rfl inX4 16 (by decide) mF_X4_53 rfl dX4_leaves_76 rfl ?_
                refine z_iload_n X (pc' := 80) dX4_leaves_79 rfl 2 rfl rfl ?_
                refine z_dup2_11 X (pc' := 81) dX4_leaves_80 rfl rfl rfl ?_
                refine z_iald X (pc' := 82) 4 0 rfl rfl (by omega) (by omega) dX4_leaves_81 rfl ?_
                refine z_topi (y := nI 2) (by rw [hd.2.1, hwt]) ?_
                refine z_iconst X (v := nI 1) (pc' := 83) dX4_leaves_82 (by decide) rfl ?_
                refine z_isub X (pc' := 84) dX4_leaves_83 rfl ?_
                refine z_topi (y := nI 1) (pk_sub (by decide)) ?_
                refine z_iast X (ws' := [(mo, .inr (4, [.int (nI th), .ref (ad 1), .ref (ad 2), .ref (ad 3), .ref (ad 4), .int (nI st), .ref (ad 6), .ref (ad 7), .ref (ad 8), .ref (ad 9), .ref (ad 10), .ref (ad 11), .ref (ad 12), .ref (ad 13), .ref (ad 14), .ref (ad 15), .ref (ad 16), .ref (ad 17), .ref (ad 18), .int (nI tol), .int (nI ts), .int (nI tf), .int (nI td), .ref (ad 23), .ref (ad 24), .ref (ad 25), .ref (ad 26)])), (ad 13, .inl (cI, 4, .inl fa)), (ad 14, .inl (cI, 16, .inl fr)), (ad 15, .inl (cI, 4, .inl (upd fw w (nI (en (ml n t) 1 % 4))))), (ad 16, .inl (cI, 4, .inl (upd fh t (nI 1)))), (ad 17, .inl (cI, 8, .inl fW)), (ad 18, .inl (cI, 8, .inl fV))]) (pc' := 85) 4 0 rfl rfl (by omega) (by omega) dX4_leaves_84 rfl rfl ?_
                refine z_iload X (pc' := 87) dX4_leaves_85 0 rfl rfl ?_
                refine z_aload_n X (pc' := 88) dX4_leaves_87 rfl 1 rfl rfl ?_
                refine z_get X (v := .ref (ad 16)) (pc' := 91) 0 rfl rfl inX4 16 (by decide) mF_X4_53 rfl dX4_leaves_88 rfl ?_
                refine z_iload_n X (pc' := 92) dX4_leaves_91 rfl 2 rfl rfl ?_
                refine z_iald X (pc' := 93) 4 0 rfl rfl (by omega) (by omega) dX4_leaves_92 rfl ?_
                refine z_topi (y := nI 1) pk_us ?_
                refine z_icmp_geN X (tgt := 150) (pc' := 96) (by omega) (by omega) dX4_leaves_93 (by decide) rfl (fun h25 => ?_) (fun h25 => ?_)
                · clear h25
                  refine z_iconst X (v := nI 1) (pc' := 151) dX4_leaves_150 (by decide) rfl ?_
                  exact z_iret X (t1 := .boolean) rfl rfl (fa, fr, upd fw w (nI (en (ml n t) 1 % 4)), upd fh t (nI 1), fW, fV) (by show rOpW (st_rel md h n t w) _ _; unfold st_rel; rw [if_neg (fun x => hq0 x.2), if_pos ⟨hm1, by omega, hq1⟩]; have hw1 := WS_word hW hw (Nat.mod_lt (en (ml n t) 1) (by decide)); exact ⟨rfl, WL_wo2 (i := 1) hW.1 (hLs t ht) ht (by decide) hwt (hd.2.2 0 (by omega)).1 (hd.2.2 0 (by omega)).2 (fun j hj => ⟨rfl, rfl⟩) (fun s hs => (hLs s hs).1), hw1.2⟩) rfl (Nat.le_of_ble_eq_true rfl) (Nat.le_of_ble_eq_true rfl) dX4_leaves_151
                · exact absurd h25 (by decide)
              · have hm1 : md = 1 := h24
                refine z_iload X (pc' := 53) dX4_leaves_51 0 rfl rfl ?_
                refine z_if_leN X (tgt := 58) (pc' := 56) (by omega) dX4_leaves_53 (by decide) rfl (fun h26 => ?_) (fun h26 => ?_)
                · exact absurd h26 (by decide)
                · clear h26
                  refine z_iconst X (v := nI 0) (pc' := 57) dX4_leaves_56 (by decide) rfl ?_
                  exact z_iret X (t1 := .boolean) rfl rfl (fa, fr, fw, fh, fW, fV) (by show rOpW (st_rel md h n t w) _ _; unfold st_rel; rw [if_neg (fun x => hq0 x.2), if_neg (fun x => x.1 hm1)]; exact rfl) rfl (Nat.le_of_ble_eq_true rfl) (Nat.le_of_ble_eq_true rfl) dX4_leaves_57
          · have hq1 : ¬ en (ml n t) 1 / 4 = w := h22
            refine z_iinc X (v := nI 2) (lv' := [(4, .int (nI 2)), (0, .ref mo), (1, .int (nI t)), (2, .int (nI w)), (3, .int (nI md))]) (k := 0) (pc' := 32) dX4_leaves_29 rfl (by decide) (by decide) rfl rfl ?_
            refine z_goto X (tgt := 3) dX4_leaves_32 (by decide) ?_
            refine z_iload X (pc' := 5) dX4_leaves_3 0 rfl rfl ?_
            refine z_aload_n X (pc' := 6) dX4_leaves_5 rfl 1 rfl rfl ?_
            refine z_get X (v := .ref (ad 16)) (pc' := 9) 0 rfl rfl inX4 16 (by decide) mF_X4_53 rfl dX4_leaves_6 rfl ?_
            refine z_iload_n X (pc' := 10) dX4_leaves_9 rfl 2 rfl rfl ?_
            refine z_iald X (pc' := 11) 4 0 rfl rfl (by omega) (by omega) dX4_leaves_10 rfl ?_
            refine z_topi (y := nI 2) (by rw [hd.2.1, hwt]) ?_
            refine z_icmp_geN X (tgt := 35) (pc' := 14) (by omega) (by omega) dX4_leaves_11 (by decide) rfl (fun h27 => ?_) (fun h27 => ?_)
            · clear h27
              refine z_iload X (pc' := 37) dX4_leaves_35 0 rfl rfl ?_
              refine z_aload_n X (pc' := 38) dX4_leaves_37 rfl 1 rfl rfl ?_
              refine z_get X (v := .ref (ad 16)) (pc' := 41) 0 rfl rfl inX4 16 (by decide) mF_X4_53 rfl dX4_leaves_38 rfl ?_
              refine z_iload_n X (pc' := 42) dX4_leaves_41 rfl 2 rfl rfl ?_
              refine z_iald X (pc' := 43) 4 0 rfl rfl (by omega) (by omega) dX4_leaves_42 rfl ?_
              refine z_topi (y := nI 2) (by rw [hd.2.1, hwt]) ?_
              refine z_icmp_eqN X (tgt := 56) (pc' := 46) (by omega) (by omega) dX4_leaves_43 (by decide) rfl (fun h28 => ?_) (fun h28 => ?_)
              · clear h28
                refine z_iconst X (v := nI 0) (pc' := 57) dX4_leaves_56 (by decide) rfl ?_
                exact z_iret X (t1 := .boolean) rfl rfl (fa, fr, fw, fh, fW, fV) (by show rOpW (st_rel md h n t w) _ _; unfold st_rel; rw [if_neg (fun x => hq0 x.2), if_neg (fun x => hq1 x.2.2)]; exact rfl) rfl (Nat.le_of_ble_eq_true rfl) (Nat.le_of_ble_eq_true rfl) dX4_leaves_57
              · exact absurd h28 (by decide)
            · exact absurd h27 (by decide)
set_option maxHeartbeats 4000000 in
set_option maxRecDepth 100000 in
/-- a move -/
theorem r_makes (l : Launch) (D : va_G) (cI cJ : ClassId) (sz : Nat) (mo th st tol ts tf td : Nat) (ad : Nat → Nat) (h n k md : Nat) (fa fr fw fh fW fV : Nat → Int32) (gm gn ga gb : Nat → Int32) (P : Nat → List Nat) (hk : k < 20) (hmd : md < 3) (hS : Sok P h n) (hz : Sz md n) (hP : Pok P) (hQ : QRep P gm gn ga gb) (hW : WS h n fa fr fw fh fW fV) : KI l D cI cJ yX4_makes cX4_makes 3 (some .boolean) 2 51 0 0 [.ref mo, .int (nI k), .int (nI md)] [(mo, .inr (4, [.int (nI th), .ref (ad 1), .ref (ad 2), .ref (ad 3), .ref (ad 4), .int (nI st), .ref (ad 6), .ref (ad 7), .ref (ad 8), .ref (ad 9), .ref (ad 10), .ref (ad 11), .ref (ad 12), .ref (ad 13), .ref (ad 14), .ref (ad 15), .ref (ad 16), .ref (ad 17), .ref (ad 18), .int (nI tol), .int (nI ts), .int (nI tf), .int (nI td), .ref (ad 23), .ref (ad 24), .ref (ad 25), .ref (ad 26)])), (ad 1, .inl (cI, 4, .inl gm)), (ad 2, .inl (cI, 24, .inl gn)), (ad 3, .inl (cI, 24, .inl ga)), (ad 4, .inl (cI, 24, .inl gb)), (ad 13, .inl (cI, 4, .inl fa)), (ad 14, .inl (cI, 16, .inl fr)), (ad 15, .inl (cI, 4, .inl fw)), (ad 16, .inl (cI, 4, .inl fh)), (ad 17, .inl (cI, 8, .inl fW)), (ad 18, .inl (cI, 8, .inl fV))] sz (S := W6) (fun r u => rOpW (st_step P md (h, n) k) r u) (fun u => [(mo, .inr (4, [.int (nI th), .ref (ad 1), .ref (ad 2), .ref (ad 3), .ref (ad 4), .int (nI st), .ref (ad 6), .ref (ad 7), .ref (ad 8), .ref (ad 9), .ref (ad 10), .ref (ad 11), .ref (ad 12), .ref (ad 13), .ref (ad 14), .ref (ad 15), .ref (ad 16), .ref (ad 17), .ref (ad 18), .int (nI tol), .int (nI ts), .int (nI tf), .int (nI td), .ref (ad 23), .ref (ad 24), .ref (ad 25), .ref (ad 26)])), (ad 1, .inl (cI, 4, .inl gm)), (ad 2, .inl (cI, 24, .inl gn)), (ad 3, .inl (cI, 24, .inl ga)), (ad 4, .inl (cI, 24, .inl gb)), (ad 13, .inl (cI, 4, .inl u.1)), (ad 14, .inl (cI, 16, .inl u.2.1)), (ad 15, .inl (cI, 4, .inl u.2.2.1)), (ad 16, .inl (cI, 4, .inl u.2.2.2.1)), (ad 17, .inl (cI, 8, .inl u.2.2.2.2.1)), (ad 18, .inl (cI, 8, .inl u.2.2.2.2.2))]) := by
  refine zMetI (lv := [(0, .ref mo), (1, .int (nI k)), (2, .int (nI md))]) NS0_ok (by decide) rfl (Nat.le_of_ble_eq_true rfl) rfl ?_
  intro p e s m args below meth c A X hin hA
  refine z_iload_n X (pc' := 1) dX4_makes_0 rfl 1 rfl rfl ?_
  refine z_iconst X (v := nI 4) (pc' := 2) dX4_makes_1 (by decide) rfl ?_
  refine z_icmp_geN X (tgt := 14) (pc' := 5) (by omega) (by decide) dX4_makes_2 (by decide) rfl (fun h1 => ?_) (fun h1 => ?_)
  · have hk4 : 4 ≤ k := h1
    have hst : st_step P md (h, n) k = st_rel md h n ((k - 4) / 4) ((k - 4) % 4) := by unfold st_step; rw [if_neg (by omega)]
    refine z_aload_n X (pc' := 15) dX4_makes_14 rfl 0 rfl rfl ?_
    refine z_iload_n X (pc' := 16) dX4_makes_15 rfl 1 rfl rfl ?_
    refine z_iconst X (v := nI 4) (pc' := 17) dX4_makes_16 (by decide) rfl ?_
    refine z_isub X (pc' := 18) dX4_makes_17 rfl ?_
    refine z_topi (y := nI (k - 4)) (pk_sub (by omega)) ?_
    refine z_iconst X (v := nI 4) (pc' := 19) dX4_makes_18 (by decide) rfl ?_
    refine z_idiv X (pc' := 20) dX4_makes_19 (by decide) rfl ?_
    refine z_topi (y := nI ((k - 4) / 4)) (pk_div (by omega) (by decide) (by decide)) ?_
    refine z_iload_n X (pc' := 21) dX4_makes_20 rfl 1 rfl rfl ?_
    refine z_iconst X (v := nI 4) (pc' := 22) dX4_makes_21 (by decide) rfl ?_
    refine z_isub X (pc' := 23) dX4_makes_22 rfl ?_
    refine z_topi (y := nI (k - 4)) (pk_sub (by omega)) ?_
    refine z_iconst X (v := nI 4) (pc' := 24) dX4_makes_23 (by decide) rfl ?_
    refine z_irem X (pc' := 25) dX4_makes_24 (by decide) rfl ?_
    refine z_topi (y := nI ((k - 4) % 4)) (pk_rem (by omega) (by decide) (by decide)) ?_
    refine z_iload_n X (pc' := 26) dX4_makes_25 rfl 2 rfl rfl ?_
    refine z_callVi X (pc' := 29) (fun sz => r_leaves l D cI cJ sz mo th st tol ts tf td ad h n ((k - 4) / 4) ((k - 4) % 4) md fa fr fw fh fW fV P (by omega) (by omega) hmd hS hW) (zcwV X TTg 3 mL_X4_104 mI_X4_leaves mS_X4_leaves mN_X4 mK_X4_leaves rfl rfl (by decide +kernel) ⟨(Nat.le_of_ble_eq_true rfl), (Nat.le_of_ble_eq_true rfl)⟩) (wr := [(ad 1, .inl (cI, 4, .inl gm)), (ad 2, .inl (cI, 24, .inl gn)), (ad 3, .inl (cI, 24, .inl ga)), (ad 4, .inl (cI, 24, .inl gb))]) [0, 5, 6, 7, 8, 9, 10] [1, 2, 3, 4] rfl rfl rfl rfl (by decide) 4 0 rfl rfl rfl rfl rfl (Nat.le_of_ble_eq_true rfl) dX4_makes_26 ⟨Nat.le_of_ble_eq_true rfl, Nat.le_of_ble_eq_true rfl⟩ rfl (fun r u hu => ?_)
    have hu : rOpW (st_rel md h n ((k - 4) / 4) ((k - 4) % 4)) r u := hu
    refine z_wse (ws' := [(ad 1, .inl (cI, 4, .inl gm)), (ad 2, .inl (cI, 24, .inl gn)), (ad 3, .inl (cI, 24, .inl ga)), (ad 4, .inl (cI, 24, .inl gb)), (mo, .inr (4, [.int (nI th), .ref (ad 1), .ref (ad 2), .ref (ad 3), .ref (ad 4), .int (nI st), .ref (ad 6), .ref (ad 7), .ref (ad 8), .ref (ad 9), .ref (ad 10), .ref (ad 11), .ref (ad 12), .ref (ad 13), .ref (ad 14), .ref (ad 15), .ref (ad 16), .ref (ad 17), .ref (ad 18), .int (nI tol), .int (nI ts), .int (nI tf), .int (nI td), .ref (ad 23), .ref (ad 24), .ref (ad 25), .ref (ad 26)])), (ad 13, .inl (cI, 4, .inl u.1)), (ad 14, .inl (cI, 16, .inl u.2.1)), (ad 15, .inl (cI, 4, .inl u.2.2.1)), (ad 16, .inl (cI, 4, .inl u.2.2.2.1)), (ad 17, .inl (cI, 8, .inl u.2.2.2.2.1)), (ad 18, .inl (cI, 8, .inl u.2.2.2.2.2))]) rfl ?_
    have hr : rOpW (st_step P md (h, n) k) r u := by rw [hst]; exact hu
    clear hu
    rcases hso : st_step P md (h, n) k with _ | q
    · rw [hso] at hr
      have hr : r = nI 0 := hr
      subst hr
      refine z_ws (ws' := [(mo, .inr (4, [.int (nI th), .ref (ad 1), .ref (ad 2), .ref (ad 3), .ref (ad 4), .int (nI st), .ref (ad 6), .ref (ad 7), .ref (ad 8), .ref (ad 9), .ref (ad 10), .ref (ad 11), .ref (ad 12), .ref (ad 13), .ref (ad 14), .ref (ad 15), .ref (ad 16), .ref (ad 17), .ref (ad 18), .int (nI tol), .int (nI ts), .int (nI tf), .int (nI td), .ref (ad 23), .ref (ad 24), .ref (ad 25), .ref (ad 26)])), (ad 1, .inl (cI, 4, .inl gm)), (ad 2, .inl (cI, 24, .inl gn)), (ad 3, .inl (cI, 24, .inl ga)), (ad 4, .inl (cI, 24, .inl gb)), (ad 13, .inl (cI, 4, .inl u.1)), (ad 14, .inl (cI, 16, .inl u.2.1)), (ad 15, .inl (cI, 4, .inl u.2.2.1)), (ad 16, .inl (cI, 4, .inl u.2.2.2.1)), (ad 17, .inl (cI, 8, .inl u.2.2.2.2.1)), (ad 18, .inl (cI, 8, .inl u.2.2.2.2.2))]) [4, 0, 1, 2, 3, 5, 6, 7, 8, 9, 10] (by decide) rfl ?_
      exact z_iret X (t1 := .boolean) rfl rfl u (rfl) rfl (Nat.le_of_ble_eq_true rfl) (Nat.le_of_ble_eq_true rfl) dX4_makes_29
    · rw [hso] at hr
      obtain ⟨hr1, hr2⟩ := hr
      have hr1 : r = nI 1 := hr1
      subst hr1
      refine z_ws (ws' := [(mo, .inr (4, [.int (nI th), .ref (ad 1), .ref (ad 2), .ref (ad 3), .ref (ad 4), .int (nI st), .ref (ad 6), .ref (ad 7), .ref (ad 8), .ref (ad 9), .ref (ad 10), .ref (ad 11), .ref (ad 12), .ref (ad 13), .ref (ad 14), .ref (ad 15), .ref (ad 16), .ref (ad 17), .ref (ad 18), .int (nI tol), .int (nI ts), .int (nI tf), .int (nI td), .ref (ad 23), .ref (ad 24), .ref (ad 25), .ref (ad 26)])), (ad 1, .inl (cI, 4, .inl gm)), (ad 2, .inl (cI, 24, .inl gn)), (ad 3, .inl (cI, 24, .inl ga)), (ad 4, .inl (cI, 24, .inl gb)), (ad 13, .inl (cI, 4, .inl u.1)), (ad 14, .inl (cI, 16, .inl u.2.1)), (ad 15, .inl (cI, 4, .inl u.2.2.1)), (ad 16, .inl (cI, 4, .inl u.2.2.2.1)), (ad 17, .inl (cI, 8, .inl u.2.2.2.2.1)), (ad 18, .inl (cI, 8, .inl u.2.2.2.2.2))]) [4, 0, 1, 2, 3, 5, 6, 7, 8, 9, 10] (by decide) rfl ?_
      exact z_iret X (t1 := .boolean) rfl rfl u (⟨rfl, hr2⟩) rfl (Nat.le_of_ble_eq_true rfl) (Nat.le_of_ble_eq_true rfl) dX4_makes_29
  · have hk4 : ¬ 4 ≤ k := h1
    have hst : st_step P md (h, n) k = st_go P md h n k := by unfold st_step; rw [if_pos (by omega)]
    refine z_aload_n X (pc' := 6) dX4_makes_5 rfl 0 rfl rfl ?_
    refine z_iload_n X (pc' := 7) dX4_makes_6 rfl 1 rfl rfl ?_
    refine z_iload_n X (pc' := 8) dX4_makes_7 rfl 2 rfl rfl ?_
    refine z_callVi X (pc' := 11) (fun sz => r_goesOn l D cI cJ sz mo th st tol ts tf td ad h n k md fa fr fw fh fW fV gm gn ga gb P (by omega) hmd hS hz hP hQ hW) (zcwV X TTg 2 mL_X4_100 mI_X4_goesOn mS_X4_goesOn mN_X4 mK_X4_goesOn rfl rfl (by decide +kernel) ⟨(Nat.le_of_ble_eq_true rfl), (Nat.le_of_ble_eq_true rfl)⟩) (wr := []) [0, 1, 2, 3, 4, 5, 6, 7, 8, 9, 10] [] rfl rfl rfl rfl (by decide) 4 0 rfl rfl rfl rfl rfl (Nat.le_of_ble_eq_true rfl) dX4_makes_8 ⟨Nat.le_of_ble_eq_true rfl, Nat.le_of_ble_eq_true rfl⟩ rfl (fun r u hu => ?_)
    have hu : rOpW (st_go P md h n k) r u := hu
    refine z_wse (ws' := [(mo, .inr (4, [.int (nI th), .ref (ad 1), .ref (ad 2), .ref (ad 3), .ref (ad 4), .int (nI st), .ref (ad 6), .ref (ad 7), .ref (ad 8), .ref (ad 9), .ref (ad 10), .ref (ad 11), .ref (ad 12), .ref (ad 13), .ref (ad 14), .ref (ad 15), .ref (ad 16), .ref (ad 17), .ref (ad 18), .int (nI tol), .int (nI ts), .int (nI tf), .int (nI td), .ref (ad 23), .ref (ad 24), .ref (ad 25), .ref (ad 26)])), (ad 1, .inl (cI, 4, .inl gm)), (ad 2, .inl (cI, 24, .inl gn)), (ad 3, .inl (cI, 24, .inl ga)), (ad 4, .inl (cI, 24, .inl gb)), (ad 13, .inl (cI, 4, .inl u.1)), (ad 14, .inl (cI, 16, .inl u.2.1)), (ad 15, .inl (cI, 4, .inl u.2.2.1)), (ad 16, .inl (cI, 4, .inl u.2.2.2.1)), (ad 17, .inl (cI, 8, .inl u.2.2.2.2.1)), (ad 18, .inl (cI, 8, .inl u.2.2.2.2.2))]) rfl ?_
    refine z_goto X (tgt := 29) dX4_makes_11 (by decide) ?_
    have hr : rOpW (st_step P md (h, n) k) r u := by rw [hst]; exact hu
    clear hu
    rcases hso : st_step P md (h, n) k with _ | q
    · rw [hso] at hr
      have hr : r = nI 0 := hr
      subst hr
      refine z_ws (ws' := [(mo, .inr (4, [.int (nI th), .ref (ad 1), .ref (ad 2), .ref (ad 3), .ref (ad 4), .int (nI st), .ref (ad 6), .ref (ad 7), .ref (ad 8), .ref (ad 9), .ref (ad 10), .ref (ad 11), .ref (ad 12), .ref (ad 13), .ref (ad 14), .ref (ad 15), .ref (ad 16), .ref (ad 17), .ref (ad 18), .int (nI tol), .int (nI ts), .int (nI tf), .int (nI td), .ref (ad 23), .ref (ad 24), .ref (ad 25), .ref (ad 26)])), (ad 1, .inl (cI, 4, .inl gm)), (ad 2, .inl (cI, 24, .inl gn)), (ad 3, .inl (cI, 24, .inl ga)), (ad 4, .inl (cI, 24, .inl gb)), (ad 13, .inl (cI, 4, .inl u.1)), (ad 14, .inl (cI, 16, .inl u.2.1)), (ad 15, .inl (cI, 4, .inl u.2.2.1)), (ad 16, .inl (cI, 4, .inl u.2.2.2.1)), (ad 17, .inl (cI, 8, .inl u.2.2.2.2.1)), (ad 18, .inl (cI, 8, .inl u.2.2.2.2.2))]) [0, 1, 2, 3, 4, 5, 6, 7, 8, 9, 10] (by decide) rfl ?_
      exact z_iret X (t1 := .boolean) rfl rfl u (rfl) rfl (Nat.le_of_ble_eq_true rfl) (Nat.le_of_ble_eq_true rfl) dX4_makes_29
    · rw [hso] at hr
      obtain ⟨hr1, hr2⟩ := hr
      have hr1 : r = nI 1 := hr1
      subst hr1
      refine z_ws (ws' := [(mo, .inr (4, [.int (nI th), .ref (ad 1), .ref (ad 2), .ref (ad 3), .ref (ad 4), .int (nI st), .ref (ad 6), .ref (ad 7), .ref (ad 8), .ref (ad 9), .ref (ad 10), .ref (ad 11), .ref (ad 12), .ref (ad 13), .ref (ad 14), .ref (ad 15), .ref (ad 16), .ref (ad 17), .ref (ad 18), .int (nI tol), .int (nI ts), .int (nI tf), .int (nI td), .ref (ad 23), .ref (ad 24), .ref (ad 25), .ref (ad 26)])), (ad 1, .inl (cI, 4, .inl gm)), (ad 2, .inl (cI, 24, .inl gn)), (ad 3, .inl (cI, 24, .inl ga)), (ad 4, .inl (cI, 24, .inl gb)), (ad 13, .inl (cI, 4, .inl u.1)), (ad 14, .inl (cI, 16, .inl u.2.1)), (ad 15, .inl (cI, 4, .inl u.2.2.1)), (ad 16, .inl (cI, 4, .inl u.2.2.2.1)), (ad 17, .inl (cI, 8, .inl u.2.2.2.2.1)), (ad 18, .inl (cI, 8, .inl u.2.2.2.2.2))]) [0, 1, 2, 3, 4, 5, 6, 7, 8, 9, 10] (by decide) rfl ?_
      exact z_iret X (t1 := .boolean) rfl rfl u (⟨rfl, hr2⟩) rfl (Nat.le_of_ble_eq_true rfl) (Nat.le_of_ble_eq_true rfl) dX4_makes_29
set_option maxHeartbeats 4000000 in
set_option maxRecDepth 100000 in
/-- is all done -/
theorem r_isOver (l : Launch) (D : va_G) (cI cJ : ClassId) (sz : Nat) (mo th st tol ts tf td : Nat) (ad : Nat → Nat) (h n : Nat) (fa fr fw fh fW fV : Nat → Int32) (gm : Nat → Int32) (P : Nat → List Nat) (hS : Sok P h n) (hP : Pok P) (hQ : ∀ t, t < 4 → gm t = nI (P t).length) (hW : WS h n fa fr fw fh fW fV) : KI l D cI cJ yX4_isOver cX4_isOver 3 (some .boolean) 0 0 0 0 [.ref mo] [(mo, .inr (4, [.int (nI th), .ref (ad 1), .ref (ad 2), .ref (ad 3), .ref (ad 4), .int (nI st), .ref (ad 6), .ref (ad 7), .ref (ad 8), .ref (ad 9), .ref (ad 10), .ref (ad 11), .ref (ad 12), .ref (ad 13), .ref (ad 14), .ref (ad 15), .ref (ad 16), .ref (ad 17), .ref (ad 18), .int (nI tol), .int (nI ts), .int (nI tf), .int (nI td), .ref (ad 23), .ref (ad 24), .ref (ad 25), .ref (ad 26)])), (ad 1, .inl (cI, 4, .inl gm)), (ad 13, .inl (cI, 4, .inl fa)), (ad 16, .inl (cI, 4, .inl fh))] sz (S := Unit) (fun r _ => (r = nI 1 ∧ isOv P n) ∨ (r = nI 0 ∧ ¬ isOv P n)) (fun _ => [(mo, .inr (4, [.int (nI th), .ref (ad 1), .ref (ad 2), .ref (ad 3), .ref (ad 4), .int (nI st), .ref (ad 6), .ref (ad 7), .ref (ad 8), .ref (ad 9), .ref (ad 10), .ref (ad 11), .ref (ad 12), .ref (ad 13), .ref (ad 14), .ref (ad 15), .ref (ad 16), .ref (ad 17), .ref (ad 18), .int (nI tol), .int (nI ts), .int (nI tf), .int (nI td), .ref (ad 23), .ref (ad 24), .ref (ad 25), .ref (ad 26)])), (ad 1, .inl (cI, 4, .inl gm)), (ad 13, .inl (cI, 4, .inl fa)), (ad 16, .inl (cI, 4, .inl fh))]) := by
  refine zMetI (lv := [(0, .ref mo)]) NS0_ok (by decide) rfl (Nat.le_of_ble_eq_true rfl) rfl ?_
  intro p e s m args below meth c A X hin hA
  refine z_iconst X (v := nI 1) (pc' := 1) dX4_isOver_0 (by decide) rfl ?_
  refine z_istore_n X (lv' := [(1, .int (nI 1)), (0, .ref mo)]) (pc' := 2) dX4_isOver_1 rfl (by decide) rfl rfl ?_
  refine z_iconst X (v := nI 0) (pc' := 3) dX4_isOver_2 (by decide) rfl ?_
  refine z_istore_n X (lv' := [(2, .int (nI 0)), (1, .int (nI 1)), (0, .ref mo)]) (pc' := 4) dX4_isOver_3 rfl (by decide) rfl rfl ?_
  refine z_lv (lv' := [(2, .int (nI 0)), (1, .int (nI 1)), (0, .ref mo)]) [0, 1, 2] rfl ?_
  refine z_loop (σ := Nat × Nat) (fun x => x.1 ≤ 4 ∧ x.2 ≤ 1 ∧ (x.2 = 1 ↔ ∀ t, t < x.1 → pl (ml n t) = (P t).length ∧ wt (ml n t) = 0)) (fun x => 4 - x.1) (fun x => [(2, .int (nI x.1)), (1, .int (nI x.2)), (0, .ref mo)]) (fun x => [(mo, .inr (4, [.int (nI th), .ref (ad 1), .ref (ad 2), .ref (ad 3), .ref (ad 4), .int (nI st), .ref (ad 6), .ref (ad 7), .ref (ad 8), .ref (ad 9), .ref (ad 10), .ref (ad 11), .ref (ad 12), .ref (ad 13), .ref (ad 14), .ref (ad 15), .ref (ad 16), .ref (ad 17), .ref (ad 18), .int (nI tol), .int (nI ts), .int (nI tf), .int (nI td), .ref (ad 23), .ref (ad 24), .ref (ad 25), .ref (ad 26)])), (ad 1, .inl (cI, 4, .inl gm)), (ad 13, .inl (cI, 4, .inl fa)), (ad 16, .inl (cI, 4, .inl fh))]) (fun x => 0) (fun x => 0) ((0, 1)) ⟨Nat.zero_le _, Nat.le_refl 1, fun _ t ht => absurd ht (Nat.not_lt_zero t), fun _ => rfl⟩ ?_
  intro x hI ih
  obtain ⟨i1, i2, i3⟩ := hI
  show Z _ _ _ _ _ _ _ _ _ _ _ _ _ _ _ 4 [(2, .int (nI x.1)), (1, .int (nI x.2)), (0, .ref mo)] [] [(mo, .inr (4, [.int (nI th), .ref (ad 1), .ref (ad 2), .ref (ad 3), .ref (ad 4), .int (nI st), .ref (ad 6), .ref (ad 7), .ref (ad 8), .ref (ad 9), .ref (ad 10), .ref (ad 11), .ref (ad 12), .ref (ad 13), .ref (ad 14), .ref (ad 15), .ref (ad 16), .ref (ad 17), .ref (ad 18), .int (nI tol), .int (nI ts), .int (nI tf), .int (nI td), .ref (ad 23), .ref (ad 24), .ref (ad 25), .ref (ad 26)])), (ad 1, .inl (cI, 4, .inl gm)), (ad 13, .inl (cI, 4, .inl fa)), (ad 16, .inl (cI, 4, .inl fh))] 0 0
  refine z_iload_n X (pc' := 5) dX4_isOver_4 rfl 0 rfl rfl ?_
  refine z_iconst X (v := nI 4) (pc' := 6) dX4_isOver_5 (by decide) rfl ?_
  refine z_icmp_geN X (tgt := 49) (pc' := 9) (by omega) (by decide) dX4_isOver_6 (by decide) rfl (fun h1 => ?_) (fun h1 => ?_)
  · have hx4 : x.1 = 4 := by omega
    rw [hx4] at i3
    rcases (show x.2 = 1 ∨ x.2 = 0 by omega) with hb | hb
    · refine z_lve (lv' := [(2, .int (nI x.1)), (1, .int (nI 1)), (0, .ref mo)]) (by rw [hb]) ?_
      refine z_iload_n X (pc' := 50) dX4_isOver_49 rfl 1 rfl rfl ?_
      exact z_iret X (t1 := .boolean) rfl rfl () (Or.inl ⟨rfl, i3.mp hb⟩) rfl (Nat.le_of_ble_eq_true rfl) (Nat.le_of_ble_eq_true rfl) dX4_isOver_50
    · refine z_lve (lv' := [(2, .int (nI x.1)), (1, .int (nI 0)), (0, .ref mo)]) (by rw [hb]) ?_
      refine z_iload_n X (pc' := 50) dX4_isOver_49 rfl 1 rfl rfl ?_
      exact z_iret X (t1 := .boolean) rfl rfl () (Or.inr ⟨rfl, fun g => by have := i3.mpr g; omega⟩) rfl (Nat.le_of_ble_eq_true rfl) (Nat.le_of_ble_eq_true rfl) dX4_isOver_50
  · have hx4 : x.1 < 4 := by omega
    have hd := hW.1 x.1 hx4
    have h6 := (hP x.1 hx4).1
    have hp8 := pl_lt (ml n x.1)
    have hw4 := wt_lt (ml n x.1)
    refine z_iload_n X (pc' := 10) dX4_isOver_9 rfl 1 rfl rfl ?_
    refine z_if_eqN X (tgt := 41) (pc' := 13) (by omega) dX4_isOver_10 (by decide) rfl (fun h2 => ?_) (fun h2 => ?_)
    · have hb0 : x.2 = 0 := h2
      have hnot : ¬ ∀ t, t < x.1 + 1 → pl (ml n t) = (P t).length ∧ wt (ml n t) = 0 := fun g => by have := i3.mpr (fun t ht => g t (by omega)); omega
      refine z_iconst X (v := nI 0) (pc' := 42) dX4_isOver_41 (by decide) rfl ?_
      refine z_istore_n X (lv' := [(1, .int (nI 0)), (2, .int (nI x.1)), (0, .ref mo)]) (pc' := 43) dX4_isOver_42 rfl (by decide) rfl rfl ?_
      refine z_iinc X (v := nI (x.1 + 1)) (lv' := [(2, .int (nI (x.1 + 1))), (1, .int (nI 0)), (0, .ref mo)]) (k := 1) (pc' := 46) dX4_isOver_43 rfl (nI_1 _) (by decide) rfl rfl ?_
      refine z_goto X (tgt := 4) dX4_isOver_46 (by decide) ?_
      refine z_lv (lv' := [(2, .int (nI (x.1 + 1))), (1, .int (nI 0)), (0, .ref mo)]) [0, 1, 2] rfl ?_
      exact ih ((x.1 + 1, 0)) ⟨by show x.1 + 1 ≤ 4; omega, Nat.zero_le 1, fun g => absurd (show 0 = 1 from g) Nat.zero_ne_one, fun g => absurd g hnot⟩ (by show 4 - (x.1 + 1) < 4 - x.1; omega)
    · have hb0 : ¬ x.2 = 0 := h2
      refine z_aload_n X (pc' := 14) dX4_isOver_13 rfl 2 rfl rfl ?_
      refine z_get X (v := .ref (ad 13)) (pc' := 17) 0 rfl rfl inX4 13 (by decide) mF_X4_44 rfl dX4_isOver_14 rfl ?_
      refine z_iload_n X (pc' := 18) dX4_isOver_17 rfl 0 rfl rfl ?_
      refine z_iald X (pc' := 19) 2 0 rfl rfl (by omega) (by omega) dX4_isOver_18 rfl ?_
      refine z_topi (y := nI (pl (ml n x.1))) hd.1 ?_
      refine z_aload_n X (pc' := 20) dX4_isOver_19 rfl 2 rfl rfl ?_
      refine z_get X (v := .ref (ad 1)) (pc' := 23) 0 rfl rfl inX4 1 (by decide) mF_X4_7 rfl dX4_isOver_20 rfl ?_
      refine z_iload_n X (pc' := 24) dX4_isOver_23 rfl 0 rfl rfl ?_
      refine z_iald X (pc' := 25) 1 0 rfl rfl (by omega) (by omega) dX4_isOver_24 rfl ?_
      refine z_topi (y := nI ((P x.1).length)) (hQ x.1 hx4) ?_
      refine z_icmp_neN X (tgt := 41) (pc' := 28) (by omega) (by omega) dX4_isOver_25 (by decide) rfl (fun h3 => ?_) (fun h3 => ?_)
      · have hat : ¬ pl (ml n x.1) = (P x.1).length := h3
        have hnot : ¬ ∀ t, t < x.1 + 1 → pl (ml n t) = (P t).length ∧ wt (ml n t) = 0 := fun g => by have := g x.1 (by omega); omega
        refine z_iconst X (v := nI 0) (pc' := 42) dX4_isOver_41 (by decide) rfl ?_
        refine z_istore_n X (lv' := [(1, .int (nI 0)), (2, .int (nI x.1)), (0, .ref mo)]) (pc' := 43) dX4_isOver_42 rfl (by decide) rfl rfl ?_
        refine z_iinc X (v := nI (x.1 + 1)) (lv' := [(2, .int (nI (x.1 + 1))), (1, .int (nI 0)), (0, .ref mo)]) (k := 1) (pc' := 46) dX4_isOver_43 rfl (nI_1 _) (by decide) rfl rfl ?_
        refine z_goto X (tgt := 4) dX4_isOver_46 (by decide) ?_
        refine z_lv (lv' := [(2, .int (nI (x.1 + 1))), (1, .int (nI 0)), (0, .ref mo)]) [0, 1, 2] rfl ?_
        exact ih ((x.1 + 1, 0)) ⟨by show x.1 + 1 ≤ 4; omega, Nat.zero_le 1, fun g => absurd (show 0 = 1 from g) Nat.zero_ne_one, fun g => absurd g hnot⟩ (by show 4 - (x.1 + 1) < 4 - x.1; omega)
      · have hat : pl (ml n x.1) = (P x.1).length := h3
        refine z_aload_n X (pc' := 29) dX4_isOver_28 rfl 2 rfl rfl ?_
        refine z_get X (v := .ref (ad 16)) (pc' := 32) 0 rfl rfl inX4 16 (by decide) mF_X4_53 rfl dX4_isOver_29 rfl ?_
        refine z_iload_n X (pc' := 33) dX4_isOver_32 rfl 0 rfl rfl ?_
        refine z_iald X (pc' := 34) 3 0 rfl rfl (by omega) (by omega) dX4_isOver_33 rfl ?_
        refine z_topi (y := nI (wt (ml n x.1))) hd.2.1 ?_
        refine z_if_neN X (tgt := 41) (pc' := 37) (by omega) dX4_isOver_34 (by decide) rfl (fun h4 => ?_) (fun h4 => ?_)
        · have hwz : ¬ wt (ml n x.1) = 0 := h4
          have hnot : ¬ ∀ t, t < x.1 + 1 → pl (ml n t) = (P t).length ∧ wt (ml n t) = 0 := fun g => by have := g x.1 (by omega); omega
          refine z_iconst X (v := nI 0) (pc' := 42) dX4_isOver_41 (by decide) rfl ?_
          refine z_istore_n X (lv' := [(1, .int (nI 0)), (2, .int (nI x.1)), (0, .ref mo)]) (pc' := 43) dX4_isOver_42 rfl (by decide) rfl rfl ?_
          refine z_iinc X (v := nI (x.1 + 1)) (lv' := [(2, .int (nI (x.1 + 1))), (1, .int (nI 0)), (0, .ref mo)]) (k := 1) (pc' := 46) dX4_isOver_43 rfl (nI_1 _) (by decide) rfl rfl ?_
          refine z_goto X (tgt := 4) dX4_isOver_46 (by decide) ?_
          refine z_lv (lv' := [(2, .int (nI (x.1 + 1))), (1, .int (nI 0)), (0, .ref mo)]) [0, 1, 2] rfl ?_
          exact ih ((x.1 + 1, 0)) ⟨by show x.1 + 1 ≤ 4; omega, Nat.zero_le 1, fun g => absurd (show 0 = 1 from g) Nat.zero_ne_one, fun g => absurd g hnot⟩ (by show 4 - (x.1 + 1) < 4 - x.1; omega)
        · have hwz : wt (ml n x.1) = 0 := h4
          refine z_iconst X (v := nI 1) (pc' := 38) dX4_isOver_37 (by decide) rfl ?_
          refine z_goto X (tgt := 42) dX4_isOver_38 (by decide) ?_
          refine z_istore_n X (lv' := [(1, .int (nI 1)), (2, .int (nI x.1)), (0, .ref mo)]) (pc' := 43) dX4_isOver_42 rfl (by decide) rfl rfl ?_
          refine z_iinc X (v := nI (x.1 + 1)) (lv' := [(2, .int (nI (x.1 + 1))), (1, .int (nI 1)), (0, .ref mo)]) (k := 1) (pc' := 46) dX4_isOver_43 rfl (nI_1 _) (by decide) rfl rfl ?_
          refine z_goto X (tgt := 4) dX4_isOver_46 (by decide) ?_
          refine z_lv (lv' := [(2, .int (nI (x.1 + 1))), (1, .int (nI 1)), (0, .ref mo)]) [0, 1, 2] rfl ?_
          exact ih ((x.1 + 1, 1)) ⟨by show x.1 + 1 ≤ 4; omega, Nat.le_refl 1, fun _ t ht => by rcases Nat.eq_or_lt_of_le (Nat.le_of_lt_succ ht) with g | g; (rw [g]; exact ⟨hat, hwz⟩); exact i3.mp (by omega) t g, fun _ => rfl⟩ (by show 4 - (x.1 + 1) < 4 - x.1; omega)
set_option maxHeartbeats 4000000 in
set_option maxRecDepth 100000 in
/-- the first state -/
theorem r_wipe (l : Launch) (D : va_G) (cI cJ : ClassId) (sz : Nat) (mo th st tol ts tf td : Nat) (ad : Nat → Nat) (fa fr fw fh fW fV : Nat → Int32) : KV l D cI cJ yX4_wipe cX4_wipe 2 none 0 0 0 0 [.ref mo] [(mo, .inr (4, [.int (nI th), .ref (ad 1), .ref (ad 2), .ref (ad 3), .ref (ad 4), .int (nI st), .ref (ad 6), .ref (ad 7), .ref (ad 8), .ref (ad 9), .ref (ad 10), .ref (ad 11), .ref (ad 12), .ref (ad 13), .ref (ad 14), .ref (ad 15), .ref (ad 16), .ref (ad 17), .ref (ad 18), .int (nI tol), .int (nI ts), .int (nI tf), .int (nI td), .ref (ad 23), .ref (ad 24), .ref (ad 25), .ref (ad 26)])), (ad 13, .inl (cI, 4, .inl fa)), (ad 14, .inl (cI, 16, .inl fr)), (ad 15, .inl (cI, 4, .inl fw)), (ad 16, .inl (cI, 4, .inl fh)), (ad 17, .inl (cI, 8, .inl fW)), (ad 18, .inl (cI, 8, .inl fV))] sz (S := W6) (fun u => WS 0 0 u.1 u.2.1 u.2.2.1 u.2.2.2.1 u.2.2.2.2.1 u.2.2.2.2.2) (fun u => [(mo, .inr (4, [.int (nI th), .ref (ad 1), .ref (ad 2), .ref (ad 3), .ref (ad 4), .int (nI 0), .ref (ad 6), .ref (ad 7), .ref (ad 8), .ref (ad 9), .ref (ad 10), .ref (ad 11), .ref (ad 12), .ref (ad 13), .ref (ad 14), .ref (ad 15), .ref (ad 16), .ref (ad 17), .ref (ad 18), .int (nI tol), .int (nI ts), .int (nI tf), .int (nI td), .ref (ad 23), .ref (ad 24), .ref (ad 25), .ref (ad 26)])), (ad 13, .inl (cI, 4, .inl u.1)), (ad 14, .inl (cI, 16, .inl u.2.1)), (ad 15, .inl (cI, 4, .inl u.2.2.1)), (ad 16, .inl (cI, 4, .inl u.2.2.2.1)), (ad 17, .inl (cI, 8, .inl u.2.2.2.2.1)), (ad 18, .inl (cI, 8, .inl u.2.2.2.2.2))]) := by
  refine zMetV (lv := [(0, .ref mo)]) NS0_ok (by decide) rfl (Nat.le_of_ble_eq_true rfl) rfl ?_
  intro p e s m args below meth c A X hin hA
  refine z_iconst X (v := nI 0) (pc' := 1) dX4_wipe_0 (by decide) rfl ?_
  refine z_istore_n X (lv' := [(1, .int (nI 0)), (0, .ref mo)]) (pc' := 2) dX4_wipe_1 rfl (by decide) rfl rfl ?_
  refine z_lv (lv' := [(1, .int (nI 0)), (0, .ref mo)]) [0, 1] rfl ?_
  refine z_loop (σ := Nat × (Nat → Int32) × (Nat → Int32) × (Nat → Int32)) (fun x => x.1 ≤ 4 ∧ ∀ i, i < x.1 → x.2.1 i = nI 0 ∧ x.2.2.1 i = nI 0 ∧ x.2.2.2 i = nI 0) (fun x => 4 - x.1) (fun x => [(1, .int (nI x.1)), (0, .ref mo)]) (fun x => [(mo, .inr (4, [.int (nI th), .ref (ad 1), .ref (ad 2), .ref (ad 3), .ref (ad 4), .int (nI st), .ref (ad 6), .ref (ad 7), .ref (ad 8), .ref (ad 9), .ref (ad 10), .ref (ad 11), .ref (ad 12), .ref (ad 13), .ref (ad 14), .ref (ad 15), .ref (ad 16), .ref (ad 17), .ref (ad 18), .int (nI tol), .int (nI ts), .int (nI tf), .int (nI td), .ref (ad 23), .ref (ad 24), .ref (ad 25), .ref (ad 26)])), (ad 13, .inl (cI, 4, .inl x.2.1)), (ad 14, .inl (cI, 16, .inl fr)), (ad 15, .inl (cI, 4, .inl x.2.2.1)), (ad 16, .inl (cI, 4, .inl x.2.2.2)), (ad 17, .inl (cI, 8, .inl fW)), (ad 18, .inl (cI, 8, .inl fV))]) (fun x => 0) (fun x => 0) ((0, fa, fw, fh)) ⟨Nat.zero_le _, fun i hi => absurd hi (Nat.not_lt_zero i)⟩ ?_
  intro x hI ih1
  obtain ⟨i1, i2⟩ := hI
  show Z _ _ _ _ _ _ _ _ _ _ _ _ _ _ _ 2 [(1, .int (nI x.1)), (0, .ref mo)] [] [(mo, .inr (4, [.int (nI th), .ref (ad 1), .ref (ad 2), .ref (ad 3), .ref (ad 4), .int (nI st), .ref (ad 6), .ref (ad 7), .ref (ad 8), .ref (ad 9), .ref (ad 10), .ref (ad 11), .ref (ad 12), .ref (ad 13), .ref (ad 14), .ref (ad 15), .ref (ad 16), .ref (ad 17), .ref (ad 18), .int (nI tol), .int (nI ts), .int (nI tf), .int (nI td), .ref (ad 23), .ref (ad 24), .ref (ad 25), .ref (ad 26)])), (ad 13, .inl (cI, 4, .inl x.2.1)), (ad 14, .inl (cI, 16, .inl fr)), (ad 15, .inl (cI, 4, .inl x.2.2.1)), (ad 16, .inl (cI, 4, .inl x.2.2.2)), (ad 17, .inl (cI, 8, .inl fW)), (ad 18, .inl (cI, 8, .inl fV))] 0 0
  refine z_iload_n X (pc' := 3) dX4_wipe_2 rfl 0 rfl rfl ?_
  refine z_iconst X (v := nI 4) (pc' := 4) dX4_wipe_3 (by decide) rfl ?_
  refine z_icmp_geN X (tgt := 34) (pc' := 7) (by omega) (by decide) dX4_wipe_4 (by decide) rfl (fun h1 => ?_) (fun h1 => ?_)
  · have hx4 : x.1 = 4 := by omega
    refine z_iconst X (v := nI 0) (pc' := 35) dX4_wipe_34 (by decide) rfl ?_
    refine z_istore_n X (lv' := [(1, .int (nI 0)), (0, .ref mo)]) (pc' := 36) dX4_wipe_35 rfl (by decide) rfl rfl ?_
    refine z_lv (lv' := [(1, .int (nI 0)), (0, .ref mo)]) [0, 1] rfl ?_
    refine z_loop (σ := Nat × (Nat → Int32)) (fun y => y.1 ≤ 16 ∧ ∀ i, i < y.1 → y.2 i = nI 0) (fun y => 16 - y.1) (fun y => [(1, .int (nI y.1)), (0, .ref mo)]) (fun y => [(mo, .inr (4, [.int (nI th), .ref (ad 1), .ref (ad 2), .ref (ad 3), .ref (ad 4), .int (nI st), .ref (ad 6), .ref (ad 7), .ref (ad 8), .ref (ad 9), .ref (ad 10), .ref (ad 11), .ref (ad 12), .ref (ad 13), .ref (ad 14), .ref (ad 15), .ref (ad 16), .ref (ad 17), .ref (ad 18), .int (nI tol), .int (nI ts), .int (nI tf), .int (nI td), .ref (ad 23), .ref (ad 24), .ref (ad 25), .ref (ad 26)])), (ad 13, .inl (cI, 4, .inl x.2.1)), (ad 14, .inl (cI, 16, .inl y.2)), (ad 15, .inl (cI, 4, .inl x.2.2.1)), (ad 16, .inl (cI, 4, .inl x.2.2.2)), (ad 17, .inl (cI, 8, .inl fW)), (ad 18, .inl (cI, 8, .inl fV))]) (fun y => 0) (fun y => 0) ((0, fr)) ⟨Nat.zero_le _, fun i hi => absurd hi (Nat.not_lt_zero i)⟩ ?_
    intro y hI ih2
    obtain ⟨j1, j2⟩ := hI
    show Z _ _ _ _ _ _ _ _ _ _ _ _ _ _ _ 36 [(1, .int (nI y.1)), (0, .ref mo)] [] [(mo, .inr (4, [.int (nI th), .ref (ad 1), .ref (ad 2), .ref (ad 3), .ref (ad 4), .int (nI st), .ref (ad 6), .ref (ad 7), .ref (ad 8), .ref (ad 9), .ref (ad 10), .ref (ad 11), .ref (ad 12), .ref (ad 13), .ref (ad 14), .ref (ad 15), .ref (ad 16), .ref (ad 17), .ref (ad 18), .int (nI tol), .int (nI ts), .int (nI tf), .int (nI td), .ref (ad 23), .ref (ad 24), .ref (ad 25), .ref (ad 26)])), (ad 13, .inl (cI, 4, .inl x.2.1)), (ad 14, .inl (cI, 16, .inl y.2)), (ad 15, .inl (cI, 4, .inl x.2.2.1)), (ad 16, .inl (cI, 4, .inl x.2.2.2)), (ad 17, .inl (cI, 8, .inl fW)), (ad 18, .inl (cI, 8, .inl fV))] 0 0
    refine z_iload_n X (pc' := 37) dX4_wipe_36 rfl 0 rfl rfl ?_
    refine z_bipush X (v := nI 16) (pc' := 39) dX4_wipe_37 (by decide) rfl ?_
    refine z_icmp_geN X (tgt := 55) (pc' := 42) (by omega) (by decide) dX4_wipe_39 (by decide) rfl (fun h2 => ?_) (fun h2 => ?_)
    · have hy4 : y.1 = 16 := by omega
      refine z_aload_n X (pc' := 56) dX4_wipe_55 rfl 1 rfl rfl ?_
      refine z_iconst X (v := nI 0) (pc' := 57) dX4_wipe_56 (by decide) rfl ?_
      refine z_put X (t1 := .int) (ws' := [(mo, .inr (4, [.int (nI th), .ref (ad 1), .ref (ad 2), .ref (ad 3), .ref (ad 4), .int (nI 0), .ref (ad 6), .ref (ad 7), .ref (ad 8), .ref (ad 9), .ref (ad 10), .ref (ad 11), .ref (ad 12), .ref (ad 13), .ref (ad 14), .ref (ad 15), .ref (ad 16), .ref (ad 17), .ref (ad 18), .int (nI tol), .int (nI ts), .int (nI tf), .int (nI td), .ref (ad 23), .ref (ad 24), .ref (ad 25), .ref (ad 26)])), (ad 13, .inl (cI, 4, .inl x.2.1)), (ad 14, .inl (cI, 16, .inl y.2)), (ad 15, .inl (cI, 4, .inl x.2.2.1)), (ad 16, .inl (cI, 4, .inl x.2.2.2)), (ad 17, .inl (cI, 8, .inl fW)), (ad 18, .inl (cI, 8, .inl fV))]) (pc' := 60) 0 rfl rfl inX4 tyX4 tyX4_ok nmX4 5 (by decide) mF_X4_117 rfl (by decide +kernel) rfl rfl (Nat.le_of_ble_eq_true rfl) dX4_wipe_57 rfl rfl ?_
      exact z_vret X (x.2.1, y.2, x.2.2.1, x.2.2.2, fW, fV) (⟨fun t ht => by have := i2 t (by omega); rw [show ml 0 t = 0 from dg_zero 8192 t]; exact ⟨this.1, this.2.2, fun k hk => absurd hk (Nat.not_lt_zero k)⟩, fun k hk => by rw [show mi 0 k = 0 from dg_zero 4 _]; exact j2 k (by omega), fun k hk => by rw [show mi 0 (16 + k) = 0 from dg_zero 4 _]; exact (i2 k (by omega)).2.1⟩) rfl (Nat.le_of_ble_eq_true rfl) (Nat.le_of_ble_eq_true rfl) dX4_wipe_60
    · have hy4 : y.1 < 16 := by omega
      refine z_aload_n X (pc' := 43) dX4_wipe_42 rfl 1 rfl rfl ?_
      refine z_get X (v := .ref (ad 14)) (pc' := 46) 0 rfl rfl inX4 14 (by decide) mF_X4_47 rfl dX4_wipe_43 rfl ?_
      refine z_iload_n X (pc' := 47) dX4_wipe_46 rfl 0 rfl rfl ?_
      refine z_iconst X (v := nI 0) (pc' := 48) dX4_wipe_47 (by decide) rfl ?_
      refine z_iast X (ws' := [(mo, .inr (4, [.int (nI th), .ref (ad 1), .ref (ad 2), .ref (ad 3), .ref (ad 4), .int (nI st), .ref (ad 6), .ref (ad 7), .ref (ad 8), .ref (ad 9), .ref (ad 10), .ref (ad 11), .ref (ad 12), .ref (ad 13), .ref (ad 14), .ref (ad 15), .ref (ad 16), .ref (ad 17), .ref (ad 18), .int (nI tol), .int (nI ts), .int (nI tf), .int (nI td), .ref (ad 23), .ref (ad 24), .ref (ad 25), .ref (ad 26)])), (ad 13, .inl (cI, 4, .inl x.2.1)), (ad 14, .inl (cI, 16, .inl (upd y.2 y.1 (nI 0)))), (ad 15, .inl (cI, 4, .inl x.2.2.1)), (ad 16, .inl (cI, 4, .inl x.2.2.2)), (ad 17, .inl (cI, 8, .inl fW)), (ad 18, .inl (cI, 8, .inl fV))]) (pc' := 49) 2 0 rfl rfl (by omega) (by omega) dX4_wipe_48 rfl rfl ?_
      refine z_iinc X (v := nI (y.1 + 1)) (lv' := [(1, .int (nI (y.1 + 1))), (0, .ref mo)]) (k := 0) (pc' := 52) dX4_wipe_49 rfl (nI_1 _) (by decide) rfl rfl ?_
      refine z_goto X (tgt := 36) dX4_wipe_52 (by decide) ?_
      refine z_lv (lv' := [(1, .int (nI (y.1 + 1))), (0, .ref mo)]) [0, 1] rfl ?_
      exact ih2 ((y.1 + 1, upd y.2 y.1 (nI 0))) ⟨by show y.1 + 1 ≤ 16; omega, fun i hi => by rcases Nat.eq_or_lt_of_le (Nat.le_of_lt_succ hi) with g | g; (subst g; exact pk_us); (show upd y.2 y.1 (nI 0) i = nI 0; rw [pk_un (by omega)]; exact j2 i g)⟩ (by show 16 - (y.1 + 1) < 16 - y.1; omega)
  · have hx4 : x.1 < 4 := by omega
    refine z_aload_n X (pc' := 8) dX4_wipe_7 rfl 1 rfl rfl ?_
    refine z_get X (v := .ref (ad 13)) (pc' := 11) 0 rfl rfl inX4 13 (by decide) mF_X4_44 rfl dX4_wipe_8 rfl ?_
    refine z_iload_n X (pc' := 12) dX4_wipe_11 rfl 0 rfl rfl ?_
    refine z_iconst X (v := nI 0) (pc' := 13) dX4_wipe_12 (by decide) rfl ?_
    refine z_iast X (ws' := [(mo, .inr (4, [.int (nI th), .ref (ad 1), .ref (ad 2), .ref (ad 3), .ref (ad 4), .int (nI st), .ref (ad 6), .ref (ad 7), .ref (ad 8), .ref (ad 9), .ref (ad 10), .ref (ad 11), .ref (ad 12), .ref (ad 13), .ref (ad 14), .ref (ad 15), .ref (ad 16), .ref (ad 17), .ref (ad 18), .int (nI tol), .int (nI ts), .int (nI tf), .int (nI td), .ref (ad 23), .ref (ad 24), .ref (ad 25), .ref (ad 26)])), (ad 13, .inl (cI, 4, .inl (upd x.2.1 x.1 (nI 0)))), (ad 14, .inl (cI, 16, .inl fr)), (ad 15, .inl (cI, 4, .inl x.2.2.1)), (ad 16, .inl (cI, 4, .inl x.2.2.2)), (ad 17, .inl (cI, 8, .inl fW)), (ad 18, .inl (cI, 8, .inl fV))]) (pc' := 14) 1 0 rfl rfl (by omega) (by omega) dX4_wipe_13 rfl rfl ?_
    refine z_aload_n X (pc' := 15) dX4_wipe_14 rfl 1 rfl rfl ?_
    refine z_get X (v := .ref (ad 15)) (pc' := 18) 0 rfl rfl inX4 15 (by decide) mF_X4_50 rfl dX4_wipe_15 rfl ?_
    refine z_iload_n X (pc' := 19) dX4_wipe_18 rfl 0 rfl rfl ?_
    refine z_iconst X (v := nI 0) (pc' := 20) dX4_wipe_19 (by decide) rfl ?_
    refine z_iast X (ws' := [(mo, .inr (4, [.int (nI th), .ref (ad 1), .ref (ad 2), .ref (ad 3), .ref (ad 4), .int (nI st), .ref (ad 6), .ref (ad 7), .ref (ad 8), .ref (ad 9), .ref (ad 10), .ref (ad 11), .ref (ad 12), .ref (ad 13), .ref (ad 14), .ref (ad 15), .ref (ad 16), .ref (ad 17), .ref (ad 18), .int (nI tol), .int (nI ts), .int (nI tf), .int (nI td), .ref (ad 23), .ref (ad 24), .ref (ad 25), .ref (ad 26)])), (ad 13, .inl (cI, 4, .inl (upd x.2.1 x.1 (nI 0)))), (ad 14, .inl (cI, 16, .inl fr)), (ad 15, .inl (cI, 4, .inl (upd x.2.2.1 x.1 (nI 0)))), (ad 16, .inl (cI, 4, .inl x.2.2.2)), (ad 17, .inl (cI, 8, .inl fW)), (ad 18, .inl (cI, 8, .inl fV))]) (pc' := 21) 3 0 rfl rfl (by omega) (by omega) dX4_wipe_20 rfl rfl ?_
    refine z_aload_n X (pc' := 22) dX4_wipe_21 rfl 1 rfl rfl ?_
    refine z_get X (v := .ref (ad 16)) (pc' := 25) 0 rfl rfl inX4 16 (by decide) mF_X4_53 rfl dX4_wipe_22 rfl ?_
    refine z_iload_n X (pc' := 26) dX4_wipe_25 rfl 0 rfl rfl ?_
    refine z_iconst X (v := nI 0) (pc' := 27) dX4_wipe_26 (by decide) rfl ?_
    refine z_iast X (ws' := [(mo, .inr (4, [.int (nI th), .ref (ad 1), .ref (ad 2), .ref (ad 3), .ref (ad 4), .int (nI st), .ref (ad 6), .ref (ad 7), .ref (ad 8), .ref (ad 9), .ref (ad 10), .ref (ad 11), .ref (ad 12), .ref (ad 13), .ref (ad 14), .ref (ad 15), .ref (ad 16), .ref (ad 17), .ref (ad 18), .int (nI tol), .int (nI ts), .int (nI tf), .int (nI td), .ref (ad 23), .ref (ad 24), .ref (ad 25), .ref (ad 26)])), (ad 13, .inl (cI, 4, .inl (upd x.2.1 x.1 (nI 0)))), (ad 14, .inl (cI, 16, .inl fr)), (ad 15, .inl (cI, 4, .inl (upd x.2.2.1 x.1 (nI 0)))), (ad 16, .inl (cI, 4, .inl (upd x.2.2.2 x.1 (nI 0)))), (ad 17, .inl (cI, 8, .inl fW)), (ad 18, .inl (cI, 8, .inl fV))]) (pc' := 28) 4 0 rfl rfl (by omega) (by omega) dX4_wipe_27 rfl rfl ?_
    refine z_iinc X (v := nI (x.1 + 1)) (lv' := [(1, .int (nI (x.1 + 1))), (0, .ref mo)]) (k := 0) (pc' := 31) dX4_wipe_28 rfl (nI_1 _) (by decide) rfl rfl ?_
    refine z_goto X (tgt := 2) dX4_wipe_31 (by decide) ?_
    refine z_lv (lv' := [(1, .int (nI (x.1 + 1))), (0, .ref mo)]) [0, 1] rfl ?_
    exact ih1 ((x.1 + 1, upd x.2.1 x.1 (nI 0), upd x.2.2.1 x.1 (nI 0), upd x.2.2.2 x.1 (nI 0))) ⟨by show x.1 + 1 ≤ 4; omega, fun i hi => by rcases Nat.eq_or_lt_of_le (Nat.le_of_lt_succ hi) with g | g; (subst g; exact ⟨pk_us, pk_us, pk_us⟩); (show upd x.2.1 x.1 (nI 0) i = nI 0 ∧ upd x.2.2.1 x.1 (nI 0) i = nI 0 ∧ upd x.2.2.2 x.1 (nI 0) i = nI 0; rw [pk_un (by omega), pk_un (by omega), pk_un (by omega)]; exact i2 i g)⟩ (by show 4 - (x.1 + 1) < 4 - x.1; omega)
theorem z_cmpG {x y : Int64} : (¬ lg_cmp x y ≤ 0) ↔ y < x := by
  unfold lg_cmp
  split
  · rename_i h; exact ⟨fun _ => h, fun _ => by decide⟩
  · rename_i h
    split
    · exact ⟨fun q => absurd (by decide) q, fun q => absurd q h⟩
    · exact ⟨fun q => absurd (by decide) q, fun q => absurd q h⟩
theorem z_cmpL {x y : Int64} : (¬ 0 ≤ lg_cmp x y) ↔ x < y := by
  unfold lg_cmp
  split
  · rename_i h; exact ⟨fun q => absurd (by decide) q, fun q => absurd (Int64.lt_trans h q) Int64.lt_irrefl⟩
  · rename_i h
    split
    · rename_i h2; exact ⟨fun q => absurd (by decide) q, fun q => by rw [h2] at q; exact absurd q Int64.lt_irrefl⟩
    · rename_i h2
      refine ⟨fun _ => ?_, fun _ => by decide⟩
      have h : ¬ y < x := h
      rw [Int64.lt_iff_toInt_lt] at h ⊢
      have h3 : x.toInt ≠ y.toInt := fun q => h2 (Int64.toInt_inj.mp q)
      omega
set_option maxHeartbeats 4000000 in
set_option maxRecDepth 100000 in
/-- where a state goes in the tree -/
theorem r_beside (l : Launch) (D : va_G) (cI cJ : ClassId) (sz : Nat) (mo th st tol ts tf td : Nat) (ad : Nat → Nat) (x1 y1 x2 y2 : Int64) (i0 : Nat) (f1 f2 : Nat → Int64) (hi : i0 < 20000) (hf1 : f1 i0 = x2) (hf2 : f2 i0 = y2) : KI l D cI cJ yX4_beside cX4_beside 10 (some .int) 0 0 0 0 [.ref mo, .long x1, .long y1, .int (nI i0)] [(mo, .inr (4, [.int (nI th), .ref (ad 1), .ref (ad 2), .ref (ad 3), .ref (ad 4), .int (nI st), .ref (ad 6), .ref (ad 7), .ref (ad 8), .ref (ad 9), .ref (ad 10), .ref (ad 11), .ref (ad 12), .ref (ad 13), .ref (ad 14), .ref (ad 15), .ref (ad 16), .ref (ad 17), .ref (ad 18), .int (nI tol), .int (nI ts), .int (nI tf), .int (nI td), .ref (ad 23), .ref (ad 24), .ref (ad 25), .ref (ad 26)])), (ad 6, .inl (cJ, 20000, .inr (.inl f1))), (ad 7, .inl (cJ, 20000, .inr (.inl f2)))] sz (S := Unit) (fun r _ => r = bes x1 y1 x2 y2) (fun _ => [(mo, .inr (4, [.int (nI th), .ref (ad 1), .ref (ad 2), .ref (ad 3), .ref (ad 4), .int (nI st), .ref (ad 6), .ref (ad 7), .ref (ad 8), .ref (ad 9), .ref (ad 10), .ref (ad 11), .ref (ad 12), .ref (ad 13), .ref (ad 14), .ref (ad 15), .ref (ad 16), .ref (ad 17), .ref (ad 18), .int (nI tol), .int (nI ts), .int (nI tf), .int (nI td), .ref (ad 23), .ref (ad 24), .ref (ad 25), .ref (ad 26)])), (ad 6, .inl (cJ, 20000, .inr (.inl f1))), (ad 7, .inl (cJ, 20000, .inr (.inl f2)))]) := by
  refine zMetI (lv := [(0, .ref mo), (1, .long x1), (3, .long y1), (5, .int (nI i0))]) NS0_ok (by decide) rfl (Nat.le_of_ble_eq_true rfl) rfl ?_
  intro p e s m args below meth c A X hin hA
  refine z_lload_n X (pc' := 1) dX4_beside_0 rfl 1 rfl rfl ?_
  refine z_ldc2 X (v := (-7046029254386353131)) (pc' := 4) mJ_X4_108 dX4_beside_1 rfl ?_
  refine z_lmul X (pc' := 5) dX4_beside_4 rfl ?_
  refine z_lstore X (lv' := [(6, .long (x1 * ((-7046029254386353131)))), (0, .ref mo), (1, .long x1), (3, .long y1), (5, .int (nI i0))]) (pc' := 7) dX4_beside_5 (by decide) rfl rfl ?_
  refine z_aload_n X (pc' := 8) dX4_beside_7 rfl 1 rfl rfl ?_
  refine z_get X (v := .ref (ad 6)) (pc' := 11) 0 rfl rfl inX4 6 (by decide) mF_X4_22 rfl dX4_beside_8 rfl ?_
  refine z_iload X (pc' := 13) dX4_beside_11 4 rfl rfl ?_
  refine z_lald X (pc' := 14) 1 1 rfl rfl (by omega) (by omega) dX4_beside_13 rfl ?_
  refine z_topl (y := x2) hf1 ?_
  refine z_ldc2 X (v := (-7046029254386353131)) (pc' := 17) mJ_X4_108 dX4_beside_14 rfl ?_
  refine z_lmul X (pc' := 18) dX4_beside_17 rfl ?_
  refine z_lstore X (lv' := [(8, .long (x2 * ((-7046029254386353131)))), (6, .long (x1 * ((-7046029254386353131)))), (0, .ref mo), (1, .long x1), (3, .long y1), (5, .int (nI i0))]) (pc' := 20) dX4_beside_18 (by decide) rfl rfl ?_
  refine z_lload X (pc' := 22) dX4_beside_20 1 rfl rfl ?_
  refine z_lload X (pc' := 24) dX4_beside_22 0 rfl rfl ?_
  refine z_lcmp X (pc' := 25) dX4_beside_24 rfl ?_
  refine z_if_eq X (tgt := 42) (pc' := 28) dX4_beside_25 (by decide) rfl (fun h1 => ?_) (fun h1 => ?_)
  · have he : x1 * (-7046029254386353131) = x2 * (-7046029254386353131) := z_cmp0.mp h1
    refine z_lload_n X (pc' := 43) dX4_beside_42 rfl 4 rfl rfl ?_
    refine z_aload_n X (pc' := 44) dX4_beside_43 rfl 2 rfl rfl ?_
    refine z_get X (v := .ref (ad 7)) (pc' := 47) 0 rfl rfl inX4 7 (by decide) mF_X4_26 rfl dX4_beside_44 rfl ?_
    refine z_iload X (pc' := 49) dX4_beside_47 5 rfl rfl ?_
    refine z_lald X (pc' := 50) 2 1 rfl rfl (by omega) (by omega) dX4_beside_49 rfl ?_
    refine z_topl (y := y2) hf2 ?_
    refine z_lcmp X (pc' := 51) dX4_beside_50 rfl ?_
    refine z_if_ge X (tgt := 58) (pc' := 54) dX4_beside_51 (by decide) rfl (fun h2 => ?_) (fun h2 => ?_)
    · have hl : ¬ y1 < y2 := fun g => absurd (h2) (z_cmpL.mpr g)
      refine z_lload_n X (pc' := 59) dX4_beside_58 rfl 4 rfl rfl ?_
      refine z_aload_n X (pc' := 60) dX4_beside_59 rfl 2 rfl rfl ?_
      refine z_get X (v := .ref (ad 7)) (pc' := 63) 0 rfl rfl inX4 7 (by decide) mF_X4_26 rfl dX4_beside_60 rfl ?_
      refine z_iload X (pc' := 65) dX4_beside_63 5 rfl rfl ?_
      refine z_lald X (pc' := 66) 2 1 rfl rfl (by omega) (by omega) dX4_beside_65 rfl ?_
      refine z_topl (y := y2) hf2 ?_
      refine z_lcmp X (pc' := 67) dX4_beside_66 rfl ?_
      refine z_if_le X (tgt := 74) (pc' := 70) dX4_beside_67 (by decide) rfl (fun h3 => ?_) (fun h3 => ?_)
      · have hg : ¬ y2 < y1 := fun g => absurd (h3) (z_cmpG.mpr g)
        refine z_iconst X (v := nI 0) (pc' := 75) dX4_beside_74 (by decide) rfl ?_
        exact z_iret X (t1 := .int) rfl rfl () (by show _ = bes x1 y1 x2 y2; unfold bes; rw [if_pos he, if_neg hl, if_neg hg]; try rfl) rfl (Nat.le_of_ble_eq_true rfl) (Nat.le_of_ble_eq_true rfl) dX4_beside_75
      · have hg : y2 < y1 := z_cmpG.mp h3
        refine z_iconst X (v := nI 1) (pc' := 71) dX4_beside_70 (by decide) rfl ?_
        refine z_goto X (tgt := 75) dX4_beside_71 (by decide) ?_
        exact z_iret X (t1 := .int) rfl rfl () (by show _ = bes x1 y1 x2 y2; unfold bes; rw [if_pos he, if_neg hl, if_pos hg]; try rfl) rfl (Nat.le_of_ble_eq_true rfl) (Nat.le_of_ble_eq_true rfl) dX4_beside_75
    · have hl : y1 < y2 := z_cmpL.mp h2
      refine z_iconst X (v := (-1)) (pc' := 55) dX4_beside_54 (by decide) rfl ?_
      refine z_goto X (tgt := 75) dX4_beside_55 (by decide) ?_
      exact z_iret X (t1 := .int) rfl rfl () (by show _ = bes x1 y1 x2 y2; unfold bes; rw [if_pos he, if_pos hl]; try rfl) rfl (Nat.le_of_ble_eq_true rfl) (Nat.le_of_ble_eq_true rfl) dX4_beside_75
  · have he : ¬ x1 * (-7046029254386353131) = x2 * (-7046029254386353131) := fun g => h1 (z_cmp0.mpr g)
    refine z_lload X (pc' := 30) dX4_beside_28 1 rfl rfl ?_
    refine z_lload X (pc' := 32) dX4_beside_30 0 rfl rfl ?_
    refine z_lcmp X (pc' := 33) dX4_beside_32 rfl ?_
    refine z_if_ge X (tgt := 40) (pc' := 36) dX4_beside_33 (by decide) rfl (fun h4 => ?_) (fun h4 => ?_)
    · have hl : ¬ x1 * (-7046029254386353131) < x2 * (-7046029254386353131) := fun g => absurd (h4) (z_cmpL.mpr g)
      refine z_iconst X (v := nI 1) (pc' := 41) dX4_beside_40 (by decide) rfl ?_
      exact z_iret X (t1 := .int) rfl rfl () (by show _ = bes x1 y1 x2 y2; unfold bes; rw [if_neg he, if_neg hl]; try rfl) rfl (Nat.le_of_ble_eq_true rfl) (Nat.le_of_ble_eq_true rfl) dX4_beside_41
    · have hl : x1 * (-7046029254386353131) < x2 * (-7046029254386353131) := z_cmpL.mp h4
      refine z_iconst X (v := (-1)) (pc' := 37) dX4_beside_36 (by decide) rfl ?_
      refine z_goto X (tgt := 41) dX4_beside_37 (by decide) ?_
      exact z_iret X (t1 := .int) rfl rfl () (by show _ = bes x1 y1 x2 y2; unfold bes; rw [if_neg he, if_pos hl]; try rfl) rfl (Nat.le_of_ble_eq_true rfl) (Nat.le_of_ble_eq_true rfl) dX4_beside_41


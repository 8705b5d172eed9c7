/-- the hash of a state, and the table's rows -/
def hx_m (q : Nat × Nat) : Int64 := lN q.1 * (-7046029254386353131) + lN q.2 * (-4417276706812531889)
def hx_i (q : Nat × Nat) : Int32 := ((((hx_m q ^^^ ((hx_m q).toUInt64 >>> ((nI 29).toInt64.toUInt64 &&& Int64.toUInt64 63)).toInt64) * (-7046029254386353131)).toUInt64 >>> ((nI 40).toInt64.toUInt64 &&& Int64.toUInt64 63)).toInt64).toInt32
def hx (q : Nat × Nat) : Nat := (hx_i q).toBitVec.toNat
theorem hx_slot {q : Nat × Nat} {ns k : Nat} (hk : ns = 2 ^ k) (h : k ≤ 30) : hx_i q &&& nI (ns - 1) = nI (hx q % ns) := by
  rw [pk_and (hx_i q) k (by rw [pk_tn (by have := Nat.pow_le_pow_right (show 0 < 2 by decide) h; omega), hk])]
  rw [hk]; rfl
theorem hx_next {x d ns k : Nat} (hk : ns = 2 ^ k) (h : k ≤ 30) : nI ((x + d) % ns + 1) &&& nI (ns - 1) = nI ((x + (d + 1)) % ns) := by
  have hp : 0 < ns := by rw [hk]; exact Nat.two_pow_pos k
  have hl : ns ≤ 2 ^ 30 := by rw [hk]; exact Nat.pow_le_pow_right (by decide) h
  have hm : (x + d) % ns < ns := Nat.mod_lt _ hp
  rw [pk_andN (by omega) k (by rw [pk_tn (by omega), hk]), ← hk, Nat.mod_add_mod, Nat.add_assoc]
/-- what the rows of states hold -/
def sRep (S : List (Nat × Nat)) (fH fL : Nat → Int64) : Prop := ∀ j, j < S.length → fH j = lN (S.getD j (0, 0)).1 ∧ fL j = lN (S.getD j (0, 0)).2
def tRep (ns : Nat) (tv : Nat → Nat) (fT : Nat → Int32) : Prop := ∀ j, j < ns → fT j = nI (tv j)
def small (q : Nat × Nat) : Prop := q.1 < 2 ^ 63 ∧ q.2 < 2 ^ 63
/-- the end of a search in the table: d slots from its beginning on there is the state, or nothing -/
def slotAt (ns : Nat) (tv : Nat → Nat) (S : List (Nat × Nat)) (q : Nat × Nat) (d : Nat) : Prop := d < ns ∧ tb_seen hx ns tv S q d ∧ (tv ((hx q + d) % ns) = 0 ∨ tv ((hx q + d) % ns) ≠ 0 ∧ S[tv ((hx q + d) % ns) - 1]? = some q)
set_option maxHeartbeats 4000000 in
set_option maxRecDepth 100000 in
/-- the slot of a state -/
theorem c_slotOf (l : Launch) (D : va_G) (cI cJ : ClassId) (sz : Nat) (sp ah al af ae ta cap tl room ns kk size ended br qh qn : Nat) (fH fL : Nat → Int64) (fT : Nat → Int32) (S : List (Nat × Nat)) (tv : Nat → Nat) (hk : ns = 2 ^ kk) (hkk : kk ≤ 15) (hst : ns ≤ tl) (hlen : S.length < ns) (hcap : S.length ≤ cap) (hR : sRep S fH fL) (hT : tRep ns tv fT) (hok : tb_ok hx ns tv S) (hsm : ∀ q ∈ S, small q) (hq : small (qh, qn)) : KI l D cI cJ yX2_slotOf cX2_slotOf 10 (some .int) 0 0 0 0 [.ref sp, .long (lN qh), .long (lN qn)] [(sp, .inr (2, [.ref ah, .ref al, .ref af, .ref ae, .ref ta, .int (nI room), .int (nI ns), .int (nI size), .int (nI ended), .int (nI br)])), (ah, .inl (cJ, cap, .inr (.inl fH))), (al, .inl (cJ, cap, .inr (.inl fL))), (ta, .inl (cI, tl, .inl fT))] sz (S := Unit) (fun r _ => ∃ d, slotAt ns tv S (qh, qn) d ∧ r = nI ((hx (qh, qn) + d) % ns)) (fun _ => [(sp, .inr (2, [.ref ah, .ref al, .ref af, .ref ae, .ref ta, .int (nI room), .int (nI ns), .int (nI size), .int (nI ended), .int (nI br)])), (ah, .inl (cJ, cap, .inr (.inl fH))), (al, .inl (cJ, cap, .inr (.inl fL))), (ta, .inl (cI, tl, .inl fT))]) := by
  refine zMetI (lv := [(0, .ref sp), (1, .long (lN qh)), (3, .long (lN qn))]) NS0_ok (by decide) rfl (Nat.le_of_ble_eq_true rfl) rfl ?_
  intro p e s m args below meth c A X hin hA
  refine z_lload_n X (pc' := 1) dX2_slotOf_0 rfl 1 rfl rfl ?_
  refine z_ldc2 X (v := (-7046029254386353131)) (pc' := 4) mJ_X2_73 dX2_slotOf_1 rfl ?_
  refine z_lmul X (pc' := 5) dX2_slotOf_4 rfl ?_
  refine z_lload_n X (pc' := 6) dX2_slotOf_5 rfl 2 rfl rfl ?_
  refine z_ldc2 X (v := (-4417276706812531889)) (pc' := 9) mJ_X2_75 dX2_slotOf_6 rfl ?_
  refine z_lmul X (pc' := 10) dX2_slotOf_9 rfl ?_
  refine z_ladd X (pc' := 11) dX2_slotOf_10 rfl ?_
  refine z_topl (y := hx_m (qh, qn)) rfl ?_
  refine z_lstore X (lv' := [(5, .long (hx_m (qh, qn))), (0, .ref sp), (1, .long (lN qh)), (3, .long (lN qn))]) (pc' := 13) dX2_slotOf_11 (by decide) rfl rfl ?_
  refine z_lload X (pc' := 15) dX2_slotOf_13 0 rfl rfl ?_
  refine z_lload X (pc' := 17) dX2_slotOf_15 0 rfl rfl ?_
  refine z_bipush X (v := nI 29) (pc' := 19) dX2_slotOf_17 (by decide) rfl ?_
  refine z_lushr X (pc' := 20) dX2_slotOf_19 rfl rfl ?_
  refine z_lxor X (pc' := 21) dX2_slotOf_20 rfl ?_
  refine z_ldc2 X (v := (-7046029254386353131)) (pc' := 24) mJ_X2_73 dX2_slotOf_21 rfl ?_
  refine z_lmul X (pc' := 25) dX2_slotOf_24 rfl ?_
  refine z_lstore X (lv' := [(5, .long (((hx_m (qh, qn)) ^^^ (((hx_m (qh, qn)).toUInt64 >>> ((nI 29).toInt64.toUInt64 &&& Int64.toUInt64 63)).toInt64)) * ((-7046029254386353131)))), (0, .ref sp), (1, .long (lN qh)), (3, .long (lN qn))]) (pc' := 27) dX2_slotOf_25 (by decide) rfl rfl ?_
  refine z_lload X (pc' := 29) dX2_slotOf_27 0 rfl rfl ?_
  refine z_bipush X (v := nI 40) (pc' := 31) dX2_slotOf_29 (by decide) rfl ?_
  refine z_lushr X (pc' := 32) dX2_slotOf_31 rfl rfl ?_
  refine z_l2i X (pc' := 33) dX2_slotOf_32 rfl rfl ?_
  refine z_aload_n X (pc' := 34) dX2_slotOf_33 rfl 1 rfl rfl ?_
  refine z_get X (v := .int (nI ns)) (pc' := 37) 0 rfl rfl inX2 6 (by decide) mF_X2_32 rfl dX2_slotOf_34 rfl ?_
  refine z_iconst X (v := nI 1) (pc' := 38) dX2_slotOf_37 (by decide) rfl ?_
  refine z_isub X (pc' := 39) dX2_slotOf_38 rfl ?_
  refine z_topi (y := nI (ns - 1)) (pk_sub (by omega)) ?_
  refine z_iand X (pc' := 40) dX2_slotOf_39 rfl ?_
  refine z_topi (y := nI (hx (qh, qn) % ns)) (hx_slot hk (by omega)) ?_
  refine z_istore X (lv' := [(7, .int (nI (hx (qh, qn) % ns))), (5, .long (((hx_m (qh, qn)) ^^^ (((hx_m (qh, qn)).toUInt64 >>> ((nI 29).toInt64.toUInt64 &&& Int64.toUInt64 63)).toInt64)) * ((-7046029254386353131)))), (0, .ref sp), (1, .long (lN qh)), (3, .long (lN qn))]) (pc' := 42) dX2_slotOf_40 (by decide) rfl rfl ?_
  refine z_lve (lv' := [(7, .int (nI ((hx (qh, qn) + 0) % ns))), (5, .long (((hx_m (qh, qn)) ^^^ (((hx_m (qh, qn)).toUInt64 >>> ((nI 29).toInt64.toUInt64 &&& Int64.toUInt64 63)).toInt64)) * ((-7046029254386353131)))), (0, .ref sp), (1, .long (lN qh)), (3, .long (lN qn))]) (by rw [Nat.add_zero]) ?_
  refine z_iconst X (v := nI 0) (pc' := 43) dX2_slotOf_42 (by decide) rfl ?_
  refine z_istore X (lv' := [(8, .int (nI 0)), (7, .int (nI ((hx (qh, qn) + 0) % ns))), (5, .long (((hx_m (qh, qn)) ^^^ (((hx_m (qh, qn)).toUInt64 >>> ((nI 29).toInt64.toUInt64 &&& Int64.toUInt64 63)).toInt64)) * ((-7046029254386353131)))), (0, .ref sp), (1, .long (lN qh)), (3, .long (lN qn))]) (pc' := 45) dX2_slotOf_43 (by decide) rfl rfl ?_
  refine z_lv (lv' := [(8, .int (nI 0)), (7, .int (nI ((hx (qh, qn) + 0) % ns))), (0, .ref sp), (1, .long (lN qh)), (3, .long (lN qn))]) [0, 1, 3, 4, 5] rfl ?_
  refine z_loop (σ := Nat) (fun d => d ≤ ns ∧ tb_seen hx ns tv S (qh, qn) d) (fun d => ns - d) (fun d => [(8, .int (nI d)), (7, .int (nI ((hx (qh, qn) + d) % ns))), (0, .ref sp), (1, .long (lN qh)), (3, .long (lN qn))]) (fun d => [(sp, .inr (2, [.ref ah, .ref al, .ref af, .ref ae, .ref ta, .int (nI room), .int (nI ns), .int (nI size), .int (nI ended), .int (nI br)])), (ah, .inl (cJ, cap, .inr (.inl fH))), (al, .inl (cJ, cap, .inr (.inl fL))), (ta, .inl (cI, tl, .inl fT))]) (fun d => 0) (fun d => 0) 0 ⟨Nat.zero_le _, tb_seen_0⟩ ?_
  intro d hI ih
  have hp : 0 < ns := by omega
  have hsl : (hx (qh, qn) + d) % ns < ns := Nat.mod_lt _ hp
  have hns : ns ≤ 32768 := by rw [hk]; exact Nat.pow_le_pow_right (by decide) hkk
  have htv := hok.1 _ hsl
  show Z _ _ _ _ _ _ _ _ _ _ _ _ _ _ _ 45 [(8, .int (nI d)), (7, .int (nI ((hx (qh, qn) + d) % ns))), (0, .ref sp), (1, .long (lN qh)), (3, .long (lN qn))] [] [(sp, .inr (2, [.ref ah, .ref al, .ref af, .ref ae, .ref ta, .int (nI room), .int (nI ns), .int (nI size), .int (nI ended), .int (nI br)])), (ah, .inl (cJ, cap, .inr (.inl fH))), (al, .inl (cJ, cap, .inr (.inl fL))), (ta, .inl (cI, tl, .inl fT))] 0 0
  refine z_iload X (pc' := 47) dX2_slotOf_45 0 rfl rfl ?_
  refine z_aload_n X (pc' := 48) dX2_slotOf_47 rfl 2 rfl rfl ?_
  refine z_get X (v := .int (nI ns)) (pc' := 51) 0 rfl rfl inX2 6 (by decide) mF_X2_32 rfl dX2_slotOf_48 rfl ?_
  refine z_icmp_geN X (tgt := 116) (pc' := 54) (by omega) (by omega) dX2_slotOf_51 (by decide) rfl (fun h1 => ?_) (fun h1 => ?_)
  · have hdn : d = ns := by omega
    rw [hdn] at hI
    exact (tb_full hok hlen hI.2).elim
  · have hdn : d < ns := by omega
    refine z_aload_n X (pc' := 55) dX2_slotOf_54 rfl 2 rfl rfl ?_
    refine z_get X (v := .ref ta) (pc' := 58) 0 rfl rfl inX2 4 (by decide) mF_X2_25 rfl dX2_slotOf_55 rfl ?_
    refine z_iload X (pc' := 60) dX2_slotOf_58 1 rfl rfl ?_
    refine z_iald X (pc' := 61) 3 0 rfl rfl (by omega) (by omega) dX2_slotOf_60 rfl ?_
    refine z_topi (y := nI (tv ((hx (qh, qn) + d) % ns))) (hT _ hsl) ?_
    refine z_iconst X (v := nI 1) (pc' := 62) dX2_slotOf_61 (by decide) rfl ?_
    refine z_isub X (pc' := 63) dX2_slotOf_62 rfl ?_
    by_cases hz : tv ((hx (qh, qn) + d) % ns) = 0
    · refine z_topi (y := (-1)) (by rw [hz]; decide) ?_
      refine z_istore X (lv' := [(9, .int ((-1))), (8, .int (nI d)), (7, .int (nI ((hx (qh, qn) + d) % ns))), (0, .ref sp), (1, .long (lN qh)), (3, .long (lN qn))]) (pc' := 65) dX2_slotOf_63 (by decide) rfl rfl ?_
      refine z_iload X (pc' := 67) dX2_slotOf_65 0 rfl rfl ?_
      refine z_if_lt X (tgt := 116) (pc' := 70) dX2_slotOf_67 (by decide) rfl (fun h2 => ?_) (fun h2 => ?_)
      · refine z_iload X (pc' := 118) dX2_slotOf_116 2 rfl rfl ?_
        exact z_iret X (t1 := .int) rfl rfl () (⟨d, ⟨hdn, hI.2, Or.inl hz⟩, rfl⟩) rfl (Nat.le_of_ble_eq_true rfl) (Nat.le_of_ble_eq_true rfl) dX2_slotOf_118
      · exact absurd (by decide) h2
    · refine z_topi (y := nI (tv ((hx (qh, qn) + d) % ns) - 1)) (pk_sub (by omega)) ?_
      obtain ⟨q9, hq9⟩ : ∃ q9, S[tv ((hx (qh, qn) + d) % ns) - 1]? = some q9 := ⟨_, List.getElem?_eq_getElem (by omega)⟩
      have hg9 : S.getD (tv ((hx (qh, qn) + d) % ns) - 1) (0, 0) = q9 := by rw [List.getD_eq_getElem?_getD, hq9]; rfl
      have hs9 := hsm q9 (List.mem_of_getElem? hq9)
      obtain ⟨hR1, hR2⟩ := hR (tv ((hx (qh, qn) + d) % ns) - 1) (by omega)
      rw [hg9] at hR1 hR2
      refine z_istore X (lv' := [(9, .int (nI (tv ((hx (qh, qn) + d) % ns) - 1))), (8, .int (nI d)), (7, .int (nI ((hx (qh, qn) + d) % ns))), (0, .ref sp), (1, .long (lN qh)), (3, .long (lN qn))]) (pc' := 65) dX2_slotOf_63 (by decide) rfl rfl ?_
      refine z_iload X (pc' := 67) dX2_slotOf_65 0 rfl rfl ?_
      refine z_if_ltN X (tgt := 116) (pc' := 70) (by omega) dX2_slotOf_67 (by decide) rfl ?_
      refine z_aload_n X (pc' := 71) dX2_slotOf_70 rfl 3 rfl rfl ?_
      refine z_get X (v := .ref ah) (pc' := 74) 0 rfl rfl inX2 0 (by decide) mF_X2_9 rfl dX2_slotOf_71 rfl ?_
      refine z_iload X (pc' := 76) dX2_slotOf_74 0 rfl rfl ?_
      refine z_lald X (pc' := 77) 1 1 rfl rfl (by omega) (by omega) dX2_slotOf_76 rfl ?_
      refine z_topl (y := lN q9.1) hR1 ?_
      refine z_lload_n X (pc' := 78) dX2_slotOf_77 rfl 4 rfl rfl ?_
      refine z_lcmp X (pc' := 79) dX2_slotOf_78 rfl ?_
      refine z_if_ne X (tgt := 97) (pc' := 82) dX2_slotOf_79 (by decide) rfl (fun h3 => ?_) (fun h3 => ?_)
      · have hne : S[tv ((hx (qh, qn) + d) % ns) - 1]? ≠ some (qh, qn) := fun q8 => h3 (z_cmp0.mpr (by rw [hq9] at q8; rw [Option.some.inj q8]))
        refine z_iload X (pc' := 99) dX2_slotOf_97 2 rfl rfl ?_
        refine z_iconst X (v := nI 1) (pc' := 100) dX2_slotOf_99 (by decide) rfl ?_
        refine z_iadd X (pc' := 101) dX2_slotOf_100 rfl ?_
        refine z_topi (y := nI (((hx (qh, qn) + d) % ns) + 1)) (nI_add _ _) ?_
        refine z_aload_n X (pc' := 102) dX2_slotOf_101 rfl 3 rfl rfl ?_
        refine z_get X (v := .int (nI ns)) (pc' := 105) 0 rfl rfl inX2 6 (by decide) mF_X2_32 rfl dX2_slotOf_102 rfl ?_
        refine z_iconst X (v := nI 1) (pc' := 106) dX2_slotOf_105 (by decide) rfl ?_
        refine z_isub X (pc' := 107) dX2_slotOf_106 rfl ?_
        refine z_topi (y := nI (ns - 1)) (pk_sub (by omega)) ?_
        refine z_iand X (pc' := 108) dX2_slotOf_107 rfl ?_
        refine z_topi (y := nI ((hx (qh, qn) + (d + 1)) % ns)) (hx_next hk (by omega)) ?_
        refine z_istore X (lv' := [(7, .int (nI ((hx (qh, qn) + (d + 1)) % ns))), (9, .int (nI (tv ((hx (qh, qn) + d) % ns) - 1))), (8, .int (nI d)), (0, .ref sp), (1, .long (lN qh)), (3, .long (lN qn))]) (pc' := 110) dX2_slotOf_108 (by decide) rfl rfl ?_
        refine z_iinc X (v := nI (d + 1)) (lv' := [(8, .int (nI (d + 1))), (7, .int (nI ((hx (qh, qn) + (d + 1)) % ns))), (9, .int (nI (tv ((hx (qh, qn) + d) % ns) - 1))), (0, .ref sp), (1, .long (lN qh)), (3, .long (lN qn))]) (k := 2) (pc' := 113) dX2_slotOf_110 rfl (nI_1 _) (by decide) rfl rfl ?_
        refine z_goto X (tgt := 45) dX2_slotOf_113 (by decide) ?_
        refine z_lv (lv' := [(8, .int (nI (d + 1))), (7, .int (nI ((hx (qh, qn) + (d + 1)) % ns))), (0, .ref sp), (1, .long (lN qh)), (3, .long (lN qn))]) [0, 1, 3, 4, 5] rfl ?_
        exact ih (d + 1) ⟨by omega, tb_seen_1 hI.2 hz hne⟩ (by omega)
      · have e1 : q9.1 = qh := (pk_lEQ hs9.1 hq.1).mp (z_cmp0.mp h3)
        refine z_aload_n X (pc' := 83) dX2_slotOf_82 rfl 3 rfl rfl ?_
        refine z_get X (v := .ref al) (pc' := 86) 0 rfl rfl inX2 1 (by decide) mF_X2_15 rfl dX2_slotOf_83 rfl ?_
        refine z_iload X (pc' := 88) dX2_slotOf_86 0 rfl rfl ?_
        refine z_lald X (pc' := 89) 2 1 rfl rfl (by omega) (by omega) dX2_slotOf_88 rfl ?_
        refine z_topl (y := lN q9.2) hR2 ?_
        refine z_lload_n X (pc' := 90) dX2_slotOf_89 rfl 5 rfl rfl ?_
        refine z_lcmp X (pc' := 91) dX2_slotOf_90 rfl ?_
        refine z_if_ne X (tgt := 97) (pc' := 94) dX2_slotOf_91 (by decide) rfl (fun h4 => ?_) (fun h4 => ?_)
        · have hne : S[tv ((hx (qh, qn) + d) % ns) - 1]? ≠ some (qh, qn) := fun q8 => h4 (z_cmp0.mpr (by rw [hq9] at q8; rw [Option.some.inj q8]))
          refine z_iload X (pc' := 99) dX2_slotOf_97 2 rfl rfl ?_
          refine z_iconst X (v := nI 1) (pc' := 100) dX2_slotOf_99 (by decide) rfl ?_
          refine z_iadd X (pc' := 101) dX2_slotOf_100 rfl ?_
          refine z_topi (y := nI (((hx (qh, qn) + d) % ns) + 1)) (nI_add _ _) ?_
          refine z_aload_n X (pc' := 102) dX2_slotOf_101 rfl 3 rfl rfl ?_
          refine z_get X (v := .int (nI ns)) (pc' := 105) 0 rfl rfl inX2 6 (by decide) mF_X2_32 rfl dX2_slotOf_102 rfl ?_
          refine z_iconst X (v := nI 1) (pc' := 106) dX2_slotOf_105 (by decide) rfl ?_
          refine z_isub X (pc' := 107) dX2_slotOf_106 rfl ?_
          refine z_topi (y := nI (ns - 1)) (pk_sub (by omega)) ?_
          refine z_iand X (pc' := 108) dX2_slotOf_107 rfl ?_
          refine z_topi (y := nI ((hx (qh, qn) + (d + 1)) % ns)) (hx_next hk (by omega)) ?_
          refine z_istore X (lv' := [(7, .int (nI ((hx (qh, qn) + (d + 1)) % ns))), (9, .int (nI (tv ((hx (qh, qn) + d) % ns) - 1))), (8, .int (nI d)), (0, .ref sp), (1, .long (lN qh)), (3, .long (lN qn))]) (pc' := 110) dX2_slotOf_108 (by decide) rfl rfl ?_
          refine z_iinc X (v := nI (d + 1)) (lv' := [(8, .int (nI (d + 1))), (7, .int (nI ((hx (qh, qn) + (d + 1)) % ns))), (9, .int (nI (tv ((hx (qh, qn) + d) % ns) - 1))), (0, .ref sp), (1, .long (lN qh)), (3, .long (lN qn))]) (k := 2) (pc' := 113) dX2_slotOf_110 rfl (nI_1 _) (by decide) rfl rfl ?_
          refine z_goto X (tgt := 45) dX2_slotOf_113 (by decide) ?_
          refine z_lv (lv' := [(8, .int (nI (d + 1))), (7, .int (nI ((hx (qh, qn) + (d + 1)) % ns))), (0, .ref sp), (1, .long (lN qh)), (3, .long (lN qn))]) [0, 1, 3, 4, 5] rfl ?_
          exact ih (d + 1) ⟨by omega, tb_seen_1 hI.2 hz hne⟩ (by omega)
        · have e2 : q9.2 = qn := (pk_lEQ hs9.2 hq.2).mp (z_cmp0.mp h4)
          refine z_goto X (tgt := 116) dX2_slotOf_94 (by decide) ?_
          refine z_iload X (pc' := 118) dX2_slotOf_116 2 rfl rfl ?_
          exact z_iret X (t1 := .int) rfl rfl () (⟨d, ⟨hdn, hI.2, Or.inr ⟨hz, by rw [hq9, ← e1, ← e2]⟩⟩, rfl⟩) rfl (Nat.le_of_ble_eq_true rfl) (Nat.le_of_ble_eq_true rfl) dX2_slotOf_118
set_option maxHeartbeats 4000000 in
set_option maxRecDepth 100000 in
/-- the key of an outcome -/
theorem c_heldAtEnd (l : Launch) (D : va_G) (cI cJ : ClassId) (sz : Nat) (sp ah al af ae ta cap room ns size ended br i x v : Nat) (fH : Nat → Int64) (fE : Nat → Int32) (hi : i < cap) (hc : cap < 2 ^ 31) (hx : fE i = nI x) (hxc : x < cap) (hv : fH x = lN v) : KL l D cI cJ yX2_heldAtEnd cX2_heldAtEnd 2 (some .long) 0 0 0 0 [.ref sp, .int (nI i)] [(sp, .inr (2, [.ref ah, .ref al, .ref af, .ref ae, .ref ta, .int (nI room), .int (nI ns), .int (nI size), .int (nI ended), .int (nI br)])), (ah, .inl (cJ, cap, .inr (.inl fH))), (ae, .inl (cI, cap, .inl fE))] sz (S := Unit) (fun r _ => r = lN v) (fun _ => [(sp, .inr (2, [.ref ah, .ref al, .ref af, .ref ae, .ref ta, .int (nI room), .int (nI ns), .int (nI size), .int (nI ended), .int (nI br)])), (ah, .inl (cJ, cap, .inr (.inl fH))), (ae, .inl (cI, cap, .inl fE))]) := by
  refine zMetL (lv := [(0, .ref sp), (1, .int (nI i))]) NS0_ok (by decide) rfl (Nat.le_of_ble_eq_true rfl) rfl ?_
  intro p e s m args below meth c A X hin hA
  refine z_aload_n X (pc' := 1) dX2_heldAtEnd_0 rfl 0 rfl rfl ?_
  refine z_get X (v := .ref ah) (pc' := 4) 0 rfl rfl inX2 0 (by decide) mF_X2_9 rfl dX2_heldAtEnd_1 rfl ?_
  refine z_aload_n X (pc' := 5) dX2_heldAtEnd_4 rfl 0 rfl rfl ?_
  refine z_get X (v := .ref ae) (pc' := 8) 0 rfl rfl inX2 3 (by decide) mF_X2_22 rfl dX2_heldAtEnd_5 rfl ?_
  refine z_iload_n X (pc' := 9) dX2_heldAtEnd_8 rfl 1 rfl rfl ?_
  refine z_iald X (pc' := 10) 2 0 rfl rfl (by omega) (by omega) dX2_heldAtEnd_9 rfl ?_
  refine z_topi (y := nI x) hx ?_
  refine z_lald X (pc' := 11) 1 1 rfl rfl (by omega) (by omega) dX2_heldAtEnd_10 rfl ?_
  refine z_topl (y := lN v) hv ?_
  exact z_lret X () (rfl) rfl (Nat.le_of_ble_eq_true rfl) (Nat.le_of_ble_eq_true rfl) dX2_heldAtEnd_11
set_option maxHeartbeats 4000000 in
set_option maxRecDepth 100000 in
/-- two outcomes change places -/
theorem c_swapEnds (l : Launch) (D : va_G) (cI cJ : ClassId) (sz : Nat) (sp ah al af ae ta cap room ns size ended br i j : Nat) (fE : Nat → Int32) (hi : i < cap) (hj : j < cap) (hc : cap < 2 ^ 31) : KV l D cI cJ yX2_swapEnds cX2_swapEnds 4 none 0 0 0 0 [.ref sp, .int (nI i), .int (nI j)] [(sp, .inr (2, [.ref ah, .ref al, .ref af, .ref ae, .ref ta, .int (nI room), .int (nI ns), .int (nI size), .int (nI ended), .int (nI br)])), (ae, .inl (cI, cap, .inl fE))] sz (S := Unit) (fun _ => True) (fun _ => [(sp, .inr (2, [.ref ah, .ref al, .ref af, .ref ae, .ref ta, .int (nI room), .int (nI ns), .int (nI size), .int (nI ended), .int (nI br)])), (ae, .inl (cI, cap, .inl (upd (upd fE i (fE j)) j (fE i))))]) := by
  refine zMetV (lv := [(0, .ref sp), (1, .int (nI i)), (2, .int (nI j))]) NS0_ok (by decide) rfl (Nat.le_of_ble_eq_true rfl) rfl ?_
  intro p e s m args below meth c A X hin hA
  refine z_aload_n X (pc' := 1) dX2_swapEnds_0 rfl 0 rfl rfl ?_
  refine z_get X (v := .ref ae) (pc' := 4) 0 rfl rfl inX2 3 (by decide) mF_X2_22 rfl dX2_swapEnds_1 rfl ?_
  refine z_iload_n X (pc' := 5) dX2_swapEnds_4 rfl 1 rfl rfl ?_
  refine z_iald X (pc' := 6) 1 0 rfl rfl (by omega) (by omega) dX2_swapEnds_5 rfl ?_
  refine z_istore_n X (lv' := [(3, .int (fE i)), (0, .ref sp), (1, .int (nI i)), (2, .int (nI j))]) (pc' := 7) dX2_swapEnds_6 rfl (by decide) rfl rfl ?_
  refine z_aload_n X (pc' := 8) dX2_swapEnds_7 rfl 1 rfl rfl ?_
  refine z_get X (v := .ref ae) (pc' := 11) 0 rfl rfl inX2 3 (by decide) mF_X2_22 rfl dX2_swapEnds_8 rfl ?_
  refine z_iload_n X (pc' := 12) dX2_swapEnds_11 rfl 2 rfl rfl ?_
  refine z_aload_n X (pc' := 13) dX2_swapEnds_12 rfl 1 rfl rfl ?_
  refine z_get X (v := .ref ae) (pc' := 16) 0 rfl rfl inX2 3 (by decide) mF_X2_22 rfl dX2_swapEnds_13 rfl ?_
  refine z_iload_n X (pc' := 17) dX2_swapEnds_16 rfl 3 rfl rfl ?_
  refine z_iald X (pc' := 18) 1 0 rfl rfl (by omega) (by omega) dX2_swapEnds_17 rfl ?_
  refine z_iast X (ws' := [(sp, .inr (2, [.ref ah, .ref al, .ref af, .ref ae, .ref ta, .int (nI room), .int (nI ns), .int (nI size), .int (nI ended), .int (nI br)])), (ae, .inl (cI, cap, .inl (upd fE i (fE j))))]) (pc' := 19) 1 0 rfl rfl (by omega) (by omega) dX2_swapEnds_18 rfl rfl ?_
  refine z_aload_n X (pc' := 20) dX2_swapEnds_19 rfl 1 rfl rfl ?_
  refine z_get X (v := .ref ae) (pc' := 23) 0 rfl rfl inX2 3 (by decide) mF_X2_22 rfl dX2_swapEnds_20 rfl ?_
  refine z_iload_n X (pc' := 24) dX2_swapEnds_23 rfl 3 rfl rfl ?_
  refine z_iload_n X (pc' := 25) dX2_swapEnds_24 rfl 0 rfl rfl ?_
  refine z_iast X (ws' := [(sp, .inr (2, [.ref ah, .ref al, .ref af, .ref ae, .ref ta, .int (nI room), .int (nI ns), .int (nI size), .int (nI ended), .int (nI br)])), (ae, .inl (cI, cap, .inl (upd (upd fE i (fE j)) j (fE i))))]) (pc' := 26) 1 0 rfl rfl (by omega) (by omega) dX2_swapEnds_25 rfl rfl ?_
  exact z_vret X () (trivial) rfl (Nat.le_of_ble_eq_true rfl) (Nat.le_of_ble_eq_true rfl) dX2_swapEnds_26
theorem z_cmpLe {a b : Nat} (ha : a < 2 ^ 63) (hb : b < 2 ^ 63) : lg_cmp (lN a) (lN b) ≤ 0 ↔ a ≤ b := by
  unfold lg_cmp
  split
  · rename_i h
    have := (pk_lLT hb ha).mp h
    exact ⟨fun q => absurd q (by decide), fun q => by omega⟩
  · rename_i h
    have h2 : ¬ b < a := fun q => h ((pk_lLT hb ha).mpr q)
    split
    · exact ⟨fun _ => by omega, fun _ => by decide⟩
    · exact ⟨fun _ => by omega, fun _ => by decide⟩
theorem z_cmpGt {a b : Nat} (ha : a < 2 ^ 63) (hb : b < 2 ^ 63) : 0 < lg_cmp (lN a) (lN b) ↔ b < a := by
  have h := z_cmpLe ha hb
  constructor
  · intro q
    apply Classical.byContradiction
    intro q2
    exact absurd (h.mpr (by omega)) (Int32.not_le.mpr q)
  · intro q
    apply Int32.not_le.mp
    intro q2
    have := h.mp q2
    omega
/-- the row of outcomes holds E -/
def eRep (n : Nat) (E : Nat → Nat) (fE : Nat → Int32) : Prop := ∀ k, k < n → fE k = nI (E k)
theorem eRep_sw {n i j : Nat} {E : Nat → Nat} {fE : Nat → Int32} (h : eRep n E fE) (hi : i < n) (hj : j < n) : eRep n (sw E i j) (upd (upd fE i (fE j)) j (fE i)) := by
  intro k hk
  unfold sw
  by_cases h1 : k = j
  · subst h1; rw [pk_us, if_pos rfl]; exact h i hi
  · rw [pk_un h1, if_neg h1]
    by_cases h2 : k = i
    · subst h2; rw [pk_us, if_pos rfl]; exact h j hj
    · rw [pk_un h2, if_neg h2]; exact h k hk
/-- what a sinking keeps: the elements of the first n places, those from b on in their places -/
def sKeep (n b : Nat) (E E0 : Nat → Nat) : Prop := hs_same E E0 b ∧ (∀ k, b ≤ k → E k = E0 k) ∧ (hs_inj E0 n → hs_inj E n)
theorem sKeep_rf {n b : Nat} {E : Nat → Nat} : sKeep n b E E := ⟨hs_same_rf, fun _ _ => rfl, fun h => h⟩
theorem sKeep_sw {n b i j : Nat} {E E0 : Nat → Nat} (h : sKeep n b E E0) (hi : i < b) (hj : j < b) (hb : b ≤ n) : sKeep n b (sw E i j) E0 :=
  ⟨hs_same_tr (sw_same hi hj) h.1, fun k hk => by
    show sw E i j k = E0 k
    unfold sw
    rw [if_neg (by omega), if_neg (by omega)]; exact h.2.1 k hk, fun q => sw_inj (h.2.2 q) (by omega) (by omega)⟩
theorem sKeep_lt {n b size : Nat} {E E0 : Nat → Nat} (h : sKeep n b E E0) (hb : b ≤ n) (h0 : ∀ k, k < n → E0 k < size) : ∀ k, k < n → E k < size := by
  intro k hk
  rcases Nat.lt_or_ge k b with q | q
  · obtain ⟨a, h1, h2⟩ := h.1.1 k q
    rw [h2]; exact h0 a (by omega)
  · rw [h.2.1 k q]; exact h0 k hk
set_option maxHeartbeats 4000000 in
set_option maxRecDepth 100000 in
/-- a heap from top on -/
theorem c_sink (l : Launch) (D : va_G) (cI cJ : ClassId) (sz : Nat) (sp ah al af ae ta cap room ns size ended br top b n : Nat) (fH : Nat → Int64) (fE : Nat → Int32) (K E0 : Nat → Nat) (hc : cap ≤ 20480) (hn : n ≤ cap) (hb : b ≤ n) (hsz : size ≤ cap) (hE : eRep n E0 fE) (hlt : ∀ k, k < n → E0 k < size) (hK : ∀ k, k < size → fH k = lN (K k) ∧ K k < 2 ^ 63) (hp : hp_ok K E0 b (top + 1)) (htop : top < b ∨ b ≤ top ∧ top ≤ cap) : KV l D cI cJ yX2_sink cX2_sink 5 none 1 23 0 0 [.ref sp, .int (nI top), .int (nI b)] [(sp, .inr (2, [.ref ah, .ref al, .ref af, .ref ae, .ref ta, .int (nI room), .int (nI ns), .int (nI size), .int (nI ended), .int (nI br)])), (ah, .inl (cJ, cap, .inr (.inl fH))), (ae, .inl (cI, cap, .inl fE))] sz (S := Nat → Int32) (fun u => ∃ E, eRep n E u ∧ sKeep n b E E0 ∧ hp_ok K E b top) (fun u => [(sp, .inr (2, [.ref ah, .ref al, .ref af, .ref ae, .ref ta, .int (nI room), .int (nI ns), .int (nI size), .int (nI ended), .int (nI br)])), (ah, .inl (cJ, cap, .inr (.inl fH))), (ae, .inl (cI, cap, .inl u))]) := by
  refine zMetV (lv := [(0, .ref sp), (1, .int (nI top)), (2, .int (nI b))]) NS0_ok (by decide) rfl (Nat.le_of_ble_eq_true rfl) rfl ?_
  intro p e s m args below meth c A X hin hA
  refine z_iload_n X (pc' := 1) dX2_sink_0 rfl 1 rfl rfl ?_
  refine z_istore_n X (lv' := [(3, .int (nI top)), (0, .ref sp), (1, .int (nI top)), (2, .int (nI b))]) (pc' := 2) dX2_sink_1 rfl (by decide) rfl rfl ?_
  refine z_lv (lv' := [(3, .int (nI top)), (0, .ref sp), (1, .int (nI top)), (2, .int (nI b))]) [0, 1, 2, 3] rfl ?_
  refine z_loop (σ := Nat × (Nat → Nat) × (Nat → Int32)) (fun x => top ≤ x.1 ∧ (x.1 < b ∨ x.1 = top) ∧ eRep n x.2.1 x.2.2 ∧ sKeep n b x.2.1 E0 ∧ hp_but K x.2.1 b top x.1) (fun x => b - x.1) (fun x => [(3, .int (nI x.1)), (0, .ref sp), (1, .int (nI top)), (2, .int (nI b))]) (fun x => [(sp, .inr (2, [.ref ah, .ref al, .ref af, .ref ae, .ref ta, .int (nI room), .int (nI ns), .int (nI size), .int (nI ended), .int (nI br)])), (ah, .inl (cJ, cap, .inr (.inl fH))), (ae, .inl (cI, cap, .inl x.2.2))]) (fun x => 0) (fun x => 0) ((top, E0, fE)) ⟨Nat.le_refl _, Or.inr rfl, hE, sKeep_rf, hp_begin hp⟩ ?_
  intro x hI ih
  obtain ⟨i1, i2, i3, i4, i5⟩ := hI
  have hlt2 := sKeep_lt i4 hb hlt
  show Z _ _ _ _ _ _ _ _ _ _ _ _ _ _ _ 2 [(3, .int (nI x.1)), (0, .ref sp), (1, .int (nI top)), (2, .int (nI b))] [] [(sp, .inr (2, [.ref ah, .ref al, .ref af, .ref ae, .ref ta, .int (nI room), .int (nI ns), .int (nI size), .int (nI ended), .int (nI br)])), (ah, .inl (cJ, cap, .inr (.inl fH))), (ae, .inl (cI, cap, .inl x.2.2))] 0 0
  refine z_iconst X (v := nI 2) (pc' := 3) dX2_sink_2 (by decide) rfl ?_
  refine z_iload_n X (pc' := 4) dX2_sink_3 rfl 0 rfl rfl ?_
  refine z_imul X (pc' := 5) dX2_sink_4 rfl ?_
  refine z_topi (y := nI (2 * x.1)) (pk_mul _ _) ?_
  refine z_iconst X (v := nI 1) (pc' := 6) dX2_sink_5 (by decide) rfl ?_
  refine z_iadd X (pc' := 7) dX2_sink_6 rfl ?_
  refine z_topi (y := nI ((2 * x.1) + 1)) (nI_add _ _) ?_
  refine z_iload_n X (pc' := 8) dX2_sink_7 rfl 3 rfl rfl ?_
  refine z_icmp_geN X (tgt := 78) (pc' := 11) (by omega) (by omega) dX2_sink_8 (by decide) rfl (fun h1 => ?_) (fun h1 => ?_)
  · have hce : b ≤ 2 * x.1 + 1 := h1
    refine z_ws (ws' := [(sp, .inr (2, [.ref ah, .ref al, .ref af, .ref ae, .ref ta, .int (nI room), .int (nI ns), .int (nI size), .int (nI ended), .int (nI br)])), (ah, .inl (cJ, cap, .inr (.inl fH))), (ae, .inl (cI, cap, .inl x.2.2))]) [0, 1, 2] (by decide) rfl ?_
    exact z_vret X x.2.2 ⟨x.2.1, i3, i4, hp_done i5 (fun d q1 q2 => by unfold hp_ch at q1; omega)⟩ rfl (Nat.le_of_ble_eq_true rfl) (Nat.le_of_ble_eq_true rfl) dX2_sink_78
  · have hce : ¬ b ≤ 2 * x.1 + 1 := h1
    have l0 : x.1 < n := by omega
    have l1 : 2 * x.1 + 1 < n := by omega
    have k0 := hK _ (hlt2 _ l0)
    have k1 := hK _ (hlt2 _ l1)
    have z0 := hlt2 _ l0
    have z1 := hlt2 _ l1
    refine z_iconst X (v := nI 2) (pc' := 12) dX2_sink_11 (by decide) rfl ?_
    refine z_iload_n X (pc' := 13) dX2_sink_12 rfl 0 rfl rfl ?_
    refine z_imul X (pc' := 14) dX2_sink_13 rfl ?_
    refine z_topi (y := nI (2 * x.1)) (pk_mul _ _) ?_
    refine z_iconst X (v := nI 1) (pc' := 15) dX2_sink_14 (by decide) rfl ?_
    refine z_iadd X (pc' := 16) dX2_sink_15 rfl ?_
    refine z_topi (y := nI ((2 * x.1) + 1)) (nI_add _ _) ?_
    refine z_istore X (lv' := [(4, .int (nI ((2 * x.1) + 1))), (3, .int (nI x.1)), (0, .ref sp), (1, .int (nI top)), (2, .int (nI b))]) (pc' := 18) dX2_sink_16 (by decide) rfl rfl ?_
    refine z_iload X (pc' := 20) dX2_sink_18 0 rfl rfl ?_
    refine z_iconst X (v := nI 1) (pc' := 21) dX2_sink_20 (by decide) rfl ?_
    refine z_iadd X (pc' := 22) dX2_sink_21 rfl ?_
    refine z_topi (y := nI (((2 * x.1) + 1) + 1)) (nI_add _ _) ?_
    refine z_iload_n X (pc' := 23) dX2_sink_22 rfl 4 rfl rfl ?_
    refine z_icmp_geN X (tgt := 47) (pc' := 26) (by omega) (by omega) dX2_sink_23 (by decide) rfl (fun h2 => ?_) (fun h2 => ?_)
    · have hc2 : b ≤ 2 * x.1 + 1 + 1 := h2
      have hch : hp_ch x.1 (2 * x.1 + 1) := Or.inl rfl
      have hmax : ∀ d, hp_ch x.1 d → d < b → K (x.2.1 d) ≤ K (x.2.1 (2 * x.1 + 1)) := fun d q1 q2 => by rcases q1 with q1 | q1; (rw [q1]; exact Nat.le_refl _); omega
      refine z_aload_n X (pc' := 48) dX2_sink_47 rfl 2 rfl rfl ?_
      refine z_iload X (pc' := 50) dX2_sink_48 0 rfl rfl ?_
      refine z_callVl X (pc' := 53) (fun sz => c_heldAtEnd l D cI cJ sz sp ah al af ae ta cap room ns size ended br ((2 * x.1) + 1) (x.2.1 ((2 * x.1) + 1)) (K (x.2.1 ((2 * x.1) + 1))) fH x.2.2 (by omega) (by omega) (i3 _ (by omega)) (by omega) k1.1) (zcwV X TTg 1 mL_X2_92 mI_X2_heldAtEnd mS_X2_heldAtEnd mN_X2 mK_X2_heldAtEnd rfl rfl (by decide +kernel) ⟨(Nat.le_of_ble_eq_true rfl), (Nat.le_of_ble_eq_true rfl)⟩) (wr := []) [0, 1, 2] [] rfl rfl rfl rfl (by decide) 2 0 rfl rfl rfl rfl rfl (Nat.le_of_ble_eq_true rfl) dX2_sink_50 ⟨Nat.le_of_ble_eq_true rfl, Nat.le_of_ble_eq_true rfl⟩ rfl (fun r u hu => ?_)
      have hu : r = lN (K (x.2.1 ((2 * x.1) + 1))) := hu
      subst hu
      refine z_wse (ws' := [(sp, .inr (2, [.ref ah, .ref al, .ref af, .ref ae, .ref ta, .int (nI room), .int (nI ns), .int (nI size), .int (nI ended), .int (nI br)])), (ah, .inl (cJ, cap, .inr (.inl fH))), (ae, .inl (cI, cap, .inl x.2.2))]) rfl ?_
      refine z_aload_n X (pc' := 54) dX2_sink_53 rfl 2 rfl rfl ?_
      refine z_iload_n X (pc' := 55) dX2_sink_54 rfl 1 rfl rfl ?_
      refine z_callVl X (pc' := 58) (fun sz => c_heldAtEnd l D cI cJ sz sp ah al af ae ta cap room ns size ended br (x.1) (x.2.1 (x.1)) (K (x.2.1 (x.1))) fH x.2.2 (by omega) (by omega) (i3 _ (by omega)) (by omega) k0.1) (zcwV X TTg 1 mL_X2_92 mI_X2_heldAtEnd mS_X2_heldAtEnd mN_X2 mK_X2_heldAtEnd rfl rfl (by decide +kernel) ⟨(Nat.le_of_ble_eq_true rfl), (Nat.le_of_ble_eq_true rfl)⟩) (wr := []) [0, 1, 2] [] rfl rfl rfl rfl (by decide) 2 0 rfl rfl rfl rfl rfl (Nat.le_of_ble_eq_true rfl) dX2_sink_55 ⟨Nat.le_of_ble_eq_true rfl, Nat.le_of_ble_eq_true rfl⟩ rfl (fun r u hu => ?_)
      have hu : r = lN (K (x.2.1 (x.1))) := hu
      subst hu
      refine z_wse (ws' := [(sp, .inr (2, [.ref ah, .ref al, .ref af, .ref ae, .ref ta, .int (nI room), .int (nI ns), .int (nI size), .int (nI ended), .int (nI br)])), (ah, .inl (cJ, cap, .inr (.inl fH))), (ae, .inl (cI, cap, .inl x.2.2))]) rfl ?_
      refine z_lcmp X (pc' := 59) dX2_sink_58 rfl ?_
      refine z_if_gt X (tgt := 65) (pc' := 62) dX2_sink_59 (by decide) rfl (fun h3 => ?_) (fun h3 => ?_)
      · have hgt := (z_cmpGt k1.2 k0.2).mp h3
        refine z_aload_n X (pc' := 66) dX2_sink_65 rfl 2 rfl rfl ?_
        refine z_iload_n X (pc' := 67) dX2_sink_66 rfl 1 rfl rfl ?_
        refine z_iload X (pc' := 69) dX2_sink_67 0 rfl rfl ?_
        refine z_callVv X (pc' := 72) (fun sz => c_swapEnds l D cI cJ sz sp ah al af ae ta cap room ns size ended br x.1 ((2 * x.1) + 1) x.2.2 (by omega) (by omega) (by omega)) (zcwV X TTg 2 mL_X2_89 mI_X2_swapEnds mS_X2_swapEnds mN_X2 mK_X2_swapEnds rfl rfl (by decide +kernel) ⟨(Nat.le_of_ble_eq_true rfl), (Nat.le_of_ble_eq_true rfl)⟩) (wr := [(ah, .inl (cJ, cap, .inr (.inl fH)))]) [0, 2] [1] rfl rfl rfl rfl (by decide) 2 0 rfl rfl rfl rfl rfl (Nat.le_of_ble_eq_true rfl) dX2_sink_69 ⟨Nat.le_of_ble_eq_true rfl, Nat.le_of_ble_eq_true rfl⟩ rfl (fun u hu => ?_)
        refine z_wse (ws' := [(ah, .inl (cJ, cap, .inr (.inl fH))), (sp, .inr (2, [.ref ah, .ref al, .ref af, .ref ae, .ref ta, .int (nI room), .int (nI ns), .int (nI size), .int (nI ended), .int (nI br)])), (ae, .inl (cI, cap, .inl (upd (upd x.2.2 x.1 (x.2.2 ((2 * x.1) + 1))) ((2 * x.1) + 1) (x.2.2 x.1))))]) rfl ?_
        refine z_iload X (pc' := 74) dX2_sink_72 0 rfl rfl ?_
        refine z_istore_n X (lv' := [(3, .int (nI ((2 * x.1) + 1))), (4, .int (nI ((2 * x.1) + 1))), (0, .ref sp), (1, .int (nI top)), (2, .int (nI b))]) (pc' := 75) dX2_sink_74 rfl (by decide) rfl rfl ?_
        refine z_goto X (tgt := 2) dX2_sink_75 (by decide) ?_
        refine z_lv (lv' := [(3, .int (nI ((2 * x.1) + 1))), (0, .ref sp), (1, .int (nI top)), (2, .int (nI b))]) [0, 2, 3, 4] rfl ?_
        refine z_ws (ws' := [(sp, .inr (2, [.ref ah, .ref al, .ref af, .ref ae, .ref ta, .int (nI room), .int (nI ns), .int (nI size), .int (nI ended), .int (nI br)])), (ah, .inl (cJ, cap, .inr (.inl fH))), (ae, .inl (cI, cap, .inl (upd (upd x.2.2 x.1 (x.2.2 ((2 * x.1) + 1))) ((2 * x.1) + 1) (x.2.2 x.1))))]) [1, 0, 2] (by decide) rfl ?_
        exact ih (((2 * x.1) + 1, sw x.2.1 x.1 ((2 * x.1) + 1), upd (upd x.2.2 x.1 (x.2.2 ((2 * x.1) + 1))) ((2 * x.1) + 1) (x.2.2 x.1))) ⟨by show top ≤ _; omega, Or.inl (by show _ < b; omega), eRep_sw i3 (by omega) (by omega), sKeep_sw i4 (by omega) (by omega) hb, hp_step i5 i1 hch (by omega) hmax (by omega)⟩ (by show b - _ < b - x.1; omega)
      · have hgt : ¬ K (x.2.1 x.1) < K (x.2.1 ((2 * x.1) + 1)) := fun q => h3 ((z_cmpGt k1.2 k0.2).mpr q)
        refine z_goto X (tgt := 78) dX2_sink_62 (by decide) ?_
        refine z_ws (ws' := [(sp, .inr (2, [.ref ah, .ref al, .ref af, .ref ae, .ref ta, .int (nI room), .int (nI ns), .int (nI size), .int (nI ended), .int (nI br)])), (ah, .inl (cJ, cap, .inr (.inl fH))), (ae, .inl (cI, cap, .inl x.2.2))]) [0, 1, 2] (by decide) rfl ?_
        exact z_vret X x.2.2 ⟨x.2.1, i3, i4, hp_done i5 (fun d q1 q2 => Nat.le_trans (hmax d q1 q2) (by omega))⟩ rfl (Nat.le_of_ble_eq_true rfl) (Nat.le_of_ble_eq_true rfl) dX2_sink_78
    · have hc2 : ¬ b ≤ 2 * x.1 + 1 + 1 := h2
      have l2 : 2 * x.1 + 1 + 1 < n := by omega
      have k2 := hK _ (hlt2 _ l2)
      have z2 := hlt2 _ l2
      refine z_aload_n X (pc' := 27) dX2_sink_26 rfl 2 rfl rfl ?_
      refine z_iload X (pc' := 29) dX2_sink_27 0 rfl rfl ?_
      refine z_iconst X (v := nI 1) (pc' := 30) dX2_sink_29 (by decide) rfl ?_
      refine z_iadd X (pc' := 31) dX2_sink_30 rfl ?_
      refine z_topi (y := nI (((2 * x.1) + 1) + 1)) (nI_add _ _) ?_
      refine z_callVl X (pc' := 34) (fun sz => c_heldAtEnd l D cI cJ sz sp ah al af ae ta cap room ns size ended br (((2 * x.1) + 1) + 1) (x.2.1 (((2 * x.1) + 1) + 1)) (K (x.2.1 (((2 * x.1) + 1) + 1))) fH x.2.2 (by omega) (by omega) (i3 _ (by omega)) (by omega) k2.1) (zcwV X TTg 1 mL_X2_92 mI_X2_heldAtEnd mS_X2_heldAtEnd mN_X2 mK_X2_heldAtEnd rfl rfl (by decide +kernel) ⟨(Nat.le_of_ble_eq_true rfl), (Nat.le_of_ble_eq_true rfl)⟩) (wr := []) [0, 1, 2] [] rfl rfl rfl rfl (by decide) 2 0 rfl rfl rfl rfl rfl (Nat.le_of_ble_eq_true rfl) dX2_sink_31 ⟨Nat.le_of_ble_eq_true rfl, Nat.le_of_ble_eq_true rfl⟩ rfl (fun r u hu => ?_)
      have hu : r = lN (K (x.2.1 (((2 * x.1) + 1) + 1))) := hu
      subst hu
      refine z_wse (ws' := [(sp, .inr (2, [.ref ah, .ref al, .ref af, .ref ae, .ref ta, .int (nI room), .int (nI ns), .int (nI size), .int (nI ended), .int (nI br)])), (ah, .inl (cJ, cap, .inr (.inl fH))), (ae, .inl (cI, cap, .inl x.2.2))]) rfl ?_
      refine z_aload_n X (pc' := 35) dX2_sink_34 rfl 2 rfl rfl ?_
      refine z_iload X (pc' := 37) dX2_sink_35 0 rfl rfl ?_
      refine z_callVl X (pc' := 40) (fun sz => c_heldAtEnd l D cI cJ sz sp ah al af ae ta cap room ns size ended br ((2 * x.1) + 1) (x.2.1 ((2 * x.1) + 1)) (K (x.2.1 ((2 * x.1) + 1))) fH x.2.2 (by omega) (by omega) (i3 _ (by omega)) (by omega) k1.1) (zcwV X TTg 1 mL_X2_92 mI_X2_heldAtEnd mS_X2_heldAtEnd mN_X2 mK_X2_heldAtEnd rfl rfl (by decide +kernel) ⟨(Nat.le_of_ble_eq_true rfl), (Nat.le_of_ble_eq_true rfl)⟩) (wr := []) [0, 1, 2] [] rfl rfl rfl rfl (by decide) 2 0 rfl rfl rfl rfl rfl (Nat.le_of_ble_eq_true rfl) dX2_sink_37 ⟨Nat.le_of_ble_eq_true rfl, Nat.le_of_ble_eq_true rfl⟩ rfl (fun r u hu => ?_)
      have hu : r = lN (K (x.2.1 ((2 * x.1) + 1))) := hu
      subst hu
      refine z_wse (ws' := [(sp, .inr (2, [.ref ah, .ref al, .ref af, .ref ae, .ref ta, .int (nI room), .int (nI ns), .int (nI size), .int (nI ended), .int (nI br)])), (ah, .inl (cJ, cap, .inr (.inl fH))), (ae, .inl (cI, cap, .inl x.2.2))]) rfl ?_
      refine z_lcmp X (pc' := 41) dX2_sink_40 rfl ?_
      refine z_if_le X (tgt := 47) (pc' := 44) dX2_sink_41 (by decide) rfl (fun h4 => ?_) (fun h4 => ?_)
      · have hle := (z_cmpLe k2.2 k1.2).mp h4
        have hch : hp_ch x.1 ((2 * x.1) + 1) := Or.inl rfl
        have hmax : ∀ d, hp_ch x.1 d → d < b → K (x.2.1 d) ≤ K (x.2.1 ((2 * x.1) + 1)) := fun d q1 q2 => by rcases q1 with q1 | q1; (rw [q1]; exact Nat.le_refl _); (rw [q1]; exact hle)
        refine z_aload_n X (pc' := 48) dX2_sink_47 rfl 2 rfl rfl ?_
        refine z_iload X (pc' := 50) dX2_sink_48 0 rfl rfl ?_
        refine z_callVl X (pc' := 53) (fun sz => c_heldAtEnd l D cI cJ sz sp ah al af ae ta cap room ns size ended br ((2 * x.1) + 1) (x.2.1 ((2 * x.1) + 1)) (K (x.2.1 ((2 * x.1) + 1))) fH x.2.2 (by omega) (by omega) (i3 _ (by omega)) (by omega) k1.1) (zcwV X TTg 1 mL_X2_92 mI_X2_heldAtEnd mS_X2_heldAtEnd mN_X2 mK_X2_heldAtEnd rfl rfl (by decide +kernel) ⟨(Nat.le_of_ble_eq_true rfl), (Nat.le_of_ble_eq_true rfl)⟩) (wr := []) [0, 1, 2] [] rfl rfl rfl rfl (by decide) 2 0 rfl rfl rfl rfl rfl (Nat.le_of_ble_eq_true rfl) dX2_sink_50 ⟨Nat.le_of_ble_eq_true rfl, Nat.le_of_ble_eq_true rfl⟩ rfl (fun r u hu => ?_)
        have hu : r = lN (K (x.2.1 ((2 * x.1) + 1))) := hu
        subst hu
        refine z_wse (ws' := [(sp, .inr (2, [.ref ah, .ref al, .ref af, .ref ae, .ref ta, .int (nI room), .int (nI ns), .int (nI size), .int (nI ended), .int (nI br)])), (ah, .inl (cJ, cap, .inr (.inl fH))), (ae, .inl (cI, cap, .inl x.2.2))]) rfl ?_
        refine z_aload_n X (pc' := 54) dX2_sink_53 rfl 2 rfl rfl ?_
        refine z_iload_n X (pc' := 55) dX2_sink_54 rfl 1 rfl rfl ?_
        refine z_callVl X (pc' := 58) (fun sz => c_heldAtEnd l D cI cJ sz sp ah al af ae ta cap room ns size ended br (x.1) (x.2.1 (x.1)) (K (x.2.1 (x.1))) fH x.2.2 (by omega) (by omega) (i3 _ (by omega)) (by omega) k0.1) (zcwV X TTg 1 mL_X2_92 mI_X2_heldAtEnd mS_X2_heldAtEnd mN_X2 mK_X2_heldAtEnd rfl rfl (by decide +kernel) ⟨(Nat.le_of_ble_eq_true rfl), (Nat.le_of_ble_eq_true rfl)⟩) (wr := []) [0, 1, 2] [] rfl rfl rfl rfl (by decide) 2 0 rfl rfl rfl rfl rfl (Nat.le_of_ble_eq_true rfl) dX2_sink_55 ⟨Nat.le_of_ble_eq_true rfl, Nat.le_of_ble_eq_true rfl⟩ rfl (fun r u hu => ?_)
        have hu : r = lN (K (x.2.1 (x.1))) := hu
        subst hu
        refine z_wse (ws' := [(sp, .inr (2, [.ref ah, .ref al, .ref af, .ref ae, .ref ta, .int (nI room), .int (nI ns), .int (nI size), .int (nI ended), .int (nI br)])), (ah, .inl (cJ, cap, .inr (.inl fH))), (ae, .inl (cI, cap, .inl x.2.2))]) rfl ?_
        refine z_lcmp X (pc' := 59) dX2_sink_58 rfl ?_
        refine z_if_gt X (tgt := 65) (pc' := 62) dX2_sink_59 (by decide) rfl (fun h5 => ?_) (fun h5 => ?_)
        · have hgt := (z_cmpGt k1.2 k0.2).mp h5
          refine z_aload_n X (pc' := 66) dX2_sink_65 rfl 2 rfl rfl ?_
          refine z_iload_n X (pc' := 67) dX2_sink_66 rfl 1 rfl rfl ?_
          refine z_iload X (pc' := 69) dX2_sink_67 0 rfl rfl ?_
          refine z_callVv X (pc' := 72) (fun sz => c_swapEnds l D cI cJ sz sp ah al af ae ta cap room ns size ended br x.1 ((2 * x.1) + 1) x.2.2 (by omega) (by omega) (by omega)) (zcwV X TTg 2 mL_X2_89 mI_X2_swapEnds mS_X2_swapEnds mN_X2 mK_X2_swapEnds rfl rfl (by decide +kernel) ⟨(Nat.le_of_ble_eq_true rfl), (Nat.le_of_ble_eq_true rfl)⟩) (wr := [(ah, .inl (cJ, cap, .inr (.inl fH)))]) [0, 2] [1] rfl rfl rfl rfl (by decide) 2 0 rfl rfl rfl rfl rfl (Nat.le_of_ble_eq_true rfl) dX2_sink_69 ⟨Nat.le_of_ble_eq_true rfl, Nat.le_of_ble_eq_true rfl⟩ rfl (fun u hu => ?_)
          refine z_wse (ws' := [(ah, .inl (cJ, cap, .inr (.inl fH))), (sp, .inr (2, [.ref ah, .ref al, .ref af, .ref ae, .ref ta, .int (nI room), .int (nI ns), .int (nI size), .int (nI ended), .int (nI br)])), (ae, .inl (cI, cap, .inl (upd (upd x.2.2 x.1 (x.2.2 ((2 * x.1) + 1))) ((2 * x.1) + 1) (x.2.2 x.1))))]) rfl ?_
          refine z_iload X (pc' := 74) dX2_sink_72 0 rfl rfl ?_
          refine z_istore_n X (lv' := [(3, .int (nI ((2 * x.1) + 1))), (4, .int (nI ((2 * x.1) + 1))), (0, .ref sp), (1, .int (nI top)), (2, .int (nI b))]) (pc' := 75) dX2_sink_74 rfl (by decide) rfl rfl ?_
          refine z_goto X (tgt := 2) dX2_sink_75 (by decide) ?_
          refine z_lv (lv' := [(3, .int (nI ((2 * x.1) + 1))), (0, .ref sp), (1, .int (nI top)), (2, .int (nI b))]) [0, 2, 3, 4] rfl ?_
          refine z_ws (ws' := [(sp, .inr (2, [.ref ah, .ref al, .ref af, .ref ae, .ref ta, .int (nI room), .int (nI ns), .int (nI size), .int (nI ended), .int (nI br)])), (ah, .inl (cJ, cap, .inr (.inl fH))), (ae, .inl (cI, cap, .inl (upd (upd x.2.2 x.1 (x.2.2 ((2 * x.1) + 1))) ((2 * x.1) + 1) (x.2.2 x.1))))]) [1, 0, 2] (by decide) rfl ?_
          exact ih (((2 * x.1) + 1, sw x.2.1 x.1 ((2 * x.1) + 1), upd (upd x.2.2 x.1 (x.2.2 ((2 * x.1) + 1))) ((2 * x.1) + 1) (x.2.2 x.1))) ⟨by show top ≤ _; omega, Or.inl (by show _ < b; omega), eRep_sw i3 (by omega) (by omega), sKeep_sw i4 (by omega) (by omega) hb, hp_step i5 i1 hch (by omega) hmax (by omega)⟩ (by show b - _ < b - x.1; omega)
        · have hgt : ¬ K (x.2.1 x.1) < K (x.2.1 ((2 * x.1) + 1)) := fun q => h5 ((z_cmpGt k1.2 k0.2).mpr q)
          refine z_goto X (tgt := 78) dX2_sink_62 (by decide) ?_
          refine z_ws (ws' := [(sp, .inr (2, [.ref ah, .ref al, .ref af, .ref ae, .ref ta, .int (nI room), .int (nI ns), .int (nI size), .int (nI ended), .int (nI br)])), (ah, .inl (cJ, cap, .inr (.inl fH))), (ae, .inl (cI, cap, .inl x.2.2))]) [0, 1, 2] (by decide) rfl ?_
          exact z_vret X x.2.2 ⟨x.2.1, i3, i4, hp_done i5 (fun d q1 q2 => Nat.le_trans (hmax d q1 q2) (by omega))⟩ rfl (Nat.le_of_ble_eq_true rfl) (Nat.le_of_ble_eq_true rfl) dX2_sink_78
      · have hle : ¬ K (x.2.1 (((2 * x.1) + 1) + 1)) ≤ K (x.2.1 ((2 * x.1) + 1)) := fun q => h4 ((z_cmpLe k2.2 k1.2).mpr q)
        have hch : hp_ch x.1 (((2 * x.1) + 1) + 1) := Or.inr rfl
        have hmax : ∀ d, hp_ch x.1 d → d < b → K (x.2.1 d) ≤ K (x.2.1 (((2 * x.1) + 1) + 1)) := fun d q1 q2 => by rcases q1 with q1 | q1; (rw [q1]; omega); (rw [q1]; exact Nat.le_refl _)
        refine z_iinc X (v := nI (((2 * x.1) + 1) + 1)) (lv' := [(4, .int (nI (((2 * x.1) + 1) + 1))), (3, .int (nI x.1)), (0, .ref sp), (1, .int (nI top)), (2, .int (nI b))]) (k := 0) (pc' := 47) dX2_sink_44 rfl (nI_1 _) (by decide) rfl rfl ?_
        refine z_aload_n X (pc' := 48) dX2_sink_47 rfl 2 rfl rfl ?_
        refine z_iload X (pc' := 50) dX2_sink_48 0 rfl rfl ?_
        refine z_callVl X (pc' := 53) (fun sz => c_heldAtEnd l D cI cJ sz sp ah al af ae ta cap room ns size ended br (((2 * x.1) + 1) + 1) (x.2.1 (((2 * x.1) + 1) + 1)) (K (x.2.1 (((2 * x.1) + 1) + 1))) fH x.2.2 (by omega) (by omega) (i3 _ (by omega)) (by omega) k2.1) (zcwV X TTg 1 mL_X2_92 mI_X2_heldAtEnd mS_X2_heldAtEnd mN_X2 mK_X2_heldAtEnd rfl rfl (by decide +kernel) ⟨(Nat.le_of_ble_eq_true rfl), (Nat.le_of_ble_eq_true rfl)⟩) (wr := []) [0, 1, 2] [] rfl rfl rfl rfl (by decide) 2 0 rfl rfl rfl rfl rfl (Nat.le_of_ble_eq_true rfl) dX2_sink_50 ⟨Nat.le_of_ble_eq_true rfl, Nat.le_of_ble_eq_true rfl⟩ rfl (fun r u hu => ?_)
        have hu : r = lN (K (x.2.1 (((2 * x.1) + 1) + 1))) := hu
        subst hu
        refine z_wse (ws' := [(sp, .inr (2, [.ref ah, .ref al, .ref af, .ref ae, .ref ta, .int (nI room), .int (nI ns), .int (nI size), .int (nI ended), .int (nI br)])), (ah, .inl (cJ, cap, .inr (.inl fH))), (ae, .inl (cI, cap, .inl x.2.2))]) rfl ?_
        refine z_aload_n X (pc' := 54) dX2_sink_53 rfl 2 rfl rfl ?_
        refine z_iload_n X (pc' := 55) dX2_sink_54 rfl 1 rfl rfl ?_
        refine z_callVl X (pc' := 58) (fun sz => c_heldAtEnd l D cI cJ sz sp ah al af ae ta cap room ns size ended br (x.1) (x.2.1 (x.1)) (K (x.2.1 (x.1))) fH x.2.2 (by omega) (by omega) (i3 _ (by omega)) (by omega) k0.1) (zcwV X TTg 1 mL_X2_92 mI_X2_heldAtEnd mS_X2_heldAtEnd mN_X2 mK_X2_heldAtEnd rfl rfl (by decide +kernel) ⟨(Nat.le_of_ble_eq_true rfl), (Nat.le_of_ble_eq_true rfl)⟩) (wr := []) [0, 1, 2] [] rfl rfl rfl rfl (by decide) 2 0 rfl rfl rfl rfl rfl (Nat.le_of_ble_eq_true rfl) dX2_sink_55 ⟨Nat.le_of_ble_eq_true rfl, Nat.le_of_ble_eq_true rfl⟩ rfl (fun r u hu => ?_)
        have hu : r = lN (K (x.2.1 (x.1))) := hu
        subst hu
        refine z_wse (ws' := [(sp, .inr (2, [.ref ah, .ref al, .ref af, .ref ae, .ref ta, .int (nI room), .int (nI ns), .int (nI size), .int (nI ended), .int (nI br)])), (ah, .inl (cJ, cap, .inr (.inl fH))), (ae, .inl (cI, cap, .inl x.2.2))]) rfl ?_
        refine z_lcmp X (pc' := 59) dX2_sink_58 rfl ?_
        refine z_if_gt X (tgt := 65) (pc' := 62) dX2_sink_59 (by decide) rfl (fun h6 => ?_) (fun h6 => ?_)
        · have hgt := (z_cmpGt k2.2 k0.2).mp h6
          refine z_aload_n X (pc' := 66) dX2_sink_65 rfl 2 rfl rfl ?_
          refine z_iload_n X (pc' := 67) dX2_sink_66 rfl 1 rfl rfl ?_
          refine z_iload X (pc' := 69) dX2_sink_67 0 rfl rfl ?_
          refine z_callVv X (pc' := 72) (fun sz => c_swapEnds l D cI cJ sz sp ah al af ae ta cap room ns size ended br x.1 (((2 * x.1) + 1) + 1) x.2.2 (by omega) (by omega) (by omega)) (zcwV X TTg 2 mL_X2_89 mI_X2_swapEnds mS_X2_swapEnds mN_X2 mK_X2_swapEnds rfl rfl (by decide +kernel) ⟨(Nat.le_of_ble_eq_true rfl), (Nat.le_of_ble_eq_true rfl)⟩) (wr := [(ah, .inl (cJ, cap, .inr (.inl fH)))]) [0, 2] [1] rfl rfl rfl rfl (by decide) 2 0 rfl rfl rfl rfl rfl (Nat.le_of_ble_eq_true rfl) dX2_sink_69 ⟨Nat.le_of_ble_eq_true rfl, Nat.le_of_ble_eq_true rfl⟩ rfl (fun u hu => ?_)
          refine z_wse (ws' := [(ah, .inl (cJ, cap, .inr (.inl fH))), (sp, .inr (2, [.ref ah, .ref al, .ref af, .ref ae, .ref ta, .int (nI room), .int (nI ns), .int (nI size), .int (nI ended), .int (nI br)])), (ae, .inl (cI, cap, .inl (upd (upd x.2.2 x.1 (x.2.2 (((2 * x.1) + 1) + 1))) (((2 * x.1) + 1) + 1) (x.2.2 x.1))))]) rfl ?_
          refine z_iload X (pc' := 74) dX2_sink_72 0 rfl rfl ?_
          refine z_istore_n X (lv' := [(3, .int (nI (((2 * x.1) + 1) + 1))), (4, .int (nI (((2 * x.1) + 1) + 1))), (0, .ref sp), (1, .int (nI top)), (2, .int (nI b))]) (pc' := 75) dX2_sink_74 rfl (by decide) rfl rfl ?_
          refine z_goto X (tgt := 2) dX2_sink_75 (by decide) ?_
          refine z_lv (lv' := [(3, .int (nI (((2 * x.1) + 1) + 1))), (0, .ref sp), (1, .int (nI top)), (2, .int (nI b))]) [0, 2, 3, 4] rfl ?_
          refine z_ws (ws' := [(sp, .inr (2, [.ref ah, .ref al, .ref af, .ref ae, .ref ta, .int (nI room), .int (nI ns), .int (nI size), .int (nI ended), .int (nI br)])), (ah, .inl (cJ, cap, .inr (.inl fH))), (ae, .inl (cI, cap, .inl (upd (upd x.2.2 x.1 (x.2.2 (((2 * x.1) + 1) + 1))) (((2 * x.1) + 1) + 1) (x.2.2 x.1))))]) [1, 0, 2] (by decide) rfl ?_
          exact ih ((((2 * x.1) + 1) + 1, sw x.2.1 x.1 (((2 * x.1) + 1) + 1), upd (upd x.2.2 x.1 (x.2.2 (((2 * x.1) + 1) + 1))) (((2 * x.1) + 1) + 1) (x.2.2 x.1))) ⟨by show top ≤ _; omega, Or.inl (by show _ < b; omega), eRep_sw i3 (by omega) (by omega), sKeep_sw i4 (by omega) (by omega) hb, hp_step i5 i1 hch (by omega) hmax (by omega)⟩ (by show b - _ < b - x.1; omega)
        · have hgt : ¬ K (x.2.1 x.1) < K (x.2.1 (((2 * x.1) + 1) + 1)) := fun q => h6 ((z_cmpGt k2.2 k0.2).mpr q)
          refine z_goto X (tgt := 78) dX2_sink_62 (by decide) ?_
          refine z_ws (ws' := [(sp, .inr (2, [.ref ah, .ref al, .ref af, .ref ae, .ref ta, .int (nI room), .int (nI ns), .int (nI size), .int (nI ended), .int (nI br)])), (ah, .inl (cJ, cap, .inr (.inl fH))), (ae, .inl (cI, cap, .inl x.2.2))]) [0, 1, 2] (by decide) rfl ?_
          exact z_vret X x.2.2 ⟨x.2.1, i3, i4, hp_done i5 (fun d q1 q2 => Nat.le_trans (hmax d q1 q2) (by omega))⟩ rfl (Nat.le_of_ble_eq_true rfl) (Nat.le_of_ble_eq_true rfl) dX2_sink_78


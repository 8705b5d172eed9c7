/-- the rows of a Space: lengths of the rows and of the table, their addresses, what they hold -/
abbrev SpT : Type := Nat × Nat × Nat × Nat × Nat × Nat × Nat × (Nat → Int64) × (Nat → Int64) × (Nat → Int32) × (Nat → Int32) × (Nat → Int32)
theorem take_s {S : List (Nat × Nat)} {j : Nat} (h : j < S.length) : S.take (j + 1) = S.take j ++ [S.getD j (0, 0)] := by
  rw [List.take_add_one, List.getElem?_eq_getElem h, List.getD_eq_getElem?_getD, List.getElem?_eq_getElem h]; rfl
theorem take_g {S : List (Nat × Nat)} {i j : Nat} (h : i < j) : (S.take j).getD i (0, 0) = S.getD i (0, 0) := by
  rw [List.getD_eq_getElem?_getD, List.getD_eq_getElem?_getD, List.getElem?_take_of_lt h]
theorem take_n {S : List (Nat × Nat)} {j : Nat} (hn : S.Nodup) (h : j < S.length) : S.getD j (0, 0) ∉ S.take j := by
  have e := take_s h
  have h1 : (S.take (j + 1)).Nodup := List.Sublist.nodup (List.take_sublist _ _) hn
  rw [e, List.nodup_append] at h1
  intro hm
  exact h1.2.2 _ hm _ (List.mem_singleton.mpr rfl) rfl
theorem getD_mem {S : List (Nat × Nat)} {j : Nat} (h : j < S.length) : S.getD j (0, 0) ∈ S := by
  rw [List.getD_eq_getElem?_getD, List.getElem?_eq_getElem h]; exact List.getElem_mem h
theorem sRep_cpy {S : List (Nat × Nat)} {fH fL gH gL : Nat → Int64} {n : Nat} (h : sRep S fH fL) (hn : S.length ≤ n) : sRep S (va_cpy fH gH 0 0 n) (va_cpy fL gL 0 0 n) := by
  intro j hj
  have e1 : va_cpy fH gH 0 0 n j = fH j := by rw [pk_cpy_in (Nat.zero_le _) (by omega), Nat.zero_add, Nat.sub_zero]
  have e2 : va_cpy fL gL 0 0 n j = fL j := by rw [pk_cpy_in (Nat.zero_le _) (by omega), Nat.zero_add, Nat.sub_zero]
  rw [e1, e2]; exact h j hj
theorem cpy_in {f g : Nat → Int32} {n j : Nat} (hj : j < n) : va_cpy f g 0 0 n j = f j := by rw [pk_cpy_in (Nat.zero_le _) (by omega), Nat.zero_add, Nat.sub_zero]
theorem tRep_put {ns i x : Nat} {tv : Nat → Nat} {fT : Nat → Int32} (h : tRep ns tv fT) : tRep ns (fun s => if s = i then x else tv s) (upd fT i (nI x)) := by
  intro j hj
  show _ = nI (if j = i then x else tv j)
  by_cases e : j = i
  · rw [e, pk_us, if_pos rfl]
  · rw [pk_un e, if_neg e]; exact h j hj
set_option maxHeartbeats 4000000 in
set_option maxRecDepth 100000 in
/-- room for so many states -/
theorem c_setRoom (l : Launch) (D : va_G) (cI cJ : ClassId) (sz : Nat) (sp ah al af ae ta cap tl r0 s0 rm ns kk ended br : Nat) (fH fL : Nat → Int64) (fF fE fT : Nat → Int32) (S : List (Nat × Nat)) (hk : ns = 2 ^ kk) (hkk : kk ≤ 15) (hrs : rm < ns) (hrm : rm ≤ 20480) (htl : cap < rm ∨ ns ≤ tl) (hSr : S.length ≤ rm) (hSc : S.length ≤ cap) (hcap : cap ≤ 20480) (hR : sRep S fH fL) (hnd : S.Nodup) (hsm : ∀ q ∈ S, small q) : KV l D cI cJ yX2_setRoom cX2_setRoom 4 none 2 40 (if cap < rm then 5 else 0) (if cap < rm then 4 * rm + ns else 0) [.ref sp, .int (nI rm), .int (nI ns)] [(sp, .inr (2, [.ref ah, .ref al, .ref af, .ref ae, .ref ta, .int (nI r0), .int (nI s0), .int (nI S.length), .int (nI ended), .int (nI br)])), (ah, .inl (cJ, cap, .inr (.inl fH))), (al, .inl (cJ, cap, .inr (.inl fL))), (af, .inl (cI, cap, .inl fF)), (ae, .inl (cI, cap, .inl fE)), (ta, .inl (cI, tl, .inl fT))] sz (S := SpT) (fun u => u.1 = max cap rm ∧ u.2.1 = (if cap < rm then ns else tl) ∧ sRep S u.2.2.2.2.2.2.2.1 u.2.2.2.2.2.2.2.2.1 ∧ (∀ i, i < cap → u.2.2.2.2.2.2.2.2.2.1 i = fF i ∧ u.2.2.2.2.2.2.2.2.2.2.1 i = fE i) ∧ ∃ tv, tRep ns tv (u.2.2.2.2.2.2.2.2.2.2.2) ∧ tb_ok hx ns tv S) (fun u => [(sp, .inr (2, [.ref u.2.2.1, .ref u.2.2.2.1, .ref u.2.2.2.2.1, .ref u.2.2.2.2.2.1, .ref u.2.2.2.2.2.2.1, .int (nI rm), .int (nI ns), .int (nI S.length), .int (nI ended), .int (nI br)])), (u.2.2.1, .inl (cJ, u.1, .inr (.inl u.2.2.2.2.2.2.2.1))), (u.2.2.2.1, .inl (cJ, u.1, .inr (.inl u.2.2.2.2.2.2.2.2.1))), (u.2.2.2.2.1, .inl (cI, u.1, .inl u.2.2.2.2.2.2.2.2.2.1)), (u.2.2.2.2.2.1, .inl (cI, u.1, .inl u.2.2.2.2.2.2.2.2.2.2.1)), (u.2.2.2.2.2.2.1, .inl (cI, u.2.1, .inl u.2.2.2.2.2.2.2.2.2.2.2))]) := by
  refine zMetV (lv := [(0, .ref sp), (1, .int (nI rm)), (2, .int (nI ns))]) NS0_ok (by decide) rfl (Nat.le_of_ble_eq_true rfl) rfl ?_
  intro p e s m args below meth c A X hin hA
  refine z_aload_n X (pc' := 1) dX2_setRoom_0 rfl 0 rfl rfl ?_
  refine z_iload_n X (pc' := 2) dX2_setRoom_1 rfl 1 rfl rfl ?_
  refine z_put X (t1 := .int) (ws' := [(sp, .inr (2, [.ref ah, .ref al, .ref af, .ref ae, .ref ta, .int (nI rm), .int (nI s0), .int (nI S.length), .int (nI ended), .int (nI br)])), (ah, .inl (cJ, cap, .inr (.inl fH))), (al, .inl (cJ, cap, .inr (.inl fL))), (af, .inl (cI, cap, .inl fF)), (ae, .inl (cI, cap, .inl fE)), (ta, .inl (cI, tl, .inl fT))]) (pc' := 5) 0 rfl rfl inX2 tyX2 tyX2_ok nmX2 5 (by decide) mF_X2_28 rfl (by decide +kernel) rfl rfl (Nat.le_of_ble_eq_true rfl) dX2_setRoom_2 rfl rfl ?_
  refine z_aload_n X (pc' := 6) dX2_setRoom_5 rfl 0 rfl rfl ?_
  refine z_iload_n X (pc' := 7) dX2_setRoom_6 rfl 2 rfl rfl ?_
  refine z_put X (t1 := .int) (ws' := [(sp, .inr (2, [.ref ah, .ref al, .ref af, .ref ae, .ref ta, .int (nI rm), .int (nI ns), .int (nI S.length), .int (nI ended), .int (nI br)])), (ah, .inl (cJ, cap, .inr (.inl fH))), (al, .inl (cJ, cap, .inr (.inl fL))), (af, .inl (cI, cap, .inl fF)), (ae, .inl (cI, cap, .inl fE)), (ta, .inl (cI, tl, .inl fT))]) (pc' := 10) 0 rfl rfl inX2 tyX2 tyX2_ok nmX2 6 (by decide) mF_X2_32 rfl (by decide +kernel) rfl rfl (Nat.le_of_ble_eq_true rfl) dX2_setRoom_7 rfl rfl ?_
  refine z_aload_n X (pc' := 11) dX2_setRoom_10 rfl 0 rfl rfl ?_
  refine z_get X (v := .ref ah) (pc' := 14) 0 rfl rfl inX2 0 (by decide) mF_X2_9 rfl dX2_setRoom_11 rfl ?_
  refine z_alen X (pc' := 15) 1 1 rfl rfl dX2_setRoom_14 rfl ?_
  refine z_aload_n X (pc' := 16) dX2_setRoom_15 rfl 0 rfl rfl ?_
  refine z_get X (v := .int (nI rm)) (pc' := 19) 0 rfl rfl inX2 5 (by decide) mF_X2_28 rfl dX2_setRoom_16 rfl ?_
  refine z_icmp_geN X (tgt := 92) (pc' := 22) (by omega) (by omega) dX2_setRoom_19 (by decide) rfl (fun h1 => ?_) (fun h1 => ?_)
  · have hg : ¬ cap < rm := by omega
    refine z_ws (ws' := [(sp, .inr (2, [.ref ah, .ref al, .ref af, .ref ae, .ref ta, .int (nI rm), .int (nI ns), .int (nI S.length), .int (nI ended), .int (nI br)])), (ah, .inl (cJ, cap, .inr (.inl fH))), (al, .inl (cJ, cap, .inr (.inl fL))), (af, .inl (cI, cap, .inl fF)), (ae, .inl (cI, cap, .inl fE)), (ta, .inl (cI, tl, .inl fT))]) [0, 1, 2, 3, 4, 5] (by decide) rfl ?_
    refine z_widen (k := if cap < rm then 5 else 0) (n := if cap < rm then 4 * rm + ns else 0) (by rw [if_neg hg]; exact Nat.le_refl _) (by rw [if_neg hg]; exact Nat.le_refl _) ?_
    have hR2 : sRep S (fH) (fL) := hR
    have hns : ns ≤ 32768 := by rw [hk]; exact Nat.pow_le_pow_right (by decide) hkk
    have hlen : S.length < ns := by omega
    refine z_iconst X (v := nI 0) (pc' := 93) dX2_setRoom_92 (by decide) rfl ?_
    refine z_istore_n X (lv' := [(3, .int (nI 0)), (0, .ref sp), (1, .int (nI rm)), (2, .int (nI ns))]) (pc' := 94) dX2_setRoom_93 rfl (by decide) rfl rfl ?_
    refine z_lv (lv' := [(3, .int (nI 0)), (0, .ref sp)]) [0, 1] rfl ?_
    refine z_loop (σ := Nat × (Nat → Int32)) (fun x => x.1 ≤ ns ∧ ∀ i, i < x.1 → x.2 i = nI 0) (fun x => ns - x.1) (fun x => [(3, .int (nI x.1)), (0, .ref sp)]) (fun x => [(sp, .inr (2, [.ref ah, .ref al, .ref af, .ref ae, .ref ta, .int (nI rm), .int (nI ns), .int (nI S.length), .int (nI ended), .int (nI br)])), (ah, .inl (cJ, cap, .inr (.inl fH))), (al, .inl (cJ, cap, .inr (.inl fL))), (af, .inl (cI, cap, .inl fF)), (ae, .inl (cI, cap, .inl fE)), (ta, .inl (cI, tl, .inl x.2))]) (fun x => if cap < rm then 5 else 0) (fun x => if cap < rm then 4 * rm + ns else 0) ((0, fT)) ⟨Nat.zero_le _, fun i h => absurd h (Nat.not_lt_zero i)⟩ ?_
    intro x hI ih
    obtain ⟨i1, i2⟩ := hI
    show Z _ _ _ _ _ _ _ _ _ _ _ _ _ _ _ 94 [(3, .int (nI x.1)), (0, .ref sp)] [] [(sp, .inr (2, [.ref ah, .ref al, .ref af, .ref ae, .ref ta, .int (nI rm), .int (nI ns), .int (nI S.length), .int (nI ended), .int (nI br)])), (ah, .inl (cJ, cap, .inr (.inl fH))), (al, .inl (cJ, cap, .inr (.inl fL))), (af, .inl (cI, cap, .inl fF)), (ae, .inl (cI, cap, .inl fE)), (ta, .inl (cI, tl, .inl x.2))] (if cap < rm then 5 else 0) (if cap < rm then 4 * rm + ns else 0)
    refine z_iload_n X (pc' := 95) dX2_setRoom_94 rfl 0 rfl rfl ?_
    refine z_aload_n X (pc' := 96) dX2_setRoom_95 rfl 1 rfl rfl ?_
    refine z_get X (v := .int (nI ns)) (pc' := 99) 0 rfl rfl inX2 6 (by decide) mF_X2_32 rfl dX2_setRoom_96 rfl ?_
    refine z_icmp_geN X (tgt := 115) (pc' := 102) (by omega) (by omega) dX2_setRoom_99 (by decide) rfl (fun h2 => ?_) (fun h2 => ?_)
    · have hx1 : x.1 = ns := by omega
      refine z_iconst X (v := nI 0) (pc' := 116) dX2_setRoom_115 (by decide) rfl ?_
      refine z_istore_n X (lv' := [(3, .int (nI 0)), (0, .ref sp)]) (pc' := 117) dX2_setRoom_116 rfl (by decide) rfl rfl ?_
      refine z_lv (lv' := [(3, .int (nI 0)), (0, .ref sp)]) [0, 1] rfl ?_
      refine z_loop (σ := Nat × (Nat → Nat) × (Nat → Int32)) (fun y => y.1 ≤ S.length ∧ tRep ns y.2.1 y.2.2 ∧ tb_ok hx ns y.2.1 (S.take y.1)) (fun y => S.length - y.1) (fun y => [(3, .int (nI y.1)), (0, .ref sp)]) (fun y => [(sp, .inr (2, [.ref ah, .ref al, .ref af, .ref ae, .ref ta, .int (nI rm), .int (nI ns), .int (nI S.length), .int (nI ended), .int (nI br)])), (ah, .inl (cJ, cap, .inr (.inl fH))), (al, .inl (cJ, cap, .inr (.inl fL))), (af, .inl (cI, cap, .inl fF)), (ae, .inl (cI, cap, .inl fE)), (ta, .inl (cI, tl, .inl y.2.2))]) (fun y => if cap < rm then 5 else 0) (fun y => if cap < rm then 4 * rm + ns else 0) ((0, (fun _ => 0), x.2)) ⟨Nat.zero_le _, fun i hi => i2 i (by omega), by rw [List.take_zero]; exact tb_nil hx ns (fun _ _ => rfl)⟩ ?_
      intro y hI ih2
      obtain ⟨k1, k2, k3⟩ := hI
      show Z _ _ _ _ _ _ _ _ _ _ _ _ _ _ _ 117 [(3, .int (nI y.1)), (0, .ref sp)] [] [(sp, .inr (2, [.ref ah, .ref al, .ref af, .ref ae, .ref ta, .int (nI rm), .int (nI ns), .int (nI S.length), .int (nI ended), .int (nI br)])), (ah, .inl (cJ, cap, .inr (.inl fH))), (al, .inl (cJ, cap, .inr (.inl fL))), (af, .inl (cI, cap, .inl fF)), (ae, .inl (cI, cap, .inl fE)), (ta, .inl (cI, tl, .inl y.2.2))] (if cap < rm then 5 else 0) (if cap < rm then 4 * rm + ns else 0)
      refine z_iload_n X (pc' := 118) dX2_setRoom_117 rfl 0 rfl rfl ?_
      refine z_aload_n X (pc' := 119) dX2_setRoom_118 rfl 1 rfl rfl ?_
      refine z_get X (v := .int (nI S.length)) (pc' := 122) 0 rfl rfl inX2 7 (by decide) mF_X2_35 rfl dX2_setRoom_119 rfl ?_
      refine z_icmp_geN X (tgt := 155) (pc' := 125) (by omega) (by omega) dX2_setRoom_122 (by decide) rfl (fun h3 => ?_) (fun h3 => ?_)
      · have hy1 : y.1 = S.length := by omega
        refine z_ws (ws' := [(sp, .inr (2, [.ref ah, .ref al, .ref af, .ref ae, .ref ta, .int (nI rm), .int (nI ns), .int (nI S.length), .int (nI ended), .int (nI br)])), (ah, .inl (cJ, cap, .inr (.inl fH))), (al, .inl (cJ, cap, .inr (.inl fL))), (af, .inl (cI, cap, .inl fF)), (ae, .inl (cI, cap, .inl fE)), (ta, .inl (cI, tl, .inl y.2.2))]) [0, 1, 2, 3, 4, 5] (by decide) rfl ?_
        exact z_vret X (cap, tl, ah, al, af, ae, ta, (fH), (fL), (fF), (fE), y.2.2) ⟨by show _ = max cap rm; omega, by show _ = (if cap < rm then ns else tl); rw [if_neg hg], hR2, fun i hi => ⟨rfl, rfl⟩, y.2.1, k2, by rw [hy1, List.take_length] at k3; exact k3⟩ rfl (Nat.le_refl _) (Nat.le_refl _) dX2_setRoom_155
      · have hy1 : y.1 < S.length := by omega
        have hlt : (S.take y.1).length = y.1 := by rw [List.length_take]; omega
        have hrj := hR2 y.1 hy1
        have hsj := hsm _ (getD_mem hy1)
        refine z_aload_n X (pc' := 126) dX2_setRoom_125 rfl 1 rfl rfl ?_
        refine z_get X (v := .ref ta) (pc' := 129) 0 rfl rfl inX2 4 (by decide) mF_X2_25 rfl dX2_setRoom_126 rfl ?_
        refine z_aload_n X (pc' := 130) dX2_setRoom_129 rfl 1 rfl rfl ?_
        refine z_aload_n X (pc' := 131) dX2_setRoom_130 rfl 1 rfl rfl ?_
        refine z_get X (v := .ref ah) (pc' := 134) 0 rfl rfl inX2 0 (by decide) mF_X2_9 rfl dX2_setRoom_131 rfl ?_
        refine z_iload_n X (pc' := 135) dX2_setRoom_134 rfl 0 rfl rfl ?_
        refine z_lald X (pc' := 136) 1 1 rfl rfl (by omega) (by omega) dX2_setRoom_135 rfl ?_
        refine z_topl (y := lN ((S.getD y.1 (0, 0)).1)) hrj.1 ?_
        refine z_aload_n X (pc' := 137) dX2_setRoom_136 rfl 1 rfl rfl ?_
        refine z_get X (v := .ref al) (pc' := 140) 0 rfl rfl inX2 1 (by decide) mF_X2_15 rfl dX2_setRoom_137 rfl ?_
        refine z_iload_n X (pc' := 141) dX2_setRoom_140 rfl 0 rfl rfl ?_
        refine z_lald X (pc' := 142) 2 1 rfl rfl (by omega) (by omega) dX2_setRoom_141 rfl ?_
        refine z_topl (y := lN ((S.getD y.1 (0, 0)).2)) hrj.2 ?_
        refine z_callVi X (pc' := 145) (fun sz => c_slotOf l D cI cJ sz sp ah al af ae ta cap tl rm ns kk S.length ended br (S.getD y.1 (0, 0)).1 (S.getD y.1 (0, 0)).2 (fH) (fL) y.2.2 (S.take y.1) y.2.1 hk hkk (by omega) (by omega) (by omega) (fun j hj => by rw [take_g (by omega)]; exact hR2 j (by omega)) k2 k3 (fun q hq => hsm q (List.mem_of_mem_take hq)) hsj) (zcwV X TTg 2 mL_X2_69 mI_X2_slotOf mS_X2_slotOf mN_X2 mK_X2_slotOf rfl rfl (by decide +kernel) ⟨(Nat.le_of_ble_eq_true rfl), (Nat.le_of_ble_eq_true rfl)⟩) (wr := [(af, .inl (cI, cap, .inl fF)), (ae, .inl (cI, cap, .inl fE))]) [0, 1, 2, 5] [3, 4] rfl rfl rfl rfl (by decide) 2 0 rfl rfl rfl rfl rfl (Nat.le_of_ble_eq_true rfl) dX2_setRoom_142 ⟨Nat.le_refl _, Nat.le_refl _⟩ rfl (fun r u hu => ?_)
        obtain ⟨d, ⟨hd1, hd2, hd3⟩, hr⟩ := hu
        have hr : r = nI ((hx (S.getD y.1 (0, 0)) + d) % ns) := hr
        subst hr
        have hd0 : y.2.1 ((hx (S.getD y.1 (0, 0)) + d) % ns) = 0 := by rcases hd3 with q | q; exact q; exact absurd (List.mem_of_getElem? q.2) (take_n hnd hy1)
        have hsl : (hx (S.getD y.1 (0, 0)) + d) % ns < ns := Nat.mod_lt _ (by omega)
        refine z_wse (ws' := [(af, .inl (cI, cap, .inl fF)), (ae, .inl (cI, cap, .inl fE)), (sp, .inr (2, [.ref ah, .ref al, .ref af, .ref ae, .ref ta, .int (nI rm), .int (nI ns), .int (nI S.length), .int (nI ended), .int (nI br)])), (ah, .inl (cJ, cap, .inr (.inl fH))), (al, .inl (cJ, cap, .inr (.inl fL))), (ta, .inl (cI, tl, .inl y.2.2))]) rfl ?_
        refine z_iload_n X (pc' := 146) dX2_setRoom_145 rfl 0 rfl rfl ?_
        refine z_iconst X (v := nI 1) (pc' := 147) dX2_setRoom_146 (by decide) rfl ?_
        refine z_iadd X (pc' := 148) dX2_setRoom_147 rfl ?_
        refine z_topi (y := nI (y.1 + 1)) (nI_add _ _) ?_
        refine z_iast X (ws' := [(af, .inl (cI, cap, .inl fF)), (ae, .inl (cI, cap, .inl fE)), (sp, .inr (2, [.ref ah, .ref al, .ref af, .ref ae, .ref ta, .int (nI rm), .int (nI ns), .int (nI S.length), .int (nI ended), .int (nI br)])), (ah, .inl (cJ, cap, .inr (.inl fH))), (al, .inl (cJ, cap, .inr (.inl fL))), (ta, .inl (cI, tl, .inl (upd y.2.2 ((hx (S.getD y.1 (0, 0)) + d) % ns) (nI (y.1 + 1)))))]) (pc' := 149) 5 0 rfl rfl (by omega) (by omega) dX2_setRoom_148 rfl rfl ?_
        refine z_iinc X (v := nI (y.1 + 1)) (lv' := [(3, .int (nI (y.1 + 1))), (0, .ref sp)]) (k := 0) (pc' := 152) dX2_setRoom_149 rfl (nI_1 _) (by decide) rfl rfl ?_
        refine z_goto X (tgt := 117) dX2_setRoom_152 (by decide) ?_
        refine z_lv (lv' := [(3, .int (nI (y.1 + 1))), (0, .ref sp)]) [0, 1] rfl ?_
        refine z_ws (ws' := [(sp, .inr (2, [.ref ah, .ref al, .ref af, .ref ae, .ref ta, .int (nI rm), .int (nI ns), .int (nI S.length), .int (nI ended), .int (nI br)])), (ah, .inl (cJ, cap, .inr (.inl fH))), (al, .inl (cJ, cap, .inr (.inl fL))), (af, .inl (cI, cap, .inl fF)), (ae, .inl (cI, cap, .inl fE)), (ta, .inl (cI, tl, .inl (upd y.2.2 ((hx (S.getD y.1 (0, 0)) + d) % ns) (nI (y.1 + 1)))))]) [2, 3, 4, 0, 1, 5] (by decide) rfl ?_
        exact ih2 ((y.1 + 1, (fun s => if s = (hx (S.getD y.1 (0, 0)) + d) % ns then y.1 + 1 else y.2.1 s), upd y.2.2 ((hx (S.getD y.1 (0, 0)) + d) % ns) (nI (y.1 + 1)))) ⟨by show y.1 + 1 ≤ S.length; omega, tRep_put k2, by show tb_ok hx ns _ (S.take (y.1 + 1)); rw [take_s (by omega)]; have hh := tb_put k3 hd1 hd2 hd0; rw [hlt] at hh; exact hh⟩ (by show S.length - (y.1 + 1) < S.length - y.1; omega)
    · have hx1 : x.1 < ns := by omega
      refine z_aload_n X (pc' := 103) dX2_setRoom_102 rfl 1 rfl rfl ?_
      refine z_get X (v := .ref ta) (pc' := 106) 0 rfl rfl inX2 4 (by decide) mF_X2_25 rfl dX2_setRoom_103 rfl ?_
      refine z_iload_n X (pc' := 107) dX2_setRoom_106 rfl 0 rfl rfl ?_
      refine z_iconst X (v := nI 0) (pc' := 108) dX2_setRoom_107 (by decide) rfl ?_
      refine z_iast X (ws' := [(sp, .inr (2, [.ref ah, .ref al, .ref af, .ref ae, .ref ta, .int (nI rm), .int (nI ns), .int (nI S.length), .int (nI ended), .int (nI br)])), (ah, .inl (cJ, cap, .inr (.inl fH))), (al, .inl (cJ, cap, .inr (.inl fL))), (af, .inl (cI, cap, .inl fF)), (ae, .inl (cI, cap, .inl fE)), (ta, .inl (cI, tl, .inl (upd x.2 x.1 (nI 0))))]) (pc' := 109) 5 0 rfl rfl (by omega) (by omega) dX2_setRoom_108 rfl rfl ?_
      refine z_iinc X (v := nI (x.1 + 1)) (lv' := [(3, .int (nI (x.1 + 1))), (0, .ref sp)]) (k := 0) (pc' := 112) dX2_setRoom_109 rfl (nI_1 _) (by decide) rfl rfl ?_
      refine z_goto X (tgt := 94) dX2_setRoom_112 (by decide) ?_
      refine z_lv (lv' := [(3, .int (nI (x.1 + 1))), (0, .ref sp)]) [0, 1] rfl ?_
      exact ih ((x.1 + 1, upd x.2 x.1 (nI 0))) ⟨by show x.1 + 1 ≤ ns; omega, fun i hi => by show upd x.2 x.1 (nI 0) i = nI 0; by_cases e : i = x.1; (rw [e, pk_us]); (rw [pk_un e]; exact i2 i (by have hi : i < x.1 + 1 := hi; omega))⟩ (by show ns - (x.1 + 1) < ns - x.1; omega)
  · have hg : cap < rm := by omega
    refine z_aload_n X (pc' := 23) dX2_setRoom_22 rfl 0 rfl rfl ?_
    refine z_aload_n X (pc' := 24) dX2_setRoom_23 rfl 0 rfl rfl ?_
    refine z_get X (v := .ref ah) (pc' := 27) 0 rfl rfl inX2 0 (by decide) mF_X2_9 rfl dX2_setRoom_24 rfl ?_
    refine z_aload_n X (pc' := 28) dX2_setRoom_27 rfl 0 rfl rfl ?_
    refine z_get X (v := .int (nI rm)) (pc' := 31) 0 rfl rfl inX2 5 (by decide) mF_X2_28 rfl dX2_setRoom_28 rfl ?_
    refine z_callSr X (pc' := 34) (fun sz => c_copyl l D cI cJ sz ah cap rm fH hg hrm) (zcwS X TTg 2 mL_X2_77 mT_Arrays_copyOf_l mN_Arrays mK_A_copyl rfl rfl (by decide +kernel) ⟨(Nat.le_of_ble_eq_true rfl), (Nat.le_of_ble_eq_true rfl)⟩) (wr := [(sp, .inr (2, [.ref ah, .ref al, .ref af, .ref ae, .ref ta, .int (nI rm), .int (nI ns), .int (nI S.length), .int (nI ended), .int (nI br)])), (al, .inl (cJ, cap, .inr (.inl fL))), (af, .inl (cI, cap, .inl fF)), (ae, .inl (cI, cap, .inl fE)), (ta, .inl (cI, tl, .inl fT))]) [1] [0, 2, 3, 4, 5] rfl rfl rfl rfl (by decide) rfl rfl (Nat.le_of_ble_eq_true rfl) dX2_setRoom_31 ⟨by show 0 + 1 ≤ (if cap < rm then 5 else 0); rw [if_pos hg]; omega, by show 0 + rm ≤ (if cap < rm then 4 * rm + ns else 0); rw [if_pos hg]; omega⟩ rfl (fun u ah2 hu => ?_)
    refine z_wse (ws' := [(sp, .inr (2, [.ref ah, .ref al, .ref af, .ref ae, .ref ta, .int (nI rm), .int (nI ns), .int (nI S.length), .int (nI ended), .int (nI br)])), (al, .inl (cJ, cap, .inr (.inl fL))), (af, .inl (cI, cap, .inl fF)), (ae, .inl (cI, cap, .inl fE)), (ta, .inl (cI, tl, .inl fT)), (ah, .inl (cJ, cap, .inr (.inl fH))), (ah2, .inl (cJ, rm, .inr (.inl (va_cpy fH (fun _ => 0) 0 0 cap))))]) rfl ?_
    refine z_put X (t1 := (.array .long)) (ws' := [(sp, .inr (2, [.ref ah2, .ref al, .ref af, .ref ae, .ref ta, .int (nI rm), .int (nI ns), .int (nI S.length), .int (nI ended), .int (nI br)])), (al, .inl (cJ, cap, .inr (.inl fL))), (af, .inl (cI, cap, .inl fF)), (ae, .inl (cI, cap, .inl fE)), (ta, .inl (cI, tl, .inl fT)), (ah, .inl (cJ, cap, .inr (.inl fH))), (ah2, .inl (cJ, rm, .inr (.inl (va_cpy fH (fun _ => 0) 0 0 cap))))]) (pc' := 37) 0 rfl rfl inX2 tyX2 tyX2_ok nmX2 0 (by decide) mF_X2_9 rfl (by decide +kernel) rfl rfl (Nat.le_of_ble_eq_true rfl) dX2_setRoom_34 rfl rfl ?_
    refine z_aload_n X (pc' := 38) dX2_setRoom_37 rfl 0 rfl rfl ?_
    refine z_aload_n X (pc' := 39) dX2_setRoom_38 rfl 0 rfl rfl ?_
    refine z_get X (v := .ref al) (pc' := 42) 0 rfl rfl inX2 1 (by decide) mF_X2_15 rfl dX2_setRoom_39 rfl ?_
    refine z_aload_n X (pc' := 43) dX2_setRoom_42 rfl 0 rfl rfl ?_
    refine z_get X (v := .int (nI rm)) (pc' := 46) 0 rfl rfl inX2 5 (by decide) mF_X2_28 rfl dX2_setRoom_43 rfl ?_
    refine z_callSr X (pc' := 49) (fun sz => c_copyl l D cI cJ sz al cap rm fL hg hrm) (zcwS X TTg 2 mL_X2_77 mT_Arrays_copyOf_l mN_Arrays mK_A_copyl rfl rfl (by decide +kernel) ⟨(Nat.le_of_ble_eq_true rfl), (Nat.le_of_ble_eq_true rfl)⟩) (wr := [(sp, .inr (2, [.ref ah2, .ref al, .ref af, .ref ae, .ref ta, .int (nI rm), .int (nI ns), .int (nI S.length), .int (nI ended), .int (nI br)])), (af, .inl (cI, cap, .inl fF)), (ae, .inl (cI, cap, .inl fE)), (ta, .inl (cI, tl, .inl fT)), (ah, .inl (cJ, cap, .inr (.inl fH))), (ah2, .inl (cJ, rm, .inr (.inl (va_cpy fH (fun _ => 0) 0 0 cap))))]) [1] [0, 2, 3, 4, 5, 6] rfl rfl rfl rfl (by decide) rfl rfl (Nat.le_of_ble_eq_true rfl) dX2_setRoom_46 ⟨by show 0 + 1 + 1 ≤ (if cap < rm then 5 else 0); rw [if_pos hg]; omega, by show 0 + rm + rm ≤ (if cap < rm then 4 * rm + ns else 0); rw [if_pos hg]; omega⟩ rfl (fun u al2 hu => ?_)
    refine z_wse (ws' := [(sp, .inr (2, [.ref ah2, .ref al, .ref af, .ref ae, .ref ta, .int (nI rm), .int (nI ns), .int (nI S.length), .int (nI ended), .int (nI br)])), (af, .inl (cI, cap, .inl fF)), (ae, .inl (cI, cap, .inl fE)), (ta, .inl (cI, tl, .inl fT)), (ah, .inl (cJ, cap, .inr (.inl fH))), (ah2, .inl (cJ, rm, .inr (.inl (va_cpy fH (fun _ => 0) 0 0 cap)))), (al, .inl (cJ, cap, .inr (.inl fL))), (al2, .inl (cJ, rm, .inr (.inl (va_cpy fL (fun _ => 0) 0 0 cap))))]) rfl ?_
    refine z_put X (t1 := (.array .long)) (ws' := [(sp, .inr (2, [.ref ah2, .ref al2, .ref af, .ref ae, .ref ta, .int (nI rm), .int (nI ns), .int (nI S.length), .int (nI ended), .int (nI br)])), (af, .inl (cI, cap, .inl fF)), (ae, .inl (cI, cap, .inl fE)), (ta, .inl (cI, tl, .inl fT)), (ah, .inl (cJ, cap, .inr (.inl fH))), (ah2, .inl (cJ, rm, .inr (.inl (va_cpy fH (fun _ => 0) 0 0 cap)))), (al, .inl (cJ, cap, .inr (.inl fL))), (al2, .inl (cJ, rm, .inr (.inl (va_cpy fL (fun _ => 0) 0 0 cap))))]) (pc' := 52) 0 rfl rfl inX2 tyX2 tyX2_ok nmX2 1 (by decide) mF_X2_15 rfl (by decide +kernel) rfl rfl (Nat.le_of_ble_eq_true rfl) dX2_setRoom_49 rfl rfl ?_
    refine z_aload_n X (pc' := 53) dX2_setRoom_52 rfl 0 rfl rfl ?_
    refine z_aload_n X (pc' := 54) dX2_setRoom_53 rfl 0 rfl rfl ?_
    refine z_get X (v := .ref af) (pc' := 57) 0 rfl rfl inX2 2 (by decide) mF_X2_18 rfl dX2_setRoom_54 rfl ?_
    refine z_aload_n X (pc' := 58) dX2_setRoom_57 rfl 0 rfl rfl ?_
    refine z_get X (v := .int (nI rm)) (pc' := 61) 0 rfl rfl inX2 5 (by decide) mF_X2_28 rfl dX2_setRoom_58 rfl ?_
    refine z_callSr X (pc' := 64) (fun sz => c_copyi l D cI cJ sz af cap rm fF hg hrm) (zcwS X TTg 2 mL_X2_83 mT_Arrays_copyOf_i mN_Arrays mK_A_copyi rfl rfl (by decide +kernel) ⟨(Nat.le_of_ble_eq_true rfl), (Nat.le_of_ble_eq_true rfl)⟩) (wr := [(sp, .inr (2, [.ref ah2, .ref al2, .ref af, .ref ae, .ref ta, .int (nI rm), .int (nI ns), .int (nI S.length), .int (nI ended), .int (nI br)])), (ae, .inl (cI, cap, .inl fE)), (ta, .inl (cI, tl, .inl fT)), (ah, .inl (cJ, cap, .inr (.inl fH))), (ah2, .inl (cJ, rm, .inr (.inl (va_cpy fH (fun _ => 0) 0 0 cap)))), (al, .inl (cJ, cap, .inr (.inl fL))), (al2, .inl (cJ, rm, .inr (.inl (va_cpy fL (fun _ => 0) 0 0 cap))))]) [1] [0, 2, 3, 4, 5, 6, 7] rfl rfl rfl rfl (by decide) rfl rfl (Nat.le_of_ble_eq_true rfl) dX2_setRoom_61 ⟨by show 0 + 1 + 1 + 1 ≤ (if cap < rm then 5 else 0); rw [if_pos hg]; omega, by show 0 + rm + rm + rm ≤ (if cap < rm then 4 * rm + ns else 0); rw [if_pos hg]; omega⟩ rfl (fun u af2 hu => ?_)
    refine z_wse (ws' := [(sp, .inr (2, [.ref ah2, .ref al2, .ref af, .ref ae, .ref ta, .int (nI rm), .int (nI ns), .int (nI S.length), .int (nI ended), .int (nI br)])), (ae, .inl (cI, cap, .inl fE)), (ta, .inl (cI, tl, .inl fT)), (ah, .inl (cJ, cap, .inr (.inl fH))), (ah2, .inl (cJ, rm, .inr (.inl (va_cpy fH (fun _ => 0) 0 0 cap)))), (al, .inl (cJ, cap, .inr (.inl fL))), (al2, .inl (cJ, rm, .inr (.inl (va_cpy fL (fun _ => 0) 0 0 cap)))), (af, .inl (cI, cap, .inl fF)), (af2, .inl (cI, rm, .inl (va_cpy fF (fun _ => 0) 0 0 cap)))]) rfl ?_
    refine z_put X (t1 := (.array .int)) (ws' := [(sp, .inr (2, [.ref ah2, .ref al2, .ref af2, .ref ae, .ref ta, .int (nI rm), .int (nI ns), .int (nI S.length), .int (nI ended), .int (nI br)])), (ae, .inl (cI, cap, .inl fE)), (ta, .inl (cI, tl, .inl fT)), (ah, .inl (cJ, cap, .inr (.inl fH))), (ah2, .inl (cJ, rm, .inr (.inl (va_cpy fH (fun _ => 0) 0 0 cap)))), (al, .inl (cJ, cap, .inr (.inl fL))), (al2, .inl (cJ, rm, .inr (.inl (va_cpy fL (fun _ => 0) 0 0 cap)))), (af, .inl (cI, cap, .inl fF)), (af2, .inl (cI, rm, .inl (va_cpy fF (fun _ => 0) 0 0 cap)))]) (pc' := 67) 0 rfl rfl inX2 tyX2 tyX2_ok nmX2 2 (by decide) mF_X2_18 rfl (by decide +kernel) rfl rfl (Nat.le_of_ble_eq_true rfl) dX2_setRoom_64 rfl rfl ?_
    refine z_aload_n X (pc' := 68) dX2_setRoom_67 rfl 0 rfl rfl ?_
    refine z_aload_n X (pc' := 69) dX2_setRoom_68 rfl 0 rfl rfl ?_
    refine z_get X (v := .ref ae) (pc' := 72) 0 rfl rfl inX2 3 (by decide) mF_X2_22 rfl dX2_setRoom_69 rfl ?_
    refine z_aload_n X (pc' := 73) dX2_setRoom_72 rfl 0 rfl rfl ?_
    refine z_get X (v := .int (nI rm)) (pc' := 76) 0 rfl rfl inX2 5 (by decide) mF_X2_28 rfl dX2_setRoom_73 rfl ?_
    refine z_callSr X (pc' := 79) (fun sz => c_copyi l D cI cJ sz ae cap rm fE hg hrm) (zcwS X TTg 2 mL_X2_83 mT_Arrays_copyOf_i mN_Arrays mK_A_copyi rfl rfl (by decide +kernel) ⟨(Nat.le_of_ble_eq_true rfl), (Nat.le_of_ble_eq_true rfl)⟩) (wr := [(sp, .inr (2, [.ref ah2, .ref al2, .ref af2, .ref ae, .ref ta, .int (nI rm), .int (nI ns), .int (nI S.length), .int (nI ended), .int (nI br)])), (ta, .inl (cI, tl, .inl fT)), (ah, .inl (cJ, cap, .inr (.inl fH))), (ah2, .inl (cJ, rm, .inr (.inl (va_cpy fH (fun _ => 0) 0 0 cap)))), (al, .inl (cJ, cap, .inr (.inl fL))), (al2, .inl (cJ, rm, .inr (.inl (va_cpy fL (fun _ => 0) 0 0 cap)))), (af, .inl (cI, cap, .inl fF)), (af2, .inl (cI, rm, .inl (va_cpy fF (fun _ => 0) 0 0 cap)))]) [1] [0, 2, 3, 4, 5, 6, 7, 8] rfl rfl rfl rfl (by decide) rfl rfl (Nat.le_of_ble_eq_true rfl) dX2_setRoom_76 ⟨by show 0 + 1 + 1 + 1 + 1 ≤ (if cap < rm then 5 else 0); rw [if_pos hg]; omega, by show 0 + rm + rm + rm + rm ≤ (if cap < rm then 4 * rm + ns else 0); rw [if_pos hg]; omega⟩ rfl (fun u ae2 hu => ?_)
    refine z_wse (ws' := [(sp, .inr (2, [.ref ah2, .ref al2, .ref af2, .ref ae, .ref ta, .int (nI rm), .int (nI ns), .int (nI S.length), .int (nI ended), .int (nI br)])), (ta, .inl (cI, tl, .inl fT)), (ah, .inl (cJ, cap, .inr (.inl fH))), (ah2, .inl (cJ, rm, .inr (.inl (va_cpy fH (fun _ => 0) 0 0 cap)))), (al, .inl (cJ, cap, .inr (.inl fL))), (al2, .inl (cJ, rm, .inr (.inl (va_cpy fL (fun _ => 0) 0 0 cap)))), (af, .inl (cI, cap, .inl fF)), (af2, .inl (cI, rm, .inl (va_cpy fF (fun _ => 0) 0 0 cap))), (ae, .inl (cI, cap, .inl fE)), (ae2, .inl (cI, rm, .inl (va_cpy fE (fun _ => 0) 0 0 cap)))]) rfl ?_
    refine z_put X (t1 := (.array .int)) (ws' := [(sp, .inr (2, [.ref ah2, .ref al2, .ref af2, .ref ae2, .ref ta, .int (nI rm), .int (nI ns), .int (nI S.length), .int (nI ended), .int (nI br)])), (ta, .inl (cI, tl, .inl fT)), (ah, .inl (cJ, cap, .inr (.inl fH))), (ah2, .inl (cJ, rm, .inr (.inl (va_cpy fH (fun _ => 0) 0 0 cap)))), (al, .inl (cJ, cap, .inr (.inl fL))), (al2, .inl (cJ, rm, .inr (.inl (va_cpy fL (fun _ => 0) 0 0 cap)))), (af, .inl (cI, cap, .inl fF)), (af2, .inl (cI, rm, .inl (va_cpy fF (fun _ => 0) 0 0 cap))), (ae, .inl (cI, cap, .inl fE)), (ae2, .inl (cI, rm, .inl (va_cpy fE (fun _ => 0) 0 0 cap)))]) (pc' := 82) 0 rfl rfl inX2 tyX2 tyX2_ok nmX2 3 (by decide) mF_X2_22 rfl (by decide +kernel) rfl rfl (Nat.le_of_ble_eq_true rfl) dX2_setRoom_79 rfl rfl ?_
    refine z_aload_n X (pc' := 83) dX2_setRoom_82 rfl 0 rfl rfl ?_
    refine z_aload_n X (pc' := 84) dX2_setRoom_83 rfl 0 rfl rfl ?_
    refine z_get X (v := .int (nI ns)) (pc' := 87) 0 rfl rfl inX2 6 (by decide) mF_X2_32 rfl dX2_setRoom_84 rfl ?_
    refine z_newi X (pc' := 89) 0 rfl mR_int (by have hns : 2 ^ kk ≤ 2 ^ 15 := Nat.pow_le_pow_right (by decide) hkk; omega) (by show 0 + 1 + 1 + 1 + 1 + 1 ≤ (if cap < rm then 5 else 0); rw [if_pos hg]; omega) (by show 0 + rm + rm + rm + rm + ns ≤ (if cap < rm then 4 * rm + ns else 0); rw [if_pos hg]; omega) dX2_setRoom_87 rfl (fun ta2 => ?_)
    refine z_wse (ws' := [(sp, .inr (2, [.ref ah2, .ref al2, .ref af2, .ref ae2, .ref ta, .int (nI rm), .int (nI ns), .int (nI S.length), .int (nI ended), .int (nI br)])), (ta, .inl (cI, tl, .inl fT)), (ah, .inl (cJ, cap, .inr (.inl fH))), (ah2, .inl (cJ, rm, .inr (.inl (va_cpy fH (fun _ => 0) 0 0 cap)))), (al, .inl (cJ, cap, .inr (.inl fL))), (al2, .inl (cJ, rm, .inr (.inl (va_cpy fL (fun _ => 0) 0 0 cap)))), (af, .inl (cI, cap, .inl fF)), (af2, .inl (cI, rm, .inl (va_cpy fF (fun _ => 0) 0 0 cap))), (ae, .inl (cI, cap, .inl fE)), (ae2, .inl (cI, rm, .inl (va_cpy fE (fun _ => 0) 0 0 cap))), (ta2, .inl (cI, ns, .inl (fun _ => 0)))]) rfl ?_
    refine z_put X (t1 := (.array .int)) (ws' := [(sp, .inr (2, [.ref ah2, .ref al2, .ref af2, .ref ae2, .ref ta2, .int (nI rm), .int (nI ns), .int (nI S.length), .int (nI ended), .int (nI br)])), (ta, .inl (cI, tl, .inl fT)), (ah, .inl (cJ, cap, .inr (.inl fH))), (ah2, .inl (cJ, rm, .inr (.inl (va_cpy fH (fun _ => 0) 0 0 cap)))), (al, .inl (cJ, cap, .inr (.inl fL))), (al2, .inl (cJ, rm, .inr (.inl (va_cpy fL (fun _ => 0) 0 0 cap)))), (af, .inl (cI, cap, .inl fF)), (af2, .inl (cI, rm, .inl (va_cpy fF (fun _ => 0) 0 0 cap))), (ae, .inl (cI, cap, .inl fE)), (ae2, .inl (cI, rm, .inl (va_cpy fE (fun _ => 0) 0 0 cap))), (ta2, .inl (cI, ns, .inl (fun _ => 0)))]) (pc' := 92) 0 rfl rfl inX2 tyX2 tyX2_ok nmX2 4 (by decide) mF_X2_25 rfl (by decide +kernel) rfl rfl (Nat.le_of_ble_eq_true rfl) dX2_setRoom_89 rfl rfl ?_
    refine z_ws (ws' := [(sp, .inr (2, [.ref ah2, .ref al2, .ref af2, .ref ae2, .ref ta2, .int (nI rm), .int (nI ns), .int (nI S.length), .int (nI ended), .int (nI br)])), (ah2, .inl (cJ, rm, .inr (.inl (va_cpy fH (fun _ => 0) 0 0 cap)))), (al2, .inl (cJ, rm, .inr (.inl (va_cpy fL (fun _ => 0) 0 0 cap)))), (af2, .inl (cI, rm, .inl (va_cpy fF (fun _ => 0) 0 0 cap))), (ae2, .inl (cI, rm, .inl (va_cpy fE (fun _ => 0) 0 0 cap))), (ta2, .inl (cI, ns, .inl (fun _ => 0)))]) [0, 3, 5, 7, 9, 10] (by decide) rfl ?_
    refine z_widen (k := if cap < rm then 5 else 0) (n := if cap < rm then 4 * rm + ns else 0) (by rw [if_pos hg]; omega) (by rw [if_pos hg]; omega) ?_
    have hR2 : sRep S (va_cpy fH (fun _ => 0) 0 0 cap) (va_cpy fL (fun _ => 0) 0 0 cap) := sRep_cpy hR hSc
    have hns : ns ≤ 32768 := by rw [hk]; exact Nat.pow_le_pow_right (by decide) hkk
    have hlen : S.length < ns := by omega
    refine z_iconst X (v := nI 0) (pc' := 93) dX2_setRoom_92 (by decide) rfl ?_
    refine z_istore_n X (lv' := [(3, .int (nI 0)), (0, .ref sp), (1, .int (nI rm)), (2, .int (nI ns))]) (pc' := 94) dX2_setRoom_93 rfl (by decide) rfl rfl ?_
    refine z_lv (lv' := [(3, .int (nI 0)), (0, .ref sp)]) [0, 1] rfl ?_
    refine z_loop (σ := Nat × (Nat → Int32)) (fun x => x.1 ≤ ns ∧ ∀ i, i < x.1 → x.2 i = nI 0) (fun x => ns - x.1) (fun x => [(3, .int (nI x.1)), (0, .ref sp)]) (fun x => [(sp, .inr (2, [.ref ah2, .ref al2, .ref af2, .ref ae2, .ref ta2, .int (nI rm), .int (nI ns), .int (nI S.length), .int (nI ended), .int (nI br)])), (ah2, .inl (cJ, rm, .inr (.inl (va_cpy fH (fun _ => 0) 0 0 cap)))), (al2, .inl (cJ, rm, .inr (.inl (va_cpy fL (fun _ => 0) 0 0 cap)))), (af2, .inl (cI, rm, .inl (va_cpy fF (fun _ => 0) 0 0 cap))), (ae2, .inl (cI, rm, .inl (va_cpy fE (fun _ => 0) 0 0 cap))), (ta2, .inl (cI, ns, .inl x.2))]) (fun x => if cap < rm then 5 else 0) (fun x => if cap < rm then 4 * rm + ns else 0) ((0, fun _ => 0)) ⟨Nat.zero_le _, fun i h => absurd h (Nat.not_lt_zero i)⟩ ?_
    intro x hI ih
    obtain ⟨i1, i2⟩ := hI
    show Z _ _ _ _ _ _ _ _ _ _ _ _ _ _ _ 94 [(3, .int (nI x.1)), (0, .ref sp)] [] [(sp, .inr (2, [.ref ah2, .ref al2, .ref af2, .ref ae2, .ref ta2, .int (nI rm), .int (nI ns), .int (nI S.length), .int (nI ended), .int (nI br)])), (ah2, .inl (cJ, rm, .inr (.inl (va_cpy fH (fun _ => 0) 0 0 cap)))), (al2, .inl (cJ, rm, .inr (.inl (va_cpy fL (fun _ => 0) 0 0 cap)))), (af2, .inl (cI, rm, .inl (va_cpy fF (fun _ => 0) 0 0 cap))), (ae2, .inl (cI, rm, .inl (va_cpy fE (fun _ => 0) 0 0 cap))), (ta2, .inl (cI, ns, .inl x.2))] (if cap < rm then 5 else 0) (if cap < rm then 4 * rm + ns else 0)
    refine z_iload_n X (pc' := 95) dX2_setRoom_94 rfl 0 rfl rfl ?_
    refine z_aload_n X (pc' := 96) dX2_setRoom_95 rfl 1 rfl rfl ?_
    refine z_get X (v := .int (nI ns)) (pc' := 99) 0 rfl rfl inX2 6 (by decide) mF_X2_32 rfl dX2_setRoom_96 rfl ?_
    refine z_icmp_geN X (tgt := 115) (pc' := 102) (by omega) (by omega) dX2_setRoom_99 (by decide) rfl (fun h4 => ?_) (fun h4 => ?_)
    · have hx1 : x.1 = ns := by omega
      refine z_iconst X (v := nI 0) (pc' := 116) dX2_setRoom_115 (by decide) rfl ?_
      refine z_istore_n X (lv' := [(3, .int (nI 0)), (0, .ref sp)]) (pc' := 117) dX2_setRoom_116 rfl (by decide) rfl rfl ?_
      refine z_lv (lv' := [(3, .int (nI 0)), (0, .ref sp)]) [0, 1] rfl ?_
      refine z_loop (σ := Nat × (Nat → Nat) × (Nat → Int32)) (fun y => y.1 ≤ S.length ∧ tRep ns y.2.1 y.2.2 ∧ tb_ok hx ns y.2.1 (S.take y.1)) (fun y => S.length - y.1) (fun y => [(3, .int (nI y.1)), (0, .ref sp)]) (fun y => [(sp, .inr (2, [.ref ah2, .ref al2, .ref af2, .ref ae2, .ref ta2, .int (nI rm), .int (nI ns), .int (nI S.length), .int (nI ended), .int (nI br)])), (ah2, .inl (cJ, rm, .inr (.inl (va_cpy fH (fun _ => 0) 0 0 cap)))), (al2, .inl (cJ, rm, .inr (.inl (va_cpy fL (fun _ => 0) 0 0 cap)))), (af2, .inl (cI, rm, .inl (va_cpy fF (fun _ => 0) 0 0 cap))), (ae2, .inl (cI, rm, .inl (va_cpy fE (fun _ => 0) 0 0 cap))), (ta2, .inl (cI, ns, .inl y.2.2))]) (fun y => if cap < rm then 5 else 0) (fun y => if cap < rm then 4 * rm + ns else 0) ((0, (fun _ => 0), x.2)) ⟨Nat.zero_le _, fun i hi => i2 i (by omega), by rw [List.take_zero]; exact tb_nil hx ns (fun _ _ => rfl)⟩ ?_
      intro y hI ih2
      obtain ⟨k1, k2, k3⟩ := hI
      show Z _ _ _ _ _ _ _ _ _ _ _ _ _ _ _ 117 [(3, .int (nI y.1)), (0, .ref sp)] [] [(sp, .inr (2, [.ref ah2, .ref al2, .ref af2, .ref ae2, .ref ta2, .int (nI rm), .int (nI ns), .int (nI S.length), .int (nI ended), .int (nI br)])), (ah2, .inl (cJ, rm, .inr (.inl (va_cpy fH (fun _ => 0) 0 0 cap)))), (al2, .inl (cJ, rm, .inr (.inl (va_cpy fL (fun _ => 0) 0 0 cap)))), (af2, .inl (cI, rm, .inl (va_cpy fF (fun _ => 0) 0 0 cap))), (ae2, .inl (cI, rm, .inl (va_cpy fE (fun _ => 0) 0 0 cap))), (ta2, .inl (cI, ns, .inl y.2.2))] (if cap < rm then 5 else 0) (if cap < rm then 4 * rm + ns else 0)
      refine z_iload_n X (pc' := 118) dX2_setRoom_117 rfl 0 rfl rfl ?_
      refine z_aload_n X (pc' := 119) dX2_setRoom_118 rfl 1 rfl rfl ?_
      refine z_get X (v := .int (nI S.length)) (pc' := 122) 0 rfl rfl inX2 7 (by decide) mF_X2_35 rfl dX2_setRoom_119 rfl ?_
      refine z_icmp_geN X (tgt := 155) (pc' := 125) (by omega) (by omega) dX2_setRoom_122 (by decide) rfl (fun h5 => ?_) (fun h5 => ?_)
      · have hy1 : y.1 = S.length := by omega
        refine z_ws (ws' := [(sp, .inr (2, [.ref ah2, .ref al2, .ref af2, .ref ae2, .ref ta2, .int (nI rm), .int (nI ns), .int (nI S.length), .int (nI ended), .int (nI br)])), (ah2, .inl (cJ, rm, .inr (.inl (va_cpy fH (fun _ => 0) 0 0 cap)))), (al2, .inl (cJ, rm, .inr (.inl (va_cpy fL (fun _ => 0) 0 0 cap)))), (af2, .inl (cI, rm, .inl (va_cpy fF (fun _ => 0) 0 0 cap))), (ae2, .inl (cI, rm, .inl (va_cpy fE (fun _ => 0) 0 0 cap))), (ta2, .inl (cI, ns, .inl y.2.2))]) [0, 1, 2, 3, 4, 5] (by decide) rfl ?_
        exact z_vret X (rm, ns, ah2, al2, af2, ae2, ta2, (va_cpy fH (fun _ => 0) 0 0 cap), (va_cpy fL (fun _ => 0) 0 0 cap), (va_cpy fF (fun _ => 0) 0 0 cap), (va_cpy fE (fun _ => 0) 0 0 cap), y.2.2) ⟨by show _ = max cap rm; omega, by show _ = (if cap < rm then ns else tl); rw [if_pos hg], hR2, fun i hi => ⟨(cpy_in hi : va_cpy fF (fun _ => 0) 0 0 cap i = fF i), (cpy_in hi : va_cpy fE (fun _ => 0) 0 0 cap i = fE i)⟩, y.2.1, k2, by rw [hy1, List.take_length] at k3; exact k3⟩ rfl (Nat.le_refl _) (Nat.le_refl _) dX2_setRoom_155
      · have hy1 : y.1 < S.length := by omega
        have hlt : (S.take y.1).length = y.1 := by rw [List.length_take]; omega
        have hrj := hR2 y.1 hy1
        have hsj := hsm _ (getD_mem hy1)
        refine z_aload_n X (pc' := 126) dX2_setRoom_125 rfl 1 rfl rfl ?_
        refine z_get X (v := .ref ta2) (pc' := 129) 0 rfl rfl inX2 4 (by decide) mF_X2_25 rfl dX2_setRoom_126 rfl ?_
        refine z_aload_n X (pc' := 130) dX2_setRoom_129 rfl 1 rfl rfl ?_
        refine z_aload_n X (pc' := 131) dX2_setRoom_130 rfl 1 rfl rfl ?_
        refine z_get X (v := .ref ah2) (pc' := 134) 0 rfl rfl inX2 0 (by decide) mF_X2_9 rfl dX2_setRoom_131 rfl ?_
        refine z_iload_n X (pc' := 135) dX2_setRoom_134 rfl 0 rfl rfl ?_
        refine z_lald X (pc' := 136) 1 1 rfl rfl (by omega) (by omega) dX2_setRoom_135 rfl ?_
        refine z_topl (y := lN ((S.getD y.1 (0, 0)).1)) hrj.1 ?_
        refine z_aload_n X (pc' := 137) dX2_setRoom_136 rfl 1 rfl rfl ?_
        refine z_get X (v := .ref al2) (pc' := 140) 0 rfl rfl inX2 1 (by decide) mF_X2_15 rfl dX2_setRoom_137 rfl ?_
        refine z_iload_n X (pc' := 141) dX2_setRoom_140 rfl 0 rfl rfl ?_
        refine z_lald X (pc' := 142) 2 1 rfl rfl (by omega) (by omega) dX2_setRoom_141 rfl ?_
        refine z_topl (y := lN ((S.getD y.1 (0, 0)).2)) hrj.2 ?_
        refine z_callVi X (pc' := 145) (fun sz => c_slotOf l D cI cJ sz sp ah2 al2 af2 ae2 ta2 rm ns rm ns kk S.length ended br (S.getD y.1 (0, 0)).1 (S.getD y.1 (0, 0)).2 (va_cpy fH (fun _ => 0) 0 0 cap) (va_cpy fL (fun _ => 0) 0 0 cap) y.2.2 (S.take y.1) y.2.1 hk hkk (by omega) (by omega) (by omega) (fun j hj => by rw [take_g (by omega)]; exact hR2 j (by omega)) k2 k3 (fun q hq => hsm q (List.mem_of_mem_take hq)) hsj) (zcwV X TTg 2 mL_X2_69 mI_X2_slotOf mS_X2_slotOf mN_X2 mK_X2_slotOf rfl rfl (by decide +kernel) ⟨(Nat.le_of_ble_eq_true rfl), (Nat.le_of_ble_eq_true rfl)⟩) (wr := [(af2, .inl (cI, rm, .inl (va_cpy fF (fun _ => 0) 0 0 cap))), (ae2, .inl (cI, rm, .inl (va_cpy fE (fun _ => 0) 0 0 cap)))]) [0, 1, 2, 5] [3, 4] rfl rfl rfl rfl (by decide) 2 0 rfl rfl rfl rfl rfl (Nat.le_of_ble_eq_true rfl) dX2_setRoom_142 ⟨Nat.le_refl _, Nat.le_refl _⟩ rfl (fun r u hu => ?_)
        obtain ⟨d, ⟨hd1, hd2, hd3⟩, hr⟩ := hu
        have hr : r = nI ((hx (S.getD y.1 (0, 0)) + d) % ns) := hr
        subst hr
        have hd0 : y.2.1 ((hx (S.getD y.1 (0, 0)) + d) % ns) = 0 := by rcases hd3 with q | q; exact q; exact absurd (List.mem_of_getElem? q.2) (take_n hnd hy1)
        have hsl : (hx (S.getD y.1 (0, 0)) + d) % ns < ns := Nat.mod_lt _ (by omega)
        refine z_wse (ws' := [(af2, .inl (cI, rm, .inl (va_cpy fF (fun _ => 0) 0 0 cap))), (ae2, .inl (cI, rm, .inl (va_cpy fE (fun _ => 0) 0 0 cap))), (sp, .inr (2, [.ref ah2, .ref al2, .ref af2, .ref ae2, .ref ta2, .int (nI rm), .int (nI ns), .int (nI S.length), .int (nI ended), .int (nI br)])), (ah2, .inl (cJ, rm, .inr (.inl (va_cpy fH (fun _ => 0) 0 0 cap)))), (al2, .inl (cJ, rm, .inr (.inl (va_cpy fL (fun _ => 0) 0 0 cap)))), (ta2, .inl (cI, ns, .inl y.2.2))]) rfl ?_
        refine z_iload_n X (pc' := 146) dX2_setRoom_145 rfl 0 rfl rfl ?_
        refine z_iconst X (v := nI 1) (pc' := 147) dX2_setRoom_146 (by decide) rfl ?_
        refine z_iadd X (pc' := 148) dX2_setRoom_147 rfl ?_
        refine z_topi (y := nI (y.1 + 1)) (nI_add _ _) ?_
        refine z_iast X (ws' := [(af2, .inl (cI, rm, .inl (va_cpy fF (fun _ => 0) 0 0 cap))), (ae2, .inl (cI, rm, .inl (va_cpy fE (fun _ => 0) 0 0 cap))), (sp, .inr (2, [.ref ah2, .ref al2, .ref af2, .ref ae2, .ref ta2, .int (nI rm), .int (nI ns), .int (nI S.length), .int (nI ended), .int (nI br)])), (ah2, .inl (cJ, rm, .inr (.inl (va_cpy fH (fun _ => 0) 0 0 cap)))), (al2, .inl (cJ, rm, .inr (.inl (va_cpy fL (fun _ => 0) 0 0 cap)))), (ta2, .inl (cI, ns, .inl (upd y.2.2 ((hx (S.getD y.1 (0, 0)) + d) % ns) (nI (y.1 + 1)))))]) (pc' := 149) 5 0 rfl rfl (by omega) (by omega) dX2_setRoom_148 rfl rfl ?_
        refine z_iinc X (v := nI (y.1 + 1)) (lv' := [(3, .int (nI (y.1 + 1))), (0, .ref sp)]) (k := 0) (pc' := 152) dX2_setRoom_149 rfl (nI_1 _) (by decide) rfl rfl ?_
        refine z_goto X (tgt := 117) dX2_setRoom_152 (by decide) ?_
        refine z_lv (lv' := [(3, .int (nI (y.1 + 1))), (0, .ref sp)]) [0, 1] rfl ?_
        refine z_ws (ws' := [(sp, .inr (2, [.ref ah2, .ref al2, .ref af2, .ref ae2, .ref ta2, .int (nI rm), .int (nI ns), .int (nI S.length), .int (nI ended), .int (nI br)])), (ah2, .inl (cJ, rm, .inr (.inl (va_cpy fH (fun _ => 0) 0 0 cap)))), (al2, .inl (cJ, rm, .inr (.inl (va_cpy fL (fun _ => 0) 0 0 cap)))), (af2, .inl (cI, rm, .inl (va_cpy fF (fun _ => 0) 0 0 cap))), (ae2, .inl (cI, rm, .inl (va_cpy fE (fun _ => 0) 0 0 cap))), (ta2, .inl (cI, ns, .inl (upd y.2.2 ((hx (S.getD y.1 (0, 0)) + d) % ns) (nI (y.1 + 1)))))]) [2, 3, 4, 0, 1, 5] (by decide) rfl ?_
        exact ih2 ((y.1 + 1, (fun s => if s = (hx (S.getD y.1 (0, 0)) + d) % ns then y.1 + 1 else y.2.1 s), upd y.2.2 ((hx (S.getD y.1 (0, 0)) + d) % ns) (nI (y.1 + 1)))) ⟨by show y.1 + 1 ≤ S.length; omega, tRep_put k2, by show tb_ok hx ns _ (S.take (y.1 + 1)); rw [take_s (by omega)]; have hh := tb_put k3 hd1 hd2 hd0; rw [hlt] at hh; exact hh⟩ (by show S.length - (y.1 + 1) < S.length - y.1; omega)
    · have hx1 : x.1 < ns := by omega
      refine z_aload_n X (pc' := 103) dX2_setRoom_102 rfl 1 rfl rfl ?_
      refine z_get X (v := .ref ta2) (pc' := 106) 0 rfl rfl inX2 4 (by decide) mF_X2_25 rfl dX2_setRoom_103 rfl ?_
      refine z_iload_n X (pc' := 107) dX2_setRoom_106 rfl 0 rfl rfl ?_
      refine z_iconst X (v := nI 0) (pc' := 108) dX2_setRoom_107 (by decide) rfl ?_
      refine z_iast X (ws' := [(sp, .inr (2, [.ref ah2, .ref al2, .ref af2, .ref ae2, .ref ta2, .int (nI rm), .int (nI ns), .int (nI S.length), .int (nI ended), .int (nI br)])), (ah2, .inl (cJ, rm, .inr (.inl (va_cpy fH (fun _ => 0) 0 0 cap)))), (al2, .inl (cJ, rm, .inr (.inl (va_cpy fL (fun _ => 0) 0 0 cap)))), (af2, .inl (cI, rm, .inl (va_cpy fF (fun _ => 0) 0 0 cap))), (ae2, .inl (cI, rm, .inl (va_cpy fE (fun _ => 0) 0 0 cap))), (ta2, .inl (cI, ns, .inl (upd x.2 x.1 (nI 0))))]) (pc' := 109) 5 0 rfl rfl (by omega) (by omega) dX2_setRoom_108 rfl rfl ?_
      refine z_iinc X (v := nI (x.1 + 1)) (lv' := [(3, .int (nI (x.1 + 1))), (0, .ref sp)]) (k := 0) (pc' := 112) dX2_setRoom_109 rfl (nI_1 _) (by decide) rfl rfl ?_
      refine z_goto X (tgt := 94) dX2_setRoom_112 (by decide) ?_
      refine z_lv (lv' := [(3, .int (nI (x.1 + 1))), (0, .ref sp)]) [0, 1] rfl ?_
      exact ih ((x.1 + 1, upd x.2 x.1 (nI 0))) ⟨by show x.1 + 1 ≤ ns; omega, fun i hi => by show upd x.2 x.1 (nI 0) i = nI 0; by_cases e : i = x.1; (rw [e, pk_us]); (rw [pk_un e]; exact i2 i (by have hi : i < x.1 + 1 := hi; omega))⟩ (by show ns - (x.1 + 1) < ns - x.1; omega)


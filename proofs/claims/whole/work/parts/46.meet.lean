/-- how much room n states have, how many slots; what rows of length c have cost -/
def rmF (n : Nat) : Nat := if n ≤ 80 then 80 else if n ≤ 320 then 320 else if n ≤ 1280 then 1280 else if n ≤ 5120 then 5120 else 20480
def nsF (n : Nat) : Nat := if n ≤ 80 then 128 else if n ≤ 320 then 512 else if n ≤ 1280 then 2048 else if n ≤ 5120 then 8192 else 32768
def kkF (n : Nat) : Nat := if n ≤ 80 then 7 else if n ≤ 320 then 9 else if n ≤ 1280 then 11 else if n ≤ 5120 then 13 else 15
def gc (c : Nat) : Nat := if c < 80 then 0 else if c < 320 then 5 else if c < 1280 then 10 else if c < 5120 then 15 else if c < 20480 then 20 else 25
def gs (c : Nat) : Nat := if c < 80 then 0 else if c < 320 then 448 else if c < 1280 then 2240 else if c < 5120 then 9408 else if c < 20480 then 38080 else 152768
def capOk (c t : Nat) : Prop := (c = 0 ∧ t = 0) ∨ (c = 80 ∧ t = 128) ∨ (c = 320 ∧ t = 512) ∨ (c = 1280 ∧ t = 2048) ∨ (c = 5120 ∧ t = 8192) ∨ (c = 20480 ∧ t = 32768)
theorem nsF_k (n : Nat) : nsF n = 2 ^ kkF n ∧ kkF n ≤ 15 := by
  unfold nsF kkF
  split
  · exact ⟨rfl, by decide⟩
  · split
    · exact ⟨rfl, by decide⟩
    · split
      · exact ⟨rfl, by decide⟩
      · split
        · exact ⟨rfl, by decide⟩
        · exact ⟨rfl, by decide⟩
theorem rm_cases (n : Nat) : (rmF n = 80 ∧ nsF n = 128 ∧ n ≤ 80) ∨ (rmF n = 320 ∧ nsF n = 512 ∧ 80 < n ∧ n ≤ 320) ∨ (rmF n = 1280 ∧ nsF n = 2048 ∧ 320 < n ∧ n ≤ 1280) ∨ (rmF n = 5120 ∧ nsF n = 8192 ∧ 1280 < n ∧ n ≤ 5120) ∨ (rmF n = 20480 ∧ nsF n = 32768 ∧ 5120 < n) := by
  unfold rmF nsF
  by_cases h1 : n ≤ 80
  · simp [h1]
  · by_cases h2 : n ≤ 320
    · simp [h1, h2]; omega
    · by_cases h3 : n ≤ 1280
      · simp [h1, h2, h3]; omega
      · by_cases h4 : n ≤ 5120
        · simp [h1, h2, h3, h4]; omega
        · simp [h1, h2, h3, h4]; omega
theorem rm_facts {n : Nat} (h : n ≤ 20000) : n ≤ rmF n ∧ rmF n < nsF n ∧ rmF n ≤ 20480 ∧ nsF n ≤ 32768 ∧ 80 ≤ rmF n := by
  rcases rm_cases n with q | q | q | q | q <;> omega
theorem rm_same {n : Nat} (h : n < rmF n) (hn : n < 20000) : rmF (n + 1) = rmF n ∧ nsF (n + 1) = nsF n := by
  rcases rm_cases n with q | q | q | q | q <;> rcases rm_cases (n + 1) with p | p | p | p | p <;> omega
theorem rm_next {n : Nat} (h : rmF n ≤ n) (hn : n < 20000) : rmF (n + 1) = rmF n * 4 ∧ nsF (n + 1) = nsF n * 4 ∧ n = rmF n := by
  rcases rm_cases n with q | q | q | q | q <;> rcases rm_cases (n + 1) with p | p | p | p | p <;> omega
theorem cap_ns {c t n : Nat} (h : capOk c t) (hr : rmF n ≤ c) : nsF n ≤ t ∧ c ≤ 20480 := by
  unfold capOk at h
  rcases rm_cases n with q | q | q | q | q <;> rcases h with p | p | p | p | p | p <;> omega
theorem cap_le {c t : Nat} (h : capOk c t) : c ≤ 20480 := by
  unfold capOk at h; omega
theorem cap_grow {c t n : Nat} (h : capOk c t) (hr : rmF n ≤ c) (h2 : rmF (n + 1) = rmF n * 4) (hns : nsF (n + 1) = nsF n * 4) (h5 : rmF (n + 1) ≤ 20480) : capOk (max c (rmF (n + 1))) (if c < rmF (n + 1) then nsF (n + 1) else t) := by
  by_cases g : c < rmF (n + 1)
  · rw [if_pos g, Nat.max_eq_right (by omega)]
    unfold capOk
    rcases rm_cases (n + 1) with p | p | p | p | p <;> omega
  · rw [if_neg g, Nat.max_eq_left (by omega)]; exact h
theorem cap_cost {c t n : Nat} (h : capOk c t) (hr : rmF n ≤ c) (h2 : rmF (n + 1) = rmF n * 4) (hns : nsF (n + 1) = nsF n * 4) (h5 : rmF (n + 1) ≤ 20480) (g : c < rmF (n + 1)) : gc c + 5 = gc (rmF (n + 1)) ∧ gs c + (4 * rmF (n + 1) + nsF (n + 1)) = gs (rmF (n + 1)) := by
  unfold capOk at h
  rcases rm_cases (n + 1) with p | p | p | p | p <;> rcases h with q | q | q | q | q | q <;> first | (exfalso; omega) | (rw [p.1, p.2.1, q.1]; decide)
/-- the rows of a search: S, F found; c, t the lengths of the rows and of the table -/
def spI (S : List (Nat × Nat)) (F : List Nat) (c t : Nat) (fH fL : Nat → Int64) (fF fT : Nat → Int32) : Prop :=
  capOk c t ∧ rmF S.length ≤ c ∧ S.length ≤ 20000 ∧ F.length = S.length ∧ S.Nodup ∧ (∀ q ∈ S, small q) ∧ sRep S fH fL ∧ (∀ i, i < S.length → fF i = nI (F.getD i 0)) ∧ ∃ tv, tRep (nsF S.length) tv fT ∧ tb_ok hx (nsF S.length) tv S
theorem getD_l {α : Type} {S : List α} {q d : α} {j : Nat} (h : j < S.length) : (S ++ [q]).getD j d = S.getD j d := by
  rw [List.getD_eq_getElem?_getD, List.getElem?_append_left h, ← List.getD_eq_getElem?_getD]
theorem getD_r {α : Type} {S : List α} {q d : α} : (S ++ [q]).getD S.length d = q := by
  rw [List.getD_eq_getElem?_getD, List.getElem?_append_right (Nat.le_refl _), Nat.sub_self]; rfl
theorem spI_push {S : List (Nat × Nat)} {F : List Nat} {c t d ns o qh qn : Nat} {fH fL : Nat → Int64} {fF fT : Nat → Int32} {tv : Nat → Nat} (h1 : capOk c t) (h2 : rmF (S.length + 1) ≤ c) (h3 : S.length < 20000) (h4 : F.length = S.length) (h5 : S.Nodup) (h6 : ∀ q ∈ S, small q) (hq : small (qh, qn)) (hn : (qh, qn) ∉ S) (h7 : sRep S fH fL) (h8 : ∀ i, i < S.length → fF i = nI (F.getD i 0)) (hns : ns = nsF (S.length + 1)) (h9 : tRep ns tv fT) (h10 : tb_ok hx ns tv S) (hd : d < ns) (hs : tb_seen hx ns tv S (qh, qn) d) (h0 : tv ((hx (qh, qn) + d) % ns) = 0) :
    spI (S ++ [(qh, qn)]) (F ++ [o]) c t (vp_updL fH S.length (lN qh)) (vp_updL fL S.length (lN qn)) (upd fF S.length (nI o)) (upd fT ((hx (qh, qn) + d) % ns) (nI (S.length + 1))) := by
  have hl : (S ++ [(qh, qn)]).length = S.length + 1 := by rw [List.length_append, List.length_singleton]
  unfold spI
  rw [hl]
  refine ⟨h1, h2, by omega, by rw [List.length_append, List.length_singleton, h4], ?_, ?_, ?_, ?_, ?_⟩
  · rw [List.nodup_append]
    exact ⟨h5, by simp, fun x hx y hy e => hn (by rw [List.mem_singleton.mp hy] at e; rw [← e]; exact hx)⟩
  · intro q hq2
    rcases List.mem_append.mp hq2 with g | g
    · exact h6 q g
    · rw [List.mem_singleton.mp g]; exact hq
  · intro j hj
    rw [hl] at hj
    rcases Nat.lt_or_ge j S.length with g | g
    · rw [pk_uLn (by omega), pk_uLn (by omega), getD_l g]; exact h7 j g
    · have e : j = S.length := by omega
      subst e
      rw [pk_uLs, pk_uLs, getD_r]; exact ⟨rfl, rfl⟩
  · intro i hi
    rcases Nat.lt_or_ge i S.length with g | g
    · rw [pk_un (by omega), getD_l (by omega)]; exact h8 i g
    · have e : i = S.length := by omega
      rw [e, pk_us]
      have := getD_r (S := F) (q := o) (d := 0)
      rw [h4] at this
      rw [this]
  · rw [← hns]
    exact ⟨_, tRep_put h9, tb_put h10 hd hs h0⟩
theorem bf_vis_in {S : List (Nat × Nat)} {F : List Nat} {q : Nat × Nat} {o : Nat} (h : q ∈ S) : bf_vis q o (S, F, true) = (S, F, true) := by
  unfold bf_vis; rw [if_neg (by simp), if_pos h]
theorem bf_vis_full {S : List (Nat × Nat)} {F : List Nat} {q : Nat × Nat} {o : Nat} (h : q ∉ S) (h2 : 20000 ≤ S.length) : bf_vis q o (S, F, true) = (S, F, false) := by
  unfold bf_vis; rw [if_neg (by simp), if_neg h, if_pos h2]
theorem bf_vis_new {S : List (Nat × Nat)} {F : List Nat} {q : Nat × Nat} {o : Nat} (h : q ∉ S) (h2 : ¬ 20000 ≤ S.length) : bf_vis q o (S, F, true) = (S ++ [q], F ++ [o], true) := by
  unfold bf_vis; rw [if_neg (by simp), if_neg h, if_neg h2]
set_option maxHeartbeats 4000000 in
set_option maxRecDepth 100000 in
/-- a state that was come to -/
theorem c_meet (l : Launch) (D : va_G) (cI cJ : ClassId) (sz : Nat) (sp ah al af ae ta cap tl ended br qh qn o : Nat) (fH fL : Nat → Int64) (fF fE fT : Nat → Int32) (S : List (Nat × Nat)) (F : List Nat) (hI : spI S F cap tl fH fL fF fT) (hq : small (qh, qn)) (ho : o < 2 ^ 31) : KI l D cI cJ yX2_meet cX2_meet 7 (some .boolean) 3 63 (gc (max cap (rmF (bf_vis (qh, qn) o (S, F, true)).1.length)) - gc cap) (gs (max cap (rmF (bf_vis (qh, qn) o (S, F, true)).1.length)) - gs cap) [.ref sp, .long (lN qh), .long (lN qn), .int (nI o)] [(sp, .inr (2, [.ref ah, .ref al, .ref af, .ref ae, .ref ta, .int (nI (rmF S.length)), .int (nI (nsF S.length)), .int (nI S.length), .int (nI ended), .int (nI br)])), (ah, .inl (cJ, cap, .inr (.inl fH))), (al, .inl (cJ, cap, .inr (.inl fL))), (af, .inl (cI, cap, .inl fF)), (ae, .inl (cI, cap, .inl fE)), (ta, .inl (cI, tl, .inl fT))] sz (S := BB × SpT) (fun r u => u.1 = bf_vis (qh, qn) o (S, F, true) ∧ r = (if u.1.2.2 = true then nI 1 else nI 0) ∧ spI u.1.1 u.1.2.1 u.2.1 (u.2.2.1) (u.2.2.2.2.2.2.2.2.1) (u.2.2.2.2.2.2.2.2.2.1) (u.2.2.2.2.2.2.2.2.2.2.1) (u.2.2.2.2.2.2.2.2.2.2.2.2) ∧ u.2.1 = max cap (rmF u.1.1.length) ∧ ∀ i, i < cap → u.2.2.2.2.2.2.2.2.2.2.2.1 i = fE i) (fun u => [(sp, .inr (2, [.ref u.2.2.2.1, .ref u.2.2.2.2.1, .ref u.2.2.2.2.2.1, .ref u.2.2.2.2.2.2.1, .ref u.2.2.2.2.2.2.2.1, .int (nI (rmF u.1.1.length)), .int (nI (nsF u.1.1.length)), .int (nI u.1.1.length), .int (nI ended), .int (nI br)])), (u.2.2.2.1, .inl (cJ, u.2.1, .inr (.inl u.2.2.2.2.2.2.2.2.1))), (u.2.2.2.2.1, .inl (cJ, u.2.1, .inr (.inl u.2.2.2.2.2.2.2.2.2.1))), (u.2.2.2.2.2.1, .inl (cI, u.2.1, .inl u.2.2.2.2.2.2.2.2.2.2.1)), (u.2.2.2.2.2.2.1, .inl (cI, u.2.1, .inl u.2.2.2.2.2.2.2.2.2.2.2.1)), (u.2.2.2.2.2.2.2.1, .inl (cI, u.2.2.1, .inl u.2.2.2.2.2.2.2.2.2.2.2.2))]) := by
  refine zMetI (lv := [(0, .ref sp), (1, .long (lN qh)), (3, .long (lN qn)), (5, .int (nI o))]) NS0_ok (by decide) rfl (Nat.le_of_ble_eq_true rfl) rfl ?_
  intro p e s m args below meth c A X hin hA
  obtain ⟨i1, i2, i3, i4, i5, i6, i7, i8, tv, i9, i10⟩ := id hI
  have rf := rm_facts i3
  obtain ⟨hk1, hk2⟩ := nsF_k S.length
  obtain ⟨n3, n4⟩ := cap_ns i1 i2
  refine z_aload_n X (pc' := 1) dX2_meet_0 rfl 0 rfl rfl ?_
  refine z_lload_n X (pc' := 2) dX2_meet_1 rfl 1 rfl rfl ?_
  refine z_lload_n X (pc' := 3) dX2_meet_2 rfl 2 rfl rfl ?_
  refine z_callVi X (pc' := 6) (fun sz => c_slotOf l D cI cJ sz sp ah al af ae ta cap tl (rmF S.length) ((nsF S.length)) (kkF S.length) S.length ended br qh qn fH fL fT S tv hk1 hk2 (by omega) (by omega) (by omega) i7 i9 i10 i6 hq) (zcwV X TTg 2 mL_X2_69 mI_X2_slotOf mS_X2_slotOf mN_X2 mK_X2_slotOf rfl rfl (by decide +kernel) ⟨(Nat.le_of_ble_eq_true rfl), (Nat.le_of_ble_eq_true rfl)⟩) (wr := [(af, .inl (cI, cap, .inl fF)), (ae, .inl (cI, cap, .inl fE))]) [0, 1, 2, 5] [3, 4] rfl rfl rfl rfl (by decide) 2 0 rfl rfl rfl rfl rfl (Nat.le_of_ble_eq_true rfl) dX2_meet_3 ⟨Nat.zero_le _, Nat.zero_le _⟩ rfl (fun r u hu => ?_)
  obtain ⟨d, ⟨hd1d, hd2d, hd3d⟩, hr⟩ := hu
  have hr : r = nI ((hx (qh, qn) + d) % (nsF S.length)) := hr
  subst hr
  have hsld : (hx (qh, qn) + d) % (nsF S.length) < (nsF S.length) := Nat.mod_lt _ (by omega)
  refine z_wse (ws' := [(af, .inl (cI, cap, .inl fF)), (ae, .inl (cI, cap, .inl fE)), (sp, .inr (2, [.ref ah, .ref al, .ref af, .ref ae, .ref ta, .int (nI (rmF S.length)), .int (nI (nsF S.length)), .int (nI S.length), .int (nI ended), .int (nI br)])), (ah, .inl (cJ, cap, .inr (.inl fH))), (al, .inl (cJ, cap, .inr (.inl fL))), (ta, .inl (cI, tl, .inl fT))]) rfl ?_
  refine z_istore X (lv' := [(6, .int (nI ((hx (qh, qn) + d) % (nsF S.length)))), (0, .ref sp), (1, .long (lN qh)), (3, .long (lN qn)), (5, .int (nI o))]) (pc' := 8) dX2_meet_6 (by decide) rfl rfl ?_
  refine z_aload_n X (pc' := 9) dX2_meet_8 rfl 1 rfl rfl ?_
  refine z_get X (v := .ref ta) (pc' := 12) 2 rfl rfl inX2 4 (by decide) mF_X2_25 rfl dX2_meet_9 rfl ?_
  refine z_iload X (pc' := 14) dX2_meet_12 0 rfl rfl ?_
  refine z_iald X (pc' := 15) 5 0 rfl rfl (by omega) (by omega) dX2_meet_14 rfl ?_
  refine z_topi (y := nI (tv ((hx (qh, qn) + d) % (nsF S.length)))) (i9 _ hsld) ?_
  refine z_if_eqN X (tgt := 20) (pc' := 18) (by have := i10.1 _ hsld; omega) dX2_meet_15 (by decide) rfl (fun h1 => ?_) (fun h1 => ?_)
  · have hz : tv ((hx (qh, qn) + d) % (nsF S.length)) = 0 := h1
    have hnm : (qh, qn) ∉ S := tb_miss i10 hd2d hz
    refine z_aload_n X (pc' := 21) dX2_meet_20 rfl 1 rfl rfl ?_
    refine z_get X (v := .int (nI S.length)) (pc' := 24) 2 rfl rfl inX2 7 (by decide) mF_X2_35 rfl dX2_meet_21 rfl ?_
    refine z_sipush X (v := nI 20000) (pc' := 27) dX2_meet_24 (by decide) rfl ?_
    refine z_icmp_ltN X (tgt := 32) (pc' := 30) (by omega) (by decide) dX2_meet_27 (by decide) rfl (fun h2 => ?_) (fun h2 => ?_)
    · have h20 : ¬ 20000 ≤ S.length := by omega
      have hB : bf_vis (qh, qn) o (S, F, true) = (S ++ [(qh, qn)], F ++ [o], true) := bf_vis_new hnm h20
      have hBl : (S ++ [(qh, qn)]).length = S.length + 1 := by rw [List.length_append, List.length_singleton]
      refine z_aload_n X (pc' := 33) dX2_meet_32 rfl 1 rfl rfl ?_
      refine z_get X (v := .int (nI S.length)) (pc' := 36) 2 rfl rfl inX2 7 (by decide) mF_X2_35 rfl dX2_meet_33 rfl ?_
      refine z_aload_n X (pc' := 37) dX2_meet_36 rfl 1 rfl rfl ?_
      refine z_get X (v := .int (nI (rmF S.length))) (pc' := 40) 2 rfl rfl inX2 5 (by decide) mF_X2_28 rfl dX2_meet_37 rfl ?_
      refine z_icmp_ltN X (tgt := 67) (pc' := 43) (by omega) (by omega) dX2_meet_40 (by decide) rfl (fun h3 => ?_) (fun h3 => ?_)
      · obtain ⟨r1, r2⟩ := rm_same (show S.length < rmF S.length by omega) (by omega)
        refine z_aload_n X (pc' := 68) dX2_meet_67 rfl 1 rfl rfl ?_
        refine z_get X (v := .ref ah) (pc' := 71) 2 rfl rfl inX2 0 (by decide) mF_X2_9 rfl dX2_meet_68 rfl ?_
        refine z_aload_n X (pc' := 72) dX2_meet_71 rfl 1 rfl rfl ?_
        refine z_get X (v := .int (nI S.length)) (pc' := 75) 2 rfl rfl inX2 7 (by decide) mF_X2_35 rfl dX2_meet_72 rfl ?_
        refine z_lload_n X (pc' := 76) dX2_meet_75 rfl 2 rfl rfl ?_
        refine z_last X (ws' := [(af, .inl (cI, cap, .inl fF)), (ae, .inl (cI, cap, .inl fE)), (sp, .inr (2, [.ref ah, .ref al, .ref af, .ref ae, .ref ta, .int (nI (rmF S.length)), .int (nI (nsF S.length)), .int (nI S.length), .int (nI ended), .int (nI br)])), (ah, .inl (cJ, cap, .inr (.inl (vp_updL fH S.length (lN qh))))), (al, .inl (cJ, cap, .inr (.inl fL))), (ta, .inl (cI, tl, .inl fT))]) (pc' := 77) 3 1 rfl rfl (by omega) (by omega) dX2_meet_76 rfl rfl ?_
        refine z_aload_n X (pc' := 78) dX2_meet_77 rfl 1 rfl rfl ?_
        refine z_get X (v := .ref al) (pc' := 81) 2 rfl rfl inX2 1 (by decide) mF_X2_15 rfl dX2_meet_78 rfl ?_
        refine z_aload_n X (pc' := 82) dX2_meet_81 rfl 1 rfl rfl ?_
        refine z_get X (v := .int (nI S.length)) (pc' := 85) 2 rfl rfl inX2 7 (by decide) mF_X2_35 rfl dX2_meet_82 rfl ?_
        refine z_lload_n X (pc' := 86) dX2_meet_85 rfl 3 rfl rfl ?_
        refine z_last X (ws' := [(af, .inl (cI, cap, .inl fF)), (ae, .inl (cI, cap, .inl fE)), (sp, .inr (2, [.ref ah, .ref al, .ref af, .ref ae, .ref ta, .int (nI (rmF S.length)), .int (nI (nsF S.length)), .int (nI S.length), .int (nI ended), .int (nI br)])), (ah, .inl (cJ, cap, .inr (.inl (vp_updL fH S.length (lN qh))))), (al, .inl (cJ, cap, .inr (.inl (vp_updL fL S.length (lN qn))))), (ta, .inl (cI, tl, .inl fT))]) (pc' := 87) 4 1 rfl rfl (by omega) (by omega) dX2_meet_86 rfl rfl ?_
        refine z_aload_n X (pc' := 88) dX2_meet_87 rfl 1 rfl rfl ?_
        refine z_get X (v := .ref af) (pc' := 91) 2 rfl rfl inX2 2 (by decide) mF_X2_18 rfl dX2_meet_88 rfl ?_
        refine z_aload_n X (pc' := 92) dX2_meet_91 rfl 1 rfl rfl ?_
        refine z_get X (v := .int (nI S.length)) (pc' := 95) 2 rfl rfl inX2 7 (by decide) mF_X2_35 rfl dX2_meet_92 rfl ?_
        refine z_iload X (pc' := 97) dX2_meet_95 4 rfl rfl ?_
        refine z_iast X (ws' := [(af, .inl (cI, cap, .inl (upd fF S.length (nI o)))), (ae, .inl (cI, cap, .inl fE)), (sp, .inr (2, [.ref ah, .ref al, .ref af, .ref ae, .ref ta, .int (nI (rmF S.length)), .int (nI (nsF S.length)), .int (nI S.length), .int (nI ended), .int (nI br)])), (ah, .inl (cJ, cap, .inr (.inl (vp_updL fH S.length (lN qh))))), (al, .inl (cJ, cap, .inr (.inl (vp_updL fL S.length (lN qn))))), (ta, .inl (cI, tl, .inl fT))]) (pc' := 98) 0 0 rfl rfl (by omega) (by omega) dX2_meet_97 rfl rfl ?_
        refine z_aload_n X (pc' := 99) dX2_meet_98 rfl 1 rfl rfl ?_
        refine z_dup X (pc' := 100) dX2_meet_99 rfl rfl ?_
        refine z_get X (v := .int (nI S.length)) (pc' := 103) 2 rfl rfl inX2 7 (by decide) mF_X2_35 rfl dX2_meet_100 rfl ?_
        refine z_iconst X (v := nI 1) (pc' := 104) dX2_meet_103 (by decide) rfl ?_
        refine z_iadd X (pc' := 105) dX2_meet_104 rfl ?_
        refine z_topi (y := nI (S.length + 1)) (nI_add _ _) ?_
        refine z_put X (t1 := .int) (ws' := [(af, .inl (cI, cap, .inl (upd fF S.length (nI o)))), (ae, .inl (cI, cap, .inl fE)), (sp, .inr (2, [.ref ah, .ref al, .ref af, .ref ae, .ref ta, .int (nI (rmF S.length)), .int (nI (nsF S.length)), .int (nI (S.length + 1)), .int (nI ended), .int (nI br)])), (ah, .inl (cJ, cap, .inr (.inl (vp_updL fH S.length (lN qh))))), (al, .inl (cJ, cap, .inr (.inl (vp_updL fL S.length (lN qn))))), (ta, .inl (cI, tl, .inl fT))]) (pc' := 108) 2 rfl rfl inX2 tyX2 tyX2_ok nmX2 7 (by decide) mF_X2_35 rfl (by decide +kernel) rfl rfl (Nat.le_of_ble_eq_true rfl) dX2_meet_105 rfl rfl ?_
        refine z_aload_n X (pc' := 109) dX2_meet_108 rfl 1 rfl rfl ?_
        refine z_get X (v := .ref ta) (pc' := 112) 2 rfl rfl inX2 4 (by decide) mF_X2_25 rfl dX2_meet_109 rfl ?_
        refine z_iload X (pc' := 114) dX2_meet_112 0 rfl rfl ?_
        refine z_aload_n X (pc' := 115) dX2_meet_114 rfl 1 rfl rfl ?_
        refine z_get X (v := .int (nI (S.length + 1))) (pc' := 118) 2 rfl rfl inX2 7 (by decide) mF_X2_35 rfl dX2_meet_115 rfl ?_
        refine z_iast X (ws' := [(af, .inl (cI, cap, .inl (upd fF S.length (nI o)))), (ae, .inl (cI, cap, .inl fE)), (sp, .inr (2, [.ref ah, .ref al, .ref af, .ref ae, .ref ta, .int (nI (rmF S.length)), .int (nI (nsF S.length)), .int (nI (S.length + 1)), .int (nI ended), .int (nI br)])), (ah, .inl (cJ, cap, .inr (.inl (vp_updL fH S.length (lN qh))))), (al, .inl (cJ, cap, .inr (.inl (vp_updL fL S.length (lN qn))))), (ta, .inl (cI, tl, .inl (upd fT ((hx (qh, qn) + d) % (nsF S.length)) (nI (S.length + 1)))))]) (pc' := 119) 5 0 rfl rfl (by omega) (by omega) dX2_meet_118 rfl rfl ?_
        refine z_iconst X (v := nI 1) (pc' := 120) dX2_meet_119 (by decide) rfl ?_
        refine z_ws (ws' := [(sp, .inr (2, [.ref ah, .ref al, .ref af, .ref ae, .ref ta, .int (nI (rmF S.length)), .int (nI (nsF S.length)), .int (nI (S.length + 1)), .int (nI ended), .int (nI br)])), (ah, .inl (cJ, cap, .inr (.inl (vp_updL fH S.length (lN qh))))), (al, .inl (cJ, cap, .inr (.inl (vp_updL fL S.length (lN qn))))), (af, .inl (cI, cap, .inl (upd fF S.length (nI o)))), (ae, .inl (cI, cap, .inl fE)), (ta, .inl (cI, tl, .inl (upd fT ((hx (qh, qn) + d) % (nsF S.length)) (nI (S.length + 1)))))]) [2, 3, 4, 0, 1, 5] (by decide) rfl ?_
        refine z_wse (ws' := [(sp, .inr (2, [.ref ah, .ref al, .ref af, .ref ae, .ref ta, .int (nI (rmF ((S ++ [(qh, qn)]).length))), .int (nI (nsF ((S ++ [(qh, qn)]).length))), .int (nI ((S ++ [(qh, qn)]).length)), .int (nI ended), .int (nI br)])), (ah, .inl (cJ, cap, .inr (.inl (vp_updL fH S.length (lN qh))))), (al, .inl (cJ, cap, .inr (.inl (vp_updL fL S.length (lN qn))))), (af, .inl (cI, cap, .inl (upd fF S.length (nI o)))), (ae, .inl (cI, cap, .inl fE)), (ta, .inl (cI, tl, .inl (upd fT ((hx (qh, qn) + d) % (nsF S.length)) (nI (S.length + 1)))))]) (by rw [hBl, r1, r2]) ?_
        have hp2 : rmF (S.length + 1) ≤ cap := by omega
        exact z_iret X (t1 := .boolean) rfl rfl ((S ++ [(qh, qn)], F ++ [o], true), cap, tl, ah, al, af, ae, ta, (vp_updL fH S.length (lN qh)), (vp_updL fL S.length (lN qn)), (upd fF S.length (nI o)), (fE), (upd fT ((hx (qh, qn) + d) % (nsF S.length)) (nI (S.length + 1)))) ⟨hB.symm, rfl, spI_push (ns := nsF S.length) i1 hp2 (by omega) i4 i5 i6 hq hnm i7 i8 (by rw [r2]) i9 i10 hd1d hd2d hz, by show cap = max cap (rmF (S ++ [(qh, qn)]).length); rw [hBl, r1]; omega, fun _ _ => rfl⟩ rfl (Nat.zero_le _) (Nat.zero_le _) dX2_meet_120
      · obtain ⟨r1, r2, r3⟩ := rm_next (show rmF S.length ≤ S.length by omega) (by omega)
        have r4 := rm_facts (n := S.length + 1) (by omega)
        obtain ⟨hk3, hk4⟩ := nsF_k (S.length + 1)
        have hcost : 0 + 0 + (if cap < rmF (S.length + 1) then 5 else 0) ≤ gc (max cap (rmF (bf_vis (qh, qn) o (S, F, true)).1.length)) - gc cap ∧ 0 + 0 + (if cap < rmF (S.length + 1) then 4 * rmF (S.length + 1) + nsF (S.length + 1) else 0) ≤ gs (max cap (rmF (bf_vis (qh, qn) o (S, F, true)).1.length)) - gs cap := by rw [hB]; show _ ≤ gc (max cap (rmF (S ++ [(qh, qn)]).length)) - gc cap ∧ _ ≤ gs (max cap (rmF (S ++ [(qh, qn)]).length)) - gs cap; rw [hBl]; by_cases g : cap < rmF (S.length + 1); (rw [if_pos g, if_pos g, Nat.max_eq_right (by omega)]; have := cap_cost i1 i2 r1 r2 (by omega) g; omega); (rw [if_neg g, if_neg g]; omega)
        refine z_aload_n X (pc' := 44) dX2_meet_43 rfl 1 rfl rfl ?_
        refine z_aload_n X (pc' := 45) dX2_meet_44 rfl 1 rfl rfl ?_
        refine z_get X (v := .int (nI (rmF S.length))) (pc' := 48) 2 rfl rfl inX2 5 (by decide) mF_X2_28 rfl dX2_meet_45 rfl ?_
        refine z_iconst X (v := nI 4) (pc' := 49) dX2_meet_48 (by decide) rfl ?_
        refine z_imul X (pc' := 50) dX2_meet_49 rfl ?_
        refine z_topi (y := nI ((rmF S.length) * 4)) (pk_mul _ _) ?_
        refine z_topi (y := nI (rmF (S.length + 1))) (by rw [r1]) ?_
        refine z_aload_n X (pc' := 51) dX2_meet_50 rfl 1 rfl rfl ?_
        refine z_get X (v := .int (nI (nsF S.length))) (pc' := 54) 2 rfl rfl inX2 6 (by decide) mF_X2_32 rfl dX2_meet_51 rfl ?_
        refine z_iconst X (v := nI 4) (pc' := 55) dX2_meet_54 (by decide) rfl ?_
        refine z_imul X (pc' := 56) dX2_meet_55 rfl ?_
        refine z_topi (y := nI ((nsF S.length) * 4)) (pk_mul _ _) ?_
        refine z_topi (y := nI (nsF (S.length + 1))) (by rw [r2]) ?_
        refine z_callVv X (pc' := 59) (fun sz => c_setRoom l D cI cJ sz sp ah al af ae ta cap tl (rmF S.length) (nsF S.length) (rmF (S.length + 1)) (nsF (S.length + 1)) (kkF (S.length + 1)) ended br fH fL fF fE fT S hk3 hk4 (by omega) (by omega) (by by_cases g : cap < rmF (S.length + 1); exact Or.inl g; exact Or.inr (cap_ns i1 (by omega)).1) (by omega) (by omega) (by omega) i7 i5 i6) (zcwV X TTg 2 mL_X2_44 mI_X2_setRoom mS_X2_setRoom mN_X2 mK_X2_setRoom rfl rfl (by decide +kernel) ⟨(Nat.le_of_ble_eq_true rfl), (Nat.le_of_ble_eq_true rfl)⟩) (wr := []) [2, 3, 4, 0, 1, 5] [] rfl rfl rfl rfl (by decide) 2 2 rfl rfl rfl rfl rfl (Nat.le_of_ble_eq_true rfl) dX2_meet_56 ⟨hcost.1, hcost.2⟩ rfl (fun u hu => ?_)
        obtain ⟨c2, t2, ah2, al2, af2, ae2, ta2, fH2, fL2, fF2, fE2, fT2⟩ := u
        obtain ⟨g1, g2, g3, g4, tv2, g5, g6⟩ := hu
        have g1 : c2 = max cap (rmF (S.length + 1)) := g1
        have g2 : t2 = (if cap < rmF (S.length + 1) then nsF (S.length + 1) else tl) := g2
        have g3 : sRep S fH2 fL2 := g3
        have g4 : ∀ i, i < cap → fF2 i = fF i ∧ fE2 i = fE i := g4
        have g5 : tRep (nsF (S.length + 1)) tv2 fT2 := g5
        have hc2 : capOk c2 t2 := by rw [g1, g2]; exact cap_grow i1 i2 r1 r2 (by omega)
        obtain ⟨n1, n2⟩ := cap_ns (n := S.length + 1) hc2 (by omega)
        refine z_wse (ws' := [(sp, .inr (2, [.ref ah2, .ref al2, .ref af2, .ref ae2, .ref ta2, .int (nI (rmF (S.length + 1))), .int (nI (nsF (S.length + 1))), .int (nI S.length), .int (nI ended), .int (nI br)])), (ah2, .inl (cJ, c2, .inr (.inl fH2))), (al2, .inl (cJ, c2, .inr (.inl fL2))), (af2, .inl (cI, c2, .inl fF2)), (ae2, .inl (cI, c2, .inl fE2)), (ta2, .inl (cI, t2, .inl fT2))]) rfl ?_
        refine z_aload_n X (pc' := 60) dX2_meet_59 rfl 1 rfl rfl ?_
        refine z_lload_n X (pc' := 61) dX2_meet_60 rfl 2 rfl rfl ?_
        refine z_lload_n X (pc' := 62) dX2_meet_61 rfl 3 rfl rfl ?_
        refine z_callVi X (pc' := 65) (fun sz => c_slotOf l D cI cJ sz sp ah2 al2 af2 ae2 ta2 c2 t2 (rmF (S.length + 1)) ((nsF (S.length + 1))) (kkF (S.length + 1)) S.length ended br qh qn fH2 fL2 fT2 S tv2 hk3 hk4 (by omega) (by omega) (by omega) g3 g5 g6 i6 hq) (zcwV X TTg 2 mL_X2_69 mI_X2_slotOf mS_X2_slotOf mN_X2 mK_X2_slotOf rfl rfl (by decide +kernel) ⟨(Nat.le_of_ble_eq_true rfl), (Nat.le_of_ble_eq_true rfl)⟩) (wr := [(af2, .inl (cI, c2, .inl fF2)), (ae2, .inl (cI, c2, .inl fE2))]) [0, 1, 2, 5] [3, 4] rfl rfl rfl rfl (by decide) 2 0 rfl rfl rfl rfl rfl (Nat.le_of_ble_eq_true rfl) dX2_meet_62 ⟨hcost.1, hcost.2⟩ rfl (fun r u hu => ?_)
        obtain ⟨d2, ⟨hd1d2, hd2d2, hd3d2⟩, hr⟩ := hu
        have hr : r = nI ((hx (qh, qn) + d2) % (nsF (S.length + 1))) := hr
        subst hr
        have hsld2 : (hx (qh, qn) + d2) % (nsF (S.length + 1)) < (nsF (S.length + 1)) := Nat.mod_lt _ (by omega)
        refine z_wse (ws' := [(af2, .inl (cI, c2, .inl fF2)), (ae2, .inl (cI, c2, .inl fE2)), (sp, .inr (2, [.ref ah2, .ref al2, .ref af2, .ref ae2, .ref ta2, .int (nI (rmF (S.length + 1))), .int (nI (nsF (S.length + 1))), .int (nI S.length), .int (nI ended), .int (nI br)])), (ah2, .inl (cJ, c2, .inr (.inl fH2))), (al2, .inl (cJ, c2, .inr (.inl fL2))), (ta2, .inl (cI, t2, .inl fT2))]) rfl ?_
        refine z_istore X (lv' := [(6, .int (nI ((hx (qh, qn) + d2) % (nsF (S.length + 1))))), (0, .ref sp), (1, .long (lN qh)), (3, .long (lN qn)), (5, .int (nI o))]) (pc' := 67) dX2_meet_65 (by decide) rfl rfl ?_
        have hz2 : tv2 ((hx (qh, qn) + d2) % (nsF (S.length + 1))) = 0 := by rcases hd3d2 with q | q; exact q; exact absurd (List.mem_of_getElem? q.2) hnm
        refine z_aload_n X (pc' := 68) dX2_meet_67 rfl 1 rfl rfl ?_
        refine z_get X (v := .ref ah2) (pc' := 71) 2 rfl rfl inX2 0 (by decide) mF_X2_9 rfl dX2_meet_68 rfl ?_
        refine z_aload_n X (pc' := 72) dX2_meet_71 rfl 1 rfl rfl ?_
        refine z_get X (v := .int (nI S.length)) (pc' := 75) 2 rfl rfl inX2 7 (by decide) mF_X2_35 rfl dX2_meet_72 rfl ?_
        refine z_lload_n X (pc' := 76) dX2_meet_75 rfl 2 rfl rfl ?_
        refine z_last X (ws' := [(af2, .inl (cI, c2, .inl fF2)), (ae2, .inl (cI, c2, .inl fE2)), (sp, .inr (2, [.ref ah2, .ref al2, .ref af2, .ref ae2, .ref ta2, .int (nI (rmF (S.length + 1))), .int (nI (nsF (S.length + 1))), .int (nI S.length), .int (nI ended), .int (nI br)])), (ah2, .inl (cJ, c2, .inr (.inl (vp_updL fH2 S.length (lN qh))))), (al2, .inl (cJ, c2, .inr (.inl fL2))), (ta2, .inl (cI, t2, .inl fT2))]) (pc' := 77) 3 1 rfl rfl (by omega) (by omega) dX2_meet_76 rfl rfl ?_
        refine z_aload_n X (pc' := 78) dX2_meet_77 rfl 1 rfl rfl ?_
        refine z_get X (v := .ref al2) (pc' := 81) 2 rfl rfl inX2 1 (by decide) mF_X2_15 rfl dX2_meet_78 rfl ?_
        refine z_aload_n X (pc' := 82) dX2_meet_81 rfl 1 rfl rfl ?_
        refine z_get X (v := .int (nI S.length)) (pc' := 85) 2 rfl rfl inX2 7 (by decide) mF_X2_35 rfl dX2_meet_82 rfl ?_
        refine z_lload_n X (pc' := 86) dX2_meet_85 rfl 3 rfl rfl ?_
        refine z_last X (ws' := [(af2, .inl (cI, c2, .inl fF2)), (ae2, .inl (cI, c2, .inl fE2)), (sp, .inr (2, [.ref ah2, .ref al2, .ref af2, .ref ae2, .ref ta2, .int (nI (rmF (S.length + 1))), .int (nI (nsF (S.length + 1))), .int (nI S.length), .int (nI ended), .int (nI br)])), (ah2, .inl (cJ, c2, .inr (.inl (vp_updL fH2 S.length (lN qh))))), (al2, .inl (cJ, c2, .inr (.inl (vp_updL fL2 S.length (lN qn))))), (ta2, .inl (cI, t2, .inl fT2))]) (pc' := 87) 4 1 rfl rfl (by omega) (by omega) dX2_meet_86 rfl rfl ?_
        refine z_aload_n X (pc' := 88) dX2_meet_87 rfl 1 rfl rfl ?_
        refine z_get X (v := .ref af2) (pc' := 91) 2 rfl rfl inX2 2 (by decide) mF_X2_18 rfl dX2_meet_88 rfl ?_
        refine z_aload_n X (pc' := 92) dX2_meet_91 rfl 1 rfl rfl ?_
        refine z_get X (v := .int (nI S.length)) (pc' := 95) 2 rfl rfl inX2 7 (by decide) mF_X2_35 rfl dX2_meet_92 rfl ?_
        refine z_iload X (pc' := 97) dX2_meet_95 4 rfl rfl ?_
        refine z_iast X (ws' := [(af2, .inl (cI, c2, .inl (upd fF2 S.length (nI o)))), (ae2, .inl (cI, c2, .inl fE2)), (sp, .inr (2, [.ref ah2, .ref al2, .ref af2, .ref ae2, .ref ta2, .int (nI (rmF (S.length + 1))), .int (nI (nsF (S.length + 1))), .int (nI S.length), .int (nI ended), .int (nI br)])), (ah2, .inl (cJ, c2, .inr (.inl (vp_updL fH2 S.length (lN qh))))), (al2, .inl (cJ, c2, .inr (.inl (vp_updL fL2 S.length (lN qn))))), (ta2, .inl (cI, t2, .inl fT2))]) (pc' := 98) 0 0 rfl rfl (by omega) (by omega) dX2_meet_97 rfl rfl ?_
        refine z_aload_n X (pc' := 99) dX2_meet_98 rfl 1 rfl rfl ?_
        refine z_dup X (pc' := 100) dX2_meet_99 rfl rfl ?_
        refine z_get X (v := .int (nI S.length)) (pc' := 103) 2 rfl rfl inX2 7 (by decide) mF_X2_35 rfl dX2_meet_100 rfl ?_
        refine z_iconst X (v := nI 1) (pc' := 104) dX2_meet_103 (by decide) rfl ?_
        refine z_iadd X (pc' := 105) dX2_meet_104 rfl ?_
        refine z_topi (y := nI (S.length + 1)) (nI_add _ _) ?_
        refine z_put X (t1 := .int) (ws' := [(af2, .inl (cI, c2, .inl (upd fF2 S.length (nI o)))), (ae2, .inl (cI, c2, .inl fE2)), (sp, .inr (2, [.ref ah2, .ref al2, .ref af2, .ref ae2, .ref ta2, .int (nI (rmF (S.length + 1))), .int (nI (nsF (S.length + 1))), .int (nI (S.length + 1)), .int (nI ended), .int (nI br)])), (ah2, .inl (cJ, c2, .inr (.inl (vp_updL fH2 S.length (lN qh))))), (al2, .inl (cJ, c2, .inr (.inl (vp_updL fL2 S.length (lN qn))))), (ta2, .inl (cI, t2, .inl fT2))]) (pc' := 108) 2 rfl rfl inX2 tyX2 tyX2_ok nmX2 7 (by decide) mF_X2_35 rfl (by decide +kernel) rfl rfl (Nat.le_of_ble_eq_true rfl) dX2_meet_105 rfl rfl ?_
        refine z_aload_n X (pc' := 109) dX2_meet_108 rfl 1 rfl rfl ?_
        refine z_get X (v := .ref ta2) (pc' := 112) 2 rfl rfl inX2 4 (by decide) mF_X2_25 rfl dX2_meet_109 rfl ?_
        refine z_iload X (pc' := 114) dX2_meet_112 0 rfl rfl ?_
        refine z_aload_n X (pc' := 115) dX2_meet_114 rfl 1 rfl rfl ?_
        refine z_get X (v := .int (nI (S.length + 1))) (pc' := 118) 2 rfl rfl inX2 7 (by decide) mF_X2_35 rfl dX2_meet_115 rfl ?_
        refine z_iast X (ws' := [(af2, .inl (cI, c2, .inl (upd fF2 S.length (nI o)))), (ae2, .inl (cI, c2, .inl fE2)), (sp, .inr (2, [.ref ah2, .ref al2, .ref af2, .ref ae2, .ref ta2, .int (nI (rmF (S.length + 1))), .int (nI (nsF (S.length + 1))), .int (nI (S.length + 1)), .int (nI ended), .int (nI br)])), (ah2, .inl (cJ, c2, .inr (.inl (vp_updL fH2 S.length (lN qh))))), (al2, .inl (cJ, c2, .inr (.inl (vp_updL fL2 S.length (lN qn))))), (ta2, .inl (cI, t2, .inl (upd fT2 ((hx (qh, qn) + d2) % (nsF (S.length + 1))) (nI (S.length + 1)))))]) (pc' := 119) 5 0 rfl rfl (by omega) (by omega) dX2_meet_118 rfl rfl ?_
        refine z_iconst X (v := nI 1) (pc' := 120) dX2_meet_119 (by decide) rfl ?_
        refine z_ws (ws' := [(sp, .inr (2, [.ref ah2, .ref al2, .ref af2, .ref ae2, .ref ta2, .int (nI (rmF (S.length + 1))), .int (nI (nsF (S.length + 1))), .int (nI (S.length + 1)), .int (nI ended), .int (nI br)])), (ah2, .inl (cJ, c2, .inr (.inl (vp_updL fH2 S.length (lN qh))))), (al2, .inl (cJ, c2, .inr (.inl (vp_updL fL2 S.length (lN qn))))), (af2, .inl (cI, c2, .inl (upd fF2 S.length (nI o)))), (ae2, .inl (cI, c2, .inl fE2)), (ta2, .inl (cI, t2, .inl (upd fT2 ((hx (qh, qn) + d2) % (nsF (S.length + 1))) (nI (S.length + 1)))))]) [2, 3, 4, 0, 1, 5] (by decide) rfl ?_
        refine z_wse (ws' := [(sp, .inr (2, [.ref ah2, .ref al2, .ref af2, .ref ae2, .ref ta2, .int (nI (rmF ((S ++ [(qh, qn)]).length))), .int (nI (nsF ((S ++ [(qh, qn)]).length))), .int (nI ((S ++ [(qh, qn)]).length)), .int (nI ended), .int (nI br)])), (ah2, .inl (cJ, c2, .inr (.inl (vp_updL fH2 S.length (lN qh))))), (al2, .inl (cJ, c2, .inr (.inl (vp_updL fL2 S.length (lN qn))))), (af2, .inl (cI, c2, .inl (upd fF2 S.length (nI o)))), (ae2, .inl (cI, c2, .inl fE2)), (ta2, .inl (cI, t2, .inl (upd fT2 ((hx (qh, qn) + d2) % (nsF (S.length + 1))) (nI (S.length + 1)))))]) (by rw [hBl]) ?_
        have hp2 : rmF (S.length + 1) ≤ c2 := by omega
        exact z_iret X (t1 := .boolean) rfl rfl ((S ++ [(qh, qn)], F ++ [o], true), c2, t2, ah2, al2, af2, ae2, ta2, (vp_updL fH2 S.length (lN qh)), (vp_updL fL2 S.length (lN qn)), (upd fF2 S.length (nI o)), (fE2), (upd fT2 ((hx (qh, qn) + d2) % (nsF (S.length + 1))) (nI (S.length + 1)))) ⟨hB.symm, rfl, spI_push (ns := nsF (S.length + 1)) hc2 hp2 (by omega) i4 i5 i6 hq hnm g3 (fun i hi => by rw [(g4 i (by omega)).1]; exact i8 i hi) rfl g5 g6 hd1d2 hd2d2 hz2, by show c2 = max cap (rmF (S ++ [(qh, qn)]).length); rw [hBl]; exact g1, fun i hi => (g4 i hi).2⟩ rfl (by have := hcost.1; omega) (by have := hcost.2; omega) dX2_meet_120
    · have h20 : 20000 ≤ S.length := by omega
      have hB : bf_vis (qh, qn) o (S, F, true) = (S, F, false) := bf_vis_full hnm h20
      refine z_iconst X (v := nI 0) (pc' := 31) dX2_meet_30 (by decide) rfl ?_
      refine z_ws (ws' := [(sp, .inr (2, [.ref ah, .ref al, .ref af, .ref ae, .ref ta, .int (nI (rmF S.length)), .int (nI (nsF S.length)), .int (nI S.length), .int (nI ended), .int (nI br)])), (ah, .inl (cJ, cap, .inr (.inl fH))), (al, .inl (cJ, cap, .inr (.inl fL))), (af, .inl (cI, cap, .inl fF)), (ae, .inl (cI, cap, .inl fE)), (ta, .inl (cI, tl, .inl fT))]) [2, 3, 4, 0, 1, 5] (by decide) rfl ?_
      exact z_iret X (t1 := .boolean) rfl rfl ((S, F, false), cap, tl, ah, al, af, ae, ta, (fH), (fL), (fF), (fE), (fT)) ⟨hB.symm, rfl, hI, by show cap = max cap (rmF S.length); omega, fun _ _ => rfl⟩ rfl (Nat.zero_le _) (Nat.zero_le _) dX2_meet_31
  · have hz : ¬ tv ((hx (qh, qn) + d) % (nsF S.length)) = 0 := h1
    have hmem : (qh, qn) ∈ S := by rcases hd3d with q | q; exact absurd q hz; exact List.mem_of_getElem? q.2
    have hB : bf_vis (qh, qn) o (S, F, true) = (S, F, true) := bf_vis_in hmem
    refine z_iconst X (v := nI 1) (pc' := 19) dX2_meet_18 (by decide) rfl ?_
    refine z_ws (ws' := [(sp, .inr (2, [.ref ah, .ref al, .ref af, .ref ae, .ref ta, .int (nI (rmF S.length)), .int (nI (nsF S.length)), .int (nI S.length), .int (nI ended), .int (nI br)])), (ah, .inl (cJ, cap, .inr (.inl fH))), (al, .inl (cJ, cap, .inr (.inl fL))), (af, .inl (cI, cap, .inl fF)), (ae, .inl (cI, cap, .inl fE)), (ta, .inl (cI, tl, .inl fT))]) [2, 3, 4, 0, 1, 5] (by decide) rfl ?_
    exact z_iret X (t1 := .boolean) rfl rfl ((S, F, true), cap, tl, ah, al, af, ae, ta, (fH), (fL), (fF), (fE), (fT)) ⟨hB.symm, rfl, hI, by show cap = max cap (rmF S.length); omega, fun _ _ => rfl⟩ rfl (Nat.zero_le _) (Nat.zero_le _) dX2_meet_19


/-! the desk and the reference answer alike -/
theorem addQ_det {P : Nat → List Nat} {x y z w r r' : Int32} {Q Q' : Nat → List Nat} (h : addQ P x y z w r Q) (h' : addQ P x y z w r' Q') : r = r' ∧ Q = Q' := by
  rcases h with ⟨t, k, a, b, h1, h2, h3⟩ | ⟨h1, h2, h3⟩
  · rcases h' with ⟨t', k', a', b', g1, g2, g3⟩ | ⟨g1, g2, g3⟩
    · have e1 : t = t' := (nI_eq (by have := h1.1; omega) (by have := g1.1; omega)).mp (h1.2.1.symm.trans g1.2.1)
      have e2 : k = k' := (nI_eq (by have := h1.2.2.1.1; omega) (by have := g1.2.2.1.1; omega)).mp (h1.2.2.1.2.2.2.2.2.1.symm.trans g1.2.2.1.2.2.2.2.2.1)
      have e3 : a = a' := (nI_eq (by have := h1.2.2.1.2.1; omega) (by have := g1.2.2.1.2.1; omega)).mp (h1.2.2.1.2.2.2.2.2.2.1.symm.trans g1.2.2.1.2.2.2.2.2.2.1)
      have e4 : b = b' := (nI_eq (by have := h1.2.2.1.2.2.1; omega) (by have := g1.2.2.1.2.2.1; omega)).mp (h1.2.2.1.2.2.2.2.2.2.2.symm.trans g1.2.2.1.2.2.2.2.2.2.2)
      subst e1; subst e2; subst e3; subst e4
      exact ⟨h2.trans g2.symm, h3.trans g3.symm⟩
    · exact absurd ⟨t, k, a, b, h1⟩ g1
  · rcases h' with ⟨t', k', a', b', g1, g2, g3⟩ | ⟨g1, g2, g3⟩
    · exact absurd ⟨t', k', a', b', g1⟩ h1
    · exact ⟨h2.trans g2.symm, h3.trans g3.symm⟩
theorem clearQ_det {P : Nat → List Nat} {x r r' : Int32} {Q Q' : Nat → List Nat} (h : clearQ P x r Q) (h' : clearQ P x r' Q') : r = r' ∧ Q = Q' := by
  rcases h with ⟨t, h1, h2, h3, h4⟩ | ⟨h1, h2, h3⟩
  · rcases h' with ⟨t', g1, g2, g3, g4⟩ | ⟨g1, g2, g3⟩
    · have e1 : t = t' := (nI_eq (by omega) (by omega)).mp (h2.symm.trans g2)
      subst e1
      exact ⟨h3.trans g3.symm, h4.trans g4.symm⟩
    · exact absurd ⟨t, h1, h2⟩ g1
  · rcases h' with ⟨t', g1, g2, g3, g4⟩ | ⟨g1, g2, g3⟩
    · exact absurd ⟨t', g1, g2⟩ h1
    · exact ⟨h2.trans g2.symm, h3.trans g3.symm⟩
theorem cntQ_eq {R : BG} {tot : Nat} {x r : Int32} (h : cntQ R tot x r) : r = (if x = nI 0 then nI tot else if x = nI 1 then nI R.1.1.length else if x = nI 2 then nI R.2.1.length else if x = nI 3 then nI R.2.2 else if x = nI 4 then nI (if R.1.1.length = 0 then 0 else dep (fun i => R.1.2.1.getD i 0) 24 (R.1.1.length - 1)) else -1) := by
  rcases h with ⟨h, e⟩ | ⟨h, e⟩ | ⟨h, e⟩ | ⟨h, e⟩ | ⟨h, e⟩ | ⟨h, e⟩
  · rw [if_pos h]; exact e
  · rw [h, if_neg (by decide), if_pos rfl]; exact e
  · rw [h, if_neg (by decide), if_neg (by decide), if_pos rfl]; exact e
  · rw [h, if_neg (by decide), if_neg (by decide), if_neg (by decide), if_pos rfl]; exact e
  · rw [h, if_neg (by decide), if_neg (by decide), if_neg (by decide), if_neg (by decide), if_pos rfl]; exact e
  · rw [if_neg (fun q => h ⟨0, by decide, q⟩), if_neg (fun q => h ⟨1, by decide, q⟩), if_neg (fun q => h ⟨2, by decide, q⟩), if_neg (fun q => h ⟨3, by decide, q⟩), if_neg (fun q => h ⟨4, by decide, q⟩)]; exact e
theorem mayQ_det {n : Nat} {hf : Nat → Nat} {x v r r' : Int32} (h : mayQ n hf x v r) (h' : mayQ n hf x v r') : r = r' := by
  rcases h with ⟨w, h1, h2, h3⟩ | ⟨h1, h2⟩
  · rcases h' with ⟨w', g1, g2, g3⟩ | ⟨g1, g2⟩
    · have e1 : w = w' := (nI_eq (by omega) (by omega)).mp (h2.symm.trans g2)
      subst e1
      exact h3.trans g3.symm
    · exact absurd ⟨w, h1, h2⟩ g1
  · rcases h' with ⟨w', g1, g2, g3⟩ | ⟨g1, g2⟩
    · exact absurd ⟨w', g1, g2⟩ h1
    · exact h2.trans g2.symm
theorem outOk_det {R : BG} {x y : Int32} {k w k' w' : Nat} (hl : R.2.1.length < 2 ^ 31) (h : outOk R x y k w) (h' : outOk R x y k' w') : k = k' ∧ w = w' := by
  have a1 := h.1
  have a2 := h'.1
  have a3 := h.2.2.1
  have a4 := h'.2.2.1
  exact ⟨(nI_eq (by omega) (by omega)).mp (h.2.1.symm.trans h'.2.1), (nI_eq (by omega) (by omega)).mp (h.2.2.2.symm.trans h'.2.2.2)⟩
theorem movOk_det {R : BG} {T : Nat → Nat} {x y : Int32} {k i k' i' : Nat} (hl : R.2.1.length < 2 ^ 31) (h : movOk R T x y k i) (h' : movOk R T x y k' i') : k = k' ∧ i = i' := by
  have a1 := h.1
  have a2 := h'.1
  have a3 := h.2.2.1
  have a4 := h'.2.2.1
  have b1 := dep_le (fun i => R.1.2.1.getD i 0) 24 (T k)
  have b2 := dep_le (fun i => R.1.2.1.getD i 0) 24 (T k')
  exact ⟨(nI_eq (by omega) (by omega)).mp (h.2.1.symm.trans h'.2.1), (nI_eq (by omega) (by omega)).mp (h.2.2.2.symm.trans h'.2.2.2)⟩
theorem getD_inj {S : List (Nat × Nat)} (h : S.Nodup) {a b : Nat} (ha : a < S.length) (hb : b < S.length) (e : S.getD a (0, 0) = S.getD b (0, 0)) : a = b := by
  rw [List.getD_eq_getElem?_getD, List.getD_eq_getElem?_getD, List.getElem?_eq_getElem ha, List.getElem?_eq_getElem hb] at e
  have h2 := List.pairwise_iff_getElem.mp h
  rcases Nat.lt_trichotomy a b with q | q | q
  · exact absurd e (h2 a b ha hb q)
  · exact q
  · exact absurd e.symm (h2 b a hb ha q)
/-- what a search found that had room -/
theorem gR_go {P : Nat → List Nat} {md M : Nat} (hM : M = 20000) (hP : Pok P) (h12 : pTot P ≤ 12) (hf : (bf_go (st_step P md) M).1.2.2 = true) : gR (bf_go (st_step P md) M) := by
  obtain ⟨⟨h1, h2, h3, h4, h5⟩, h6, h7⟩ := bf_go_ok (md := md) hP M
  have he := go_end hf (by omega)
  obtain ⟨e1, e2, e3⟩ := endL_lt (stp := st_step P md) (S := (bf_go (st_step P md) M).1.1) (bf_go (st_step P md) M).1.1.length
  rw [← he] at e1 e2 e3
  have hov : ∀ a, a < (bf_go (st_step P md) M).2.1.length → isOv P ((bf_go (st_step P md) M).1.1.getD ((bf_go (st_step P md) M).2.1.getD a 0) (0, 0)).2 := fun a ha => (over_iff hP (h4 _ (getD_mem (e1 a ha).1))).mp (e1 a ha).2
  refine ⟨go_rOk hP M, go_dpt hP h12, fun k hk => (e1 k hk).1, fun a b ha hb e => ?_, fun a b ha hb e => ?_, fun i hi => (h4 _ (getD_mem hi)).1⟩
  · rcases Nat.lt_trichotomy a b with q | q | q
    · have := e3 a b q hb
      have e : (bf_go (st_step P md) M).2.1.getD a 0 = (bf_go (st_step P md) M).2.1.getD b 0 := e
      omega
    · exact q
    · have := e3 b a q ha
      have e : (bf_go (st_step P md) M).2.1.getD a 0 = (bf_go (st_step P md) M).2.1.getD b 0 := e
      omega
  · exact getD_inj h3 (e1 a ha).1 (e1 b hb).1 (over_eq (h4 _ (getD_mem (e1 a ha).1)) (h4 _ (getD_mem (e1 b hb).1)) (hov a ha) (hov b hb) e)
/-- nothing has been told yet -/
def R00 : BG := (([], [], true), [], 0)
def T00 : Nat → Nat := fun j => ([] : List Nat).getD j 0
theorem gR_0 : gR R00 := ⟨⟨(show 0 ≤ 20000 from Nat.zero_le _), fun i hi => absurd hi (Nat.not_lt_zero i), rfl⟩, fun j hj => absurd hj (Nat.not_lt_zero j), fun k hk => absurd hk (Nat.not_lt_zero k), fun a b ha => absurd ha (Nat.not_lt_zero a), fun a b ha => absurd ha (Nat.not_lt_zero a), fun i hi => absurd hi (Nat.not_lt_zero i)⟩
theorem told_0 (fH fL : Nat → Int64) (fF fE : Nat → Int32) : toldI R00 T00 0 0 fH fL fF fE :=
  ⟨Nat.le_refl _, Nat.le_refl _, rfl, fun j hj => absurd hj (Nat.not_lt_zero j), fun q hq => absurd hq List.not_mem_nil, fun i hi => absurd hi (Nat.not_lt_zero i), fun k hk => absurd hk (Nat.not_lt_zero k), sKeep_rf, fun i j _ hj => absurd hj (Nat.not_lt_zero j), fun k hk => absurd hk (Nat.not_lt_zero k)⟩
theorem ref_0 (fo : Nat → Int64) (fn : Nat → Int32) (fy fz : Nat → Int64) : refI R00 T00 0 0 0 0 fo fn fy fz :=
  ⟨rfl, rfl, rfl, rfl, fun k hk => absurd hk (Nat.not_lt_zero k), sKeep_rf, fun a b _ hb => absurd hb (Nat.not_lt_zero b)⟩
/-- the reference's order of the outcomes is the desk's -/
theorem refI_T {R : BG} {T T' : Nat → Nat} {c t tol ts tf td : Nat} {fH fL : Nat → Int64} {fF fE : Nat → Int32} {fo : Nat → Int64} {fn : Nat → Int32} {fy fz : Nat → Int64} (hg : gR R) (hT : toldI R T c t fH fL fF fE) (h : refI R T' tol ts tf td fo fn fy fz) : refI R T tol ts tf td fo fn fy fz := by
  obtain ⟨r1, r2, r3, r4, r5, r6, r7⟩ := h
  obtain ⟨-, -, -, -, -, -, -, k1, k2, -⟩ := hT
  have hs : srt (KDr R) T R.2.1.length := fun a b h1 h2 => k2 a b h1 h2
  have e := ord_one (K := KDr R) k1.1 r6.1 (k1.2.2 hg.2.2.2.1) (r6.2.2 hg.2.2.2.1) hg.2.2.2.2.1 hs r7
  exact ⟨r1, r2, r3, r4, fun k hk => by rw [e k hk]; exact r5 k hk, k1, hs⟩
theorem law_gt {k L : Nat} (hk : k < 2 ^ 30) (hL : L < 2 ^ 30) : nI L - nI 5 < nI k ↔ L < k + 5 := by
  rw [Int32.lt_iff_toInt_lt, pk_sub_toInt hL (by decide), nI_toInt (by omega)]
  omega
theorem gc_le (c : Nat) : gc c ≤ 25 := by unfold gc; repeat (first | omega | split)
theorem gs_le (c : Nat) : gs c ≤ 152768 := by unfold gs; repeat (first | omega | split)
theorem cmp_same (x : Int64) : lg_cmp x x = 0 := z_cmp0.mpr rfl
/-- a Space's cells -/
abbrev SpS : Type := Nat × Nat × Nat × Nat × Nat × Nat × Nat × Nat × Nat × Nat × Nat × Nat × Nat × (Nat → Int64) × (Nat → Int64) × (Nat → Int32) × (Nat → Int32) × (Nat → Int32)
abbrev SpS.adr (x : SpS) : Nat := x.1
abbrev SpS.ah (x : SpS) : Nat := x.2.1
abbrev SpS.al (x : SpS) : Nat := x.2.2.1
abbrev SpS.af (x : SpS) : Nat := x.2.2.2.1
abbrev SpS.ae (x : SpS) : Nat := x.2.2.2.2.1
abbrev SpS.ta (x : SpS) : Nat := x.2.2.2.2.2.1
abbrev SpS.cap (x : SpS) : Nat := x.2.2.2.2.2.2.1
abbrev SpS.tl (x : SpS) : Nat := x.2.2.2.2.2.2.2.1
abbrev SpS.rm (x : SpS) : Nat := x.2.2.2.2.2.2.2.2.1
abbrev SpS.ns (x : SpS) : Nat := x.2.2.2.2.2.2.2.2.2.1
abbrev SpS.sz (x : SpS) : Nat := x.2.2.2.2.2.2.2.2.2.2.1
abbrev SpS.en (x : SpS) : Nat := x.2.2.2.2.2.2.2.2.2.2.2.1
abbrev SpS.br (x : SpS) : Nat := x.2.2.2.2.2.2.2.2.2.2.2.2.1
abbrev SpS.fH (x : SpS) : Nat → Int64 := x.2.2.2.2.2.2.2.2.2.2.2.2.2.1
abbrev SpS.fL (x : SpS) : Nat → Int64 := x.2.2.2.2.2.2.2.2.2.2.2.2.2.2.1
abbrev SpS.fF (x : SpS) : Nat → Int32 := x.2.2.2.2.2.2.2.2.2.2.2.2.2.2.2.1
abbrev SpS.fE (x : SpS) : Nat → Int32 := x.2.2.2.2.2.2.2.2.2.2.2.2.2.2.2.2.1
abbrev SpS.fT (x : SpS) : Nat → Int32 := x.2.2.2.2.2.2.2.2.2.2.2.2.2.2.2.2.2
/-- what the law's loop has at its head, behind i calls -/
abbrev LwS : Type := Nat × (Nat → List Nat) × (Nat → Int32) × (Nat → Int32) × Nat × Int64 × Int64 × SpS × SpS × (Nat → Int64) × BG × (Nat → Nat) × Nat × Nat × Nat × Nat × Nat × Nat × (Nat → Int32) × (Nat → Int32) × (Nat → Int32) × (Nat → Int32) × W6 × RC × Q4
abbrev LwS.i (x : LwS) : Nat := x.1
abbrev LwS.P (x : LwS) : Nat → List Nat := x.2.1
abbrev LwS.f (x : LwS) : Nat → Int32 := x.2.2.1
abbrev LwS.g (x : LwS) : Nat → Int32 := x.2.2.2.1
abbrev LwS.md (x : LwS) : Nat := x.2.2.2.2.1
abbrev LwS.m1 (x : LwS) : Int64 := x.2.2.2.2.2.1
abbrev LwS.m2 (x : LwS) : Int64 := x.2.2.2.2.2.2.1
abbrev LwS.A1 (x : LwS) : SpS := x.2.2.2.2.2.2.2.1
abbrev LwS.A2 (x : LwS) : SpS := x.2.2.2.2.2.2.2.2.1
abbrev LwS.fo (x : LwS) : Nat → Int64 := x.2.2.2.2.2.2.2.2.2.1
abbrev LwS.R (x : LwS) : BG := x.2.2.2.2.2.2.2.2.2.2.1
abbrev LwS.T (x : LwS) : Nat → Nat := x.2.2.2.2.2.2.2.2.2.2.2.1
abbrev LwS.th (x : LwS) : Nat := x.2.2.2.2.2.2.2.2.2.2.2.2.1
abbrev LwS.st (x : LwS) : Nat := x.2.2.2.2.2.2.2.2.2.2.2.2.2.1
abbrev LwS.tol (x : LwS) : Nat := x.2.2.2.2.2.2.2.2.2.2.2.2.2.2.1
abbrev LwS.ts (x : LwS) : Nat := x.2.2.2.2.2.2.2.2.2.2.2.2.2.2.2.1
abbrev LwS.tf (x : LwS) : Nat := x.2.2.2.2.2.2.2.2.2.2.2.2.2.2.2.2.1
abbrev LwS.td (x : LwS) : Nat := x.2.2.2.2.2.2.2.2.2.2.2.2.2.2.2.2.2.1
abbrev LwS.gm (x : LwS) : Nat → Int32 := x.2.2.2.2.2.2.2.2.2.2.2.2.2.2.2.2.2.2.1
abbrev LwS.gn (x : LwS) : Nat → Int32 := x.2.2.2.2.2.2.2.2.2.2.2.2.2.2.2.2.2.2.2.1
abbrev LwS.ga (x : LwS) : Nat → Int32 := x.2.2.2.2.2.2.2.2.2.2.2.2.2.2.2.2.2.2.2.2.1
abbrev LwS.gb (x : LwS) : Nat → Int32 := x.2.2.2.2.2.2.2.2.2.2.2.2.2.2.2.2.2.2.2.2.2.1
abbrev LwS.w6 (x : LwS) : W6 := x.2.2.2.2.2.2.2.2.2.2.2.2.2.2.2.2.2.2.2.2.2.2.1
abbrev LwS.r7 (x : LwS) : RC := x.2.2.2.2.2.2.2.2.2.2.2.2.2.2.2.2.2.2.2.2.2.2.2.1
abbrev LwS.t4 (x : LwS) : Q4 := x.2.2.2.2.2.2.2.2.2.2.2.2.2.2.2.2.2.2.2.2.2.2.2.2
def LI (x : LwS) : Prop := x.i ≤ 512 ∧ Pok x.P ∧ PRep x.P x.f x.g ∧ pTot x.P ≤ 12 ∧ QRep x.P x.gm x.gn x.ga x.gb ∧ toldI x.R x.T x.A1.cap x.A1.tl x.A1.fH x.A1.fL x.A1.fF x.A1.fE ∧ capOk x.A1.cap x.A1.tl ∧ gR x.R ∧ capOk x.A2.cap x.A2.tl ∧ refI x.R x.T x.tol x.ts x.tf x.td x.t4.2.1 x.t4.2.2.1 x.t4.2.2.2.1 x.t4.2.2.2.2

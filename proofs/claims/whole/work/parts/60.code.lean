/-! the reference's coding of a state: two longs; its working rows -/
/-- digits read from above -/
def hor (b : Nat) (f : Nat → Nat) : Nat → Nat
  | 0 => 0
  | t + 1 => hor b f t * b + f t
theorem hor_lt {b : Nat} {f : Nat → Nat} (hf : ∀ t, f t < b) : ∀ m, hor b f m < b ^ m := by
  intro m
  induction m with
  | zero => exact Nat.one_pos
  | succ m ih =>
    show hor b f m * b + f m < b ^ (m + 1)
    have h1 := hf m
    have h2 : (hor b f m + 1) * b ≤ b ^ m * b := Nat.mul_le_mul_right b ih
    rw [Nat.add_mul, Nat.one_mul] at h2
    rw [Nat.pow_succ]
    omega
theorem hor_dg {b : Nat} {f : Nat → Nat} (hf : ∀ t, f t < b) : ∀ m t, t < m → dg b (hor b f m) (m - 1 - t) = f t := by
  intro m
  have hb : 0 < b := Nat.lt_of_le_of_lt (Nat.zero_le _) (hf 0)
  induction m with
  | zero => intro t h; exact absurd h (Nat.not_lt_zero t)
  | succ m ih =>
    intro t ht
    show dg b (hor b f m * b + f m) _ = _
    rcases Nat.eq_or_lt_of_le (Nat.le_of_lt_succ ht) with q | q
    · subst q
      rw [show t + 1 - 1 - t = 0 by omega]
      unfold dg
      rw [Nat.pow_zero, Nat.div_one, Nat.mul_comm, Nat.mul_add_mod, Nat.mod_eq_of_lt (hf t)]
    · rw [dg_of_hi (show 1 ≤ m + 1 - 1 - t by omega), Nat.pow_one, Nat.mul_comm, Nat.mul_add_div hb, Nat.div_eq_of_lt (hf m), Nat.add_zero, show m + 1 - 1 - t - 1 = m - 1 - t by omega]
      exact ih t q
theorem hor_mi {h : Nat} (hh : h < 4 ^ 20) : hor 4 (mi h) 20 = h := by
  refine dg_ext 20 _ _ (hor_lt (mi_lt h) 20) hh fun k hk => ?_
  have := hor_dg (mi_lt h) 20 (19 - k) (by omega)
  rw [show 20 - 1 - (19 - k) = k by omega] at this
  rw [this]
  unfold mi
  rw [show 19 - (19 - k) = k by omega]
def lq (x : Nat) : Nat := wt x * 256 + en x 0 * 16 + en x 1
theorem lq_lt (x : Nat) : lq x < 1024 := by
  unfold lq
  have := wt_lt x; have := en_lt x 0; have := en_lt x 1; omega
theorem lq_wt (x : Nat) : lq x / 256 = wt x := by
  unfold lq
  have := en_lt x 0; have := en_lt x 1; omega
theorem lq_e0 (x : Nat) : lq x / 16 % 16 = en x 0 := by
  unfold lq
  have := en_lt x 0; have := en_lt x 1; omega
theorem lq_e1 (x : Nat) : lq x % 16 = en x 1 := by
  unfold lq
  have := en_lt x 0; have := en_lt x 1; omega
theorem lane_eq {x : Nat} (h : x < 8192) : x = pl x + 8 * wt x + 32 * en x 0 + 512 * en x 1 := by
  show x = x % 8 + 8 * (x / 8 % 4) + 32 * (x / 2 ^ (5 + 4 * 0) % 16) + 512 * (x / 2 ^ (5 + 4 * 1) % 16)
  omega
def pA (n : Nat) : Nat → Nat := hor 8 (fun t => pl (ml n t))
def pB (n : Nat) : Nat → Nat := hor 1024 (fun t => lq (ml n t))
def pk1 (q : Nat × Nat) : Nat := pA q.2 4 * 4 ^ 20 + q.1
def pk2 (q : Nat × Nat) : Nat := pB q.2 4
theorem pA_lt (n m : Nat) : pA n m < 8 ^ m := hor_lt (fun _ => pl_lt _) m
theorem pB_lt (n m : Nat) : pB n m < 1024 ^ m := hor_lt (fun _ => lq_lt _) m
theorem pA_dg (n : Nat) {j : Nat} (hj : j < 4) : pA n 4 / 8 ^ j % 8 = pl (ml n (3 - j)) := by
  have := hor_dg (b := 8) (f := fun t => pl (ml n t)) (fun _ => pl_lt _) 4 (3 - j) (by omega)
  rw [show 4 - 1 - (3 - j) = j by omega] at this
  exact this
theorem pB_dg (n : Nat) {j : Nat} (hj : j < 4) : pB n 4 / 1024 ^ j % 1024 = lq (ml n (3 - j)) := by
  have := hor_dg (b := 1024) (f := fun t => lq (ml n t)) (fun _ => lq_lt _) 4 (3 - j) (by omega)
  rw [show 4 - 1 - (3 - j) = j by omega] at this
  exact this
theorem pk1_lt {q : Nat × Nat} (h : q.1 < 4 ^ 20) : pk1 q < 2 ^ 52 := by
  have := pA_lt q.2 4
  unfold pk1
  have : (4 : Nat) ^ 20 = 2 ^ 40 := by decide
  omega
theorem pk2_lt (q : Nat × Nat) : pk2 q < 2 ^ 40 := pB_lt q.2 4
theorem pk1_dg {q : Nat × Nat} (h : q.1 < 4 ^ 20) {j : Nat} (hj : j < 20) : pk1 q / 4 ^ j % 4 = mi q.1 (19 - j) := by
  show dg 4 (pk1 q) j = dg 4 q.1 (19 - (19 - j))
  rw [show 19 - (19 - j) = j by omega, dg_of_lo hj]
  unfold pk1
  rw [Nat.add_comm, Nat.add_mul_mod_self_right, Nat.mod_eq_of_lt h]
theorem pk1_hi {q : Nat × Nat} (h : q.1 < 4 ^ 20) : pk1 q / 4 ^ 20 = pA q.2 4 := by
  unfold pk1
  rw [Nat.add_comm, Nat.add_mul_div_right _ _ (by decide), Nat.div_eq_of_lt h, Nat.zero_add]
theorem pk1_lo {q : Nat × Nat} (h : q.1 < 4 ^ 20) : pk1 q % 2 ^ 40 = q.1 := by
  show pk1 q % 4 ^ 20 = q.1
  unfold pk1
  rw [Nat.add_comm, Nat.add_mul_mod_self_right, Nat.mod_eq_of_lt h]
theorem pk_inj {q r : Nat × Nat} (hq : q.1 < 4 ^ 20) (hr : r.1 < 4 ^ 20) (hq2 : q.2 < 8192 ^ 4) (hr2 : r.2 < 8192 ^ 4) (h1 : pk1 q = pk1 r) (h2 : pk2 q = pk2 r) : q = r := by
  have e1 : q.1 = r.1 := by rw [← pk1_lo hq, ← pk1_lo hr, h1]
  have e2 : pA q.2 4 = pA r.2 4 := by rw [← pk1_hi hq, ← pk1_hi hr, h1]
  have e3 : q.2 = r.2 := by
    refine dg_ext 4 _ _ hq2 hr2 fun t ht => ?_
    show ml q.2 t = ml r.2 t
    have a1 := pA_dg q.2 (j := 3 - t) (by omega)
    have a2 := pA_dg r.2 (j := 3 - t) (by omega)
    have b1 := pB_dg q.2 (j := 3 - t) (by omega)
    have b2 := pB_dg r.2 (j := 3 - t) (by omega)
    have h2 : pB q.2 4 = pB r.2 4 := h2
    rw [show 3 - (3 - t) = t by omega] at a1 a2 b1 b2
    rw [e2] at a1
    rw [h2] at b1
    have c1 : pl (ml q.2 t) = pl (ml r.2 t) := a1.symm.trans a2
    have c2 : lq (ml q.2 t) = lq (ml r.2 t) := b1.symm.trans b2
    rw [lane_eq (ml_lt q.2 t), lane_eq (ml_lt r.2 t), c1, ← lq_wt, ← lq_wt, ← lq_e0, ← lq_e0, ← lq_e1, ← lq_e1, c2]
  exact Prod.ext e1 e3
/-! longs -/
theorem ll_and (a : Nat) {k : Nat} (hk : k ≤ 64) : lN a &&& lN (2 ^ k - 1) = lN (a % 2 ^ k) := by
  apply wb_inj
  rw [Int64.toBitVec_and]
  show BitVec.ofNat 64 a &&& BitVec.ofNat 64 (2 ^ k - 1) = BitVec.ofNat 64 (a % 2 ^ k)
  apply BitVec.eq_of_getLsbD_eq
  intro i hi
  rw [BitVec.getLsbD_and, BitVec.getLsbD_ofNat, BitVec.getLsbD_ofNat, BitVec.getLsbD_ofNat, Nat.testBit_mod_two_pow, Nat.testBit_two_pow_sub_one, decide_eq_true hi]
  simp [Bool.and_comm]
theorem ll_sar {a k : Nat} (ha : a < 2 ^ 63) (hk : k < 64) : lN a >>> ((nI k).toInt64 &&& 63) = lN (a / 2 ^ k) := by
  rw [wb_c k hk]
  apply wb_inj
  rw [Int64.toBitVec_shiftRight, wb_tb, wb_tb, wb_tb, wb_sm k hk]
  apply BitVec.eq_of_toInt_eq
  have e1 : (BitVec.ofNat 64 a).toInt = (a : Int) := by
    rw [BitVec.toInt_eq_toNat_of_lt (by rw [BitVec.toNat_ofNat, Nat.mod_eq_of_lt (by omega)]; omega), BitVec.toNat_ofNat, Nat.mod_eq_of_lt (by omega)]
  have h2 : a / 2 ^ k < 2 ^ 63 := Nat.lt_of_le_of_lt (Nat.div_le_self _ _) ha
  have e2 : (BitVec.ofNat 64 (a / 2 ^ k)).toInt = ((a / 2 ^ k : Nat) : Int) := by
    rw [BitVec.toInt_eq_toNat_of_lt (by rw [BitVec.toNat_ofNat, Nat.mod_eq_of_lt (by omega)]; omega), BitVec.toNat_ofNat, Nat.mod_eq_of_lt (by omega)]
  rw [BitVec.sshiftRight_eq', BitVec.toInt_sshiftRight, BitVec.toNat_ofNat, Nat.mod_eq_of_lt (show k < 2 ^ 64 by omega), e1, e2, Int.shiftRight_eq_div_pow]
  rfl
theorem ll_or {a b k : Nat} (hb : b < 2 ^ k) : lN (a * 2 ^ k) ||| lN b = lN (a * 2 ^ k + b) := by
  rw [← nb_orB hb]
  apply wb_inj
  rw [Int64.toBitVec_or]
  show BitVec.ofNat 64 (a * 2 ^ k) ||| BitVec.ofNat 64 b = BitVec.ofNat 64 (a * 2 ^ k ||| b)
  apply BitVec.eq_of_getLsbD_eq
  intro i hi
  rw [BitVec.getLsbD_or, BitVec.getLsbD_ofNat, BitVec.getLsbD_ofNat, BitVec.getLsbD_ofNat, Nat.testBit_or, decide_eq_true hi]
  simp
theorem ll_orA {a b k : Nat} (ha : a < 2 ^ k) : lN a ||| lN (b * 2 ^ k) = lN (a + b * 2 ^ k) := by
  rw [← nb_orA ha]
  apply wb_inj
  rw [Int64.toBitVec_or]
  show BitVec.ofNat 64 a ||| BitVec.ofNat 64 (b * 2 ^ k) = BitVec.ofNat 64 (a ||| b * 2 ^ k)
  apply BitVec.eq_of_getLsbD_eq
  intro i hi
  rw [BitVec.getLsbD_or, BitVec.getLsbD_ofNat, BitVec.getLsbD_ofNat, BitVec.getLsbD_ofNat, Nat.testBit_or, decide_eq_true hi]
  simp
/-- one digit more at the low end -/
theorem ll_push (a : Nat) {v k : Nat} (hk : k < 31) (hv : v < 2 ^ k) : (lN a <<< ((nI k).toInt64 &&& 63)) ||| (nI v).toInt64 = lN (a * 2 ^ k + v) := by
  have h31 : (2 : Nat) ^ k < 2 ^ 31 := wb_lt2 hk
  rw [wb_shl a (by omega), nI_l (by omega), ll_or hv]
/-- a digit at the low end -/
theorem ll_low (a : Nat) {k : Nat} (hk : k ≤ 31) : (lN a &&& lN (2 ^ k - 1)).toInt32 = nI (a % 2 ^ k) := by
  rw [ll_and a (by omega), lN_i]
theorem ll_toInt {a : Nat} (h : a < 2 ^ 63) : (lN a).toInt = (a : Int) := lg_ofNat_toInt (by omega)
theorem ll_eq {a b : Nat} (ha : a < 2 ^ 63) (hb : b < 2 ^ 63) : lN a = lN b ↔ a = b := by
  rw [← Int64.toInt_inj, ll_toInt ha, ll_toInt hb]
  omega
theorem ll_lt {a b : Nat} (ha : a < 2 ^ 63) (hb : b < 2 ^ 63) : lN a < lN b ↔ a < b := by
  rw [Int64.lt_iff_toInt_lt, ll_toInt ha, ll_toInt hb]
  omega
/-! the working rows of the reference hold the state (h, n) -/
abbrev W6 : Type := (Nat → Int32) × (Nat → Int32) × (Nat → Int32) × (Nat → Int32) × (Nat → Int32) × (Nat → Int32)
def WL (n : Nat) (fa fh fW fV : Nat → Int32) : Prop := ∀ t, t < 4 → fa t = nI (pl (ml n t)) ∧ fh t = nI (wt (ml n t)) ∧ ∀ k, k < wt (ml n t) → fW (2 * t + k) = nI (en (ml n t) k / 4) ∧ fV (2 * t + k) = nI (en (ml n t) k % 4)
def WS (h n : Nat) (fa fr fw fh fW fV : Nat → Int32) : Prop := WL n fa fh fW fV ∧ (∀ k, k < 16 → fr k = nI (mi h k)) ∧ ∀ k, k < 4 → fw k = nI (mi h (16 + k))
theorem WS_reg {h n i v : Nat} {fa fr fw fh fW fV : Nat → Int32} (H : WS h n fa fr fw fh fW fV) (hi : i < 16) (hv : v < 4) : WS (mw h i v) n fa (upd fr i (nI v)) fw fh fW fV := by
  refine ⟨H.1, fun k hk => ?_, fun k hk => by rw [mi_mw_ne hv (by omega) (by omega) (by omega)]; exact H.2.2 k hk⟩
  by_cases e : k = i
  · rw [e, pk_us, mi_mw hv]
  · rw [pk_un e, mi_mw_ne hv (by omega) (by omega) e]; exact H.2.1 k hk
theorem WS_word {h n w v : Nat} {fa fr fw fh fW fV : Nat → Int32} (H : WS h n fa fr fw fh fW fV) (hw : w < 4) (hv : v < 4) : WS (mw h (16 + w) v) n fa fr (upd fw w (nI v)) fh fW fV := by
  refine ⟨H.1, fun k hk => by rw [mi_mw_ne hv (by omega) (by omega) (by omega)]; exact H.2.1 k hk, fun k hk => ?_⟩
  by_cases e : k = w
  · rw [e, pk_us, mi_mw hv]
  · rw [pk_un e, mi_mw_ne hv (by omega) (by omega) (by omega)]; exact H.2.2 k hk
theorem WL_set {n t x : Nat} {fa fh fW fV ga gh gW gV : Nat → Int32} (H : WL n fa fh fW fV) (ht : t < 4) (hx : x < 8192) (h1 : ga t = nI (pl x)) (h2 : gh t = nI (wt x)) (h3 : ∀ k, k < wt x → gW (2 * t + k) = nI (en x k / 4) ∧ gV (2 * t + k) = nI (en x k % 4))
    (o1 : ∀ s, s ≠ t → ga s = fa s ∧ gh s = fh s) (o2 : ∀ s k, s < 4 → s ≠ t → k < wt (ml n s) → gW (2 * s + k) = fW (2 * s + k) ∧ gV (2 * s + k) = fV (2 * s + k)) : WL (mx n t x) ga gh gW gV := by
  intro s hs
  by_cases e : s = t
  · subst e
    rw [ml_mx hx]
    exact ⟨h1, h2, h3⟩
  · rw [ml_mx_ne hx e, (o1 s e).1, (o1 s e).2]
    refine ⟨(H s hs).1, (H s hs).2.1, fun k hk => ?_⟩
    rw [(o2 s k hs e hk).1, (o2 s k hs e hk).2]
    exact (H s hs).2.2 k hk
theorem en_place {x p : Nat} (hp : p < 8) (i : Nat) (hi : i < 2) : en (x / 8 * 8 + p) i = en x i ∧ wt (x / 8 * 8 + p) = wt x ∧ pl (x / 8 * 8 + p) = p := by
  rcases (show i = 0 ∨ i = 1 by omega) with rfl | rfl
  · show (x / 8 * 8 + p) / 2 ^ (5 + 4 * 0) % 16 = x / 2 ^ (5 + 4 * 0) % 16 ∧ (x / 8 * 8 + p) / 8 % 4 = x / 8 % 4 ∧ (x / 8 * 8 + p) % 8 = p
    omega
  · show (x / 8 * 8 + p) / 2 ^ (5 + 4 * 1) % 16 = x / 2 ^ (5 + 4 * 1) % 16 ∧ (x / 8 * 8 + p) / 8 % 4 = x / 8 % 4 ∧ (x / 8 * 8 + p) % 8 = p
    omega
theorem WL_at {n t p : Nat} {fa fh fW fV : Nat → Int32} (H : WL n fa fh fW fV) (hL : Lok (ml n t)) (ht : t < 4) (hp : p < 8) : WL (mx n t (ml n t / 8 * 8 + p)) (upd fa t (nI p)) fh fW fV := by
  have hl := ml_lt n t
  have h2 := hL.1
  have e0 := en_place (x := ml n t) hp 0 (by decide)
  refine WL_set H ht (by omega) (by rw [pk_us, e0.2.2]) (by rw [e0.2.1]; exact (H t ht).2.1) (fun k hk => ?_) (fun s e => ⟨pk_un e, rfl⟩) (fun s k _ _ _ => ⟨rfl, rfl⟩)
  rw [e0.2.1] at hk
  rw [(en_place (x := ml n t) hp k (by omega)).1]
  exact (H t ht).2.2 k hk
theorem put_fields {x b : Nat} (hL : Lok x) (h2 : ¬ 2 ≤ wt x) (hb : b < 16) : wt (x + 8 + b * 2 ^ (5 + 4 * wt x)) = wt x + 1 ∧ en (x + 8 + b * 2 ^ (5 + 4 * wt x)) (wt x) = b ∧ ∀ k, k < wt x → en (x + 8 + b * 2 ^ (5 + 4 * wt x)) k = en x k := by
  obtain ⟨h1, h3⟩ := hL
  rcases (show wt x = 0 ∨ wt x = 1 by omega) with e | e
  · rw [e] at h3 ⊢
    have e0 : x / 8 % 4 = 0 := e
    refine ⟨?_, ?_, fun k hk => absurd hk (Nat.not_lt_zero k)⟩
    · show (x + 8 + b * 2 ^ (5 + 4 * 0)) / 8 % 4 = 1
      omega
    · show (x + 8 + b * 2 ^ (5 + 4 * 0)) / 2 ^ (5 + 4 * 0) % 16 = b
      omega
  · rw [e] at h3 ⊢
    have e0 : x / 8 % 4 = 1 := e
    refine ⟨?_, ?_, fun k hk => ?_⟩
    · show (x + 8 + b * 2 ^ (5 + 4 * 1)) / 8 % 4 = 2
      omega
    · show (x + 8 + b * 2 ^ (5 + 4 * 1)) / 2 ^ (5 + 4 * 1) % 16 = b
      omega
    · have hk0 : k = 0 := by omega
      subst hk0
      show (x + 8 + b * 2 ^ (5 + 4 * 1)) / 2 ^ (5 + 4 * 0) % 16 = x / 2 ^ (5 + 4 * 0) % 16
      omega
theorem WL_put {n t w v : Nat} {fa fh fW fV : Nat → Int32} (H : WL n fa fh fW fV) (hLs : ∀ s, s < 4 → wt (ml n s) ≤ 2) (hL : Lok (ml n t)) (h2 : ¬ 2 ≤ wt (ml n t)) (ht : t < 4) (hw : w < 4) (hv : v < 4) :
    WL (mx n t (ml n t + 8 + (4 * w + v) * 2 ^ (5 + 4 * wt (ml n t)))) fa (upd fh t (nI (wt (ml n t) + 1))) (upd fW (2 * t + wt (ml n t)) (nI w)) (upd fV (2 * t + wt (ml n t)) (nI v)) := by
  obtain ⟨-, g2, g3⟩ := Lok_put hL h2 (show 4 * w + v < 16 by omega)
  obtain ⟨f1, f2, f3⟩ := put_fields hL h2 (show 4 * w + v < 16 by omega)
  refine WL_set H ht g3 (by rw [g2]; exact (H t ht).1) (by rw [f1, pk_us]) (fun k hk => ?_) (fun s e => ⟨rfl, pk_un e⟩) (fun s k hs e hk => ?_)
  · rw [f1] at hk
    rcases Nat.eq_or_lt_of_le (Nat.le_of_lt_succ hk) with q | q
    · rw [q, pk_us, pk_us, f2]
      exact ⟨by congr 1; omega, by congr 1; omega⟩
    · rw [pk_un (by omega), pk_un (by omega), f3 k q]
      exact (H t ht).2.2 k q
  · have h3 := hL.1
    have h4 := hLs s hs
    exact ⟨pk_un (by omega), pk_un (by omega)⟩
theorem st_wo_fields {x i : Nat} (hL : Lok x) (hi : i < wt x) : wt (st_wo x i) = wt x - 1 ∧ (wt x = 2 → en (st_wo x i) 0 = en x (1 - i)) := by
  obtain ⟨h1, h2⟩ := hL
  have hl := en_lt x (1 - i)
  have hp := pl_lt x
  rcases (show wt x = 1 ∨ wt x = 2 by omega) with e | e
  · have hi0 : i = 0 := by omega
    subst hi0
    have e1 : en x (1 - 0) = 0 := by
      rw [e] at h2
      show x / 2 ^ (5 + 4 * 1) % 16 = 0
      omega
    have e3 : st_wo x 0 = pl x := by unfold st_wo; rw [e, e1]; omega
    rw [e3, e]
    exact ⟨by show pl x / 8 % 4 = 0; omega, fun h => absurd h (by decide)⟩
  · have e3 : st_wo x i = pl x + 8 + en x (1 - i) * 32 := by unfold st_wo; rw [e]
    rw [e3, e]
    refine ⟨by show (pl x + 8 + en x (1 - i) * 32) / 8 % 4 = 1; omega, fun _ => ?_⟩
    show (pl x + 8 + en x (1 - i) * 32) / 2 ^ (5 + 4 * 0) % 16 = en x (1 - i)
    omega
/-- the only store leaves -/
theorem WL_wo1 {n t : Nat} {fa fh fW fV : Nat → Int32} (H : WL n fa fh fW fV) (hL : Lok (ml n t)) (ht : t < 4) (h1 : wt (ml n t) = 1) : WL (mx n t (st_wo (ml n t) 0)) fa (upd fh t (nI 0)) fW fV := by
  obtain ⟨-, g2, g3⟩ := Lok_wo (i := 0) hL (by omega)
  obtain ⟨f1, -⟩ := st_wo_fields (i := 0) hL (by omega)
  rw [h1] at f1
  refine WL_set H ht g3 (by rw [g2]; exact (H t ht).1) (by rw [f1, pk_us]) (fun k hk => by rw [f1] at hk; omega) (fun s e => ⟨rfl, pk_un e⟩) (fun s k _ _ _ => ⟨rfl, rfl⟩)
/-- one of two stores leaves: the other is then the first -/
theorem WL_wo2 {n t i : Nat} {fa fh fW fV gW gV : Nat → Int32} (H : WL n fa fh fW fV) (hL : Lok (ml n t)) (ht : t < 4) (hi : i < 2) (h2 : wt (ml n t) = 2) (e1 : gW (2 * t) = nI (en (ml n t) (1 - i) / 4)) (e2 : gV (2 * t) = nI (en (ml n t) (1 - i) % 4)) (o : ∀ j, j ≠ 2 * t → gW j = fW j ∧ gV j = fV j) (hLs : ∀ s, s < 4 → wt (ml n s) ≤ 2) :
    WL (mx n t (st_wo (ml n t) i)) fa (upd fh t (nI 1)) gW gV := by
  obtain ⟨-, g2, g3⟩ := Lok_wo (i := i) hL (by omega)
  obtain ⟨f1, f2⟩ := st_wo_fields (i := i) hL (by omega)
  rw [h2] at f1
  refine WL_set H ht g3 (by rw [g2]; exact (H t ht).1) (by rw [f1, pk_us]) (fun k hk => ?_) (fun s e => ⟨rfl, pk_un e⟩) (fun s k hs e hk => by have := hLs s hs; exact o _ (by omega))
  rw [f1] at hk
  have hk0 : k = 0 := by omega
  subst hk0
  rw [f2 h2]
  exact ⟨e1, e2⟩
/-! where the memory is at once, no store waits -/
def Sz (md n : Nat) : Prop := md = 0 → ∀ t, t < 4 → wt (ml n t) = 0
theorem Sz_0 (md : Nat) : Sz md 0 := fun _ t _ => by rw [show ml 0 t = 0 from dg_zero 8192 t]; rfl
theorem Sz_fin {md n t q : Nat} (h : Sz md n) (hq : q < 8) (h' : Nat) : Sz md (st_fin t q (h', n)).2 := fun h0 s hs => by
  show wt (ml (mx n t (ml n t / 8 * 8 + q)) s) = 0
  have hl := ml_lt n t
  by_cases e : s = t
  · subst e
    rw [ml_mx (by omega), (en_place hq 0 (by decide)).2.1]
    exact h h0 s hs
  · rw [ml_mx_ne (by omega) e]; exact h h0 s hs
theorem Sz_step {P : Nat → List Nat} {md k : Nat} {s q : Nat × Nat} (hP : Pok P) (h : Sz md s.2) (hk : k < 20) (e : st_step P md s k = some q) : Sz md q.2 := by
  intro h0
  have hz := h h0
  unfold st_step at e
  split at e
  · rename_i h4
    unfold st_go at e
    split at e
    · cases e
    · rename_i c hc
      have h6 := (hP k h4).1
      have hm : ∀ y, min y (P k).length < 8 := fun y => by omega
      unfold st_do st_store at e
      subst h0
      simp only [if_true] at e
      have key : ∀ (h1 y : Nat), Sz 0 (st_fin k (min y (P k).length) (h1, s.2)).2 := fun h1 y => Sz_fin h (hm y) h1
      split at e
      · cases e; exact key _ _ rfl
      · split at e
        · cases e; exact key _ _ rfl
        · split at e
          · cases e; exact key _ _ rfl
          · split at e
            · cases e; exact key _ _ rfl
            · split at e
              · cases e
              · cases e; exact key _ _ rfl
  · unfold st_rel at e
    have ht : (k - 4) / 4 < 4 := by omega
    rw [if_neg (fun x => by have := hz _ ht; omega), if_neg (fun x => by have := hz _ ht; omega)] at e
    cases e
/-! no move can be made: every thread is at its end and no store waits -/
def isOv (P : Nat → List Nat) (n : Nat) : Prop := ∀ t, t < 4 → pl (ml n t) = (P t).length ∧ wt (ml n t) = 0
theorem cnt_0 {stp : Nat → Option (Nat × Nat)} : ∀ {j : Nat}, bf_cnt stp j = 0 → ∀ k, k < j → stp k = none := by
  intro j
  induction j with
  | zero => intro _ k hk; exact absurd hk (Nat.not_lt_zero k)
  | succ j ih =>
    intro h k hk
    have h : bf_cnt stp j + (if (stp j).isSome then 1 else 0) = 0 := h
    rcases Nat.eq_or_lt_of_le (Nat.le_of_lt_succ hk) with q | q
    · subst q
      cases hs : stp k with
      | none => rfl
      | some v => rw [hs] at h; simp at h
    · exact ih (by omega) k q
theorem cnt_0' {stp : Nat → Option (Nat × Nat)} : ∀ {j : Nat}, (∀ k, k < j → stp k = none) → bf_cnt stp j = 0 := by
  intro j
  induction j with
  | zero => intro _; rfl
  | succ j ih =>
    intro h
    show bf_cnt stp j + (if (stp j).isSome then 1 else 0) = 0
    rw [ih (fun k hk => h k (by omega)), h j (by omega)]
    rfl
theorem over_iff {P : Nat → List Nat} {md : Nat} {q : Nat × Nat} (hP : Pok P) (hS : Sok P q.1 q.2) : bf_cnt (st_step P md q) 20 = 0 ↔ isOv P q.2 := by
  constructor
  · intro h
    have hn := cnt_0 h
    have hw : ∀ t, t < 4 → wt (ml q.2 t) = 0 := by
      intro t ht
      rcases Nat.eq_zero_or_pos (wt (ml q.2 t)) with z | z
      · exact z
      · exfalso
        have hl := en_lt (ml q.2 t) 0
        have h1 := hn (4 + 4 * t + en (ml q.2 t) 0 / 4) (by omega)
        unfold st_step at h1
        rw [if_neg (by omega), show (4 + 4 * t + en (ml q.2 t) 0 / 4 - 4) / 4 = t by omega, show (4 + 4 * t + en (ml q.2 t) 0 / 4 - 4) % 4 = en (ml q.2 t) 0 / 4 by omega] at h1
        unfold st_rel at h1
        rw [if_pos ⟨z, rfl⟩] at h1
        cases h1
    intro t ht
    refine ⟨?_, hw t ht⟩
    have hle := (hS.2.2 t ht).2
    rcases Nat.eq_or_lt_of_le hle with z | z
    · exact z
    · exfalso
      have h1 := hn t (by omega)
      unfold st_step st_go at h1
      rw [if_pos ht, List.getElem?_eq_getElem z] at h1
      have hz := hw t ht
      have hs : ∀ w v, ∃ r, st_store md q.1 q.2 t w v = some r := by
        intro w v
        unfold st_store
        split
        · exact ⟨_, rfl⟩
        · rw [if_neg (by omega)]; exact ⟨_, rfl⟩
      have h1 : st_do md q.1 q.2 t ((P t)[pl (ml q.2 t)]) (P t).length = none := h1
      unfold st_do at h1
      split at h1
      · obtain ⟨r, e⟩ := hs (((P t)[pl (ml q.2 t)]) / 4 % 4) (((P t)[pl (ml q.2 t)]) % 4)
        rw [e] at h1; cases h1
      · split at h1
        · obtain ⟨r, e⟩ := hs (((P t)[pl (ml q.2 t)]) / 4 % 4) (mi q.1 (4 * t + ((P t)[pl (ml q.2 t)]) % 4))
          rw [e] at h1; cases h1
        · split at h1
          · cases h1
          · split at h1
            · cases h1
            · rw [if_neg (by omega)] at h1; cases h1
  · intro h
    refine cnt_0' fun k hk => ?_
    unfold st_step
    split
    · rename_i h4
      unfold st_go
      rw [List.getElem?_eq_none (by have := (h k h4).1; omega)]
    · have ht : (k - 4) / 4 < 4 := by omega
      have hz := (h _ ht).2
      unfold st_rel
      rw [if_neg (fun x => by omega), if_neg (fun x => by omega)]
theorem over_eq {P : Nat → List Nat} {q r : Nat × Nat} (hq : Sok P q.1 q.2) (hr : Sok P r.1 r.2) (oq : isOv P q.2) (or : isOv P r.2) (h : q.1 = r.1) : q = r := by
  refine Prod.ext h (dg_ext 4 _ _ hq.2.1 hr.2.1 fun t ht => ?_)
  show ml q.2 t = ml r.2 t
  have a := hq.2.2 t ht
  have b := hr.2.2 t ht
  have c := oq t ht
  have d := or t ht
  have a2 := a.1.2
  have b2 := b.1.2
  rw [c.2] at a2
  rw [d.2] at b2
  have e1 : ml q.2 t % 8 = (P t).length := c.1
  have e2 : ml r.2 t % 8 = (P t).length := d.1
  have e3 : ml q.2 t / 8 % 4 = 0 := c.2
  have e4 : ml r.2 t / 8 % 4 = 0 := d.2
  omega

/-! digits of a number in a base: read and write one -/
def dg (b n k : Nat) : Nat := n / b ^ k % b
def ds (b n k v : Nat) : Nat := n / b ^ (k + 1) * b ^ (k + 1) + v * b ^ k + n % b ^ k
theorem dg_lt {b : Nat} (hb : 0 < b) (n k : Nat) : dg b n k < b := Nat.mod_lt _ hb
theorem dg_split (b n k : Nat) : n = n / b ^ (k + 1) * b ^ (k + 1) + dg b n k * b ^ k + n % b ^ k := by
  have h1 := Nat.div_add_mod n (b ^ k)
  have h2 := Nat.div_add_mod (n / b ^ k) b
  have h3 : n / b ^ k / b = n / b ^ (k + 1) := by rw [Nat.div_div_eq_div_mul, ← Nat.pow_succ]
  rw [h3] at h2
  unfold dg
  have h4 : n / b ^ (k + 1) * b ^ (k + 1) = b ^ k * (b * (n / b ^ (k + 1))) := by
    rw [Nat.pow_succ]; ac_rfl
  have h5 : n / b ^ k % b * b ^ k = b ^ k * (n / b ^ k % b) := Nat.mul_comm _ _
  rw [h4, h5, ← Nat.mul_add, h2, h1]
theorem ds_self (b n k : Nat) : ds b n k (dg b n k) = n := (dg_split b n k).symm
theorem ds_sub (b n k v : Nat) : ds b n k v = n - dg b n k * b ^ k + v * b ^ k := by
  have h := dg_split b n k
  unfold ds
  generalize n / b ^ (k + 1) * b ^ (k + 1) = x1 at *
  generalize dg b n k * b ^ k = x2 at *
  generalize n % b ^ k = x3 at *
  omega
/-- a number in three pieces: its digit k, and the pieces above and below -/
theorem dg_pieces {b k hi v lo : Nat} (hv : v < b) (hlo : lo < b ^ k) : dg b (hi * b ^ (k + 1) + v * b ^ k + lo) k = v := by
  have hp : 0 < b ^ k := Nat.lt_of_le_of_lt (Nat.zero_le _) hlo
  unfold dg
  have e : hi * b ^ (k + 1) + v * b ^ k + lo = lo + b ^ k * (hi * b + v) := by
    rw [Nat.pow_succ, Nat.mul_add]; ac_rfl
  rw [e, Nat.add_mul_div_left _ _ hp, Nat.div_eq_of_lt hlo, Nat.zero_add, Nat.mul_comm hi b, Nat.mul_add_mod, Nat.mod_eq_of_lt hv]
theorem ds_hi {b n k v : Nat} (hv : v < b) (hb : 0 < b) : ds b n k v / b ^ (k + 1) = n / b ^ (k + 1) := by
  have hp : 0 < b ^ k := Nat.pow_pos hb
  have hp1 : 0 < b ^ (k + 1) := Nat.pow_pos hb
  unfold ds
  have hlo : n % b ^ k < b ^ k := Nat.mod_lt _ hp
  have hx : v * b ^ k + n % b ^ k < b ^ (k + 1) := by
    have : v * b ^ k + b ^ k ≤ b * b ^ k := by
      have := Nat.mul_le_mul_right (b ^ k) (show v + 1 ≤ b from hv)
      rw [Nat.add_mul, Nat.one_mul] at this
      exact this
    rw [Nat.pow_succ, Nat.mul_comm (b ^ k) b]
    omega
  rw [Nat.add_assoc, Nat.add_comm, Nat.add_mul_div_right _ _ hp1, Nat.div_eq_of_lt hx, Nat.zero_add]
theorem ds_lo {b n k v : Nat} (hb : 0 < b) : ds b n k v % b ^ k = n % b ^ k := by
  have hp : 0 < b ^ k := Nat.pow_pos hb
  unfold ds
  have e : n / b ^ (k + 1) * b ^ (k + 1) + v * b ^ k + n % b ^ k = n % b ^ k + b ^ k * (n / b ^ (k + 1) * b + v) := by
    rw [Nat.pow_succ, Nat.mul_add]; ac_rfl
  rw [e, Nat.add_mul_mod_self_left, Nat.mod_mod]
theorem dg_ds_eq {b n k v : Nat} (hv : v < b) : dg b (ds b n k v) k = v := by
  have hb : 0 < b := Nat.lt_of_le_of_lt (Nat.zero_le _) hv
  exact dg_pieces hv (Nat.mod_lt _ (Nat.pow_pos hb))
theorem dg_of_lo {b n j k : Nat} (h : j < k) : dg b n j = dg b (n % b ^ k) j := by
  unfold dg
  obtain ⟨d, rfl⟩ : ∃ d, k = j + (1 + d) := ⟨k - j - 1, by omega⟩
  rw [Nat.pow_add, Nat.mod_mul_right_div_self, Nat.pow_add, Nat.pow_one, Nat.mod_mul_right_mod]
theorem dg_of_hi {b n j k : Nat} (h : k ≤ j) : dg b n j = dg b (n / b ^ k) (j - k) := by
  unfold dg
  rw [Nat.div_div_eq_div_mul, ← Nat.pow_add, show k + (j - k) = j by omega]
theorem dg_ds_ne {b n j k v : Nat} (hv : v < b) (h : j ≠ k) : dg b (ds b n k v) j = dg b n j := by
  have hb : 0 < b := Nat.lt_of_le_of_lt (Nat.zero_le _) hv
  rcases Nat.lt_or_gt_of_ne h with h | h
  · rw [dg_of_lo h, ds_lo hb, ← dg_of_lo h]
  · rw [dg_of_hi (show k + 1 ≤ j from h), ds_hi hv hb, ← dg_of_hi (show k + 1 ≤ j from h)]
theorem ds_lt {b n k v m : Nat} (hv : v < b) (hk : k < m) (hn : n < b ^ m) : ds b n k v < b ^ m := by
  have hb : 0 < b := Nat.lt_of_le_of_lt (Nat.zero_le _) hv
  have hp1 : 0 < b ^ (k + 1) := Nat.pow_pos hb
  have e : b ^ m = b ^ (m - (k + 1)) * b ^ (k + 1) := by rw [← Nat.pow_add, show m - (k + 1) + (k + 1) = m by omega]
  have h1 : n / b ^ (k + 1) < b ^ (m - (k + 1)) := by
    rw [Nat.div_lt_iff_lt_mul hp1, ← e]; exact hn
  have h2 := ds_hi (n := n) (k := k) hv hb
  have h3 : ds b n k v / b ^ (k + 1) < b ^ (m - (k + 1)) := by rw [h2]; exact h1
  rw [Nat.div_lt_iff_lt_mul hp1, ← e] at h3
  exact h3
theorem dg_ext {b : Nat} : ∀ (m n n' : Nat), n < b ^ m → n' < b ^ m → (∀ k, k < m → dg b n k = dg b n' k) → n = n' := by
  intro m
  induction m with
  | zero =>
    intro n n' h h' _
    rw [Nat.pow_zero] at h h'
    omega
  | succ m ih =>
    intro n n' h h' hd
    have hb : 0 < b := by
      rcases Nat.eq_zero_or_pos b with rfl | q
      · rw [Nat.zero_pow (Nat.succ_pos m)] at h; omega
      · exact q
    have hp : 0 < b ^ m := Nat.pow_pos hb
    have e1 : n % b ^ m = n' % b ^ m := by
      refine ih _ _ (Nat.mod_lt _ hp) (Nat.mod_lt _ hp) fun k hk => ?_
      rw [← dg_of_lo hk, ← dg_of_lo hk]
      exact hd k (by omega)
    have e2 : n / b ^ (m + 1) = 0 := Nat.div_eq_of_lt h
    have e3 : n' / b ^ (m + 1) = 0 := Nat.div_eq_of_lt h'
    have s1 := dg_split b n m
    have s2 := dg_split b n' m
    rw [e2, hd m (by omega), e1] at s1
    rw [e3] at s2
    omega
theorem dg_zero (b k : Nat) : dg b 0 k = 0 := by unfold dg; rw [Nat.zero_div, Nat.zero_mod]
/-- the first digit from above that differs decides -/
theorem dg_lt_of {b n n' m k : Nat} (hn : n < b ^ m) (hn' : n' < b ^ m) (hk : k < m) (h : dg b n k < dg b n' k) (hj : ∀ j, k < j → j < m → dg b n j = dg b n' j) : n < n' := by
  have hb : 0 < b := Nat.lt_of_le_of_lt (Nat.zero_le _) (Nat.lt_of_lt_of_le h (Nat.le_of_lt (by
    rcases Nat.eq_zero_or_pos b with rfl | q
    · unfold dg at h; rw [Nat.mod_zero, Nat.mod_zero] at h
      rw [Nat.zero_pow (by omega)] at hn; omega
    · exact dg_lt q _ _)))
  have hp : 0 < b ^ k := Nat.pow_pos hb
  have hp1 : 0 < b ^ (k + 1) := Nat.pow_pos hb
  have e : b ^ m = b ^ (m - (k + 1)) * b ^ (k + 1) := by rw [← Nat.pow_add, show m - (k + 1) + (k + 1) = m by omega]
  have q1 : n / b ^ (k + 1) < b ^ (m - (k + 1)) := by rw [Nat.div_lt_iff_lt_mul hp1, ← e]; exact hn
  have q2 : n' / b ^ (k + 1) < b ^ (m - (k + 1)) := by rw [Nat.div_lt_iff_lt_mul hp1, ← e]; exact hn'
  have e1 : n / b ^ (k + 1) = n' / b ^ (k + 1) := by
    refine dg_ext _ _ _ q1 q2 fun i hi => ?_
    have t1 := dg_of_hi (b := b) (n := n) (j := k + 1 + i) (k := k + 1) (by omega)
    have t2 := dg_of_hi (b := b) (n := n') (j := k + 1 + i) (k := k + 1) (by omega)
    rw [show k + 1 + i - (k + 1) = i by omega] at t1 t2
    rw [← t1, ← t2]
    exact hj _ (by omega) (by omega)
  have s1 := dg_split b n k
  have s2 := dg_split b n' k
  have l1 : n % b ^ k < b ^ k := Nat.mod_lt _ hp
  have l2 : dg b n k * b ^ k + b ^ k ≤ dg b n' k * b ^ k := by
    have := Nat.mul_le_mul_right (b ^ k) (show dg b n k + 1 ≤ dg b n' k from h)
    rw [Nat.add_mul, Nat.one_mul] at this
    exact this
  rw [e1] at s1
  generalize n' / b ^ (k + 1) * b ^ (k + 1) = x1 at *
  generalize dg b n k * b ^ k = x2 at *
  generalize dg b n' k * b ^ k = x3 at *
  generalize n % b ^ k = x4 at *
  generalize n' % b ^ k = x5 at *
  generalize b ^ k = x6 at *
  omega
theorem dg_first {b n n' m : Nat} (hn : n < b ^ m) (hn' : n' < b ^ m) (hne : n ≠ n') : ∃ k, k < m ∧ dg b n k ≠ dg b n' k ∧ ∀ j, k < j → j < m → dg b n j = dg b n' j := by
  have key : ∀ d, d ≤ m → (∀ j, m - d ≤ j → j < m → dg b n j = dg b n' j) ∨ ∃ k, k < m ∧ dg b n k ≠ dg b n' k ∧ ∀ j, k < j → j < m → dg b n j = dg b n' j := by
    intro d
    induction d with
    | zero => intro _; exact Or.inl fun j h1 h2 => absurd h2 (by omega)
    | succ d ih =>
      intro hd
      rcases ih (by omega) with h | h
      · by_cases he : dg b n (m - (d + 1)) = dg b n' (m - (d + 1))
        · refine Or.inl fun j h1 h2 => ?_
          rcases Nat.eq_or_lt_of_le h1 with q | q
          · rw [← q]; exact he
          · exact h j (by omega) h2
        · exact Or.inr ⟨m - (d + 1), by omega, he, fun j h1 h2 => h j (by omega) h2⟩
      · exact Or.inr h
  rcases key m (Nat.le_refl m) with h | h
  · exact absurd (dg_ext m n n' hn hn' fun k hk => h k (by omega) hk) hne
  · exact h
/-! a field of w bits at place s, written -/
def fs (a s w v : Nat) : Nat := a / 2 ^ (s + w) * 2 ^ (s + w) + v * 2 ^ s + a % 2 ^ s
theorem fs_bits {a v s w : Nat} (hv : v < 2 ^ w) (i : Nat) : (fs a s w v).testBit i = if i < s then a.testBit i else if i < s + w then v.testBit (i - s) else a.testBit i := by
  have e : fs a s w v = 2 ^ s * (2 ^ w * (a / 2 ^ (s + w)) + v) + a % 2 ^ s := by
    unfold fs
    rw [Nat.pow_add, Nat.mul_add]; ac_rfl
  rw [e, Nat.testBit_two_pow_mul_add _ (Nat.mod_lt _ (Nat.two_pow_pos s))]
  by_cases h1 : i < s
  · rw [if_pos h1, if_pos h1, Nat.testBit_mod_two_pow, decide_eq_true h1, Bool.true_and]
  · rw [if_neg h1, if_neg h1, Nat.testBit_two_pow_mul_add _ hv]
    by_cases h2 : i < s + w
    · rw [if_pos h2, if_pos (by omega)]
    · rw [if_neg h2, if_neg (by omega), Nat.testBit_div_two_pow, show i - s - w + (s + w) = i by omega]
theorem fs_long {a v s w : Nat} (hv : v < 2 ^ w) : (lN a &&& (lN ((2 ^ w - 1) * 2 ^ s) ^^^ (-1))) ||| lN (v * 2 ^ s) = lN (fs a s w v) := by
  apply Int64.toBitVec_inj.mp
  apply BitVec.eq_of_getLsbD_eq
  intro i hi
  have hm : (-1 : Int64).toBitVec = BitVec.allOnes 64 := by decide
  unfold lN
  rw [Int64.toBitVec_or, Int64.toBitVec_and, Int64.toBitVec_xor, hm]
  simp only [Int64.toBitVec_ofNat', BitVec.getLsbD_or, BitVec.getLsbD_and, BitVec.getLsbD_xor, BitVec.getLsbD_ofNat, BitVec.getLsbD_allOnes, Nat.testBit_mul_two_pow, Nat.testBit_two_pow_sub_one, fs_bits hv]
  have hd : decide (i < 64) = true := decide_eq_true hi
  simp only [hd, Bool.true_and]
  by_cases h1 : i < s
  · have h3 : ¬ i ≥ s := by omega
    simp [h1, h3]
  · have h3 : i ≥ s := by omega
    by_cases h2 : i < s + w
    · have h4 : i - s < w := by omega
      simp [h1, h2, h3, h4]
    · have h4 : ¬ i - s < w := by omega
      have h5 : v.testBit (i - s) = false := Nat.testBit_lt_two_pow (Nat.lt_of_lt_of_le hv (Nat.pow_le_pow_right (by omega) (by omega)))
      simp [h1, h2, h3, h4, h5]

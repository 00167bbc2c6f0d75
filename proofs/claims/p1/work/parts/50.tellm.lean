/-! WHICH SCORE TELLS MOST: both sides by one count -/
/-- what the m-th scale gives to a score t: the joint and 1, or 0 for none -/
def jv (t m : Nat) : Nat := if tr 0 m ≤ t then 1 else if tr 1 m ≤ t then 2 else if tr 2 m ≤ t then 3 else if tr 3 m ≤ t then 4 else if tr 4 m ≤ t then 5 else 0
/-- of the first n scales, how many give j to t -/
def gc (j t : Nat) : Nat → Nat
  | 0 => 0
  | n + 1 => gc j t n + (if jv t n = j then 1 else 0)
/-- how many of the first n scales have joint k's bound at t or below -/
def lec (k t : Nat) : Nat → Nat
  | 0 => 0
  | n + 1 => lec k t n + (if tr k n ≤ t then 1 else 0)
/-- the same of all, summed up below t -/
def cu (k : Nat) : Nat → Nat
  | 0 => 0
  | t + 1 => cu k t + cnt k t 2000
theorem lec_0 (k : Nat) : ∀ n, lec k 0 n = cnt k 0 n
  | 0 => rfl
  | n + 1 => by
    rw [lec, cnt, lec_0 k n]
    by_cases h : tr k n = 0
    · rw [if_pos h, if_pos (by omega)]
    · rw [if_neg h, if_neg (by omega)]
theorem lec_s (k t : Nat) : ∀ n, lec k (t + 1) n = lec k t n + cnt k (t + 1) n
  | 0 => rfl
  | n + 1 => by
    rw [lec, lec, cnt, lec_s k t n]
    by_cases h : tr k n = t + 1
    · rw [if_pos h, if_pos (by omega), if_neg (by omega)]
      omega
    · by_cases h2 : tr k n ≤ t
      · rw [if_neg h, if_pos (by omega), if_pos h2]
        omega
      · rw [if_neg h, if_neg (by omega), if_neg h2]
        omega
theorem cu_lec (k : Nat) : ∀ t, cu k (t + 1) = lec k t 2000
  | 0 => by
    rw [lec_0, cu, cu]
    omega
  | t + 1 => by
    rw [cu, cu_lec k t, lec_s]
theorem tr_anti (k m : Nat) : tr (k + 1) m ≤ tr k m := by
  unfold tr
  rw [Nat.succ_mul]
  omega
theorem jv_is (t m : Nat) : (tr 0 m ≤ t ∧ tr 1 m ≤ t ∧ tr 2 m ≤ t ∧ tr 3 m ≤ t ∧ tr 4 m ≤ t ∧ jv t m = 1) ∨ (¬ tr 0 m ≤ t ∧ tr 1 m ≤ t ∧ tr 2 m ≤ t ∧ tr 3 m ≤ t ∧ tr 4 m ≤ t ∧ jv t m = 2) ∨ (¬ tr 0 m ≤ t ∧ ¬ tr 1 m ≤ t ∧ tr 2 m ≤ t ∧ tr 3 m ≤ t ∧ tr 4 m ≤ t ∧ jv t m = 3) ∨ (¬ tr 0 m ≤ t ∧ ¬ tr 1 m ≤ t ∧ ¬ tr 2 m ≤ t ∧ tr 3 m ≤ t ∧ tr 4 m ≤ t ∧ jv t m = 4) ∨ (¬ tr 0 m ≤ t ∧ ¬ tr 1 m ≤ t ∧ ¬ tr 2 m ≤ t ∧ ¬ tr 3 m ≤ t ∧ tr 4 m ≤ t ∧ jv t m = 5) ∨ (¬ tr 0 m ≤ t ∧ ¬ tr 1 m ≤ t ∧ ¬ tr 2 m ≤ t ∧ ¬ tr 3 m ≤ t ∧ ¬ tr 4 m ≤ t ∧ jv t m = 0) := by
  have a0 : tr 1 m ≤ tr 0 m := tr_anti 0 m
  have a1 : tr 2 m ≤ tr 1 m := tr_anti 1 m
  have a2 : tr 3 m ≤ tr 2 m := tr_anti 2 m
  have a3 : tr 4 m ≤ tr 3 m := tr_anti 3 m
  unfold jv
  by_cases h0 : tr 0 m ≤ t
  · rw [if_pos h0]; omega
  · rw [if_neg h0]
    by_cases h1 : tr 1 m ≤ t
    · rw [if_pos h1]; omega
    · rw [if_neg h1]
      by_cases h2 : tr 2 m ≤ t
      · rw [if_pos h2]; omega
      · rw [if_neg h2]
        by_cases h3 : tr 3 m ≤ t
        · rw [if_pos h3]; omega
        · rw [if_neg h3]
          by_cases h4 : tr 4 m ≤ t
          · rw [if_pos h4]; omega
          · rw [if_neg h4]; omega
theorem lec_gc (t : Nat) : ∀ n, lec 0 t n = gc 1 t n ∧ lec 1 t n = lec 0 t n + gc 2 t n ∧ lec 2 t n = lec 1 t n + gc 3 t n ∧ lec 3 t n = lec 2 t n + gc 4 t n ∧ lec 4 t n = lec 3 t n + gc 5 t n ∧ n = lec 4 t n + gc 0 t n
  | 0 => ⟨rfl, rfl, rfl, rfl, rfl, rfl⟩
  | n + 1 => by
    obtain ⟨h0, h1, h2, h3, h4, h5⟩ := lec_gc t n
    simp only [lec, gc]
    rcases jv_is t n with ⟨c0, c1, c2, c3, c4, e⟩ | ⟨c0, c1, c2, c3, c4, e⟩ | ⟨c0, c1, c2, c3, c4, e⟩ | ⟨c0, c1, c2, c3, c4, e⟩ | ⟨c0, c1, c2, c3, c4, e⟩ | ⟨c0, c1, c2, c3, c4, e⟩ <;> simp only [c0, c1, c2, c3, c4, e, if_true, if_false, Nat.reduceEqDiff, reduceIte] <;> omega
theorem gc_le (j t : Nat) : ∀ n, gc j t n ≤ n
  | 0 => Nat.le_refl 0
  | n + 1 => by
    have h := gc_le j t n
    rw [gc]
    split <;> omega
theorem lec_le (k t : Nat) : ∀ n, lec k t n ≤ n
  | 0 => Nat.le_refl 0
  | n + 1 => by
    have h := lec_le k t n
    rw [lec]
    split <;> omega
/-- the most scales that give one and the same to a score -/
def mxv (t : Nat) : Nat := max (max (max (max (max (gc 1 t 2000) (gc 2 t 2000)) (gc 3 t 2000)) (gc 4 t 2000)) (gc 5 t 2000)) (gc 0 t 2000)
theorem mxv_le (t : Nat) : mxv t ≤ 2000 := by
  unfold mxv
  have := gc_le 0 t 2000
  have := gc_le 1 t 2000
  have := gc_le 2 t 2000
  have := gc_le 3 t 2000
  have := gc_le 4 t 2000
  have := gc_le 5 t 2000
  omega
/-- the score told below t, and its most -/
def tf : Nat → Int32 × Nat
  | 0 => (-1, 2001)
  | t + 1 => if mxv t < (tf t).2 then (nI t, mxv t) else tf t
theorem tf_le : ∀ t, (tf t).2 ≤ 2001
  | 0 => Nat.le_refl _
  | t + 1 => by
    rw [tf]
    split
    · exact Nat.le_trans (mxv_le t) (by decide)
    · exact tf_le t
theorem mxN {a b : Nat} (ha : a < 2 ^ 31) (hb : b < 2 ^ 31) : (if nI a < nI b then nI b else nI a) = nI (max a b) := by
  by_cases h : a < b
  · rw [if_pos (nI_lt h hb), Nat.max_eq_right (by omega)]
  · rw [if_neg (nI_nlt (by omega) ha), Nat.max_eq_left (by omega)]
theorem mx0 {b : Nat} (hb : b < 2 ^ 31) : (if (0 : Int32) < nI b then nI b else 0) = nI b := by
  have h := mxN (a := 0) (b := b) (by decide) hb
  rw [Nat.zero_max] at h
  exact h
theorem df0 (t : Nat) : nI (cu 0 (t + 1)) - 0 = nI (gc 1 t 2000) := by
  rw [cu_lec, (lec_gc t 2000).1]
  exact Int32.sub_zero _
theorem df1 (t : Nat) : nI (cu 1 (t + 1)) - nI (cu 0 (t + 1)) = nI (gc 2 t 2000) := by
  have h := (lec_gc t 2000).2.1
  rw [cu_lec, cu_lec, pk_sub (by omega)]
  congr 1
  omega
theorem df2 (t : Nat) : nI (cu 2 (t + 1)) - nI (cu 1 (t + 1)) = nI (gc 3 t 2000) := by
  have h := (lec_gc t 2000).2.2.1
  rw [cu_lec, cu_lec, pk_sub (by omega)]
  congr 1
  omega
theorem df3 (t : Nat) : nI (cu 3 (t + 1)) - nI (cu 2 (t + 1)) = nI (gc 4 t 2000) := by
  have h := (lec_gc t 2000).2.2.2.1
  rw [cu_lec, cu_lec, pk_sub (by omega)]
  congr 1
  omega
theorem df4 (t : Nat) : nI (cu 4 (t + 1)) - nI (cu 3 (t + 1)) = nI (gc 5 t 2000) := by
  have h := (lec_gc t 2000).2.2.2.2.1
  rw [cu_lec, cu_lec, pk_sub (by omega)]
  congr 1
  omega
theorem df5 (t : Nat) : nI 2000 - nI (cu 4 (t + 1)) = nI (gc 0 t 2000) := by
  have h := (lec_gc t 2000).2.2.2.2.2
  rw [cu_lec, pk_sub (by omega)]
  congr 1
  omega

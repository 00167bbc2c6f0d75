/-! BOTH SIDES ANSWER ALIKE ON A NEW OBJECT -/
theorem q_in {a b x u w : Int32} : (if (if a ≤ x ∧ x ≤ b then (1 : Int32) else 0) = 0 then u else w) = if x < a then u else if x ≤ b then w else u := by
  by_cases h1 : x < a
  · rw [if_pos h1, if_neg (c := a ≤ x ∧ x ≤ b) (fun q => absurd h1 (Int32.not_lt.mpr q.1)), if_pos rfl]
  · rw [if_neg h1]
    by_cases h2 : x ≤ b
    · rw [if_pos h2, if_pos (c := a ≤ x ∧ x ≤ b) ⟨Int32.not_lt.mp h1, h2⟩, if_neg (by decide)]
    · rw [if_neg h2, if_neg (c := a ≤ x ∧ x ≤ b) (fun q => h2 q.2), if_pos rfl]
theorem q_write (p0 : Int32) : sP_write p0 = sM_write p0 := by
  unfold sP_write sM_write
  rw [q_in]
theorem q_joint (p0 : Int32) : sP_isJoint p0 = sM_isJoint p0 := by
  unfold sP_isJoint sM_isJoint
  by_cases h1 : p0 < 0
  · rw [if_pos h1, if_neg (fun q => absurd h1 (Int32.not_lt.mpr q.1))]
  · rw [if_neg h1]
    have e : (5 ≤ p0) ↔ ¬ p0 ≤ 4 := by
      rw [Int32.le_iff_toInt_le, Int32.le_iff_toInt_le, show (5 : Int32).toInt = 5 from by decide +kernel, show (4 : Int32).toInt = 4 from by decide +kernel]
      omega
    by_cases h2 : p0 ≤ 4
    · rw [if_pos (c := 0 ≤ p0 ∧ p0 ≤ 4) ⟨Int32.not_lt.mp h1, h2⟩, if_neg (fun q => e.mp q h2)]
    · rw [if_neg (c := 0 ≤ p0 ∧ p0 ≤ 4) (fun q => h2 q.2), if_pos (e.mpr h2)]
theorem q_seen (p0 p1 : Int32) : sP_seen p0 p1 = sM_seen p0 p1 := by
  unfold sP_seen sM_seen
  rw [q_in, q_joint]
theorem q_scale (p0 p1 : Int32) : sP_scale p0 p1 = sM_scale p0 p1 := by
  unfold sP_scale sM_scale
  rw [q_in, q_in]
  by_cases h1 : p0 < 0
  · rw [if_pos h1, if_pos h1]
  · rw [if_neg h1, if_neg h1]
    by_cases h2 : p0 ≤ 99
    · rw [if_neg (Int32.not_lt.mpr h2), if_pos h2]
    · rw [if_pos (Int32.not_le.mp h2), if_neg h2]
theorem q_scales (p0 : Int32) : sP_scales p0 = sM_scales p0 := by
  unfold sP_scales sM_scales
  rw [q_in]
theorem q_keep (p0 : Int32) : sP_keep p0 = sM_keep p0 := rfl
theorem q_back (p0 : Int32) : sP_back p0 = sM_back p0 := rfl
theorem q_count (p0 : Int32) : sP_count p0 = sM_count p0 := rfl

/-! COUNTING SCALES: the m-th of them has the base m / 20, the step m % 20 + 1 -/
/-- a joint's bound by the m-th scale, none below 0 -/
def tr (k m : Nat) : Nat := m / 20 - k * (m % 20 + 1)
/-- of the first n scales, how many have joint k's bound at v -/
def cnt (k v : Nat) : Nat → Nat
  | 0 => 0
  | n + 1 => cnt k v n + (if tr k n = v then 1 else 0)
theorem cnt_le (k v : Nat) : ∀ n, cnt k v n ≤ n
  | 0 => Nat.le_refl 0
  | n + 1 => by
    have h := cnt_le k v n
    rw [cnt]
    split <;> omega
theorem tr_at (k i j : Nat) (hj : j < 20) : tr k (20 * i + j) = i - k * (j + 1) := by
  unfold tr
  rw [show (20 * i + j) / 20 = i by omega, show (20 * i + j) % 20 = j by omega]
theorem upd_ss (f : Nat → Int32) (k : Nat) (x : Int32) : upd f k x k = x := if_pos rfl
theorem upd_no {f : Nat → Int32} {k j : Nat} (x : Int32) (h : ¬ j = k) : upd f k x j = f j := if_neg h
theorem upd_zz (k : Nat) : upd (fun _ => 0) k 0 = (fun _ => 0) := by
  funext j
  unfold upd
  split <;> rfl
theorem note_step {k n : Nat} {r : Nat → Int32} (h : ∀ v, v < 100 → r v = nI (cnt k v n)) {x : Nat} (hx : tr k n = x) : ∀ v, v < 100 → upd r x (r x + 1) v = nI (cnt k v (n + 1)) := by
  intro v hv
  rw [cnt, hx]
  by_cases e : v = x
  · subst e
    rw [upd_ss, if_pos rfl, h v hv, nI_1]
  · rw [upd_no _ e, if_neg (fun q => e q.symm), h v hv]
    rfl
theorem mx_of {B S k : Nat} (hB : B < 100) (hS : S ≤ 20) (hk : k ≤ 4) {kk : Int32} (hkk : kk = nI k) : (if (0 : Int32) < nI B - kk * nI S then nI B - kk * nI S else 0) = nI (B - k * S) := by
  subst hkk
  rw [pk_mul]
  have hb : k * S ≤ 80 := Nat.mul_le_mul hk hS
  generalize k * S = z at hb ⊢
  rcases Nat.lt_or_ge B z with q | q
  · have h := pk_sneg (a := B) (b := z) (by omega) q
    rw [if_neg (fun w => absurd (Int32.lt_trans w h) (by decide +kernel)), show B - z = 0 by omega]
    rfl
  · rw [pk_sub q]
    split
    · rfl
    · next h =>
      have e : B - z = 0 := by
        rcases Nat.eq_zero_or_pos (B - z) with w | w
        · exact w
        · exact absurd (nI_lt (a := 0) w (by omega)) h
      rw [e]
      rfl
theorem lp_gt {L : Int32} {i N : Nat} (hL : L = nI N) (hi : i ≤ N) (hN : N < 2 ^ 31) : ¬ L < nI i := by
  rw [hL]
  exact nI_nlt hi hN
theorem dec1 (i : Nat) : nI (i + 1) + Int32.ofInt (-1) = nI i := by
  have e : Int32.ofInt (-1) = -1 := by decide +kernel
  rw [e]
  exact pk_m1 i

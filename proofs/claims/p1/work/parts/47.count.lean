/-! COUNTING SCALES: the m-th of them has the base m / 20, the step m % 20 + 1 -/
/-- a joint's bound by the m-th scale, none below 0 -/
def tr (k m : Nat) : Nat := m / 20 - k * (m % 20 + 1)
/-- of the first n scales, how many have joint k's bound at v -/
def cnt (k v : Nat) : Nat → Nat
  | 0 => 0
  | n + 1 => cnt k v n + (if tr k n = v then 1 else 0)
theorem cnt_le (k v : Nat) : ∀ n, cnt k v n ≤ n
  | 0 => Nat.le_refl 0
  | n + 1 => by
    have h := cnt_le k v n
    rw [cnt]
    split <;> omega
theorem tr_at (k i j : Nat) (hj : j < 20) : tr k (20 * i + j) = i - k * (j + 1) := by
  unfold tr
  rw [show (20 * i + j) / 20 = i by omega, show (20 * i + j) % 20 = j by omega]
theorem upd_ss (f : Nat → Int32) (k : Nat) (x : Int32) : upd f k x k = x := if_pos rfl
theorem upd_no {f : Nat → Int32} {k j : Nat} (x : Int32) (h : ¬ j = k) : upd f k x j = f j := if_neg h
theorem upd_zz (k : Nat) : upd (fun _ => 0) k 0 = (fun _ => 0) := by
  funext j
  unfold upd
  split <;> rfl
theorem note_step {k n : Nat} {r : Nat → Int32} (h : ∀ v, v < 100 → r v = nI (cnt k v n)) {x : Nat} (hx : tr k n = x) : ∀ v, v < 100 → upd r x (r x + 1) v = nI (cnt k v (n + 1)) := by
  intro v hv
  rw [cnt, hx]
  by_cases e : v = x
  · subst e
    rw [upd_ss, if_pos rfl, h v hv, nI_1]
  · rw [upd_no _ e, if_neg (fun q => e q.symm), h v hv]
    rfl
theorem mx_of {B S k : Nat} (hB : B < 100) (hS : S ≤ 20) (hk : k ≤ 4) {kk : Int32} (hkk : kk = nI k) : (if (0 : Int32) < nI B - kk * nI S then nI B - kk * nI S else 0) = nI (B - k * S) := by
  subst hkk
  rw [pk_mul]
  have hb : k * S ≤ 80 := Nat.mul_le_mul hk hS
  generalize k * S = z at hb ⊢
  rcases Nat.lt_or_ge B z with q | q
  · have h := pk_sneg (a := B) (b := z) (by omega) q
    rw [if_neg (fun w => absurd (Int32.lt_trans w h) (by decide +kernel)), show B - z = 0 by omega]
    rfl
  · rw [pk_sub q]
    split
    · rfl
    · next h =>
      have e : B - z = 0 := by
        rcases Nat.eq_zero_or_pos (B - z) with w | w
        · exact w
        · exact absurd (nI_lt (a := 0) w (by omega)) h
      rw [e]
      rfl
theorem lp_gt {L : Int32} {i N : Nat} (hL : L = nI N) (hi : i ≤ N) (hN : N < 2 ^ 31) : ¬ L < nI i := by
  rw [hL]
  exact nI_nlt hi hN
theorem dec1 (i : Nat) : nI (i + 1) + Int32.ofInt (-1) = nI i := by
  have e : Int32.ofInt (-1) = -1 := by decide +kernel
  rw [e]
  exact pk_m1 i
/-- behind the first n scales: the rows of bounds, the least scale -/
def fdI (n : Nat) (r : Nat → Nat → Int32) (lb lt : Int32) : Prop := (∀ k, k < 5 → ∀ v, v < 100 → r k v = nI (cnt k v n)) ∧ (lb, lt) = if n = 0 then ((-1 : Int32), (-1 : Int32)) else (0, 1)
theorem fdI_0 : fdI 0 (fun _ _ => 0) (-1) (-1) := ⟨fun _ _ _ _ => rfl, rfl⟩
theorem fdI_step {i j : Nat} {r r' : Nat → Nat → Int32} {lb lt : Int32} {z : Int32 × Int32} (hi : i < 100) (hj : j < 20) (h : fdI (20 * i + j) r lb lt) (hr : ∀ k, k < 5 → r' k = upd (r k) (i - k * (j + 1)) (r k (i - k * (j + 1)) + 1)) (hz : z = if nI (20 * i + j) = 0 then (nI i, nI (j + 1)) else (lb, lt)) : fdI (20 * i + j + 1) r' z.1 z.2 := by
  refine ⟨fun k hk v hv => ?_, ?_⟩
  · rw [hr k hk]
    exact note_step (h.1 k hk) (tr_at k i j hj) v hv
  · rw [if_neg (by omega)]
    show z = _
    rw [hz]
    by_cases e : 20 * i + j = 0
    · have e1 : i = 0 := by omega
      have e2 : j = 0 := by omega
      subst e1 e2
      rfl
    · rw [if_neg (nI_ne0 (by omega) (by omega))]
      have h2 := h.2
      rw [if_neg e] at h2
      exact h2

/-! THE MODEL'S COUNT -/
theorem jv_le (t m : Nat) : jv t m < 6 := by
  rcases jv_is t m with h | h | h | h | h | h <;> (have e := h.2.2.2.2.2; omega)
theorem gc_hit (t n : Nat) : nI (gc (jv t n) t n) + 1 = nI (gc (jv t n) t (n + 1)) := by
  rw [gc, if_pos rfl, nI_1]
theorem gc_miss {q t n : Nat} (h : ¬ q = jv t n) : gc q t (n + 1) = gc q t n := by
  rw [gc, if_neg (fun e => h e.symm)]
  rfl
/-- the greatest so far -/
def gm (t : Nat) : Nat → Nat
  | 0 => 0
  | n + 1 => max (gm t n) (gc (jv t n) t (n + 1))
theorem gm_is (t : Nat) : ∀ n, gm t n = max (max (max (max (max (gc 1 t n) (gc 2 t n)) (gc 3 t n)) (gc 4 t n)) (gc 5 t n)) (gc 0 t n)
  | 0 => rfl
  | n + 1 => by
    rw [gm, gm_is t n]
    have hj := jv_le t n
    have m0 : gc 0 t (n + 1) = gc 0 t n + (if jv t n = 0 then 1 else 0) := rfl
    have m1 : gc 1 t (n + 1) = gc 1 t n + (if jv t n = 1 then 1 else 0) := rfl
    have m2 : gc 2 t (n + 1) = gc 2 t n + (if jv t n = 2 then 1 else 0) := rfl
    have m3 : gc 3 t (n + 1) = gc 3 t n + (if jv t n = 3 then 1 else 0) := rfl
    have m4 : gc 4 t (n + 1) = gc 4 t n + (if jv t n = 4 then 1 else 0) := rfl
    have m5 : gc 5 t (n + 1) = gc 5 t n + (if jv t n = 5 then 1 else 0) := rfl
    rw [m0, m1, m2, m3, m4, m5, gc, if_pos rfl]
    generalize jv t n = x at hj
    rcases (show x = 0 ∨ x = 1 ∨ x = 2 ∨ x = 3 ∨ x = 4 ∨ x = 5 by omega) with rfl | rfl | rfl | rfl | rfl | rfl <;> simp only [Nat.reduceEqDiff, reduceIte] <;> omega
theorem gm_le (t : Nat) (n : Nat) : gm t n ≤ n := by
  rw [gm_is]
  have := gc_le 0 t n
  have := gc_le 1 t n
  have := gc_le 2 t n
  have := gc_le 3 t n
  have := gc_le 4 t n
  have := gc_le 5 t n
  omega
theorem gm_mxv (t : Nat) : gm t 2000 = mxv t := gm_is t 2000
/-- the same told score, from 9999 on -/
def tg : Nat → Int32 × Nat
  | 0 => (-1, 9999)
  | t + 1 => if mxv t < (tg t).2 then (nI t, mxv t) else tg t
theorem tg_tf : ∀ t, tg (t + 1) = tf (t + 1)
  | 0 => by
    have h := mxv_le 0
    rw [tg, tf, if_pos (by show mxv 0 < 9999; omega), if_pos (by show mxv 0 < 2001; omega)]
  | t + 1 => by
    rw [tg, tf, tg_tf t]
theorem tg_le : ∀ t, (tg t).2 ≤ 9999
  | 0 => Nat.le_refl _
  | t + 1 => by
    rw [tg]
    split
    · exact Nat.le_trans (mxv_le t) (by decide)
    · exact tg_le t
theorem ltb {t B S k : Nat} (ht : t < 100) (hB : B < 100) (hS : S ≤ 20) (hk : k ≤ 4) {kk : Int32} (hkk : kk = nI k) : (nI t < nI B - kk * nI S) ↔ ¬ B - k * S ≤ t := by
  subst hkk
  rw [pk_mul]
  have hb : k * S ≤ 80 := Nat.mul_le_mul hk hS
  generalize k * S = z at hb ⊢
  rcases Nat.lt_or_ge B z with q | q
  · have h := pk_sneg (a := B) (b := z) (by omega) q
    constructor
    · intro w
      exact absurd (Int32.lt_trans w h) (nI_pos (by omega))
    · intro w
      exact absurd (by omega) w
  · rw [pk_sub q, nI_ltI (by omega) (by omega)]
    omega
theorem orb : ∀ j, j < 20 → nI (2 ^ (j + 1) - 2) ||| ((1 : Int32) <<< (nI (j + 1) &&& 31)) = nI (2 ^ (j + 1 + 1) - 2) := by decide +kernel
theorem shb : ∀ j, j < 20 → ((2097150 : Int32) >>> (nI (j + 1) &&& 31)) &&& 1 = 1 := by decide +kernel
theorem fits_all {x : Int32} {i : Nat} (h : x = if i = 0 then 0 else 2097150) : x ||| 2097150 = if i + 1 = 0 then 0 else (2097150 : Int32) := by
  rw [h, if_neg (Nat.succ_ne_zero i)]
  by_cases e : i = 0
  · rw [if_pos e]
    decide +kernel
  · rw [if_neg e]
    decide +kernel

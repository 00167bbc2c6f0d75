/-! LOOPS: a row a loop -/
theorem inc1 (i : Nat) : nI i + Int32.ofInt 1 = nI (i + 1) := by
  have e : Int32.ofInt 1 = 1 := by decide +kernel
  rw [e]
  exact nI_1 i
theorem lp_no {L : Int32} {i N : Nat} (hL : L = nI N) (hi : i < N) (hN : N < 2 ^ 31) : ¬ L ≤ nI i := by
  rw [hL]
  exact nI_ge hi hN
theorem lp_yes {L : Int32} {i N : Nat} (hL : L = nI N) (hi : i < N) (hN : N < 2 ^ 31) : nI i < L := by
  rw [hL]
  exact nI_lt hi hN
theorem lp_nn {L : Int32} {i N : Nat} (hL : L = nI N) (hi : N ≤ i) (hN : i < 2 ^ 31) : ¬ nI i < L := by
  rw [hL]
  exact nI_nlt hi hN
section LYL
variable {p : Program} {l : Launch} {e : Env} {R : Room} {s : State} {m : MethodId} {args : Array Value} {below : List Frame} {meth : Method} {c : Code} {cells slots : Nat} {Q : State → Prop}
variable {pc nL : Nat} {st : List Value} {D : va_G} {T : List (ClassId × FieldType)} {A : Nat → Prop}
theorem z_loop {α : Type} {N : Nat} (I : Nat → α → Prop) (wo : Nat → α → va_W) (lo : Nat → α → List (Nat × Value))
    (hs : ∀ (i : Nat) (a : α) (H : Heap) (locs : List Loc) (ls : Array Slot), i < N → I i a → Sit D T A s (wo i a) H locs → lv_has ls nL (lo i a) → (∀ (a : α) (H : Heap) (locs : List Loc) (ls : Array Slot), I (i + 1) a → Sit D T A s (wo (i + 1) a) H locs → lv_has ls nL (lo (i + 1) a) → W p l e R s m args below meth c H locs cells slots Q (F0 m pc ls st)) → W p l e R s m args below meth c H locs cells slots Q (F0 m pc ls st))
    (he : ∀ (a : α) (H : Heap) (locs : List Loc) (ls : Array Slot), I N a → Sit D T A s (wo N a) H locs → lv_has ls nL (lo N a) → W p l e R s m args below meth c H locs cells slots Q (F0 m pc ls st)) :
    ∀ (i : Nat) (a : α), i ≤ N → I i a → ∀ (H : Heap) (locs : List Loc) (ls : Array Slot), Sit D T A s (wo i a) H locs → lv_has ls nL (lo i a) → W p l e R s m args below meth c H locs cells slots Q (F0 m pc ls st) := by
  have key : ∀ (n i : Nat) (a : α), i ≤ N → N ≤ i + n → I i a → ∀ (H : Heap) (locs : List Loc) (ls : Array Slot), Sit D T A s (wo i a) H locs → lv_has ls nL (lo i a) → W p l e R s m args below meth c H locs cells slots Q (F0 m pc ls st) := by
    intro n
    induction n with
    | zero =>
      intro i a h1 h2 hI H locs ls hT hl
      have e : i = N := by omega
      subst e
      exact he a H locs ls hI hT hl
    | succ n ih =>
      intro i a h1 h2 hI H locs ls hT hl
      rcases Nat.lt_or_ge i N with q | q
      · exact hs i a H locs ls q hI hT hl (fun a H locs ls hI hT hl => ih (i + 1) a q (by omega) hI H locs ls hT hl)
      · have e : i = N := by omega
        subst e
        exact he a H locs ls hI hT hl
  exact fun i a h hI => key (N - i) i a h (by omega) hI
end LYL
/-- the first told numbers: five joints, the first scale -/
def fr (k : Nat) : Int32 := if k = 0 then 5 else if k = 1 then 40 else if k = 2 then 8 else 0
/-- what is laid before the scale -/
def fl (k : Nat) : Int32 := if 18 ≤ k ∧ k < 24 then (-1) else 0
/-- the first state -/
def fs0 (k : Nat) : Int32 := if 18 ≤ k ∧ k < 24 then (-1) else if k = 30 then 40 else if k = 31 then 8 else 0
theorem upd_z (k : Nat) : upd (fun _ => 0) k (vp_nar .boolean 0) = (fun _ => 0) := by
  funext j
  unfold upd
  split
  · rfl
  · rfl
theorem upd_lt {f : Nat → Int32} {F : Nat → Int32} {i : Nat} {x : Int32} (h : ∀ k, k < i → f k = F k) (hx : x = F i) : ∀ k, k < i + 1 → upd f i x k = F k := by
  intro k hk
  unfold upd
  split
  · next e => rw [e]; exact hx
  · next e => exact h k (by omega)
theorem in_N {i a b : Nat} {x y : Int32} (hx : x = nI a) (hy : y = nI b) (hi : i < 2 ^ 31) (ha : a < 2 ^ 31) (hb : b < 2 ^ 31) : (if x ≤ nI i ∧ nI i ≤ y then (1 : Int32) else 0) = if a ≤ i ∧ i ≤ b then 1 else 0 := by
  subst hx hy
  by_cases h : a ≤ i ∧ i ≤ b
  · rw [if_pos h, if_pos ⟨nI_le h.1 hi, nI_le h.2 hb⟩]
  · rw [if_neg h, if_neg (fun q => h ⟨(nI_leI ha hi).mp q.1, (nI_leI hi hb).mp q.2⟩)]
theorem fr_of {a : Nat → Int32} (h : ∀ k, k < 29 → a k = 0) : ∀ k, k < 29 → upd (upd (upd a 0 5) 1 40) 2 8 k = fr k := by
  intro k hk
  unfold upd fr
  by_cases e2 : k = 2
  · subst e2; rfl
  · by_cases e1 : k = 1
    · subst e1; rfl
    · by_cases e0 : k = 0
      · subst e0; rfl
      · rw [if_neg e2, if_neg e1, if_neg e0, if_neg e0, if_neg e1, if_neg e2]
        exact h k hk
theorem fs0_of {a : Nat → Int32} (h : ∀ k, k < 33 → a k = fl k) : ∀ k, k < 33 → upd (upd a 30 40) 31 8 k = fs0 k := by
  intro k hk
  unfold upd fs0
  by_cases e1 : k = 31
  · subst e1; rfl
  · by_cases e0 : k = 30
    · subst e0; rfl
    · rw [if_neg e1, if_neg e0, h k hk, if_neg e0, if_neg e1]
      rfl
theorem sw_out {x : Int32} (n : Nat) (h : ∀ k, k ≤ n → ¬ x = nI k) (hn : n < 2 ^ 31) : x.toInt < 0 ∨ (n : Int) < x.toInt := by
  by_cases h0 : x < 0
  · exact Or.inl (by simpa using Int32.lt_iff_toInt_lt.mp h0)
  · obtain ⟨j, hj, e⟩ := nI_of h0
    rcases Nat.lt_or_ge n j with q | q
    · right
      rw [e, nI_toInt hj]
      omega
    · exact absurd e (h j q)

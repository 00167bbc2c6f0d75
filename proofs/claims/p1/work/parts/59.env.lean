/-! THE START: what the tables give -/
theorem ev_in : ∀ q ∈ ev_L, Cond.methodLinkNest q.1 q.2.1 q.2.2 RX7 ∈ lw_tbl := by decide +kernel
theorem st_Ev {s : State} {args : Array Value} (hts : ∀ w ∈ lw_tbl, w.before args s = true) : Ev s :=
  ⟨va_AO.of (hts (.arrayOver (.object RX1)) (by decide +kernel)), va_AO.of (hts (.arrayOver (.object RX2)) (by decide +kernel)), hts (.arrayOver (.array .int)) (by decide +kernel), fun q hq => va_Nw.of rfl (hts _ (ev_in q hq))⟩
theorem ar_of {s : State} {c comp : ClassId} {k : Class} {ty : FieldType} (h2 : s.vm.classes[c]? = some k) (h3 : k.kind = .array comp ty) : ArrOfT s c ty := fun _ _ => ⟨fun _ h => (by cases h), k, h2, comp, h3⟩
theorem st_K {s : State} {args : Array Value} (hts : ∀ w ∈ lw_tbl, w.before args s = true) : ∃ (D : va_G) (g : Nat → ClassId), va_K D cls (TY g) s := by
  have htw : ∀ w ∈ wsL_law, w.before args s = true := fun w h => hts w (wsL_law_in w h)
  obtain ⟨c0, i0, hk0⟩ := u_known (C := RX0) (T := TX0) (N := 6) (n := 6) htw inlX0 (hts (.instantiable RX0 6) (by decide +kernel))
  obtain ⟨c1, i1, hk1⟩ := u_known (C := RX1) (T := TX1) (N := 16) (n := 16) htw inlX1 (hts (.instantiable RX1 16) (by decide +kernel))
  obtain ⟨c2, i2, hk2⟩ := u_known (C := RX2) (T := TX2) (N := 3) (n := 3) htw inlX2 (hts (.instantiable RX2 3) (by decide +kernel))
  obtain ⟨c3, i3, hk3⟩ := u_known (C := RX3) (T := TX3) (N := 3) (n := 3) htw inlX3 (hts (.instantiable RX3 3) (by decide +kernel))
  obtain ⟨c4, i4, hk4⟩ := u_known (C := RX4) (T := TX4) (N := 5) (n := 5) htw inlX4 (hts (.instantiable RX4 5) (by decide +kernel))
  obtain ⟨c5, i5, hk5⟩ := u_known (C := RX5) (T := TX5) (N := 8) (n := 8) htw inlX5 (hts (.instantiable RX5 8) (by decide +kernel))
  obtain ⟨c6, i6, hk6⟩ := u_known (C := RX6) (T := TX6) (N := 2) (n := 2) htw inlX6 (hts (.instantiable RX6 2) (by decide +kernel))
  obtain ⟨c7, i7, hk7⟩ := u_known (C := RX7) (T := TX7) (N := 7) (n := 7) htw inlX7 (hts (.instantiable RX7 7) (by decide +kernel))
  obtain ⟨c8, i8, hk8⟩ := u_known (C := RX8) (T := TX8) (N := 21) (n := 21) htw inlX8 (hts (.instantiable RX8 21) (by decide +kernel))
  obtain ⟨a0, k0, m0, e01, e02, e03⟩ := Cond.arrayClass_spec (hts (.arrayClass .int) (by decide +kernel))
  obtain ⟨a1, k1, m1, e11, e12, e13⟩ := Cond.arrayClass_spec (hts (.arrayClass .boolean) (by decide +kernel))
  obtain ⟨m2, a2, k2, e21, -, e22, e23, e24⟩ := Cond.arrayOver_spec (hts (.arrayOver (.object RX1)) (by decide +kernel))
  obtain ⟨m3, a3, k3, e31, -, e32, e33, e34⟩ := Cond.arrayOver_spec (hts (.arrayOver (.object RX2)) (by decide +kernel))
  obtain ⟨m4, a4, k4, e41, e42, e43, e44⟩ := Cond.arrayOver_specA (hts (.arrayOver (.array .int)) (by decide +kernel))
  refine ⟨(fun k => ([c0, c1, c2, c3, c4, c5, c6, c7, c8] : List ClassId).getD k 0, fun k => ([i0, i1, i2, i3, i4, i5, i6, i7, i8] : List (Nat → Nat)).getD k i0), fun k => ([a0, a1, a2, a3, a4] : List ClassId).getD k 0, ?_, ?_⟩
  · intro k q hq
    match k, hq with
    | 0, hq => cases hq; exact hk0
    | 1, hq => cases hq; exact hk1
    | 2, hq => cases hq; exact hk2
    | 3, hq => cases hq; exact hk3
    | 4, hq => cases hq; exact hk4
    | 5, hq => cases hq; exact hk5
    | 6, hq => cases hq; exact hk6
    | 7, hq => cases hq; exact hk7
    | 8, hq => cases hq; exact hk8
    | k + 9, hq => simp [cls] at hq
  · intro k q hq
    match k, hq with
    | 0, hq => cases hq; exact ⟨ar_of e02 e03, e01⟩
    | 1, hq => cases hq; exact ⟨ar_of e12 e13, e11⟩
    | 2, hq => cases hq; exact ⟨ar_of e22 e23, k2, m2, e22, e23, e21, e24⟩
    | 3, hq => cases hq; exact ⟨ar_of e32 e33, k3, m3, e32, e33, e31, e34⟩
    | 4, hq => cases hq; exact ⟨ar_of e42 e43, e44⟩
    | k + 5, hq => simp at hq
def sTm (i : Nat) : Term := Term.string RX4 (sTx.getD i (0, "")).1
set_option maxHeartbeats 4000000 in
set_option maxRecDepth 100000 in
theorem st_X {s : State} {args : Array Value} (hts : ∀ w ∈ lw_tbl, w.before args s = true) (hgv : (Jvm.Cond.and given_1 narrow_1).before args s = true) : ∃ adK adV : Nat → Nat, XS (fun q => s.heap.size ≤ q) adK adV s s.heap := by
  have hs := flat_of_before _ hgv
  have hA : ∀ a : Nat, a < s.heap.size → ¬ (fun q => s.heap.size ≤ q) a := fun a h => Nat.not_le.mpr h
  have g1 : ∀ i, i < 7 → (Cond.exactly (sTm i) "java/lang/String").before args s = true := fun i hi => by
    rcases (show i = 0 ∨ i = 1 ∨ i = 2 ∨ i = 3 ∨ i = 4 ∨ i = 5 ∨ i = 6 by omega) with rfl | rfl | rfl | rfl | rfl | rfl | rfl <;> exact hs _ (by decide +kernel)
  have g2 : ∀ i, i < 7 → (Cond.eq (.field (sTm i) "java/lang/String" "coder" "B") (.int 0)).before args s = true := fun i hi => by
    rcases (show i = 0 ∨ i = 1 ∨ i = 2 ∨ i = 3 ∨ i = 4 ∨ i = 5 ∨ i = 6 by omega) with rfl | rfl | rfl | rfl | rfl | rfl | rfl <;> exact hs _ (by decide +kernel)
  have g3 : ∀ i, i < 7 → (Cond.arrayOf (.field (sTm i) "java/lang/String" "value" "[B") .byte).before args s = true := fun i hi => by
    rcases (show i = 0 ∨ i = 1 ∨ i = 2 ∨ i = 3 ∨ i = 4 ∨ i = 5 ∨ i = 6 by omega) with rfl | rfl | rfl | rfl | rfl | rfl | rfl <;> exact hs _ (by decide +kernel)
  have g4 : ∀ i, i < 7 → (Cond.eq (.length (.field (sTm i) "java/lang/String" "value" "[B")) (.int (Int32.ofNat (sLen.getD i 0)))).before args s = true := fun i hi => by
    rcases (show i = 0 ∨ i = 1 ∨ i = 2 ∨ i = 3 ∨ i = 4 ∨ i = 5 ∨ i = 6 by omega) with rfl | rfl | rfl | rfl | rfl | rfl | rfl <;> exact hs _ (by decide +kernel)
  have g5 : ∀ i, i < 7 → ∀ j, j < sLen.getD i 0 → (Cond.eq (.elem (.field (sTm i) "java/lang/String" "value" "[B") (.int (Int32.ofNat j))) (.int ((sByt.getD i []).getD j 0))).before args s = true := fun i hi j hj => by
    have h : ∀ i, i < 7 → ∀ j, j < sLen.getD i 0 → (Cond.eq (.elem (.field (sTm i) "java/lang/String" "value" "[B") (.int (Int32.ofNat j))) (.int ((sByt.getD i []).getD j 0))) ∈ flatC (Jvm.Cond.and given_1 narrow_1) := by decide +kernel
    exact hs _ (h i hi j hj)
  have g6 : ∀ i j, i < 7 → j < 7 → i ≠ j → (Cond.not (Cond.eq (sTm i) (sTm j))).before args s = true ∨ (Cond.not (Cond.eq (sTm j) (sTm i))).before args s = true := fun i j hi hj hne => by
    have h : ∀ i, i < 7 → ∀ j, j < 7 → i ≠ j → ((Cond.not (Cond.eq (sTm i) (sTm j))) ∈ flatC (Jvm.Cond.and given_1 narrow_1) ∨ (Cond.not (Cond.eq (sTm j) (sTm i))) ∈ flatC (Jvm.Cond.and given_1 narrow_1)) := by decide +kernel
    exact (h i hi j hj hne).imp (hs _) (hs _)
  obtain ⟨adK, adV, hV, hE⟩ := vk_Sof (A := fun q => s.heap.size ≤ q) (N := 7) (tm := sTm) (len := sLen) (byt := sByt) (by decide +kernel) g1 g2 g3 g4 g5 g6 hA
  refine ⟨adK, adV, hV, va_Zof (hts (.laysStatic "java/lang/String" "COMPACT_STRINGS" "Z") (by decide +kernel)) (hts (.initialized "java/lang/String") (by decide +kernel)) (va_eqi (hs (.eq (.static "java/lang/String" "COMPACT_STRINGS" "Z") (.int 1)) (by decide +kernel))) hA, ?_⟩
  intro i q hq
  match i, hq with
  | 0, hq => cases hq; exact vk_R.of (hts (.stringRef RX4 87 "hero") (by decide +kernel)) (hE 0 (by decide))
  | 1, hq => cases hq; exact vk_R.of (hts (.stringRef RX4 93 "boaster") (by decide +kernel)) (hE 1 (by decide))
  | 2, hq => cases hq; exact vk_R.of (hts (.stringRef RX4 95 "modest") (by decide +kernel)) (hE 2 (by decide))
  | 3, hq => cases hq; exact vk_R.of (hts (.stringRef RX4 97 "child") (by decide +kernel)) (hE 3 (by decide))
  | 4, hq => cases hq; exact vk_R.of (hts (.stringRef RX4 99 "hall") (by decide +kernel)) (hE 4 (by decide))
  | 5, hq => cases hq; exact vk_R.of (hts (.stringRef RX4 101 "scale") (by decide +kernel)) (hE 5 (by decide))
  | 6, hq => cases hq; exact vk_R.of (hts (.stringRef RX4 103 "sort") (by decide +kernel)) (hE 6 (by decide))
  | i + 7, hq => simp [sTx] at hq

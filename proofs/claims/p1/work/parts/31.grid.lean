section LYG
variable {p : Program} {l : Launch} {e : Env} {R : Room} {s : State} {m : MethodId} {args : Array Value} {below : List Frame} {meth : Method} {c : Code} {H : Heap} {locs : List Loc} {cells slots : Nat} {Q : State → Prop}
variable {cc : ByteArray} {pc nL : Nat} {ls : Array Slot} {rest st : List Value} {D : va_G} {T : List (ClassId × FieldType)} {A : Nat → Prop} {ws : va_W} {Ts : List Cond} {y0 : MethodName} {ret : Option FieldType}
/-- new int[n][k]: the outer row, and its n rows -/
theorem z_grid (C : Cx p s m args meth c cc nL Ts y0 ret) (hT : Sit D T A s ws H locs) (t0 t1 N' K' : Nat) {cA cI : ClassId} {index : Nat} {n k : Int32} (hcl : Cond.classLink y0.cls index ("[" ++ (FieldType.array .int).toString) ∈ Ts) (hov : va_AOA .int s) (harr : Cond.arrayClass .int ∈ Ts) (ht : T[t0]? = some (cA, .array .int)) (hti : T[t1]? = some (cI, .int)) (hn : ¬ n < 0) (hk : ¬ k < 0) (hN : n.toNatClampNeg = N') (hM : k.toNatClampNeg = K') (hb1 : N' * 4 ≤ 536870912) (hb2 : K' * 4 ≤ 536870912) (hb3 : K' ≤ 536870912) (hcells : cells + (1 + N') ≤ R.cells) (hslots : slots + (N' + N' * K') ≤ R.slots) (hdg : decode cc pc = .ok (.multianewarray index 2, 4))
    (kk : ∀ (q : Nat) (r : Nat → Nat) (H : Heap), Sit D T A s ((ws ++ [(q, .inl (cA, N', .inr (.inr (.inr (.inr (fun i => if i < N' then some (r i) else none))))))]) ++ ((List.range N').map r).map (fun a => (a, .inl (cI, K', .inl (fun _ => 0))))) H locs → W p l e R s m args below meth c H locs (cells + 1 + N') (slots + N' + N' * K') Q (F0 m (pc + 4) ls (.ref q :: rest))) : W p l e R s m args below meth c H locs cells slots Q (F0 m pc ls (.int k :: .int n :: rest)) := by
  have e0 : ws ++ va_pl [] (fun _ => .inr (0, [])) = ws := List.append_nil ws
  have hcy : s.vm.findClass (FieldType.array .int).toString = some cI := (hT.1.2 t1 _ hti).2
  refine va_mna (X := ws) (L := []) (f := fun _ => .inr (0, [])) (z := (K', .inl (fun _ => 0))) C.1.1 C.1.2.1 C.1.2.2.2.1 (C.1.2.2.2.2 _ hcl) hov (C.1.2.2.2.2 _ harr) hcy hT.1 (by rw [e0]; exact hT.2.1) (by rw [e0]; exact hT.2.2.1) hT.2.2.2.1 hT.2.2.2.2 hn hk hN hM hb1 hb2 hb3 rfl rfl hcells hslots (fun c => arrV_new c K' (.int 0)) hdg (fun q r cB H1 _ hr gK gP gD gS => ?_)
  have hl : t0 < T.length := (List.getElem?_eq_some_iff.mp ht).1
  have e : cA = cB := gK.one (i := t0) (j := T.length) (by rw [List.getElem?_append_left hl]; exact ht) (by rw [List.getElem?_append_right (Nat.le_refl _)]; simp)
  subst e
  have er := vr_rows (L := []) (l := (List.range N').map r) (f := fun _ => (.inr (0, []) : va_E)) (e := .inl (cI, K', .inl (fun _ => 0))) (fun a _ h => by cases h)
  rw [← er] at gP gD
  exact kk q r H1 ⟨hT.1, gP, gD, gS, hT.2.2.2.2⟩
end LYG

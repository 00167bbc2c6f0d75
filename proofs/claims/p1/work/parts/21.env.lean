/-! WHAT A STATE SAYS OF NEST MATES AND OF ARRAYS OF REFERENCES -/
theorem va_AOA.moved {t : FieldType} {u U : State} (hvm : u.vm.Alike U.vm) (h : va_AOA t u) : va_AOA t U := by
  have e := Cond.arrayOver_setVmC (args := #[]) (s := u) (vm' := U.vm) hvm (.array t)
  have h1 : (Cond.arrayOver (.array t)).before #[] (u.setVm U.vm) = true := e.trans h
  exact h1
def ev_L : List (String × Nat × MethodName) := [(RX7, 9, yX6_init), (RX7, 18, yX1_init), (RX7, 25, yX4_init), (RX7, 45, yX5_init), (RX7, 52, yX0_init), (RX7, 57, yX2_init), (RX0, 11, yX1_init), (RX2, 9, yX1_init), (RX2, 18, yX6_init), (RX3, 24, yX1_init), (RX4, 11, yX1_init)]
def Ev (U : State) : Prop := va_AO RX1 U ∧ va_AO RX2 U ∧ va_AOA .int U ∧ ∀ q ∈ ev_L, va_Nw (.methodLinkNest q.1 q.2.1 q.2.2 RX7) U
theorem Ev.warm {s U : State} (h : Ev s) (hW : s.WarmedH U.vm) : Ev U := ⟨h.1.moved hW.alike, h.2.1.moved hW.alike, h.2.2.1.moved hW.alike, fun q hq => va_Nw.warmM hW (h.2.2.2 q hq)⟩
theorem Ev.blind : Blind Ev := fun a U g mk h => ⟨va_AO.moved (u := U) (U := U.calling g mk a) (Vm.Alike.refl U.vm) h.1, va_AO.moved (u := U) (U := U.calling g mk a) (Vm.Alike.refl U.vm) h.2.1, va_AOA.moved (u := U) (U := U.calling g mk a) (Vm.Alike.refl U.vm) h.2.2.1, fun q hq => va_Nw.same rfl (u := U) (U := U.calling g mk a) rfl (h.2.2.2 q hq)⟩
theorem Ev.nw {s : State} (h : Ev s) (k : Nat) {a : String} {i : Nat} {y : MethodName} (hk : ev_L[k]? = some (a, i, y)) : va_Nw (.methodLinkNest a i y RX7) s := h.2.2.2 (a, i, y) (List.mem_of_getElem? hk)
theorem zf_0 (N : Nat) (cA : ClassId) : vp_cell cA (N, .inl (fun _ => 0)) = arrV cA N (fun _ => defaultValue .int) := rfl
theorem zf_1 (N : Nat) (cA : ClassId) : vp_cell cA (N, .inl (fun _ => 0)) = arrV cA N (fun _ => defaultValue .boolean) := rfl
section LYN
variable {p : Program} {l : Launch} {e : Env} {R : Room} {s : State} {m : MethodId} {args : Array Value} {below : List Frame} {meth : Method} {c : Code} {H : Heap} {locs : List Loc} {cells slots : Nat} {Q : State → Prop}
variable {cc : ByteArray} {pc nL : Nat} {ls : Array Slot} {rest st : List Value} {D : va_G} {T : List (ClassId × FieldType)} {A : Nat → Prop} {ws : va_W} {Ts : List Cond} {y0 : MethodName} {ret : Option FieldType}
theorem z_new0 (C : Cx p s m args meth c cc nL Ts y0 ret) (hT : Sit D T A s ws H locs) (t0 N' : Nat) {cA : ClassId} {n : Int32} (harr : Cond.arrayClass .int ∈ Ts) (ht : T[t0]? = some (cA, .int)) (hn : ¬ n < 0) (hN : n.toNatClampNeg = N') (hbytes : N' * 4 ≤ 536870912) (hcells : cells + 1 ≤ R.cells) (hslots : slots + N' ≤ R.slots) (hdg : decode cc pc = .ok (.newarray .int, 2))
    (kk : ∀ (q : Nat) (H : Heap), Sit D T A s (ws ++ [(q, .inl (cA, N', .inl (fun _ => 0)))]) H locs → W p l e R s m args below meth c H locs (cells + 1) (slots + N') Q (F0 m (pc + 2) ls (.ref q :: rest))) : W p l e R s m args below meth c H locs cells slots Q (F0 m pc ls (.int n :: rest)) :=
  z_newa (atype := .int) (ty := .int) C hT t0 harr rfl ht (zf_0 N') hn hN hbytes hcells hslots hdg kk
theorem z_new1 (C : Cx p s m args meth c cc nL Ts y0 ret) (hT : Sit D T A s ws H locs) (t0 N' : Nat) {cA : ClassId} {n : Int32} (harr : Cond.arrayClass .boolean ∈ Ts) (ht : T[t0]? = some (cA, .boolean)) (hn : ¬ n < 0) (hN : n.toNatClampNeg = N') (hbytes : N' * 1 ≤ 536870912) (hcells : cells + 1 ≤ R.cells) (hslots : slots + N' ≤ R.slots) (hdg : decode cc pc = .ok (.newarray .boolean, 2))
    (kk : ∀ (q : Nat) (H : Heap), Sit D T A s (ws ++ [(q, .inl (cA, N', .inl (fun _ => 0)))]) H locs → W p l e R s m args below meth c H locs (cells + 1) (slots + N') Q (F0 m (pc + 2) ls (.ref q :: rest))) : W p l e R s m args below meth c H locs cells slots Q (F0 m pc ls (.int n :: rest)) :=
  z_newa (atype := .boolean) (ty := .boolean) C hT t0 harr rfl ht (zf_1 N') hn hN hbytes hcells hslots hdg kk
end LYN

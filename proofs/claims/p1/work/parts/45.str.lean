/-! THE WORDS OF CLAUSES: String constants, their length -/
def sLen : List Nat := [4, 7, 6, 5, 4, 5, 4]
def sByt : List (List Int32) := [[104, 101, 114, 111], [98, 111, 97, 115, 116, 101, 114], [109, 111, 100, 101, 115, 116], [99, 104, 105, 108, 100], [104, 97, 108, 108], [115, 99, 97, 108, 101], [115, 111, 114, 116]]
def sTx : List (Nat × String) := [(87, "hero"), (93, "boaster"), (95, "modest"), (97, "child"), (99, "hall"), (101, "scale"), (103, "sort")]
def XS (A : Nat → Prop) (adK adV : Nat → Nat) (U : State) (H : Heap) : Prop :=
  vk_S 7 sLen sByt adK adV A U H ∧ va_Z "java/lang/String" "COMPACT_STRINGS" "Z" (.int 1) A U H ∧ ∀ (i : Nat) (q : Nat × String), sTx[i]? = some q → vk_R RX4 q.1 q.2 (adK i) U
/-- as a contract has it: nothing of it lies in the contract's world -/
def XC (wi : va_W) (adK adV : Nat → Nat) (U : State) : Prop := XS (va_A wi U.heap.size) adK adV U U.heap
theorem XC.blind {wi : va_W} {adK adV : Nat → Nat} : Blind (XC wi adK adV) := fun a U g mk h => ⟨vk_S.moved (u := U) (U := U.calling g mk a) (Vm.Alike.refl U.vm) h.1, va_Z.moved (u := U) (U := U.calling g mk a) (Vm.Alike.refl U.vm) h.2.1, fun i q hq => vk_R.same (u := U) (U := U.calling g mk a) rfl (h.2.2 i q hq)⟩
theorem XS.pass {D : va_G} {T : List (ClassId × FieldType)} {A : Nat → Prop} {s : State} {ws wi : va_W} {H : Heap} {locs : List Loc} {adK adV : Nat → Nat} (h : XS A adK adV s s.heap) (hT : Sit D T A s ws H locs) (isC : List Nat) (hC : isC.map (fun i => ws[i]?) = wi.map some) : ∀ U : State, U.heap = H → s.WarmedH U.vm → XC wi adK adV U := by
  intro U hU hW
  have hF := va_free (wc := wi) hT.2.2.1 hT.2.2.2.1 hT.2.2.2.2 isC hC
  unfold XC
  rw [hU]
  exact ⟨vk_S.moved hW.alike ((h.1.kept hT.2.2.2.1.2.1).narrow hF), va_Z.moved hW.alike ((h.2.1.kept hT.2.2.2.1.2.1).narrow hF), fun i q hq => vk_R.warm hW (h.2.2 i q hq)⟩
section LYS
variable {p : Program} {l : Launch} {e : Env} {R : Room} {s : State} {m : MethodId} {args : Array Value} {below : List Frame} {meth : Method} {c : Code} {H : Heap} {locs : List Loc} {cells slots : Nat} {Q : State → Prop}
variable {cc : ByteArray} {pc nL : Nat} {ls : Array Slot} {rest st : List Value} {D : va_G} {T : List (ClassId × FieldType)} {A : Nat → Prop} {ws : va_W} {Ts : List Cond} {y0 : MethodName} {ret : Option FieldType}
theorem z_nret {S : Type} {rm : Room} {post : Int32 → S → Prop} {wo : S → va_W} {v : Int32} {ty : FieldType} (C : Cx p s m args meth c cc nL Ts y0 ret) (hret : ret = some ty) (hz : narrow ty (.int v) = .int v) (hT : Sit D T A s ws H locs) (u : S) (hp : post v u) (is : List Nat) (hn : va_nd is = true) (hs : is.map (fun i => ws[i]?) = (wo u).map some) (h1 : cells ≤ rm.cells) (h2 : slots ≤ rm.slots) (hdg : decode cc pc = .ok (.ireturn, 1)) : W p l e R s m args below meth c H locs cells slots (EndI below args s rm D A post wo) (F0 m pc ls [.int v]) := by
  refine W.widen h1 h2 ?_
  exact W.zret (v := v) C.1.1 C.1.2.1 (C.2.1.trans hret) hz (fun t ht hW => ⟨⟨v, u, rfl, hp, by rw [ht]; exact hT.2.1.sub is (fm_of_map hs), hT.2.2.1.sub is hn hs⟩, hT.2.2.2.1.F ht⟩) hT.2.2.2.1.2.2 hdg C.2.2
/-- a virtual call whose receiver is no cell of the world's -/
theorem z_callVS {S : Type} {y : MethodName} {bytes : ByteArray} {maxL n index : Nat} {retc : Option FieldType} {wsC wsC' : List Cond} {rm : Room} {X : State → Prop} {b : Nat} {As : List Value} {wi wr : va_W} {post : Int32 → S → Prop} {wo : S → va_W}
    (C : Cx p s m args meth c cc nL Ts y0 ret) (hM : CtI l y wsC rm D T (.ref b :: As) X wi post wo) (hG : GoodIn Ts (wsV y0.cls index y.cls y wsC)) (hw : wsC = Cond.code y bytes maxL retc :: wsC') (hd : y.cls = y.cls ∧ y.cls ≠ "java/lang/invoke/MethodHandle" ∧ y.cls ≠ "java/lang/invoke/VarHandle" ∧ (parseMethodDescriptor y.desc).map (fun d => d.parameters.length) = some n) (hR : rm.frames + 1 ≤ R.frames ∧ 8 + (maxL + 11) + rm.locals ≤ R.locals) (hf : cells + rm.cells ≤ R.cells ∧ slots + rm.slots ≤ R.slots)
    (hB : Blind X) (hX : ∀ U : State, U.heap = H → s.WarmedH U.vm → X U) (hT : Sit D T A s ws H locs) (isC isR : List Nat) (hnC : va_nd isC = true) (hC : isC.map (fun i => ws[i]?) = wi.map some) (hRr : isR.map (fun i => ws[i]?) = wr.map some) (hnR : va_nd isR = true) (hdis : (isR.all fun i => !isC.contains i) = true) (hrv : ∃ cell : Cell, H[b]? = some cell ∧ cell.vm.isStatics = false ∧ s.vm.findClass y.cls = some cell.cls) (hlen : As.length = n) (hsz : ls.size = nL) (hst : st = As.reverse ++ .ref b :: rest) (hroom : (rest.map fun v => v.category).sum ≤ 8) (hdg : decode cc pc = .ok (.invokevirtual index, 3))
    (kk : ∀ (r : Int32) (u : S) (H : Heap) (locs : List Loc), post r u → Sit D T A s (wr ++ wo u) H locs → W p l e R s m args below meth c H locs (cells + rm.cells) (slots + rm.slots) Q (F0 m (pc + 3) ls (.int r :: rest))) : W p l e R s m args below meth c H locs cells slots Q (F0 m pc ls st) := by
  subst hst
  have hF := va_free (wc := wi) hT.2.2.1 hT.2.2.2.1 hT.2.2.2.2 isC hC
  refine va_calli (va_runV (As := As) (rest := rest) C.1 (hM H.size) (cwV n C.1.2.2.2.2 hG hw rfl rfl hd hR) ⟨PreC.blind hB, hrv, z_pre hT isC hnC hC hX⟩ rfl hlen hsz rfl (lv_room hroom) hdg hf) hT.2.2.2.1 (fun q _ h => hF q h) hF (fun r u t H1 locs1 ht hvm hw hB1 hz1 hk1 hS => ?_)
  obtain ⟨hP1, hD1⟩ := hB1
  rw [ht] at hP1
  exact kk r u H1 locs1 hw (z_after hT isC isR hC hRr hnR hdis hk1 hP1 hD1 hS)
end LYS
theorem dJ0_coder_7d493_0 : decode cJ0_coder_7d493 0 = .ok (.getstatic 38, 3) := by decide +kernel
theorem dJ0_coder_7d493_3 : decode cJ0_coder_7d493 3 = .ok (.ifCond .eq 10, 3) := by decide +kernel
theorem dJ0_coder_7d493_6 : decode cJ0_coder_7d493 6 = .ok (.aload_n 0, 1) := by decide +kernel
theorem dJ0_coder_7d493_7 : decode cJ0_coder_7d493 7 = .ok (.getfield 15, 3) := by decide +kernel
theorem dJ0_coder_7d493_10 : decode cJ0_coder_7d493 10 = .ok (.goto 4, 3) := by decide +kernel
theorem dJ0_coder_7d493_14 : decode cJ0_coder_7d493 14 = .ok (.ireturn, 1) := by decide +kernel
theorem dJ0_length_8abf5_0 : decode cJ0_length_8abf5 0 = .ok (.aload_n 0, 1) := by decide +kernel
theorem dJ0_length_8abf5_1 : decode cJ0_length_8abf5 1 = .ok (.getfield 9, 3) := by decide +kernel
theorem dJ0_length_8abf5_4 : decode cJ0_length_8abf5 4 = .ok (.arraylength, 1) := by decide +kernel
theorem dJ0_length_8abf5_5 : decode cJ0_length_8abf5 5 = .ok (.aload_n 0, 1) := by decide +kernel
theorem dJ0_length_8abf5_6 : decode cJ0_length_8abf5 6 = .ok (.invokevirtual 335, 3) := by decide +kernel
theorem dJ0_length_8abf5_9 : decode cJ0_length_8abf5 9 = .ok (.ishr, 1) := by decide +kernel
theorem dJ0_length_8abf5_10 : decode cJ0_length_8abf5 10 = .ok (.ireturn, 1) := by decide +kernel
set_option maxRecDepth 20000 in
theorem ggJ0_length_8abf5_J0_coder_7d493 : GoodIn wsJ0_length_8abf5 wsJ0_coder_7d493 := goodIn_r _ [6, 7, 8] (by decide +kernel) (by decide +kernel)
set_option maxRecDepth 20000 in
theorem gJ0_length_8abf5_J0_coder_7d493 : GoodIn wsJ0_length_8abf5 (wsV RJ0 335 RJ0 yJ0_coder_7d493 wsJ0_coder_7d493) := goodIn_app (goodIn_of _ (by decide +kernel)) ggJ0_length_8abf5_J0_coder_7d493
set_option maxHeartbeats 4000000 in
set_option maxRecDepth 100000 in
/-- String.coder() of a word -/
theorem c_coder (l : Launch) (D : va_G) (g : Nat → ClassId) (adK adV : Nat → Nat) (i : Nat) (hi : i < 7) : CtI l yJ0_coder_7d493 wsJ0_coder_7d493 { frames := 0, cells := 0, slots := 0, locals := 0 } D (TY g) [.ref (adK i)] (XC [] adK adV) [] (fun r (_ : Unit) => r = 0) (fun _ => []) := by
  refine CtI.intro (cc := cJ0_coder_7d493) (maxL := 1) (ret := (some .byte)) rfl (by decide +kernel) (Nat.le_of_ble_eq_true rfl) ?_
  intro p e s m below meth c A ls C hmn hX hAe hT hl
  have hx := C.1.1
  have hb := C.1.2.1
  have hl : lv_has ls 1 [(0, .ref (adK i))] := hl
  have hXS : XS A adK adV s s.heap := by rw [hAe]; exact hX
  refine va_gets hx hb hXS.2.1 hT.2.2.2.1 C.1.2.2.2.1 (C.1.2.2.2.2 (.fieldLink RJ0 38 "java/lang/String" "COMPACT_STRINGS" "Z") (by decide +kernel)) (fun _ h => h) dJ0_coder_7d493_0 ?_
  refine lv_if_eq (tgt := 13) hx hb dJ0_coder_7d493_3 (by decide +kernel) (fun c9 => absurd c9 (by decide +kernel)) (fun _ => ?_)
  refine lv_aload_n hx hb dJ0_coder_7d493_6 rfl (lv_at hl 0 rfl) ?_
  refine vk_getf hx hb (hXS.1.1 i hi).2.1 hT.2.2.2.1 C.1.2.2.2.1 (C.1.2.2.2.2 (.fieldLink RJ0 15 "java/lang/String" "coder" "B") (by decide +kernel)) (fun _ h => h) dJ0_coder_7d493_7 ?_
  refine lv_goto (tgt := 14) hx hb dJ0_coder_7d493_10 (by decide +kernel) ?_
  exact z_nret C rfl rfl hT () rfl [] rfl rfl (Nat.le_of_ble_eq_true rfl) (Nat.le_of_ble_eq_true rfl) dJ0_coder_7d493_14
set_option maxHeartbeats 4000000 in
set_option maxRecDepth 100000 in
/-- String.length() of a word -/
theorem c_length (l : Launch) (D : va_G) (g : Nat → ClassId) (adK adV : Nat → Nat) (i : Nat) (hi : i < 7) : CtI l yJ0_length_8abf5 wsJ0_length_8abf5 { frames := 1, cells := 0, slots := 0, locals := 30 } D (TY g) [.ref (adK i)] (XC [] adK adV) [] (fun r (_ : Unit) => r = nI (sLen.getD i 0)) (fun _ => []) := by
  refine CtI.intro (cc := cJ0_length_8abf5) (maxL := 1) (ret := (some .int)) rfl (by decide +kernel) (Nat.le_of_ble_eq_true rfl) ?_
  intro p e s m below meth c A ls C hmn hX hAe hT hl
  have hx := C.1.1
  have hb := C.1.2.1
  have hl : lv_has ls 1 [(0, .ref (adK i))] := hl
  have hXS : XS A adK adV s s.heap := by rw [hAe]; exact hX
  refine lv_aload_n hx hb dJ0_length_8abf5_0 rfl (lv_at hl 0 rfl) ?_
  refine vk_getf hx hb (hXS.1.1 i hi).2.2.1 hT.2.2.2.1 C.1.2.2.2.1 (C.1.2.2.2.2 (.fieldLink RJ0 9 "java/lang/String" "value" "[B") (by decide +kernel)) (fun _ h => h) dJ0_length_8abf5_1 ?_
  refine va_tlen hx hb (hXS.1.1 i hi).2.2.2 hT.2.2.2.1 (v := nI (sLen.getD i 0)) rfl dJ0_length_8abf5_4 ?_
  refine lv_aload_n hx hb dJ0_length_8abf5_5 rfl (lv_at hl 0 rfl) ?_
  refine z_callVS (wr := []) (n := 0) C (c_coder l D g adK adV i hi) gJ0_length_8abf5_J0_coder_7d493 rfl (by decide +kernel) ⟨Nat.le_of_ble_eq_true rfl, Nat.le_of_ble_eq_true rfl⟩ ⟨Nat.le_of_ble_eq_true rfl, Nat.le_of_ble_eq_true rfl⟩ XC.blind (hXS.pass hT [] rfl) hT [] [] rfl rfl rfl rfl rfl (vk_recv hXS.1 hi hT.2.2.2.1) rfl hl.1 rfl (Nat.le_of_ble_eq_true rfl) dJ0_length_8abf5_6 (fun r_1 u_2 H locs hp_3 hT => ?_)
  subst hp_3
  refine lv_ishr hx hb dJ0_length_8abf5_9 ?_
  exact z_iret C rfl hT () (sb_shr0 _) [] rfl rfl (Nat.le_of_ble_eq_true rfl) (Nat.le_of_ble_eq_true rfl) dJ0_length_8abf5_10
theorem sLen_ne : ∀ i, i < 7 → ¬ (0 : Int32) = nI (sLen.getD i 0) := by decide +kernel

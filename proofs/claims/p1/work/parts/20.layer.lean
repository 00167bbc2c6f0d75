/-! MY LAYER: one situation, one form of contract, a row a call -/
abbrev cls : List vw_C := [(RX0, TX0, 6), (RX1, TX1, 16), (RX2, TX2, 3), (RX3, TX3, 3), (RX4, TX4, 5), (RX5, TX5, 8), (RX6, TX6, 2), (RX7, TX7, 7), (RX8, TX8, 21)]
/-- the classes of arrays -/
abbrev TY (g : Nat → ClassId) : List (ClassId × FieldType) := [(g 0, .int), (g 1, .boolean), (g 2, .object RX1), (g 3, .object RX2), (g 4, .array .int)]
theorem vin {i : Int32} {n : Nat} (h : (!decide (i < 0) && decide (i.toNatClampNeg < n)) = true) : vp_in i n := by
  simp only [Bool.and_eq_true, Bool.not_eq_true', decide_eq_false_iff_not, decide_eq_true_eq] at h
  intro q
  rcases q with q | q
  · exact h.1 q
  · omega
/-- the machine's side of a method's walk -/
def Cx (p : Program) (s : State) (m : MethodId) (args : Array Value) (meth : Method) (c : Code) (cc : ByteArray) (nL : Nat) (Ts : List Cond) (y : MethodName) (ret : Option FieldType) : Prop :=
  CallFix p m c cc nL s args Ts y.cls ∧ meth.sig.returnType = ret ∧ meth.locks = false
/-- the world's side: what the tables say, the cells, apart, what has changed since the start, what is new is mine -/
def Sit (D : va_G) (T : List (ClassId × FieldType)) (A : Nat → Prop) (s : State) (ws : va_W) (H : Heap) (locs : List Loc) : Prop :=
  va_K D cls T s ∧ va_P D cls ws H ∧ va_D A ws ∧ va_S A s.heap H locs ∧ ∀ q, s.heap.size ≤ q → A q
theorem fm_of_map {α β : Type} {f : α → Option β} : ∀ {is : List α} {ws : List β}, is.map f = ws.map some → is.filterMap f = ws
  | [], [], _ => rfl
  | [], _ :: _, h => by simp at h
  | _ :: _, [], h => by simp at h
  | a :: is, b :: ws, h => by
    rw [List.map_cons, List.map_cons] at h
    have h1 := (List.cons.inj h).1
    have h2 := (List.cons.inj h).2
    rw [List.filterMap_cons, h1, fm_of_map h2]
theorem Sit.sub {D : va_G} {T : List (ClassId × FieldType)} {A : Nat → Prop} {s : State} {ws : va_W} {H : Heap} {locs : List Loc} (h : Sit D T A s ws H locs) (ws' : va_W) (is : List Nat) (hn : va_nd is = true) (hs : is.map (fun i => ws[i]?) = ws'.map some) : Sit D T A s ws' H locs :=
  ⟨h.1, h.2.1.sub is (fm_of_map hs), h.2.2.1.sub is hn hs, h.2.2.2.1, h.2.2.2.2⟩
/-- the same class id for the same type of array -/
theorem va_K.one {D : va_G} {cl : List vw_C} {T : List (ClassId × FieldType)} {s : State} (h : va_K D cl T s) {i j : Nat} {c1 c2 : ClassId} {ty : FieldType} (h1 : T[i]? = some (c1, ty)) (h2 : T[j]? = some (c2, ty)) : c1 = c2 := by
  have g1 := (h.2 i _ h1).2
  have g2 := (h.2 j _ h2).2
  cases ty with
  | object C =>
    obtain ⟨_, _, _, _, _, e1⟩ := g1
    obtain ⟨_, _, _, _, _, e2⟩ := g2
    exact Option.some.inj (e1.symm.trans e2)
  | _ => exact Option.some.inj (Eq.trans (Eq.symm g1) g2)
/-- a contract's start -/
def PreC (D : va_G) (T : List (ClassId × FieldType)) (av : List Value) (X : State → Prop) (wi : va_W) (sz : Nat) : Array Value → State → Prop :=
  va_Pc av (fun U => U.heap.size = sz ∧ va_P D cls wi U.heap ∧ va_K D cls T U ∧ va_D (fun _ => True) wi ∧ X U)
def Blind (X : State → Prop) : Prop := ∀ (a : Array Value) (U : State) (g : JFrame) (mk : MethodId), X U → X (U.calling g mk a)
theorem blind_T : Blind (fun _ => True) := fun _ _ _ _ _ => trivial
theorem PreC.blind {D : va_G} {T : List (ClassId × FieldType)} {av : List Value} {X : State → Prop} {wi : va_W} {sz : Nat} (h : Blind X) : FrameBlind (PreC D T av X wi sz) := by
  intro a U g mk q
  obtain ⟨q0, q1, qP, qK, qD, qX⟩ := q
  exact ⟨q0, q1, qP, va_K.moved (u := U) (U := U.calling g mk a) (Vm.Alike.refl U.vm) qK, qD, h a U g mk qX⟩
/-- a contract whose answer is an int (boolean, too) -/
def CtI {S : Type} (l : Launch) (y : MethodName) (ws : List Cond) (rm : Room) (D : va_G) (T : List (ClassId × FieldType)) (av : List Value) (X : State → Prop) (wi : va_W) (post : Int32 → S → Prop) (wo : S → va_W) : Prop :=
  ∀ sz : Nat, Met l y ws rm (PreC D T av X wi sz) (va_Qi post (fun u t => va_P D cls (wo u) t.heap ∧ va_D (va_A wi sz) (wo u)) (va_A wi sz)) rm.cells rm.slots (va_A wi sz)
/-- a contract without an answer -/
def CtV {S : Type} (l : Launch) (y : MethodName) (ws : List Cond) (rm : Room) (D : va_G) (T : List (ClassId × FieldType)) (av : List Value) (X : State → Prop) (wi : va_W) (post : S → Prop) (wo : S → va_W) : Prop :=
  ∀ sz : Nat, Met l y ws rm (PreC D T av X wi sz) (va_Qv post (fun u t => va_P D cls (wo u) t.heap ∧ va_D (va_A wi sz) (wo u)) (va_A wi sz)) rm.cells rm.slots (va_A wi sz)
/-- the goal at a method's end -/
def EndI {S : Type} (below : List Frame) (args : Array Value) (s : State) (rm : Room) (D : va_G) (A : Nat → Prop) (post : Int32 → S → Prop) (wo : S → va_W) : State → Prop :=
  MQ below (va_Qi post (fun u t => va_P D cls (wo u) t.heap ∧ va_D A (wo u)) A) args s rm.cells rm.slots A
def EndV {S : Type} (below : List Frame) (args : Array Value) (s : State) (rm : Room) (D : va_G) (A : Nat → Prop) (post : S → Prop) (wo : S → va_W) : State → Prop :=
  MQ below (va_Qv post (fun u t => va_P D cls (wo u) t.heap ∧ va_D A (wo u)) A) args s rm.cells rm.slots A
theorem CtI.intro {S : Type} {l : Launch} {y : MethodName} {ws ws' : List Cond} {rm : Room} {D : va_G} {T : List (ClassId × FieldType)} {av : List Value} {X : State → Prop} {wi : va_W} {post : Int32 → S → Prop} {wo : S → va_W} {cc : ByteArray} {maxL : Nat} {ret : Option FieldType}
    (hw : ws = Cond.code y cc maxL ret :: ws') (hy : plainName y.cls = true) (hn : (lg_sl av).length ≤ maxL)
    (body : ∀ (p : Program) (e : Env) (s : State) (m : MethodId) (below : List Frame) (meth : Method) (c : Code) (A : Nat → Prop) (ls : Array Slot), Cx p s m av.toArray meth c cc maxL ws y ret → meth.name = y.name → X s → (A = va_A wi s.heap.size) → Sit D T A s wi s.heap [] → lv_has ls maxL (lv_args 0 av) →
      W p l e rm s m av.toArray below meth c s.heap [] 0 0 (EndI below av.toArray s rm D A post wo) (F0 m 0 ls [])) : CtI l y ws rm D T av X wi post wo := by
  intro sz
  refine Met.ofW (cc := cc) (maxL := maxL) (ret := ret) hy hw ?_
  intro p e s m args below meth c s₁ B hml hv
  obtain ⟨rfl, hsz, hP, hK, hD0, hX⟩ := hv
  subst hsz
  rw [lg_entry_eq]
  exact body p e s m below meth c (va_A wi s.heap.size) _ ⟨⟨B.exec, B.bytes, hml, findClass_of_methodNamed B.named, atoms_spec (ws := ws) B.pre⟩, B.returns, B.notSynchronized⟩ (name_of_methodNamed B.named B.method).1 hX rfl ⟨hK, hP, hD0.self, va_S.rf, fun q h => Or.inr h⟩ (lv_entry av hn)
theorem CtV.intro {S : Type} {l : Launch} {y : MethodName} {ws ws' : List Cond} {rm : Room} {D : va_G} {T : List (ClassId × FieldType)} {av : List Value} {X : State → Prop} {wi : va_W} {post : S → Prop} {wo : S → va_W} {cc : ByteArray} {maxL : Nat} {ret : Option FieldType}
    (hw : ws = Cond.code y cc maxL ret :: ws') (hy : plainName y.cls = true) (hn : (lg_sl av).length ≤ maxL)
    (body : ∀ (p : Program) (e : Env) (s : State) (m : MethodId) (below : List Frame) (meth : Method) (c : Code) (A : Nat → Prop) (ls : Array Slot), Cx p s m av.toArray meth c cc maxL ws y ret → meth.name = y.name → X s → (A = va_A wi s.heap.size) → Sit D T A s wi s.heap [] → lv_has ls maxL (lv_args 0 av) →
      W p l e rm s m av.toArray below meth c s.heap [] 0 0 (EndV below av.toArray s rm D A post wo) (F0 m 0 ls [])) : CtV l y ws rm D T av X wi post wo := by
  intro sz
  refine Met.ofW (cc := cc) (maxL := maxL) (ret := ret) hy hw ?_
  intro p e s m args below meth c s₁ B hml hv
  obtain ⟨rfl, hsz, hP, hK, hD0, hX⟩ := hv
  subst hsz
  rw [lg_entry_eq]
  exact body p e s m below meth c (va_A wi s.heap.size) _ ⟨⟨B.exec, B.bytes, hml, findClass_of_methodNamed B.named, atoms_spec (ws := ws) B.pre⟩, B.returns, B.notSynchronized⟩ (name_of_methodNamed B.named B.method).1 hX rfl ⟨hK, hP, hD0.self, va_S.rf, fun q h => Or.inr h⟩ (lv_entry av hn)
section LY
variable {p : Program} {l : Launch} {e : Env} {R : Room} {s : State} {m : MethodId} {args : Array Value} {below : List Frame} {meth : Method} {c : Code} {H : Heap} {locs : List Loc} {cells slots : Nat} {Q : State → Prop}
variable {cc : ByteArray} {pc nL : Nat} {ls : Array Slot} {rest st : List Value} {D : va_G} {T : List (ClassId × FieldType)} {A : Nat → Prop} {ws : va_W} {Ts : List Cond} {y0 : MethodName} {ret : Option FieldType}
theorem z_eq {x y : Int32} (h : x = y) (k : W p l e R s m args below meth c H locs cells slots Q (F0 m pc ls (.int y :: rest))) : W p l e R s m args below meth c H locs cells slots Q (F0 m pc ls (.int x :: rest)) := h ▸ k
theorem z_iret {S : Type} {rm : Room} {post : Int32 → S → Prop} {wo : S → va_W} {v : Int32} (C : Cx p s m args meth c cc nL Ts y0 ret) (hret : ret = some .int) (hT : Sit D T A s ws H locs) (u : S) (hp : post v u) (is : List Nat) (hn : va_nd is = true) (hs : is.map (fun i => ws[i]?) = (wo u).map some) (h1 : cells ≤ rm.cells) (h2 : slots ≤ rm.slots) (hdg : decode cc pc = .ok (.ireturn, 1)) : W p l e R s m args below meth c H locs cells slots (EndI below args s rm D A post wo) (F0 m pc ls [.int v]) := by
  refine W.widen h1 h2 ?_
  exact W.iret (v := v) C.1.1 C.1.2.1 (C.2.1.trans hret) (fun t ht hW => ⟨⟨v, u, rfl, hp, by rw [ht]; exact hT.2.1.sub is (fm_of_map hs), hT.2.2.1.sub is hn hs⟩, hT.2.2.2.1.F ht⟩) hT.2.2.2.1.2.2 hdg C.2.2
theorem z_zret {S : Type} {rm : Room} {post : Int32 → S → Prop} {wo : S → va_W} {v : Int32} (C : Cx p s m args meth c cc nL Ts y0 ret) (hret : ret = some .boolean) (hz : narrow .boolean (.int v) = .int v) (hT : Sit D T A s ws H locs) (u : S) (hp : post v u) (is : List Nat) (hn : va_nd is = true) (hs : is.map (fun i => ws[i]?) = (wo u).map some) (h1 : cells ≤ rm.cells) (h2 : slots ≤ rm.slots) (hdg : decode cc pc = .ok (.ireturn, 1)) : W p l e R s m args below meth c H locs cells slots (EndI below args s rm D A post wo) (F0 m pc ls [.int v]) := by
  refine W.widen h1 h2 ?_
  exact W.zret (v := v) C.1.1 C.1.2.1 (C.2.1.trans hret) hz (fun t ht hW => ⟨⟨v, u, rfl, hp, by rw [ht]; exact hT.2.1.sub is (fm_of_map hs), hT.2.2.1.sub is hn hs⟩, hT.2.2.2.1.F ht⟩) hT.2.2.2.1.2.2 hdg C.2.2
theorem z_vret {S : Type} {rm : Room} {post : S → Prop} {wo : S → va_W} (C : Cx p s m args meth c cc nL Ts y0 ret) (hret : ret = none) (hT : Sit D T A s ws H locs) (u : S) (hp : post u) (is : List Nat) (hn : va_nd is = true) (hs : is.map (fun i => ws[i]?) = (wo u).map some) (h1 : cells ≤ rm.cells) (h2 : slots ≤ rm.slots) (hdg : decode cc pc = .ok (.return_, 1)) : W p l e R s m args below meth c H locs cells slots (EndV below args s rm D A post wo) (F0 m pc ls []) := by
  refine W.widen h1 h2 ?_
  exact W.vret C.1.1 C.1.2.1 (C.2.1.trans hret) (fun t ht hW => ⟨⟨u, rfl, hp, by rw [ht]; exact hT.2.1.sub is (fm_of_map hs), hT.2.2.1.sub is hn hs⟩, hT.2.2.2.1.F ht⟩) hT.2.2.2.1.2.2 hdg C.2.2
theorem z_get (C : Cx p s m args meth c cc nL Ts y0 ret) {ci N index a : Nat} {Cn : String} {TT : u_T} {fs : List Value} {v : Value} (hc : cls[ci]? = some (Cn, TT, N)) (hin : ∀ w ∈ u_ws Cn TT N, w ∈ Ts) (hT : Sit D T A s ws H locs) (q0 k : Nat) (he : ws[q0]? = some (a, .inr (ci, fs))) (hv : fs[k]? = some v) (hk : k < N) (hl : Cond.fieldLink y0.cls index (TT k).1 (TT k).2.1 (TT k).2.2.1 ∈ Ts) (hdg : decode cc pc = .ok (.getfield index, 3))
    (kk : W p l e R s m args below meth c H locs cells slots Q (F0 m (pc + 3) ls (v :: rest))) : W p l e R s m args below meth c H locs cells slots Q (F0 m pc ls (.ref a :: rest)) :=
  va_get C.1.1 C.1.2.1 C.1.2.2.2.2 hin C.1.2.2.2.1 hT.1 hT.2.1 q0 he hc k hk (C.1.2.2.2.2 _ hl) (fun _ h => h) hv hdg kk
theorem z_put (C : Cx p s m args meth c cc nL Ts y0 ret) {ci N index a : Nat} {Cn : String} {TT : u_T} {fs : List Value} {v : Value} {ty0 : Nat → FieldType} (hc : cls[ci]? = some (Cn, TT, N)) (hin : ∀ w ∈ u_ws Cn TT N, w ∈ Ts) (hty : ∀ k, k < N → parseFieldDescriptor (TT k).2.2.1 = some (ty0 k)) (hnm : ∀ a, a < N → ∀ b, b < N → a ≠ b → (TT a).2.1 ≠ (TT b).2.1) (hT : Sit D T A s ws H locs) (q0 k : Nat) (he : ws[q0]? = some (a, .inr (ci, fs))) (hkl : k < fs.length) (hk : k < N) (hl : Cond.fieldLink y0.cls index (TT k).1 (TT k).2.1 (TT k).2.2.1 ∈ Ts) (hfin : (TT k).2.2.2 = false) (hn : narrow (ty0 k) v = v) (hfit : fits (ty0 k) v = true) (hdg : decode cc pc = .ok (.putfield index, 3)) (ws' : va_W) (hw : ws.set q0 (a, .inr (ci, fs.set k v)) = ws')
    (kk : ∀ (H : Heap) (locs : List Loc), Sit D T A s ws' H locs → W p l e R s m args below meth c H locs cells slots Q (F0 m (pc + 3) ls rest)) : W p l e R s m args below meth c H locs cells slots Q (F0 m pc ls (v :: .ref a :: rest)) := by
  subst hw
  exact va_put C.1.1 C.1.2.1 C.1.2.2.2.2 hin ty0 hty hnm C.1.2.2.2.1 hT.1 hT.2.1 hT.2.2.1 hT.2.2.2.1 q0 he hc k hk (C.1.2.2.2.2 _ hl) (fun _ h => h) hfin (hty k hk) hn hfit hkl hdg (fun H1 l1 g1 g2 g3 => kk H1 l1 ⟨hT.1, g1, g2, g3, hT.2.2.2.2⟩)
theorem z_putF (C : Cx p s m args meth c cc nL Ts y0 ret) {ci N index a : Nat} {Cn : String} {TT : u_T} {fs : List Value} {v : Value} {ty0 : Nat → FieldType} (hc : cls[ci]? = some (Cn, TT, N)) (hin : ∀ w ∈ u_ws Cn TT N, w ∈ Ts) (hty : ∀ k, k < N → parseFieldDescriptor (TT k).2.2.1 = some (ty0 k)) (hnm : ∀ a, a < N → ∀ b, b < N → a ≠ b → (TT a).2.1 ≠ (TT b).2.1) (hT : Sit D T A s ws H locs) (q0 k : Nat) (he : ws[q0]? = some (a, .inr (ci, fs))) (hkl : k < fs.length) (hk : k < N) (hl : Cond.fieldLink y0.cls index (TT k).1 (TT k).2.1 (TT k).2.2.1 ∈ Ts) (hfin : (TT k).2.2.2 = true) (hmn : meth.name = "<init>") (hdecl : (TT k).1 = y0.cls) (hn : narrow (ty0 k) v = v) (hfit : fits (ty0 k) v = true) (hdg : decode cc pc = .ok (.putfield index, 3)) (ws' : va_W) (hw : ws.set q0 (a, .inr (ci, fs.set k v)) = ws')
    (kk : ∀ (H : Heap) (locs : List Loc), Sit D T A s ws' H locs → W p l e R s m args below meth c H locs cells slots Q (F0 m (pc + 3) ls rest)) : W p l e R s m args below meth c H locs cells slots Q (F0 m pc ls (v :: .ref a :: rest)) := by
  subst hw
  exact va_putF C.1.1 C.1.2.1 C.1.2.2.2.2 hin ty0 hty hnm C.1.2.2.2.1 hT.1 hT.2.1 hT.2.2.1 hT.2.2.2.1 q0 he hc k hk (C.1.2.2.2.2 _ hl) (fun _ h => h) hfin hmn hdecl (hty k hk) hn hfit hkl hdg (fun H1 l1 g1 g2 g3 => kk H1 l1 ⟨hT.1, g1, g2, g3, hT.2.2.2.2⟩)
theorem z_iald (C : Cx p s m args meth c cc nL Ts y0 ret) (hT : Sit D T A s ws H locs) (q0 t0 : Nat) {a n : Nat} {cA : ClassId} {f : Nat → Int32} {i v : Int32} (ha : ws[q0]? = some (a, .inl (cA, n, .inl f))) (ht : T[t0]? = some (cA, .int)) (hin : vp_in i n) (hv : f i.toNatClampNeg = v) (hdg : decode cc pc = .ok (.iaload, 1))
    (kk : W p l e R s m args below meth c H locs cells slots Q (F0 m (pc + 1) ls (.int v :: rest))) : W p l e R s m args below meth c H locs cells slots Q (F0 m pc ls (.int i :: .ref a :: rest)) := by
  subst hv
  exact va_iald C.1.1 C.1.2.1 hT.1 hT.2.1 q0 t0 ha ht hin hdg kk
theorem z_iast (C : Cx p s m args meth c cc nL Ts y0 ret) (hT : Sit D T A s ws H locs) (q0 t0 : Nat) {a n : Nat} {cA : ClassId} {f : Nat → Int32} {i x : Int32} (ha : ws[q0]? = some (a, .inl (cA, n, .inl f))) (ht : T[t0]? = some (cA, .int)) (hin : vp_in i n) (hdg : decode cc pc = .ok (.iastore, 1)) (f' : Nat → Int32) (hf : upd f i.toNatClampNeg x = f') (ws' : va_W) (hw : ws.set q0 (a, .inl (cA, n, .inl f')) = ws')
    (kk : ∀ (H : Heap) (locs : List Loc), Sit D T A s ws' H locs → W p l e R s m args below meth c H locs cells slots Q (F0 m (pc + 1) ls rest)) : W p l e R s m args below meth c H locs cells slots Q (F0 m pc ls (.int x :: .int i :: .ref a :: rest)) := by
  subst hw
  subst hf
  exact va_iast C.1.1 C.1.2.1 hT.1 hT.2.1 hT.2.2.1 hT.2.2.2.1 q0 t0 ha ht hin hdg (fun H1 l1 g1 g2 g3 => kk H1 l1 ⟨hT.1, g1, g2, g3, hT.2.2.2.2⟩)
theorem z_zald (C : Cx p s m args meth c cc nL Ts y0 ret) (hT : Sit D T A s ws H locs) (q0 t0 : Nat) {a n : Nat} {cA : ClassId} {f : Nat → Int32} {i v : Int32} (ha : ws[q0]? = some (a, .inl (cA, n, .inl f))) (ht : T[t0]? = some (cA, .boolean)) (hin : vp_in i n) (hv : f i.toNatClampNeg = v) (hdg : decode cc pc = .ok (.baload, 1))
    (kk : W p l e R s m args below meth c H locs cells slots Q (F0 m (pc + 1) ls (.int v :: rest))) : W p l e R s m args below meth c H locs cells slots Q (F0 m pc ls (.int i :: .ref a :: rest)) := by
  subst hv
  exact va_zald C.1.1 C.1.2.1 hT.1 hT.2.1 q0 t0 ha ht hin hdg kk
theorem z_zast (C : Cx p s m args meth c cc nL Ts y0 ret) (hT : Sit D T A s ws H locs) (q0 t0 : Nat) {a n : Nat} {cA : ClassId} {f : Nat → Int32} {i x : Int32} (ha : ws[q0]? = some (a, .inl (cA, n, .inl f))) (ht : T[t0]? = some (cA, .boolean)) (hin : vp_in i n) (hdg : decode cc pc = .ok (.bastore, 1)) (f' : Nat → Int32) (hf : upd f i.toNatClampNeg (vp_nar .boolean x) = f') (ws' : va_W) (hw : ws.set q0 (a, .inl (cA, n, .inl f')) = ws')
    (kk : ∀ (H : Heap) (locs : List Loc), Sit D T A s ws' H locs → W p l e R s m args below meth c H locs cells slots Q (F0 m (pc + 1) ls rest)) : W p l e R s m args below meth c H locs cells slots Q (F0 m pc ls (.int x :: .int i :: .ref a :: rest)) := by
  subst hw
  subst hf
  exact va_zast C.1.1 C.1.2.1 hT.1 hT.2.1 hT.2.2.1 hT.2.2.2.1 q0 t0 ha ht hin hdg (fun H1 l1 g1 g2 g3 => kk H1 l1 ⟨hT.1, g1, g2, g3, hT.2.2.2.2⟩)
/-- an element of an array of references: of objects, or of arrays -/
theorem z_aald (C : Cx p s m args meth c cc nL Ts y0 ret) (hT : Sit D T A s ws H locs) (q0 t0 : Nat) {a n : Nat} {cA : ClassId} {ty : FieldType} {f : Nat → Option Nat} {i : Int32} {v : Value} (ha : ws[q0]? = some (a, .inl (cA, n, .inr (.inr (.inr (.inr f)))))) (ht : T[t0]? = some (cA, ty)) (hk : refKind ty = true) (hin : vp_in i n) (hv : va_rf (f i.toNatClampNeg) = v) (hdg : decode cc pc = .ok (.aaload, 1))
    (kk : W p l e R s m args below meth c H locs cells slots Q (F0 m (pc + 1) ls (v :: rest))) : W p l e R s m args below meth c H locs cells slots Q (F0 m pc ls (.int i :: .ref a :: rest)) := by
  subst hv
  have hlt : i.toNatClampNeg < n := Nat.not_le.mp fun q => hin (Or.inr q)
  exact W.aald (v := va_rf (f i.toNatClampNeg)) (ty := ty) C.1.1 C.1.2.1 (hT.2.1 q0 _ ha) ((hT.1.2 t0 _ ht).1 n (fun j => va_rf (f j))) hk (fun q => by cases q) (by show ¬ (i < 0 ∨ (arrV _ _ _).slots.size ≤ _); rw [arrV_size]; exact hin) (by show (arrV _ _ _).slots[_]? = _; rw [arrV_read _ _ hlt]) rfl rfl hdg kk
theorem z_aast (C : Cx p s m args meth c cc nL Ts y0 ret) (hT : Sit D T A s ws H locs) (q0 t0 qk ci : Nat) {a n v : Nat} {cA : ClassId} {r : vw_C} {vs : List Value} {f : Nat → Option Nat} {i : Int32} (ha : ws[q0]? = some (a, .inl (cA, n, .inr (.inr (.inr (.inr f)))))) (ht : T[t0]? = some (cA, .object r.1)) (hv : ws[qk]? = some (v, .inr (ci, vs))) (hc : cls[ci]? = some r) (hin : vp_in i n) (hdg : decode cc pc = .ok (.aastore, 1)) (f' : Nat → Option Nat) (hf : va_up f i.toNatClampNeg (some v) = f') (ws' : va_W) (hw : ws.set q0 (a, .inl (cA, n, .inr (.inr (.inr (.inr f'))))) = ws')
    (kk : ∀ (H : Heap) (locs : List Loc), Sit D T A s ws' H locs → W p l e R s m args below meth c H locs cells slots Q (F0 m (pc + 1) ls rest)) : W p l e R s m args below meth c H locs cells slots Q (F0 m pc ls (.ref v :: .int i :: .ref a :: rest)) := by
  subst hw
  subst hf
  exact va_astq C.1.1 C.1.2.1 hT.1 hT.2.1 hT.2.2.1 hT.2.2.2.1 q0 t0 qk ci ha ht hv hc hin hdg (fun H1 l1 g1 g2 g3 => kk H1 l1 ⟨hT.1, g1, g2, g3, hT.2.2.2.2⟩)
theorem z_newa (C : Cx p s m args meth c cc nL Ts y0 ret) (hT : Sit D T A s ws H locs) (t0 : Nat) {atype : ArrayType} {ty : FieldType} {cA : ClassId} {n : Int32} {N' : Nat} (harr : Cond.arrayClass (newarray.typeOf atype) ∈ Ts) (hty : newarray.typeOf atype = ty) (ht : T[t0]? = some (cA, ty)) (h0 : ∀ cA : ClassId, vp_cell cA (N', .inl (fun _ => 0)) = arrV cA N' (fun _ => defaultValue ty)) (hn : ¬ n < 0) (hN : n.toNatClampNeg = N') (hbytes : N' * componentBytes ty ≤ 536870912) (hcells : cells + 1 ≤ R.cells) (hslots : slots + N' ≤ R.slots) (hdg : decode cc pc = .ok (.newarray atype, 2))
    (kk : ∀ (q : Nat) (H : Heap), Sit D T A s (ws ++ [(q, .inl (cA, N', .inl (fun _ => 0)))]) H locs → W p l e R s m args below meth c H locs (cells + 1) (slots + N') Q (F0 m (pc + 2) ls (.ref q :: rest))) : W p l e R s m args below meth c H locs cells slots Q (F0 m pc ls (.int n :: rest)) := by
  refine va_newa (a0 := (N', .inl (fun _ => 0))) C.1.1 C.1.2.1 (C.1.2.2.2.2 _ harr) hty hT.1 hT.2.1 hT.2.2.1 hT.2.2.2.1 hT.2.2.2.2 h0 hn hN hbytes hcells hslots hdg (fun q cB H1 gK gP gD gS => ?_)
  have hl : t0 < T.length := (List.getElem?_eq_some_iff.mp ht).1
  have e : cA = cB := gK.one (i := t0) (j := T.length) (by rw [List.getElem?_append_left hl]; exact ht) (by rw [List.getElem?_append_right (Nat.le_refl _)]; simp)
  subst e
  exact kk q H1 ⟨hT.1, gP, gD, gS, hT.2.2.2.2⟩
theorem z_newq (C : Cx p s m args meth c cc nL Ts y0 ret) (hT : Sit D T A s ws H locs) (t0 : Nat) {Cn : String} {index : Nat} {cA : ClassId} {n : Int32} {N' : Nat} (hcl : Cond.classLink y0.cls index Cn ∈ Ts) (hov : va_AO Cn s) (ht : T[t0]? = some (cA, .object Cn)) (hn : ¬ n < 0) (hN : n.toNatClampNeg = N') (hbytes : N' * 4 ≤ 536870912) (hcells : cells + 1 ≤ R.cells) (hslots : slots + N' ≤ R.slots) (hdg : decode cc pc = .ok (.anewarray index, 3))
    (kk : ∀ (q : Nat) (H : Heap), Sit D T A s (ws ++ [(q, .inl (cA, N', .inr (.inr (.inr (.inr (fun _ => none))))))]) H locs → W p l e R s m args below meth c H locs (cells + 1) (slots + N') Q (F0 m (pc + 3) ls (.ref q :: rest))) : W p l e R s m args below meth c H locs cells slots Q (F0 m pc ls (.int n :: rest)) := by
  refine va_newq C.1.1 C.1.2.1 C.1.2.2.2.1 (C.1.2.2.2.2 _ hcl) hov hT.1 hT.2.1 hT.2.2.1 hT.2.2.2.1 hT.2.2.2.2 hn hN hbytes hcells hslots hdg (fun q cB H1 gK gP gD gS => ?_)
  have hl : t0 < T.length := (List.getElem?_eq_some_iff.mp ht).1
  have e : cA = cB := gK.one (i := t0) (j := T.length) (by rw [List.getElem?_append_left hl]; exact ht) (by rw [List.getElem?_append_right (Nat.le_refl _)]; simp)
  subst e
  exact kk q H1 ⟨hT.1, gP, gD, gS, hT.2.2.2.2⟩
theorem z_new (C : Cx p s m args meth c cc nL Ts y0 ret) {ci N index : Nat} {Cn : String} {TT : u_T} {ty0 : Nat → FieldType} (hc : cls[ci]? = some (Cn, TT, N)) (hin : ∀ w ∈ u_ws Cn TT N, w ∈ Ts) (hty : ∀ k, k < N → parseFieldDescriptor (TT k).2.2.1 = some (ty0 k)) (hT : Sit D T A s ws H locs) (fs : List Value) (hcl : Cond.classLink y0.cls index Cn ∈ Ts) (hinst : Cond.instantiable Cn N ∈ Ts) (hini : Cond.initialized Cn ∈ Ts) (hfs : ∀ j, j < N → defaultValue (ty0 j) = vp_V fs j) (hcells : cells + 1 ≤ R.cells) (hslots : slots + N ≤ R.slots) (hdg : decode cc pc = .ok (.new index, 3))
    (kk : ∀ (q : Nat) (H : Heap), Sit D T A s (ws ++ [(q, .inr (ci, fs))]) H locs → W p l e R s m args below meth c H locs (cells + 1) (slots + N) Q (F0 m (pc + 3) ls (.ref q :: rest))) : W p l e R s m args below meth c H locs cells slots Q (F0 m pc ls rest) :=
  va_new (c0 := c) C.1.1 C.1.2.1 C.1.2.2.2.2 hin ty0 hty C.1.2.2.2.1 (C.1.2.2.2.2 _ hcl) (C.1.2.2.2.2 _ hinst) (C.1.2.2.2.2 _ hini) hT.1 hT.2.1 hT.2.2.1 hT.2.2.2.1 hT.2.2.2.2 hc hfs hcells hslots hdg (fun q H1 gP gD gS => kk q H1 ⟨hT.1, gP, gD, gS, hT.2.2.2.2⟩)
theorem z_objInit (C : Cx p s m args meth c cc nL Ts y0 ret) {idx a : Nat} (hl : Cond.methodLink y0.cls idx Lib.objectInit ∈ Ts) (hi : Cond.instanceMethod Lib.objectInit ∈ Ts) (hcd : Cond.code Lib.objectInit ⟨#[0xb1]⟩ 1 none ∈ Ts) (hsz : ls.size = nL) (hdg : decode cc pc = .ok (.invokespecial idx, 3)) (hf : 1 ≤ R.frames) (hlo : 2 * (F0 m pc ls (.ref a :: rest)).monitorRoom + (rest.map fun v => v.category).sum + 12 ≤ R.locals)
    (kk : W p l e R s m args below meth c H locs cells slots Q (F0 m (pc + 3) ls rest)) : W p l e R s m args below meth c H locs cells slots Q (F0 m pc ls (.ref a :: rest)) :=
  W.objInit C.1.1 C.1.2.1 C.1.2.2.2.1 (C.1.2.2.2.2 _ hl) (C.1.2.2.2.2 _ hi) (C.1.2.2.2.2 _ hcd) rfl (by rw [C.1.2.2.1]; exact hsz) rfl hdg hf hlo kk
/-- the callee's start, out of the caller's situation -/
theorem z_pre {X : State → Prop} {wi : va_W} {av : List Value} (hT : Sit D T A s ws H locs) (isC : List Nat) (hnC : va_nd isC = true) (hC : isC.map (fun i => ws[i]?) = wi.map some) (hX : ∀ U : State, U.heap = H → s.WarmedH U.vm → X U) : ∀ U : State, U.heap = H → s.WarmedH U.vm → PreC D T av X wi H.size av.toArray U := by
  intro U hU hW
  refine ⟨rfl, by rw [hU], by rw [hU]; exact hT.2.1.sub isC (fm_of_map hC), va_K.moved hW.alike hT.1, (hT.2.2.1.sub isC hnC hC).weaken (fun _ _ _ _ => trivial), hX U hU hW⟩
theorem z_after {wi wr wo : va_W} {H1 : Heap} {locs1 : List Loc} (hT : Sit D T A s ws H locs) (isC isR : List Nat) (hC : isC.map (fun i => ws[i]?) = wi.map some) (hR : isR.map (fun i => ws[i]?) = wr.map some) (hnR : va_nd isR = true) (hdis : (isR.all fun i => !isC.contains i) = true)
    (hk : ∀ q : Nat, q < H.size → ¬ va_A wi H.size q → H1[q]? = H[q]?) (hP1 : va_P D cls wo H1) (hD1 : va_D (va_A wi H.size) wo) (hS1 : va_S A s.heap H1 locs1) : Sit D T A s (wr ++ wo) H1 locs1 := by
  have hF := va_free (wc := wi) hT.2.2.1 hT.2.2.2.1 hT.2.2.2.2 isC hC
  have h := va_join (wr := wr) (w1 := wo) hT.2.1 hT.2.2.1 isC isR hC hR hnR (fun i hi h => by
    have h2 := List.all_eq_true.mp hdis i hi
    simp [h] at h2) hk hF hP1 hD1
  exact ⟨hT.1, h.1, h.2, hS1, hT.2.2.2.2⟩
theorem z_callVI {S : Type} {y : MethodName} {bytes : ByteArray} {maxL n index : Nat} {retc : Option FieldType} {wsC wsC' : List Cond} {rm : Room} {X : State → Prop} {b : Nat} {As : List Value} {wi wr : va_W} {post : Int32 → S → Prop} {wo : S → va_W} {ci N : Nat} {Cn : String} {TT : u_T} {fs : List Value}
    (C : Cx p s m args meth c cc nL Ts y0 ret) (hM : CtI l y wsC rm D T (.ref b :: As) X wi post wo) (hG : GoodIn Ts (wsV y0.cls index y.cls y wsC)) (hw : wsC = Cond.code y bytes maxL retc :: wsC') (hd : y.cls = y.cls ∧ y.cls ≠ "java/lang/invoke/MethodHandle" ∧ y.cls ≠ "java/lang/invoke/VarHandle" ∧ (parseMethodDescriptor y.desc).map (fun d => d.parameters.length) = some n) (hR : rm.frames + 1 ≤ R.frames ∧ 8 + (maxL + 11) + rm.locals ≤ R.locals) (hf : cells + rm.cells ≤ R.cells ∧ slots + rm.slots ≤ R.slots)
    (hB : Blind X) (hX : ∀ U : State, U.heap = H → s.WarmedH U.vm → X U) (hT : Sit D T A s ws H locs) (isC isR : List Nat) (hnC : va_nd isC = true) (hC : isC.map (fun i => ws[i]?) = wi.map some) (hRr : isR.map (fun i => ws[i]?) = wr.map some) (hnR : va_nd isR = true) (hdis : (isR.all fun i => !isC.contains i) = true) (qr : Nat) (hrv : ws[qr]? = some (b, .inr (ci, fs))) (hcl : cls[ci]? = some (Cn, TT, N)) (hcn : Cn = y.cls) (hlen : As.length = n) (hsz : ls.size = nL) (hst : st = As.reverse ++ .ref b :: rest) (hroom : (rest.map fun v => v.category).sum ≤ 8) (hdg : decode cc pc = .ok (.invokevirtual index, 3))
    (kk : ∀ (r : Int32) (u : S) (H : Heap) (locs : List Loc), post r u → Sit D T A s (wr ++ wo u) H locs → W p l e R s m args below meth c H locs (cells + rm.cells) (slots + rm.slots) Q (F0 m (pc + 3) ls (.int r :: rest))) : W p l e R s m args below meth c H locs cells slots Q (F0 m pc ls st) := by
  subst hst
  subst hcn
  have hF := va_free (wc := wi) hT.2.2.1 hT.2.2.2.1 hT.2.2.2.2 isC hC
  refine va_calli (va_runV (As := As) (rest := rest) C.1 (hM H.size) (cwV n C.1.2.2.2.2 hG hw rfl rfl hd hR) ⟨PreC.blind hB, va_recv hT.1 hT.2.1 hcl hrv, z_pre hT isC hnC hC hX⟩ rfl hlen hsz rfl (lv_room hroom) hdg hf) hT.2.2.2.1 (fun q _ h => hF q h) hF (fun r u t H1 locs1 ht hvm hw hB1 hz1 hk1 hS => ?_)
  obtain ⟨hP1, hD1⟩ := hB1
  rw [ht] at hP1
  exact kk r u H1 locs1 hw (z_after hT isC isR hC hRr hnR hdis hk1 hP1 hD1 hS)
theorem z_callVV {S : Type} {y : MethodName} {bytes : ByteArray} {maxL n index : Nat} {retc : Option FieldType} {wsC wsC' : List Cond} {rm : Room} {X : State → Prop} {b : Nat} {As : List Value} {wi wr : va_W} {post : S → Prop} {wo : S → va_W} {ci N : Nat} {Cn : String} {TT : u_T} {fs : List Value}
    (C : Cx p s m args meth c cc nL Ts y0 ret) (hM : CtV l y wsC rm D T (.ref b :: As) X wi post wo) (hG : GoodIn Ts (wsV y0.cls index y.cls y wsC)) (hw : wsC = Cond.code y bytes maxL retc :: wsC') (hd : y.cls = y.cls ∧ y.cls ≠ "java/lang/invoke/MethodHandle" ∧ y.cls ≠ "java/lang/invoke/VarHandle" ∧ (parseMethodDescriptor y.desc).map (fun d => d.parameters.length) = some n) (hR : rm.frames + 1 ≤ R.frames ∧ 8 + (maxL + 11) + rm.locals ≤ R.locals) (hf : cells + rm.cells ≤ R.cells ∧ slots + rm.slots ≤ R.slots)
    (hB : Blind X) (hX : ∀ U : State, U.heap = H → s.WarmedH U.vm → X U) (hT : Sit D T A s ws H locs) (isC isR : List Nat) (hnC : va_nd isC = true) (hC : isC.map (fun i => ws[i]?) = wi.map some) (hRr : isR.map (fun i => ws[i]?) = wr.map some) (hnR : va_nd isR = true) (hdis : (isR.all fun i => !isC.contains i) = true) (qr : Nat) (hrv : ws[qr]? = some (b, .inr (ci, fs))) (hcl : cls[ci]? = some (Cn, TT, N)) (hcn : Cn = y.cls) (hlen : As.length = n) (hsz : ls.size = nL) (hst : st = As.reverse ++ .ref b :: rest) (hroom : (rest.map fun v => v.category).sum ≤ 8) (hdg : decode cc pc = .ok (.invokevirtual index, 3))
    (kk : ∀ (u : S) (H : Heap) (locs : List Loc), post u → Sit D T A s (wr ++ wo u) H locs → W p l e R s m args below meth c H locs (cells + rm.cells) (slots + rm.slots) Q (F0 m (pc + 3) ls rest)) : W p l e R s m args below meth c H locs cells slots Q (F0 m pc ls st) := by
  subst hst
  subst hcn
  have hF := va_free (wc := wi) hT.2.2.1 hT.2.2.2.1 hT.2.2.2.2 isC hC
  refine va_callv (va_runV (As := As) (rest := rest) C.1 (hM H.size) (cwV n C.1.2.2.2.2 hG hw rfl rfl hd hR) ⟨PreC.blind hB, va_recv hT.1 hT.2.1 hcl hrv, z_pre hT isC hnC hC hX⟩ rfl hlen hsz rfl (lv_room hroom) hdg hf) hT.2.2.2.1 (fun q _ h => hF q h) hF (fun u t H1 locs1 ht hvm hw hB1 hz1 hk1 hS => ?_)
  obtain ⟨hP1, hD1⟩ := hB1
  rw [ht] at hP1
  exact kk u H1 locs1 hw (z_after hT isC isR hC hRr hnR hdis hk1 hP1 hD1 hS)
theorem z_callSI {S : Type} {y : MethodName} {bytes : ByteArray} {maxL n index : Nat} {retc : Option FieldType} {wsC wsC' : List Cond} {rm : Room} {X : State → Prop} {As : List Value} {wi wr : va_W} {post : Int32 → S → Prop} {wo : S → va_W}
    (C : Cx p s m args meth c cc nL Ts y0 ret) (hM : CtI l y wsC rm D T As X wi post wo) (hG : GoodIn Ts (va_wsS y0.cls index y wsC)) (hw : wsC = Cond.code y bytes maxL retc :: wsC') (hd : y.cls ≠ "java/lang/invoke/MethodHandle" ∧ y.cls ≠ "java/lang/invoke/VarHandle" ∧ (parseMethodDescriptor y.desc).map (fun d => d.parameters.length) = some n) (hR : rm.frames + 1 ≤ R.frames ∧ 8 + (maxL + 11) + rm.locals ≤ R.locals) (hf : cells + rm.cells ≤ R.cells ∧ slots + rm.slots ≤ R.slots)
    (hB : Blind X) (hX : ∀ U : State, U.heap = H → s.WarmedH U.vm → X U) (hT : Sit D T A s ws H locs) (isC isR : List Nat) (hnC : va_nd isC = true) (hC : isC.map (fun i => ws[i]?) = wi.map some) (hRr : isR.map (fun i => ws[i]?) = wr.map some) (hnR : va_nd isR = true) (hdis : (isR.all fun i => !isC.contains i) = true) (hlen : As.length = n) (hsz : ls.size = nL) (hst : st = As.reverse ++ rest) (hroom : (rest.map fun v => v.category).sum ≤ 8) (hdg : decode cc pc = .ok (.invokestatic index, 3))
    (kk : ∀ (r : Int32) (u : S) (H : Heap) (locs : List Loc), post r u → Sit D T A s (wr ++ wo u) H locs → W p l e R s m args below meth c H locs (cells + rm.cells) (slots + rm.slots) Q (F0 m (pc + 3) ls (.int r :: rest))) : W p l e R s m args below meth c H locs cells slots Q (F0 m pc ls st) := by
  subst hst
  have hF := va_free (wc := wi) hT.2.2.1 hT.2.2.2.1 hT.2.2.2.2 isC hC
  refine va_calli (va_runS (As := As) (rest := rest) C.1 (hM H.size) (va_cwS n C.1.2.2.2.2 hG hw rfl rfl hd hR) ⟨PreC.blind hB, z_pre hT isC hnC hC hX⟩ rfl hlen hsz rfl (lv_room hroom) hdg hf) hT.2.2.2.1 (fun q _ h => hF q h) hF (fun r u t H1 locs1 ht hvm hw hB1 hz1 hk1 hS => ?_)
  obtain ⟨hP1, hD1⟩ := hB1
  rw [ht] at hP1
  exact kk r u H1 locs1 hw (z_after hT isC isR hC hRr hnR hdis hk1 hP1 hD1 hS)
/-- a constructor, linked as any other -/
theorem z_callI {S : Type} {y : MethodName} {bytes : ByteArray} {maxL n index : Nat} {wsC wsC' : List Cond} {rm : Room} {X : State → Prop} {b : Nat} {As : List Value} {wi wr : va_W} {post : S → Prop} {wo : S → va_W}
    (C : Cx p s m args meth c cc nL Ts y0 ret) (hM : CtV l y wsC rm D T (.ref b :: As) X wi post wo) (hG : GoodIn Ts wsC) (hw : wsC = Cond.code y bytes maxL none :: wsC') (hini : Cond.initialized y.cls ∈ Ts) (hlk : Cond.methodLink y0.cls index y ∈ Ts) (hinm : Cond.instanceMethod y ∈ Ts) (hyn : y.name = "<init>") (hd : y.cls ≠ "java/lang/invoke/MethodHandle" ∧ y.cls ≠ "java/lang/invoke/VarHandle" ∧ (parseMethodDescriptor y.desc).map (fun d => d.parameters.length) = some n) (hR : rm.frames + 1 ≤ R.frames ∧ 8 + (maxL + 11) + rm.locals ≤ R.locals) (hf : cells + rm.cells ≤ R.cells ∧ slots + rm.slots ≤ R.slots)
    (hB : Blind X) (hX : ∀ U : State, U.heap = H → s.WarmedH U.vm → X U) (hT : Sit D T A s ws H locs) (isC isR : List Nat) (hnC : va_nd isC = true) (hC : isC.map (fun i => ws[i]?) = wi.map some) (hRr : isR.map (fun i => ws[i]?) = wr.map some) (hnR : va_nd isR = true) (hdis : (isR.all fun i => !isC.contains i) = true) (hlen : As.length = n) (hsz : ls.size = nL) (hst : st = As.reverse ++ .ref b :: rest) (hroom : (rest.map fun v => v.category).sum ≤ 8) (hdg : decode cc pc = .ok (.invokespecial index, 3))
    (kk : ∀ (u : S) (H : Heap) (locs : List Loc), post u → Sit D T A s (wr ++ wo u) H locs → W p l e R s m args below meth c H locs (cells + rm.cells) (slots + rm.slots) Q (F0 m (pc + 3) ls rest)) : W p l e R s m args below meth c H locs cells slots Q (F0 m pc ls st) := by
  subst hst
  have hF := va_free (wc := wi) hT.2.2.1 hT.2.2.2.1 hT.2.2.2.2 isC hC
  refine va_callv (va_runI (As := As) (rest := rest) C.1 (hM H.size) (cwI n C.1.2.2.2.2 hG hw rfl rfl (C.1.2.2.2.2 _ hini) (C.1.2.2.2.2 _ hlk) (C.1.2.2.2.2 _ hinm) hyn hd hR) ⟨PreC.blind hB, z_pre hT isC hnC hC hX⟩ rfl hlen hsz rfl (lv_room hroom) hdg hf) hT.2.2.2.1 (fun q _ h => hF q h) hF (fun u t H1 locs1 ht hvm hw hB1 hz1 hk1 hS => ?_)
  obtain ⟨hP1, hD1⟩ := hB1
  rw [ht] at hP1
  exact kk u H1 locs1 hw (z_after hT isC isR hC hRr hnR hdis hk1 hP1 hD1 hS)
/-- a private constructor of a nest mate -/
theorem z_callIN {S : Type} {y : MethodName} {bytes : ByteArray} {maxL n index : Nat} {host : String} {wsC wsC' : List Cond} {rm : Room} {X : State → Prop} {b : Nat} {As : List Value} {wi wr : va_W} {post : S → Prop} {wo : S → va_W}
    (C : Cx p s m args meth c cc nL Ts y0 ret) (hM : CtV l y wsC rm D T (.ref b :: As) X wi post wo) (hG : GoodIn Ts wsC) (hw : wsC = Cond.code y bytes maxL none :: wsC') (hlk : va_Nw (.methodLinkNest y0.cls index y host) s) (hini : Cond.initialized y.cls ∈ Ts) (hinm : Cond.instanceMethod y ∈ Ts) (hyn : y.name = "<init>") (hd : y.cls ≠ "java/lang/invoke/MethodHandle" ∧ y.cls ≠ "java/lang/invoke/VarHandle" ∧ (parseMethodDescriptor y.desc).map (fun d => d.parameters.length) = some n) (hR : rm.frames + 1 ≤ R.frames ∧ 8 + (maxL + 11) + rm.locals ≤ R.locals) (hf : cells + rm.cells ≤ R.cells ∧ slots + rm.slots ≤ R.slots)
    (hB : Blind X) (hX : ∀ U : State, U.heap = H → s.WarmedH U.vm → X U) (hT : Sit D T A s ws H locs) (isC isR : List Nat) (hnC : va_nd isC = true) (hC : isC.map (fun i => ws[i]?) = wi.map some) (hRr : isR.map (fun i => ws[i]?) = wr.map some) (hnR : va_nd isR = true) (hdis : (isR.all fun i => !isC.contains i) = true) (hlen : As.length = n) (hsz : ls.size = nL) (hst : st = As.reverse ++ .ref b :: rest) (hroom : (rest.map fun v => v.category).sum ≤ 8) (hdg : decode cc pc = .ok (.invokespecial index, 3))
    (kk : ∀ (u : S) (H : Heap) (locs : List Loc), post u → Sit D T A s (wr ++ wo u) H locs → W p l e R s m args below meth c H locs (cells + rm.cells) (slots + rm.slots) Q (F0 m (pc + 3) ls rest)) : W p l e R s m args below meth c H locs cells slots Q (F0 m pc ls st) := by
  subst hst
  have hF := va_free (wc := wi) hT.2.2.1 hT.2.2.2.1 hT.2.2.2.2 isC hC
  refine va_callv (va_runIN (As := As) (rest := rest) C.1 (hM H.size) ⟨va_cnB n C.1.2.2.2.2 hG hw rfl rfl hlk (C.1.2.2.2.2 _ hini) hd hR, hyn, C.1.2.2.2.2 _ hinm⟩ ⟨PreC.blind hB, z_pre hT isC hnC hC hX⟩ rfl hlen hsz rfl (lv_room hroom) hdg hf) hT.2.2.2.1 (fun q _ h => hF q h) hF (fun u t H1 locs1 ht hvm hw hB1 hz1 hk1 hS => ?_)
  obtain ⟨hP1, hD1⟩ := hB1
  rw [ht] at hP1
  exact kk u H1 locs1 hw (z_after hT isC isR hC hRr hnR hdis hk1 hP1 hD1 hS)
end LY

set_option maxHeartbeats 4000000 in
set_option maxRecDepth 100000 in
/-- the law behind its one call -/
theorem law_tail {p : Program} {l : Launch} {e : Env} {s : State} {m : MethodId} {below : List Frame} {meth : Method} {c : Code} {b q0 q1 : Nat} {xs : Nat → Int32} {D : va_G} {g : Nat → ClassId} {H : Heap} {locs : List Loc} {ls : Array Slot} {ws : va_W} (C : Cx p s m #[.ref b] meth c code 4 wsL_law yL_law ret) (hXs : va_X b 6 xs s s.heap) (hbl : b < s.heap.size) (hT : Sit D (TY g) (fun q => s.heap.size ≤ q) s ws H locs) (hl : lv_has ls 4 [(3, .int 0), (2, .ref q1), (1, .ref q0), (0, .ref b)]) : W p l e room_1 s m #[.ref b] below meth c H locs 1000 20000 (lw_Z below #[.ref b] s) (F0 m 719 ls []) := by
  have hx := C.1.1
  have hb := C.1.2.1
  have hbA : ¬ (fun q : Nat => s.heap.size ≤ q) b := Nat.not_le.mpr hbl
  refine lv_iinc (v := 6) (lv' := [(3, .int 6), (2, .ref q1), (1, .ref q0), (0, .ref b)]) hx hb dL_law_719 hl (k := 0) rfl (by decide +kernel) (by decide +kernel) rfl (fun ls hl => ?_)
  refine lv_goto (tgt := 18) hx hb dL_law_722 (by decide +kernel) ?_
  refine lv_iload_n hx hb dL_law_18 rfl (lv_at hl 0 rfl) ?_
  refine lv_aload_n hx hb dL_law_19 rfl (lv_at hl 3 rfl) ?_
  refine va_slen hx hb hXs hbl hbA hT.2.2.2.1 dL_law_20 ?_
  refine z_eq (y := 6) rfl ?_
  refine lv_bipush (v := 6) hx hb dL_law_21 (by decide +kernel) ?_
  refine lv_isub hx hb dL_law_23 ?_
  refine z_eq (y := 0) (by decide +kernel) ?_
  refine lv_icmp_gt (tgt := 725) hx hb dL_law_24 (by decide +kernel) (fun _ => ?_) (fun c9 => absurd (by decide +kernel) c9)
  refine lv_iconst (v := 1) hx hb dL_law_725 (by decide +kernel) ?_
  refine va_forget (fun q hq => hT.2.2.2.1.2.2 q hq) ?_
  refine W.widen (k := 600000) (n := 7302250) (Nat.le_of_ble_eq_true rfl) (Nat.le_of_ble_eq_true rfl) ?_
  exact lw_ret hx hb C.2.1 C.2.2 dL_law_726
set_option maxHeartbeats 4000000 in
set_option maxRecDepth 100000 in
/-- the law's call of write -/
theorem law_write {p : Program} {l : Launch} {e : Env} {s : State} {m : MethodId} {below : List Frame} {meth : Method} {c : Code} {b q0 q1 : Nat} {xs : Nat → Int32} {D : va_G} {g : Nat → ClassId} {u v adK adV : Nat → Nat} {pf kf bf : Nat → Option Nat} {ft fd fs : Nat → Int32} {H : Heap} {locs : List Loc} {ls : Array Slot} (C : Cx p s m #[.ref b] meth c code 4 wsL_law yL_law ret) (hXs : va_X b 6 xs s s.heap) (hbl : b < s.heap.size) (hT : Sit D (TY g) (fun q => s.heap.size ≤ q) s (potW g q0 u pf kf bf ++ modW g q1 v ft fd fs) H locs) (hpF : potF u pf kf bf) (hmF : modF ft fs) (hXS : XS (fun q => s.heap.size ≤ q) adK adV s s.heap) (hl : lv_has ls 4 [(3, .int 0), (2, .ref q1), (1, .ref q0), (0, .ref b)]) : W p l e room_1 s m #[.ref b] below meth c H locs 1000 20000 (lw_Z below #[.ref b] s) (F0 m 140 ls []) := by
  have hx := C.1.1
  have hb := C.1.2.1
  have hbA : ¬ (fun q : Nat => s.heap.size ≤ q) b := Nat.not_le.mpr hbl
  refine lv_aload_n hx hb dL_law_140 rfl (lv_at hl 2 rfl) ?_
  refine lv_aload_n hx hb dL_law_141 rfl (lv_at hl 3 rfl) ?_
  refine lv_iload_n hx hb dL_law_142 rfl (lv_at hl 0 rfl) ?_
  refine lv_iconst (v := 1) hx hb dL_law_143 (by decide +kernel) ?_
  refine lv_iadd hx hb dL_law_144 ?_
  refine z_eq (y := 1) (by decide +kernel) ?_
  refine va_sld hx hb hXs hbl hbA hT.2.2.2.1 (vin rfl) dL_law_145 ?_
  refine z_eq (y := xs 1) rfl ?_
  refine z_callVI (wr := [(q1, .inr (8, [.ref (v 0), .int 0, .ref (v 1), .ref (v 2), .ref (v 3), .ref (v 4), .int 0, .ref (v 5), .ref (v 6), .ref (v 7), .int 0, .int 0, .int 0, .int 0, .int 0, .ref (v 8), .ref (v 9), .ref (v 10), .ref (v 11), .ref (v 12), .ref (v 13)])), ((v 0), .inl (g 0, 160, .inl (fun _ => 0)))]) (n := 1) C (c_P_write l D g q0 u (xs 1)) gL_law_X7_write rfl (by decide +kernel) ⟨Nat.le_of_ble_eq_true rfl, Nat.le_of_ble_eq_true rfl⟩ ⟨Nat.le_of_ble_eq_true rfl, Nat.le_of_ble_eq_true rfl⟩ blind_T (fun _ _ _ => trivial) hT [0, 1, 2] [77, 78] rfl rfl rfl rfl rfl 0 rfl rfl rfl rfl hl.1 rfl (Nat.le_of_ble_eq_true rfl) dL_law_146 (fun r1 u1 H locs hp1 hT => ?_)
  have hT : Sit D (TY g) (fun q => s.heap.size ≤ q) s [(q1, .inr (8, [.ref (v 0), .int 0, .ref (v 1), .ref (v 2), .ref (v 3), .ref (v 4), .int 0, .ref (v 5), .ref (v 6), .ref (v 7), .int 0, .int 0, .int 0, .int 0, .int 0, .ref (v 8), .ref (v 9), .ref (v 10), .ref (v 11), .ref (v 12), .ref (v 13)])), ((v 0), .inl (g 0, 160, .inl (fun _ => 0)))] H _ := hT
  subst hp1
  refine lv_aload_n hx hb dL_law_149 rfl (lv_at hl 1 rfl) ?_
  refine lv_aload_n hx hb dL_law_150 rfl (lv_at hl 3 rfl) ?_
  refine lv_iload_n hx hb dL_law_151 rfl (lv_at hl 0 rfl) ?_
  refine lv_iconst (v := 1) hx hb dL_law_152 (by decide +kernel) ?_
  refine lv_iadd hx hb dL_law_153 ?_
  refine z_eq (y := 1) (by decide +kernel) ?_
  refine va_sld hx hb hXs hbl hbA hT.2.2.2.1 (vin rfl) dL_law_154 ?_
  refine z_eq (y := xs 1) rfl ?_
  refine z_callVI (wr := []) (n := 1) C (c_M_write l D g q1 v ft fs hmF.1 hmF.2 (xs 1)) gL_law_X8_write rfl (by decide +kernel) ⟨Nat.le_of_ble_eq_true rfl, Nat.le_of_ble_eq_true rfl⟩ ⟨Nat.le_of_ble_eq_true rfl, Nat.le_of_ble_eq_true rfl⟩ blind_T (fun _ _ _ => trivial) hT [0, 1] [] rfl rfl rfl rfl rfl 0 rfl rfl rfl rfl hl.1 rfl (Nat.le_of_ble_eq_true rfl) dL_law_155 (fun r2 u2 H locs hp2 hT => ?_)
  subst hp2
  refine lv_icmp_eq (tgt := 719) hx hb dL_law_158 (by decide +kernel) (fun _ => ?_) (fun c9 => absurd (q_write (xs 1)) c9)
  exact law_tail C hXs hbl hT hl

set_option maxHeartbeats 4000000 in
set_option maxRecDepth 100000 in
/-- the law's call of erase -/
theorem law_erase {p : Program} {l : Launch} {e : Env} {s : State} {m : MethodId} {below : List Frame} {meth : Method} {c : Code} {b q0 q1 : Nat} {xs : Nat → Int32} {D : va_G} {g : Nat → ClassId} {u v adK adV : Nat → Nat} {pf kf bf : Nat → Option Nat} {ft fd fs : Nat → Int32} {H : Heap} {locs : List Loc} {ls : Array Slot} (C : Cx p s m #[.ref b] meth c code 4 wsL_law yL_law ret) (hXs : va_X b 6 xs s s.heap) (hbl : b < s.heap.size) (hT : Sit D (TY g) (fun q => s.heap.size ≤ q) s (potW g q0 u pf kf bf ++ modW g q1 v ft fd fs) H locs) (hpF : potF u pf kf bf) (hmF : modF ft fs) (hXS : XS (fun q => s.heap.size ≤ q) adK adV s s.heap) (hl : lv_has ls 4 [(3, .int 0), (2, .ref q1), (1, .ref q0), (0, .ref b)]) : W p l e room_1 s m #[.ref b] below meth c H locs 1000 20000 (lw_Z below #[.ref b] s) (F0 m 163 ls []) := by
  have hx := C.1.1
  have hb := C.1.2.1
  have hbA : ¬ (fun q : Nat => s.heap.size ≤ q) b := Nat.not_le.mpr hbl
  refine lv_aload_n hx hb dL_law_163 rfl (lv_at hl 2 rfl) ?_
  refine z_callVI (wr := [(q1, .inr (8, [.ref (v 0), .int 0, .ref (v 1), .ref (v 2), .ref (v 3), .ref (v 4), .int 0, .ref (v 5), .ref (v 6), .ref (v 7), .int 0, .int 0, .int 0, .int 0, .int 0, .ref (v 8), .ref (v 9), .ref (v 10), .ref (v 11), .ref (v 12), .ref (v 13)]))]) (n := 0) C (c_P_erase l D g q0 u ) gL_law_X7_erase rfl (by decide +kernel) ⟨Nat.le_of_ble_eq_true rfl, Nat.le_of_ble_eq_true rfl⟩ ⟨Nat.le_of_ble_eq_true rfl, Nat.le_of_ble_eq_true rfl⟩ blind_T (fun _ _ _ => trivial) hT [0, 1] [77] rfl rfl rfl rfl rfl 0 rfl rfl rfl rfl hl.1 rfl (Nat.le_of_ble_eq_true rfl) dL_law_164 (fun r1 u1 H locs hp1 hT => ?_)
  have hT : Sit D (TY g) (fun q => s.heap.size ≤ q) s [(q1, .inr (8, [.ref (v 0), .int 0, .ref (v 1), .ref (v 2), .ref (v 3), .ref (v 4), .int 0, .ref (v 5), .ref (v 6), .ref (v 7), .int 0, .int 0, .int 0, .int 0, .int 0, .ref (v 8), .ref (v 9), .ref (v 10), .ref (v 11), .ref (v 12), .ref (v 13)]))] H _ := hT
  subst hp1
  refine lv_aload_n hx hb dL_law_167 rfl (lv_at hl 1 rfl) ?_
  refine z_callVI (wr := []) (n := 0) C (c_M_erase l D g q1 v ft fs hmF.1 hmF.2 ) gL_law_X8_erase rfl (by decide +kernel) ⟨Nat.le_of_ble_eq_true rfl, Nat.le_of_ble_eq_true rfl⟩ ⟨Nat.le_of_ble_eq_true rfl, Nat.le_of_ble_eq_true rfl⟩ blind_T (fun _ _ _ => trivial) hT [0] [] rfl rfl rfl rfl rfl 0 rfl rfl rfl rfl hl.1 rfl (Nat.le_of_ble_eq_true rfl) dL_law_168 (fun r2 u2 H locs hp2 hT => ?_)
  subst hp2
  refine lv_icmp_eq (tgt := 719) hx hb dL_law_171 (by decide +kernel) (fun _ => ?_) (fun c9 => absurd rfl c9)
  exact law_tail C hXs hbl hT hl

set_option maxHeartbeats 4000000 in
set_option maxRecDepth 100000 in
/-- the law's call of fault -/
theorem law_fault {p : Program} {l : Launch} {e : Env} {s : State} {m : MethodId} {below : List Frame} {meth : Method} {c : Code} {b q0 q1 : Nat} {xs : Nat → Int32} {D : va_G} {g : Nat → ClassId} {u v adK adV : Nat → Nat} {pf kf bf : Nat → Option Nat} {ft fd fs : Nat → Int32} {H : Heap} {locs : List Loc} {ls : Array Slot} (C : Cx p s m #[.ref b] meth c code 4 wsL_law yL_law ret) (hXs : va_X b 6 xs s s.heap) (hbl : b < s.heap.size) (hT : Sit D (TY g) (fun q => s.heap.size ≤ q) s (potW g q0 u pf kf bf ++ modW g q1 v ft fd fs) H locs) (hpF : potF u pf kf bf) (hmF : modF ft fs) (hXS : XS (fun q => s.heap.size ≤ q) adK adV s s.heap) (hl : lv_has ls 4 [(3, .int 0), (2, .ref q1), (1, .ref q0), (0, .ref b)]) : W p l e room_1 s m #[.ref b] below meth c H locs 1000 20000 (lw_Z below #[.ref b] s) (F0 m 176 ls []) := by
  have hx := C.1.1
  have hb := C.1.2.1
  have hbA : ¬ (fun q : Nat => s.heap.size ≤ q) b := Nat.not_le.mpr hbl
  refine lv_aload_n hx hb dL_law_176 rfl (lv_at hl 2 rfl) ?_
  refine z_callVI (wr := [(q1, .inr (8, [.ref (v 0), .int 0, .ref (v 1), .ref (v 2), .ref (v 3), .ref (v 4), .int 0, .ref (v 5), .ref (v 6), .ref (v 7), .int 0, .int 0, .int 0, .int 0, .int 0, .ref (v 8), .ref (v 9), .ref (v 10), .ref (v 11), .ref (v 12), .ref (v 13)])), ((v 1), .inl (g 0, 29, .inl ft)), ((v 2), .inl (g 0, 29, .inl fd))]) (n := 0) C (c_P_fault l D g q0 u adK adV ) gL_law_X7_fault rfl (by decide +kernel) ⟨Nat.le_of_ble_eq_true rfl, Nat.le_of_ble_eq_true rfl⟩ ⟨Nat.le_of_ble_eq_true rfl, Nat.le_of_ble_eq_true rfl⟩ XC.blind (hXS.pass hT [0, 13, 1, 14, 15, 16, 17, 18, 19, 20, 21, 22, 23, 3, 4, 5, 6, 7, 8, 9, 10, 11, 12] rfl) hT [0, 13, 1, 14, 15, 16, 17, 18, 19, 20, 21, 22, 23, 3, 4, 5, 6, 7, 8, 9, 10, 11, 12] [77, 79, 80] rfl rfl rfl rfl rfl 0 rfl rfl rfl rfl hl.1 rfl (Nat.le_of_ble_eq_true rfl) dL_law_177 (fun r1 u1 H locs hp1 hT => ?_)
  have hT : Sit D (TY g) (fun q => s.heap.size ≤ q) s [(q1, .inr (8, [.ref (v 0), .int 0, .ref (v 1), .ref (v 2), .ref (v 3), .ref (v 4), .int 0, .ref (v 5), .ref (v 6), .ref (v 7), .int 0, .int 0, .int 0, .int 0, .int 0, .ref (v 8), .ref (v 9), .ref (v 10), .ref (v 11), .ref (v 12), .ref (v 13)])), ((v 1), .inl (g 0, 29, .inl ft)), ((v 2), .inl (g 0, 29, .inl fd))] H _ := hT
  subst hp1
  refine lv_aload_n hx hb dL_law_180 rfl (lv_at hl 1 rfl) ?_
  refine z_callVI (wr := []) (n := 0) C (c_M_fault l D g q1 v ft fd ) gL_law_X8_fault rfl (by decide +kernel) ⟨Nat.le_of_ble_eq_true rfl, Nat.le_of_ble_eq_true rfl⟩ ⟨Nat.le_of_ble_eq_true rfl, Nat.le_of_ble_eq_true rfl⟩ blind_T (fun _ _ _ => trivial) hT [0, 1, 2] [] rfl rfl rfl rfl rfl 0 rfl rfl rfl rfl hl.1 rfl (Nat.le_of_ble_eq_true rfl) dL_law_181 (fun r2 u2 H locs hp2 hT => ?_)
  subst hp2
  refine lv_icmp_eq (tgt := 719) hx hb dL_law_184 (by decide +kernel) (fun _ => ?_) (fun c9 => absurd rfl c9)
  exact law_tail C hXs hbl hT hl

set_option maxHeartbeats 4000000 in
set_option maxRecDepth 100000 in
/-- the law's call of hall -/
theorem law_hall {p : Program} {l : Launch} {e : Env} {s : State} {m : MethodId} {below : List Frame} {meth : Method} {c : Code} {b q0 q1 : Nat} {xs : Nat → Int32} {D : va_G} {g : Nat → ClassId} {u v adK adV : Nat → Nat} {pf kf bf : Nat → Option Nat} {ft fd fs : Nat → Int32} {H : Heap} {locs : List Loc} {ls : Array Slot} (C : Cx p s m #[.ref b] meth c code 4 wsL_law yL_law ret) (hXs : va_X b 6 xs s s.heap) (hbl : b < s.heap.size) (hT : Sit D (TY g) (fun q => s.heap.size ≤ q) s (potW g q0 u pf kf bf ++ modW g q1 v ft fd fs) H locs) (hpF : potF u pf kf bf) (hmF : modF ft fs) (hXS : XS (fun q => s.heap.size ≤ q) adK adV s s.heap) (hl : lv_has ls 4 [(3, .int 0), (2, .ref q1), (1, .ref q0), (0, .ref b)]) : W p l e room_1 s m #[.ref b] below meth c H locs 1000 20000 (lw_Z below #[.ref b] s) (F0 m 189 ls []) := by
  have hx := C.1.1
  have hb := C.1.2.1
  have hbA : ¬ (fun q : Nat => s.heap.size ≤ q) b := Nat.not_le.mpr hbl
  refine lv_aload_n hx hb dL_law_189 rfl (lv_at hl 2 rfl) ?_
  refine z_callVI (wr := [(q1, .inr (8, [.ref (v 0), .int 0, .ref (v 1), .ref (v 2), .ref (v 3), .ref (v 4), .int 0, .ref (v 5), .ref (v 6), .ref (v 7), .int 0, .int 0, .int 0, .int 0, .int 0, .ref (v 8), .ref (v 9), .ref (v 10), .ref (v 11), .ref (v 12), .ref (v 13)])), ((v 1), .inl (g 0, 29, .inl ft)), ((v 2), .inl (g 0, 29, .inl fd))]) (n := 0) C (c_P_hall l D g q0 u adK adV ) gL_law_X7_hall rfl (by decide +kernel) ⟨Nat.le_of_ble_eq_true rfl, Nat.le_of_ble_eq_true rfl⟩ ⟨Nat.le_of_ble_eq_true rfl, Nat.le_of_ble_eq_true rfl⟩ XC.blind (hXS.pass hT [0, 13, 1, 14, 15, 16, 17, 18, 19, 20, 21, 22, 23, 3, 4, 5, 6, 7, 8, 9, 10, 11, 12] rfl) hT [0, 13, 1, 14, 15, 16, 17, 18, 19, 20, 21, 22, 23, 3, 4, 5, 6, 7, 8, 9, 10, 11, 12] [77, 79, 80] rfl rfl rfl rfl rfl 0 rfl rfl rfl rfl hl.1 rfl (Nat.le_of_ble_eq_true rfl) dL_law_190 (fun r1 u1 H locs hp1 hT => ?_)
  have hT : Sit D (TY g) (fun q => s.heap.size ≤ q) s [(q1, .inr (8, [.ref (v 0), .int 0, .ref (v 1), .ref (v 2), .ref (v 3), .ref (v 4), .int 0, .ref (v 5), .ref (v 6), .ref (v 7), .int 0, .int 0, .int 0, .int 0, .int 0, .ref (v 8), .ref (v 9), .ref (v 10), .ref (v 11), .ref (v 12), .ref (v 13)])), ((v 1), .inl (g 0, 29, .inl ft)), ((v 2), .inl (g 0, 29, .inl fd))] H _ := hT
  subst hp1
  refine lv_aload_n hx hb dL_law_193 rfl (lv_at hl 1 rfl) ?_
  refine z_callVI (wr := []) (n := 0) C (c_M_hall l D g q1 v ft fd ) gL_law_X8_hall rfl (by decide +kernel) ⟨Nat.le_of_ble_eq_true rfl, Nat.le_of_ble_eq_true rfl⟩ ⟨Nat.le_of_ble_eq_true rfl, Nat.le_of_ble_eq_true rfl⟩ blind_T (fun _ _ _ => trivial) hT [0, 1, 2] [] rfl rfl rfl rfl rfl 0 rfl rfl rfl rfl hl.1 rfl (Nat.le_of_ble_eq_true rfl) dL_law_194 (fun r2 u2 H locs hp2 hT => ?_)
  subst hp2
  refine lv_icmp_eq (tgt := 719) hx hb dL_law_197 (by decide +kernel) (fun _ => ?_) (fun c9 => absurd rfl c9)
  exact law_tail C hXs hbl hT hl

set_option maxHeartbeats 4000000 in
set_option maxRecDepth 100000 in
/-- the law's call of person -/
theorem law_person {p : Program} {l : Launch} {e : Env} {s : State} {m : MethodId} {below : List Frame} {meth : Method} {c : Code} {b q0 q1 : Nat} {xs : Nat → Int32} {D : va_G} {g : Nat → ClassId} {u v adK adV : Nat → Nat} {pf kf bf : Nat → Option Nat} {ft fd fs : Nat → Int32} {H : Heap} {locs : List Loc} {ls : Array Slot} (C : Cx p s m #[.ref b] meth c code 4 wsL_law yL_law ret) (hXs : va_X b 6 xs s s.heap) (hbl : b < s.heap.size) (hT : Sit D (TY g) (fun q => s.heap.size ≤ q) s (potW g q0 u pf kf bf ++ modW g q1 v ft fd fs) H locs) (hpF : potF u pf kf bf) (hmF : modF ft fs) (hXS : XS (fun q => s.heap.size ≤ q) adK adV s s.heap) (hl : lv_has ls 4 [(3, .int 0), (2, .ref q1), (1, .ref q0), (0, .ref b)]) : W p l e room_1 s m #[.ref b] below meth c H locs 1000 20000 (lw_Z below #[.ref b] s) (F0 m 202 ls []) := by
  have hx := C.1.1
  have hb := C.1.2.1
  have hbA : ¬ (fun q : Nat => s.heap.size ≤ q) b := Nat.not_le.mpr hbl
  refine lv_aload_n hx hb dL_law_202 rfl (lv_at hl 2 rfl) ?_
  refine lv_aload_n hx hb dL_law_203 rfl (lv_at hl 3 rfl) ?_
  refine lv_iload_n hx hb dL_law_204 rfl (lv_at hl 0 rfl) ?_
  refine lv_iconst (v := 1) hx hb dL_law_205 (by decide +kernel) ?_
  refine lv_iadd hx hb dL_law_206 ?_
  refine z_eq (y := 1) (by decide +kernel) ?_
  refine va_sld hx hb hXs hbl hbA hT.2.2.2.1 (vin rfl) dL_law_207 ?_
  refine z_eq (y := xs 1) rfl ?_
  refine lv_aload_n hx hb dL_law_208 rfl (lv_at hl 3 rfl) ?_
  refine lv_iload_n hx hb dL_law_209 rfl (lv_at hl 0 rfl) ?_
  refine lv_iconst (v := 2) hx hb dL_law_210 (by decide +kernel) ?_
  refine lv_iadd hx hb dL_law_211 ?_
  refine z_eq (y := 2) (by decide +kernel) ?_
  refine va_sld hx hb hXs hbl hbA hT.2.2.2.1 (vin rfl) dL_law_212 ?_
  refine z_eq (y := xs 2) rfl ?_
  refine z_callVI (wr := [(q1, .inr (8, [.ref (v 0), .int 0, .ref (v 1), .ref (v 2), .ref (v 3), .ref (v 4), .int 0, .ref (v 5), .ref (v 6), .ref (v 7), .int 0, .int 0, .int 0, .int 0, .int 0, .ref (v 8), .ref (v 9), .ref (v 10), .ref (v 11), .ref (v 12), .ref (v 13)])), ((v 1), .inl (g 0, 29, .inl ft))]) (n := 2) C (c_P_person l D g q0 u (xs 1) (xs 2)) gL_law_X7_person rfl (by decide +kernel) ⟨Nat.le_of_ble_eq_true rfl, Nat.le_of_ble_eq_true rfl⟩ ⟨Nat.le_of_ble_eq_true rfl, Nat.le_of_ble_eq_true rfl⟩ blind_T (fun _ _ _ => trivial) hT [0, 3] [77, 79] rfl rfl rfl rfl rfl 0 rfl rfl rfl rfl hl.1 rfl (Nat.le_of_ble_eq_true rfl) dL_law_213 (fun r1 u1 H locs hp1 hT => ?_)
  have hT : Sit D (TY g) (fun q => s.heap.size ≤ q) s [(q1, .inr (8, [.ref (v 0), .int 0, .ref (v 1), .ref (v 2), .ref (v 3), .ref (v 4), .int 0, .ref (v 5), .ref (v 6), .ref (v 7), .int 0, .int 0, .int 0, .int 0, .int 0, .ref (v 8), .ref (v 9), .ref (v 10), .ref (v 11), .ref (v 12), .ref (v 13)])), ((v 1), .inl (g 0, 29, .inl ft))] H _ := hT
  subst hp1
  refine lv_aload_n hx hb dL_law_216 rfl (lv_at hl 1 rfl) ?_
  refine lv_aload_n hx hb dL_law_217 rfl (lv_at hl 3 rfl) ?_
  refine lv_iload_n hx hb dL_law_218 rfl (lv_at hl 0 rfl) ?_
  refine lv_iconst (v := 1) hx hb dL_law_219 (by decide +kernel) ?_
  refine lv_iadd hx hb dL_law_220 ?_
  refine z_eq (y := 1) (by decide +kernel) ?_
  refine va_sld hx hb hXs hbl hbA hT.2.2.2.1 (vin rfl) dL_law_221 ?_
  refine z_eq (y := xs 1) rfl ?_
  refine lv_aload_n hx hb dL_law_222 rfl (lv_at hl 3 rfl) ?_
  refine lv_iload_n hx hb dL_law_223 rfl (lv_at hl 0 rfl) ?_
  refine lv_iconst (v := 2) hx hb dL_law_224 (by decide +kernel) ?_
  refine lv_iadd hx hb dL_law_225 ?_
  refine z_eq (y := 2) (by decide +kernel) ?_
  refine va_sld hx hb hXs hbl hbA hT.2.2.2.1 (vin rfl) dL_law_226 ?_
  refine z_eq (y := xs 2) rfl ?_
  refine z_callVI (wr := []) (n := 2) C (c_M_person l D g q1 v ft fs hmF.1 hmF.2 (xs 1) (xs 2)) gL_law_X8_person rfl (by decide +kernel) ⟨Nat.le_of_ble_eq_true rfl, Nat.le_of_ble_eq_true rfl⟩ ⟨Nat.le_of_ble_eq_true rfl, Nat.le_of_ble_eq_true rfl⟩ blind_T (fun _ _ _ => trivial) hT [0, 1] [] rfl rfl rfl rfl rfl 0 rfl rfl rfl rfl hl.1 rfl (Nat.le_of_ble_eq_true rfl) dL_law_227 (fun r2 u2 H locs hp2 hT => ?_)
  subst hp2
  refine lv_icmp_eq (tgt := 719) hx hb dL_law_230 (by decide +kernel) (fun _ => ?_) (fun c9 => absurd rfl c9)
  exact law_tail C hXs hbl hT hl

set_option maxHeartbeats 4000000 in
set_option maxRecDepth 100000 in
/-- the law's call of sort -/
theorem law_sort {p : Program} {l : Launch} {e : Env} {s : State} {m : MethodId} {below : List Frame} {meth : Method} {c : Code} {b q0 q1 : Nat} {xs : Nat → Int32} {D : va_G} {g : Nat → ClassId} {u v adK adV : Nat → Nat} {pf kf bf : Nat → Option Nat} {ft fd fs : Nat → Int32} {H : Heap} {locs : List Loc} {ls : Array Slot} (C : Cx p s m #[.ref b] meth c code 4 wsL_law yL_law ret) (hXs : va_X b 6 xs s s.heap) (hbl : b < s.heap.size) (hT : Sit D (TY g) (fun q => s.heap.size ≤ q) s (potW g q0 u pf kf bf ++ modW g q1 v ft fd fs) H locs) (hpF : potF u pf kf bf) (hmF : modF ft fs) (hXS : XS (fun q => s.heap.size ≤ q) adK adV s s.heap) (hl : lv_has ls 4 [(3, .int 0), (2, .ref q1), (1, .ref q0), (0, .ref b)]) : W p l e room_1 s m #[.ref b] below meth c H locs 1000 20000 (lw_Z below #[.ref b] s) (F0 m 235 ls []) := by
  have hx := C.1.1
  have hb := C.1.2.1
  have hbA : ¬ (fun q : Nat => s.heap.size ≤ q) b := Nat.not_le.mpr hbl
  refine lv_aload_n hx hb dL_law_235 rfl (lv_at hl 2 rfl) ?_
  refine lv_aload_n hx hb dL_law_236 rfl (lv_at hl 3 rfl) ?_
  refine lv_iload_n hx hb dL_law_237 rfl (lv_at hl 0 rfl) ?_
  refine lv_iconst (v := 1) hx hb dL_law_238 (by decide +kernel) ?_
  refine lv_iadd hx hb dL_law_239 ?_
  refine z_eq (y := 1) (by decide +kernel) ?_
  refine va_sld hx hb hXs hbl hbA hT.2.2.2.1 (vin rfl) dL_law_240 ?_
  refine z_eq (y := xs 1) rfl ?_
  refine lv_aload_n hx hb dL_law_241 rfl (lv_at hl 3 rfl) ?_
  refine lv_iload_n hx hb dL_law_242 rfl (lv_at hl 0 rfl) ?_
  refine lv_iconst (v := 2) hx hb dL_law_243 (by decide +kernel) ?_
  refine lv_iadd hx hb dL_law_244 ?_
  refine z_eq (y := 2) (by decide +kernel) ?_
  refine va_sld hx hb hXs hbl hbA hT.2.2.2.1 (vin rfl) dL_law_245 ?_
  refine z_eq (y := xs 2) rfl ?_
  refine z_callVI (wr := [(q1, .inr (8, [.ref (v 0), .int 0, .ref (v 1), .ref (v 2), .ref (v 3), .ref (v 4), .int 0, .ref (v 5), .ref (v 6), .ref (v 7), .int 0, .int 0, .int 0, .int 0, .int 0, .ref (v 8), .ref (v 9), .ref (v 10), .ref (v 11), .ref (v 12), .ref (v 13)])), ((v 1), .inl (g 0, 29, .inl ft))]) (n := 2) C (c_P_sort l D g q0 u (xs 1) (xs 2)) gL_law_X7_sort rfl (by decide +kernel) ⟨Nat.le_of_ble_eq_true rfl, Nat.le_of_ble_eq_true rfl⟩ ⟨Nat.le_of_ble_eq_true rfl, Nat.le_of_ble_eq_true rfl⟩ blind_T (fun _ _ _ => trivial) hT [0, 3] [77, 79] rfl rfl rfl rfl rfl 0 rfl rfl rfl rfl hl.1 rfl (Nat.le_of_ble_eq_true rfl) dL_law_246 (fun r1 u1 H locs hp1 hT => ?_)
  have hT : Sit D (TY g) (fun q => s.heap.size ≤ q) s [(q1, .inr (8, [.ref (v 0), .int 0, .ref (v 1), .ref (v 2), .ref (v 3), .ref (v 4), .int 0, .ref (v 5), .ref (v 6), .ref (v 7), .int 0, .int 0, .int 0, .int 0, .int 0, .ref (v 8), .ref (v 9), .ref (v 10), .ref (v 11), .ref (v 12), .ref (v 13)])), ((v 1), .inl (g 0, 29, .inl ft))] H _ := hT
  subst hp1
  refine lv_aload_n hx hb dL_law_249 rfl (lv_at hl 1 rfl) ?_
  refine lv_aload_n hx hb dL_law_250 rfl (lv_at hl 3 rfl) ?_
  refine lv_iload_n hx hb dL_law_251 rfl (lv_at hl 0 rfl) ?_
  refine lv_iconst (v := 1) hx hb dL_law_252 (by decide +kernel) ?_
  refine lv_iadd hx hb dL_law_253 ?_
  refine z_eq (y := 1) (by decide +kernel) ?_
  refine va_sld hx hb hXs hbl hbA hT.2.2.2.1 (vin rfl) dL_law_254 ?_
  refine z_eq (y := xs 1) rfl ?_
  refine lv_aload_n hx hb dL_law_255 rfl (lv_at hl 3 rfl) ?_
  refine lv_iload_n hx hb dL_law_256 rfl (lv_at hl 0 rfl) ?_
  refine lv_iconst (v := 2) hx hb dL_law_257 (by decide +kernel) ?_
  refine lv_iadd hx hb dL_law_258 ?_
  refine z_eq (y := 2) (by decide +kernel) ?_
  refine va_sld hx hb hXs hbl hbA hT.2.2.2.1 (vin rfl) dL_law_259 ?_
  refine z_eq (y := xs 2) rfl ?_
  refine z_callVI (wr := []) (n := 2) C (c_M_sort l D g q1 v ft fs hmF.1 hmF.2 (xs 1) (xs 2)) gL_law_X8_sort rfl (by decide +kernel) ⟨Nat.le_of_ble_eq_true rfl, Nat.le_of_ble_eq_true rfl⟩ ⟨Nat.le_of_ble_eq_true rfl, Nat.le_of_ble_eq_true rfl⟩ blind_T (fun _ _ _ => trivial) hT [0, 1] [] rfl rfl rfl rfl rfl 0 rfl rfl rfl rfl hl.1 rfl (Nat.le_of_ble_eq_true rfl) dL_law_260 (fun r2 u2 H locs hp2 hT => ?_)
  subst hp2
  refine lv_icmp_eq (tgt := 719) hx hb dL_law_263 (by decide +kernel) (fun _ => ?_) (fun c9 => absurd rfl c9)
  exact law_tail C hXs hbl hT hl

set_option maxHeartbeats 4000000 in
set_option maxRecDepth 100000 in
/-- the law's call of as -/
theorem law_as {p : Program} {l : Launch} {e : Env} {s : State} {m : MethodId} {below : List Frame} {meth : Method} {c : Code} {b q0 q1 : Nat} {xs : Nat → Int32} {D : va_G} {g : Nat → ClassId} {u v adK adV : Nat → Nat} {pf kf bf : Nat → Option Nat} {ft fd fs : Nat → Int32} {H : Heap} {locs : List Loc} {ls : Array Slot} (C : Cx p s m #[.ref b] meth c code 4 wsL_law yL_law ret) (hXs : va_X b 6 xs s s.heap) (hbl : b < s.heap.size) (hT : Sit D (TY g) (fun q => s.heap.size ≤ q) s (potW g q0 u pf kf bf ++ modW g q1 v ft fd fs) H locs) (hpF : potF u pf kf bf) (hmF : modF ft fs) (hXS : XS (fun q => s.heap.size ≤ q) adK adV s s.heap) (hl : lv_has ls 4 [(3, .int 0), (2, .ref q1), (1, .ref q0), (0, .ref b)]) : W p l e room_1 s m #[.ref b] below meth c H locs 1000 20000 (lw_Z below #[.ref b] s) (F0 m 268 ls []) := by
  have hx := C.1.1
  have hb := C.1.2.1
  have hbA : ¬ (fun q : Nat => s.heap.size ≤ q) b := Nat.not_le.mpr hbl
  refine lv_aload_n hx hb dL_law_268 rfl (lv_at hl 2 rfl) ?_
  refine lv_aload_n hx hb dL_law_269 rfl (lv_at hl 3 rfl) ?_
  refine lv_iload_n hx hb dL_law_270 rfl (lv_at hl 0 rfl) ?_
  refine lv_iconst (v := 1) hx hb dL_law_271 (by decide +kernel) ?_
  refine lv_iadd hx hb dL_law_272 ?_
  refine z_eq (y := 1) (by decide +kernel) ?_
  refine va_sld hx hb hXs hbl hbA hT.2.2.2.1 (vin rfl) dL_law_273 ?_
  refine z_eq (y := xs 1) rfl ?_
  refine lv_aload_n hx hb dL_law_274 rfl (lv_at hl 3 rfl) ?_
  refine lv_iload_n hx hb dL_law_275 rfl (lv_at hl 0 rfl) ?_
  refine lv_iconst (v := 2) hx hb dL_law_276 (by decide +kernel) ?_
  refine lv_iadd hx hb dL_law_277 ?_
  refine z_eq (y := 2) (by decide +kernel) ?_
  refine va_sld hx hb hXs hbl hbA hT.2.2.2.1 (vin rfl) dL_law_278 ?_
  refine z_eq (y := xs 2) rfl ?_
  refine z_callVI (wr := [(q1, .inr (8, [.ref (v 0), .int 0, .ref (v 1), .ref (v 2), .ref (v 3), .ref (v 4), .int 0, .ref (v 5), .ref (v 6), .ref (v 7), .int 0, .int 0, .int 0, .int 0, .int 0, .ref (v 8), .ref (v 9), .ref (v 10), .ref (v 11), .ref (v 12), .ref (v 13)])), ((v 1), .inl (g 0, 29, .inl ft))]) (n := 2) C (c_P_as l D g q0 u (xs 1) (xs 2)) gL_law_X7_as rfl (by decide +kernel) ⟨Nat.le_of_ble_eq_true rfl, Nat.le_of_ble_eq_true rfl⟩ ⟨Nat.le_of_ble_eq_true rfl, Nat.le_of_ble_eq_true rfl⟩ blind_T (fun _ _ _ => trivial) hT [0, 3] [77, 79] rfl rfl rfl rfl rfl 0 rfl rfl rfl rfl hl.1 rfl (Nat.le_of_ble_eq_true rfl) dL_law_279 (fun r1 u1 H locs hp1 hT => ?_)
  have hT : Sit D (TY g) (fun q => s.heap.size ≤ q) s [(q1, .inr (8, [.ref (v 0), .int 0, .ref (v 1), .ref (v 2), .ref (v 3), .ref (v 4), .int 0, .ref (v 5), .ref (v 6), .ref (v 7), .int 0, .int 0, .int 0, .int 0, .int 0, .ref (v 8), .ref (v 9), .ref (v 10), .ref (v 11), .ref (v 12), .ref (v 13)])), ((v 1), .inl (g 0, 29, .inl ft))] H _ := hT
  subst hp1
  refine lv_aload_n hx hb dL_law_282 rfl (lv_at hl 1 rfl) ?_
  refine lv_aload_n hx hb dL_law_283 rfl (lv_at hl 3 rfl) ?_
  refine lv_iload_n hx hb dL_law_284 rfl (lv_at hl 0 rfl) ?_
  refine lv_iconst (v := 1) hx hb dL_law_285 (by decide +kernel) ?_
  refine lv_iadd hx hb dL_law_286 ?_
  refine z_eq (y := 1) (by decide +kernel) ?_
  refine va_sld hx hb hXs hbl hbA hT.2.2.2.1 (vin rfl) dL_law_287 ?_
  refine z_eq (y := xs 1) rfl ?_
  refine lv_aload_n hx hb dL_law_288 rfl (lv_at hl 3 rfl) ?_
  refine lv_iload_n hx hb dL_law_289 rfl (lv_at hl 0 rfl) ?_
  refine lv_iconst (v := 2) hx hb dL_law_290 (by decide +kernel) ?_
  refine lv_iadd hx hb dL_law_291 ?_
  refine z_eq (y := 2) (by decide +kernel) ?_
  refine va_sld hx hb hXs hbl hbA hT.2.2.2.1 (vin rfl) dL_law_292 ?_
  refine z_eq (y := xs 2) rfl ?_
  refine z_callVI (wr := []) (n := 2) C (c_M_as l D g q1 v ft fs hmF.1 hmF.2 (xs 1) (xs 2)) gL_law_X8_as rfl (by decide +kernel) ⟨Nat.le_of_ble_eq_true rfl, Nat.le_of_ble_eq_true rfl⟩ ⟨Nat.le_of_ble_eq_true rfl, Nat.le_of_ble_eq_true rfl⟩ blind_T (fun _ _ _ => trivial) hT [0, 1] [] rfl rfl rfl rfl rfl 0 rfl rfl rfl rfl hl.1 rfl (Nat.le_of_ble_eq_true rfl) dL_law_293 (fun r2 u2 H locs hp2 hT => ?_)
  subst hp2
  refine lv_icmp_eq (tgt := 719) hx hb dL_law_296 (by decide +kernel) (fun _ => ?_) (fun c9 => absurd rfl c9)
  exact law_tail C hXs hbl hT hl

set_option maxHeartbeats 4000000 in
set_option maxRecDepth 100000 in
/-- the law's call of deed -/
theorem law_deed {p : Program} {l : Launch} {e : Env} {s : State} {m : MethodId} {below : List Frame} {meth : Method} {c : Code} {b q0 q1 : Nat} {xs : Nat → Int32} {D : va_G} {g : Nat → ClassId} {u v adK adV : Nat → Nat} {pf kf bf : Nat → Option Nat} {ft fd fs : Nat → Int32} {H : Heap} {locs : List Loc} {ls : Array Slot} (C : Cx p s m #[.ref b] meth c code 4 wsL_law yL_law ret) (hXs : va_X b 6 xs s s.heap) (hbl : b < s.heap.size) (hT : Sit D (TY g) (fun q => s.heap.size ≤ q) s (potW g q0 u pf kf bf ++ modW g q1 v ft fd fs) H locs) (hpF : potF u pf kf bf) (hmF : modF ft fs) (hXS : XS (fun q => s.heap.size ≤ q) adK adV s s.heap) (hl : lv_has ls 4 [(3, .int 0), (2, .ref q1), (1, .ref q0), (0, .ref b)]) : W p l e room_1 s m #[.ref b] below meth c H locs 1000 20000 (lw_Z below #[.ref b] s) (F0 m 301 ls []) := by
  have hx := C.1.1
  have hb := C.1.2.1
  have hbA : ¬ (fun q : Nat => s.heap.size ≤ q) b := Nat.not_le.mpr hbl
  refine lv_aload_n hx hb dL_law_301 rfl (lv_at hl 2 rfl) ?_
  refine lv_aload_n hx hb dL_law_302 rfl (lv_at hl 3 rfl) ?_
  refine lv_iload_n hx hb dL_law_303 rfl (lv_at hl 0 rfl) ?_
  refine lv_iconst (v := 1) hx hb dL_law_304 (by decide +kernel) ?_
  refine lv_iadd hx hb dL_law_305 ?_
  refine z_eq (y := 1) (by decide +kernel) ?_
  refine va_sld hx hb hXs hbl hbA hT.2.2.2.1 (vin rfl) dL_law_306 ?_
  refine z_eq (y := xs 1) rfl ?_
  refine lv_aload_n hx hb dL_law_307 rfl (lv_at hl 3 rfl) ?_
  refine lv_iload_n hx hb dL_law_308 rfl (lv_at hl 0 rfl) ?_
  refine lv_iconst (v := 2) hx hb dL_law_309 (by decide +kernel) ?_
  refine lv_iadd hx hb dL_law_310 ?_
  refine z_eq (y := 2) (by decide +kernel) ?_
  refine va_sld hx hb hXs hbl hbA hT.2.2.2.1 (vin rfl) dL_law_311 ?_
  refine z_eq (y := xs 2) rfl ?_
  refine z_callVI (wr := [(q1, .inr (8, [.ref (v 0), .int 0, .ref (v 1), .ref (v 2), .ref (v 3), .ref (v 4), .int 0, .ref (v 5), .ref (v 6), .ref (v 7), .int 0, .int 0, .int 0, .int 0, .int 0, .ref (v 8), .ref (v 9), .ref (v 10), .ref (v 11), .ref (v 12), .ref (v 13)])), ((v 1), .inl (g 0, 29, .inl ft))]) (n := 2) C (c_P_deed l D g q0 u (xs 1) (xs 2)) gL_law_X7_deed rfl (by decide +kernel) ⟨Nat.le_of_ble_eq_true rfl, Nat.le_of_ble_eq_true rfl⟩ ⟨Nat.le_of_ble_eq_true rfl, Nat.le_of_ble_eq_true rfl⟩ blind_T (fun _ _ _ => trivial) hT [0, 3] [77, 79] rfl rfl rfl rfl rfl 0 rfl rfl rfl rfl hl.1 rfl (Nat.le_of_ble_eq_true rfl) dL_law_312 (fun r1 u1 H locs hp1 hT => ?_)
  have hT : Sit D (TY g) (fun q => s.heap.size ≤ q) s [(q1, .inr (8, [.ref (v 0), .int 0, .ref (v 1), .ref (v 2), .ref (v 3), .ref (v 4), .int 0, .ref (v 5), .ref (v 6), .ref (v 7), .int 0, .int 0, .int 0, .int 0, .int 0, .ref (v 8), .ref (v 9), .ref (v 10), .ref (v 11), .ref (v 12), .ref (v 13)])), ((v 1), .inl (g 0, 29, .inl ft))] H _ := hT
  subst hp1
  refine lv_aload_n hx hb dL_law_315 rfl (lv_at hl 1 rfl) ?_
  refine lv_aload_n hx hb dL_law_316 rfl (lv_at hl 3 rfl) ?_
  refine lv_iload_n hx hb dL_law_317 rfl (lv_at hl 0 rfl) ?_
  refine lv_iconst (v := 1) hx hb dL_law_318 (by decide +kernel) ?_
  refine lv_iadd hx hb dL_law_319 ?_
  refine z_eq (y := 1) (by decide +kernel) ?_
  refine va_sld hx hb hXs hbl hbA hT.2.2.2.1 (vin rfl) dL_law_320 ?_
  refine z_eq (y := xs 1) rfl ?_
  refine lv_aload_n hx hb dL_law_321 rfl (lv_at hl 3 rfl) ?_
  refine lv_iload_n hx hb dL_law_322 rfl (lv_at hl 0 rfl) ?_
  refine lv_iconst (v := 2) hx hb dL_law_323 (by decide +kernel) ?_
  refine lv_iadd hx hb dL_law_324 ?_
  refine z_eq (y := 2) (by decide +kernel) ?_
  refine va_sld hx hb hXs hbl hbA hT.2.2.2.1 (vin rfl) dL_law_325 ?_
  refine z_eq (y := xs 2) rfl ?_
  refine z_callVI (wr := []) (n := 2) C (c_M_deed l D g q1 v ft fs hmF.1 hmF.2 (xs 1) (xs 2)) gL_law_X8_deed rfl (by decide +kernel) ⟨Nat.le_of_ble_eq_true rfl, Nat.le_of_ble_eq_true rfl⟩ ⟨Nat.le_of_ble_eq_true rfl, Nat.le_of_ble_eq_true rfl⟩ blind_T (fun _ _ _ => trivial) hT [0, 1] [] rfl rfl rfl rfl rfl 0 rfl rfl rfl rfl hl.1 rfl (Nat.le_of_ble_eq_true rfl) dL_law_326 (fun r2 u2 H locs hp2 hT => ?_)
  subst hp2
  refine lv_icmp_eq (tgt := 719) hx hb dL_law_329 (by decide +kernel) (fun _ => ?_) (fun c9 => absurd rfl c9)
  exact law_tail C hXs hbl hT hl

set_option maxHeartbeats 4000000 in
set_option maxRecDepth 100000 in
/-- the law's call of feast -/
theorem law_feast {p : Program} {l : Launch} {e : Env} {s : State} {m : MethodId} {below : List Frame} {meth : Method} {c : Code} {b q0 q1 : Nat} {xs : Nat → Int32} {D : va_G} {g : Nat → ClassId} {u v adK adV : Nat → Nat} {pf kf bf : Nat → Option Nat} {ft fd fs : Nat → Int32} {H : Heap} {locs : List Loc} {ls : Array Slot} (C : Cx p s m #[.ref b] meth c code 4 wsL_law yL_law ret) (hXs : va_X b 6 xs s s.heap) (hbl : b < s.heap.size) (hT : Sit D (TY g) (fun q => s.heap.size ≤ q) s (potW g q0 u pf kf bf ++ modW g q1 v ft fd fs) H locs) (hpF : potF u pf kf bf) (hmF : modF ft fs) (hXS : XS (fun q => s.heap.size ≤ q) adK adV s s.heap) (hl : lv_has ls 4 [(3, .int 0), (2, .ref q1), (1, .ref q0), (0, .ref b)]) : W p l e room_1 s m #[.ref b] below meth c H locs 1000 20000 (lw_Z below #[.ref b] s) (F0 m 334 ls []) := by
  have hx := C.1.1
  have hb := C.1.2.1
  have hbA : ¬ (fun q : Nat => s.heap.size ≤ q) b := Nat.not_le.mpr hbl
  refine lv_aload_n hx hb dL_law_334 rfl (lv_at hl 2 rfl) ?_
  refine z_callVI (wr := [(q1, .inr (8, [.ref (v 0), .int 0, .ref (v 1), .ref (v 2), .ref (v 3), .ref (v 4), .int 0, .ref (v 5), .ref (v 6), .ref (v 7), .int 0, .int 0, .int 0, .int 0, .int 0, .ref (v 8), .ref (v 9), .ref (v 10), .ref (v 11), .ref (v 12), .ref (v 13)])), ((v 1), .inl (g 0, 29, .inl ft))]) (n := 0) C (c_P_feast l D g q0 u ) gL_law_X7_feast rfl (by decide +kernel) ⟨Nat.le_of_ble_eq_true rfl, Nat.le_of_ble_eq_true rfl⟩ ⟨Nat.le_of_ble_eq_true rfl, Nat.le_of_ble_eq_true rfl⟩ blind_T (fun _ _ _ => trivial) hT [0, 3] [77, 79] rfl rfl rfl rfl rfl 0 rfl rfl rfl rfl hl.1 rfl (Nat.le_of_ble_eq_true rfl) dL_law_335 (fun r1 u1 H locs hp1 hT => ?_)
  have hT : Sit D (TY g) (fun q => s.heap.size ≤ q) s [(q1, .inr (8, [.ref (v 0), .int 0, .ref (v 1), .ref (v 2), .ref (v 3), .ref (v 4), .int 0, .ref (v 5), .ref (v 6), .ref (v 7), .int 0, .int 0, .int 0, .int 0, .int 0, .ref (v 8), .ref (v 9), .ref (v 10), .ref (v 11), .ref (v 12), .ref (v 13)])), ((v 1), .inl (g 0, 29, .inl ft))] H _ := hT
  subst hp1
  refine lv_aload_n hx hb dL_law_338 rfl (lv_at hl 1 rfl) ?_
  refine z_callVI (wr := []) (n := 0) C (c_M_feast l D g q1 v ft fs hmF.1 hmF.2 ) gL_law_X8_feast rfl (by decide +kernel) ⟨Nat.le_of_ble_eq_true rfl, Nat.le_of_ble_eq_true rfl⟩ ⟨Nat.le_of_ble_eq_true rfl, Nat.le_of_ble_eq_true rfl⟩ blind_T (fun _ _ _ => trivial) hT [0, 1] [] rfl rfl rfl rfl rfl 0 rfl rfl rfl rfl hl.1 rfl (Nat.le_of_ble_eq_true rfl) dL_law_339 (fun r2 u2 H locs hp2 hT => ?_)
  subst hp2
  refine lv_icmp_eq (tgt := 719) hx hb dL_law_342 (by decide +kernel) (fun _ => ?_) (fun c9 => absurd rfl c9)
  exact law_tail C hXs hbl hT hl

set_option maxHeartbeats 4000000 in
set_option maxRecDepth 100000 in
/-- the law's call of year -/
theorem law_year {p : Program} {l : Launch} {e : Env} {s : State} {m : MethodId} {below : List Frame} {meth : Method} {c : Code} {b q0 q1 : Nat} {xs : Nat → Int32} {D : va_G} {g : Nat → ClassId} {u v adK adV : Nat → Nat} {pf kf bf : Nat → Option Nat} {ft fd fs : Nat → Int32} {H : Heap} {locs : List Loc} {ls : Array Slot} (C : Cx p s m #[.ref b] meth c code 4 wsL_law yL_law ret) (hXs : va_X b 6 xs s s.heap) (hbl : b < s.heap.size) (hT : Sit D (TY g) (fun q => s.heap.size ≤ q) s (potW g q0 u pf kf bf ++ modW g q1 v ft fd fs) H locs) (hpF : potF u pf kf bf) (hmF : modF ft fs) (hXS : XS (fun q => s.heap.size ≤ q) adK adV s s.heap) (hl : lv_has ls 4 [(3, .int 0), (2, .ref q1), (1, .ref q0), (0, .ref b)]) : W p l e room_1 s m #[.ref b] below meth c H locs 1000 20000 (lw_Z below #[.ref b] s) (F0 m 347 ls []) := by
  have hx := C.1.1
  have hb := C.1.2.1
  have hbA : ¬ (fun q : Nat => s.heap.size ≤ q) b := Nat.not_le.mpr hbl
  refine lv_aload_n hx hb dL_law_347 rfl (lv_at hl 2 rfl) ?_
  refine z_callVI (wr := [(q1, .inr (8, [.ref (v 0), .int 0, .ref (v 1), .ref (v 2), .ref (v 3), .ref (v 4), .int 0, .ref (v 5), .ref (v 6), .ref (v 7), .int 0, .int 0, .int 0, .int 0, .int 0, .ref (v 8), .ref (v 9), .ref (v 10), .ref (v 11), .ref (v 12), .ref (v 13)])), ((v 1), .inl (g 0, 29, .inl ft)), ((v 3), .inl (g 0, 33, .inl fs)), ((v 4), .inl (g 0, 264, .inl (fun _ => 0)))]) (n := 0) C (c_P_year l D g q0 u pf hpF.1 ) gL_law_X7_year rfl (by decide +kernel) ⟨Nat.le_of_ble_eq_true rfl, Nat.le_of_ble_eq_true rfl⟩ ⟨Nat.le_of_ble_eq_true rfl, Nat.le_of_ble_eq_true rfl⟩ blind_T (fun _ _ _ => trivial) hT [0, 24, 25, 26, 27, 28, 29, 30, 31, 32, 33, 34, 35, 3, 4, 5, 6, 7, 8, 9, 10, 11, 12] [77, 79, 81, 82] rfl rfl rfl rfl rfl 0 rfl rfl rfl rfl hl.1 rfl (Nat.le_of_ble_eq_true rfl) dL_law_348 (fun r1 u1 H locs hp1 hT => ?_)
  have hT : Sit D (TY g) (fun q => s.heap.size ≤ q) s [(q1, .inr (8, [.ref (v 0), .int 0, .ref (v 1), .ref (v 2), .ref (v 3), .ref (v 4), .int 0, .ref (v 5), .ref (v 6), .ref (v 7), .int 0, .int 0, .int 0, .int 0, .int 0, .ref (v 8), .ref (v 9), .ref (v 10), .ref (v 11), .ref (v 12), .ref (v 13)])), ((v 1), .inl (g 0, 29, .inl ft)), ((v 3), .inl (g 0, 33, .inl fs)), ((v 4), .inl (g 0, 264, .inl (fun _ => 0)))] H _ := hT
  subst hp1
  refine lv_aload_n hx hb dL_law_351 rfl (lv_at hl 1 rfl) ?_
  refine z_callVI (wr := []) (n := 0) C (c_M_year l D g q1 v ft fs hmF.1 hmF.2 ) gL_law_X8_year rfl (by decide +kernel) ⟨Nat.le_of_ble_eq_true rfl, Nat.le_of_ble_eq_true rfl⟩ ⟨Nat.le_of_ble_eq_true rfl, Nat.le_of_ble_eq_true rfl⟩ blind_T (fun _ _ _ => trivial) hT [0, 1, 2, 3] [] rfl rfl rfl rfl rfl 0 rfl rfl rfl rfl hl.1 rfl (Nat.le_of_ble_eq_true rfl) dL_law_352 (fun r2 u2 H locs hp2 hT => ?_)
  subst hp2
  refine lv_icmp_eq (tgt := 719) hx hb dL_law_355 (by decide +kernel) (fun _ => ?_) (fun c9 => absurd rfl c9)
  exact law_tail C hXs hbl hT hl

set_option maxHeartbeats 4000000 in
set_option maxRecDepth 100000 in
/-- the law's call of scale -/
theorem law_scale {p : Program} {l : Launch} {e : Env} {s : State} {m : MethodId} {below : List Frame} {meth : Method} {c : Code} {b q0 q1 : Nat} {xs : Nat → Int32} {D : va_G} {g : Nat → ClassId} {u v adK adV : Nat → Nat} {pf kf bf : Nat → Option Nat} {ft fd fs : Nat → Int32} {H : Heap} {locs : List Loc} {ls : Array Slot} (C : Cx p s m #[.ref b] meth c code 4 wsL_law yL_law ret) (hXs : va_X b 6 xs s s.heap) (hbl : b < s.heap.size) (hT : Sit D (TY g) (fun q => s.heap.size ≤ q) s (potW g q0 u pf kf bf ++ modW g q1 v ft fd fs) H locs) (hpF : potF u pf kf bf) (hmF : modF ft fs) (hXS : XS (fun q => s.heap.size ≤ q) adK adV s s.heap) (hl : lv_has ls 4 [(3, .int 0), (2, .ref q1), (1, .ref q0), (0, .ref b)]) : W p l e room_1 s m #[.ref b] below meth c H locs 1000 20000 (lw_Z below #[.ref b] s) (F0 m 360 ls []) := by
  have hx := C.1.1
  have hb := C.1.2.1
  have hbA : ¬ (fun q : Nat => s.heap.size ≤ q) b := Nat.not_le.mpr hbl
  refine lv_aload_n hx hb dL_law_360 rfl (lv_at hl 2 rfl) ?_
  refine lv_aload_n hx hb dL_law_361 rfl (lv_at hl 3 rfl) ?_
  refine lv_iload_n hx hb dL_law_362 rfl (lv_at hl 0 rfl) ?_
  refine lv_iconst (v := 1) hx hb dL_law_363 (by decide +kernel) ?_
  refine lv_iadd hx hb dL_law_364 ?_
  refine z_eq (y := 1) (by decide +kernel) ?_
  refine va_sld hx hb hXs hbl hbA hT.2.2.2.1 (vin rfl) dL_law_365 ?_
  refine z_eq (y := xs 1) rfl ?_
  refine lv_aload_n hx hb dL_law_366 rfl (lv_at hl 3 rfl) ?_
  refine lv_iload_n hx hb dL_law_367 rfl (lv_at hl 0 rfl) ?_
  refine lv_iconst (v := 2) hx hb dL_law_368 (by decide +kernel) ?_
  refine lv_iadd hx hb dL_law_369 ?_
  refine z_eq (y := 2) (by decide +kernel) ?_
  refine va_sld hx hb hXs hbl hbA hT.2.2.2.1 (vin rfl) dL_law_370 ?_
  refine z_eq (y := xs 2) rfl ?_
  refine z_callVI (wr := [(q1, .inr (8, [.ref (v 0), .int 0, .ref (v 1), .ref (v 2), .ref (v 3), .ref (v 4), .int 0, .ref (v 5), .ref (v 6), .ref (v 7), .int 0, .int 0, .int 0, .int 0, .int 0, .ref (v 8), .ref (v 9), .ref (v 10), .ref (v 11), .ref (v 12), .ref (v 13)])), ((v 3), .inl (g 0, 33, .inl fs)), ((v 4), .inl (g 0, 264, .inl (fun _ => 0)))]) (n := 2) C (c_P_scale l D g q0 u pf hpF.1 (xs 1) (xs 2)) gL_law_X7_scale rfl (by decide +kernel) ⟨Nat.le_of_ble_eq_true rfl, Nat.le_of_ble_eq_true rfl⟩ ⟨Nat.le_of_ble_eq_true rfl, Nat.le_of_ble_eq_true rfl⟩ blind_T (fun _ _ _ => trivial) hT [0, 24, 25, 26, 27, 28, 29, 30, 31, 32, 33, 34, 35, 3, 4, 5, 6, 7, 8, 9, 10, 11, 12] [77, 81, 82] rfl rfl rfl rfl rfl 0 rfl rfl rfl rfl hl.1 rfl (Nat.le_of_ble_eq_true rfl) dL_law_371 (fun r1 u1 H locs hp1 hT => ?_)
  have hT : Sit D (TY g) (fun q => s.heap.size ≤ q) s [(q1, .inr (8, [.ref (v 0), .int 0, .ref (v 1), .ref (v 2), .ref (v 3), .ref (v 4), .int 0, .ref (v 5), .ref (v 6), .ref (v 7), .int 0, .int 0, .int 0, .int 0, .int 0, .ref (v 8), .ref (v 9), .ref (v 10), .ref (v 11), .ref (v 12), .ref (v 13)])), ((v 3), .inl (g 0, 33, .inl fs)), ((v 4), .inl (g 0, 264, .inl (fun _ => 0)))] H _ := hT
  subst hp1
  refine lv_aload_n hx hb dL_law_374 rfl (lv_at hl 1 rfl) ?_
  refine lv_aload_n hx hb dL_law_375 rfl (lv_at hl 3 rfl) ?_
  refine lv_iload_n hx hb dL_law_376 rfl (lv_at hl 0 rfl) ?_
  refine lv_iconst (v := 1) hx hb dL_law_377 (by decide +kernel) ?_
  refine lv_iadd hx hb dL_law_378 ?_
  refine z_eq (y := 1) (by decide +kernel) ?_
  refine va_sld hx hb hXs hbl hbA hT.2.2.2.1 (vin rfl) dL_law_379 ?_
  refine z_eq (y := xs 1) rfl ?_
  refine lv_aload_n hx hb dL_law_380 rfl (lv_at hl 3 rfl) ?_
  refine lv_iload_n hx hb dL_law_381 rfl (lv_at hl 0 rfl) ?_
  refine lv_iconst (v := 2) hx hb dL_law_382 (by decide +kernel) ?_
  refine lv_iadd hx hb dL_law_383 ?_
  refine z_eq (y := 2) (by decide +kernel) ?_
  refine va_sld hx hb hXs hbl hbA hT.2.2.2.1 (vin rfl) dL_law_384 ?_
  refine z_eq (y := xs 2) rfl ?_
  refine z_callVI (wr := []) (n := 2) C (c_M_scale l D g q1 v ft fs hmF.1 hmF.2 (xs 1) (xs 2)) gL_law_X8_scale rfl (by decide +kernel) ⟨Nat.le_of_ble_eq_true rfl, Nat.le_of_ble_eq_true rfl⟩ ⟨Nat.le_of_ble_eq_true rfl, Nat.le_of_ble_eq_true rfl⟩ blind_T (fun _ _ _ => trivial) hT [0, 1, 2] [] rfl rfl rfl rfl rfl 0 rfl rfl rfl rfl hl.1 rfl (Nat.le_of_ble_eq_true rfl) dL_law_385 (fun r2 u2 H locs hp2 hT => ?_)
  subst hp2
  refine lv_icmp_eq (tgt := 719) hx hb dL_law_388 (by decide +kernel) (fun _ => ?_) (fun c9 => absurd (q_scale (xs 1) (xs 2)) c9)
  exact law_tail C hXs hbl hT hl

set_option maxHeartbeats 4000000 in
set_option maxRecDepth 100000 in
/-- the law's call of undo -/
theorem law_undo {p : Program} {l : Launch} {e : Env} {s : State} {m : MethodId} {below : List Frame} {meth : Method} {c : Code} {b q0 q1 : Nat} {xs : Nat → Int32} {D : va_G} {g : Nat → ClassId} {u v adK adV : Nat → Nat} {pf kf bf : Nat → Option Nat} {ft fd fs : Nat → Int32} {H : Heap} {locs : List Loc} {ls : Array Slot} (C : Cx p s m #[.ref b] meth c code 4 wsL_law yL_law ret) (hXs : va_X b 6 xs s s.heap) (hbl : b < s.heap.size) (hT : Sit D (TY g) (fun q => s.heap.size ≤ q) s (potW g q0 u pf kf bf ++ modW g q1 v ft fd fs) H locs) (hpF : potF u pf kf bf) (hmF : modF ft fs) (hXS : XS (fun q => s.heap.size ≤ q) adK adV s s.heap) (hl : lv_has ls 4 [(3, .int 0), (2, .ref q1), (1, .ref q0), (0, .ref b)]) : W p l e room_1 s m #[.ref b] below meth c H locs 1000 20000 (lw_Z below #[.ref b] s) (F0 m 393 ls []) := by
  have hx := C.1.1
  have hb := C.1.2.1
  have hbA : ¬ (fun q : Nat => s.heap.size ≤ q) b := Nat.not_le.mpr hbl
  refine lv_aload_n hx hb dL_law_393 rfl (lv_at hl 2 rfl) ?_
  refine z_callVI (wr := [(q1, .inr (8, [.ref (v 0), .int 0, .ref (v 1), .ref (v 2), .ref (v 3), .ref (v 4), .int 0, .ref (v 5), .ref (v 6), .ref (v 7), .int 0, .int 0, .int 0, .int 0, .int 0, .ref (v 8), .ref (v 9), .ref (v 10), .ref (v 11), .ref (v 12), .ref (v 13)]))]) (n := 0) C (c_P_undo l D g q0 u ) gL_law_X7_undo rfl (by decide +kernel) ⟨Nat.le_of_ble_eq_true rfl, Nat.le_of_ble_eq_true rfl⟩ ⟨Nat.le_of_ble_eq_true rfl, Nat.le_of_ble_eq_true rfl⟩ blind_T (fun _ _ _ => trivial) hT [0, 24] [77] rfl rfl rfl rfl rfl 0 rfl rfl rfl rfl hl.1 rfl (Nat.le_of_ble_eq_true rfl) dL_law_394 (fun r1 u1 H locs hp1 hT => ?_)
  have hT : Sit D (TY g) (fun q => s.heap.size ≤ q) s [(q1, .inr (8, [.ref (v 0), .int 0, .ref (v 1), .ref (v 2), .ref (v 3), .ref (v 4), .int 0, .ref (v 5), .ref (v 6), .ref (v 7), .int 0, .int 0, .int 0, .int 0, .int 0, .ref (v 8), .ref (v 9), .ref (v 10), .ref (v 11), .ref (v 12), .ref (v 13)]))] H _ := hT
  subst hp1
  refine lv_aload_n hx hb dL_law_397 rfl (lv_at hl 1 rfl) ?_
  refine z_callVI (wr := []) (n := 0) C (c_M_undo l D g q1 v ft fs hmF.1 hmF.2 ) gL_law_X8_undo rfl (by decide +kernel) ⟨Nat.le_of_ble_eq_true rfl, Nat.le_of_ble_eq_true rfl⟩ ⟨Nat.le_of_ble_eq_true rfl, Nat.le_of_ble_eq_true rfl⟩ blind_T (fun _ _ _ => trivial) hT [0] [] rfl rfl rfl rfl rfl 0 rfl rfl rfl rfl hl.1 rfl (Nat.le_of_ble_eq_true rfl) dL_law_398 (fun r2 u2 H locs hp2 hT => ?_)
  subst hp2
  refine lv_icmp_eq (tgt := 719) hx hb dL_law_401 (by decide +kernel) (fun _ => ?_) (fun c9 => absurd rfl c9)
  exact law_tail C hXs hbl hT hl

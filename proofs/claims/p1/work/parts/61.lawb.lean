set_option maxHeartbeats 4000000 in
set_option maxRecDepth 100000 in
/-- the law's call of keep -/
theorem law_keep {p : Program} {l : Launch} {e : Env} {s : State} {m : MethodId} {below : List Frame} {meth : Method} {c : Code} {b q0 q1 : Nat} {xs : Nat → Int32} {D : va_G} {g : Nat → ClassId} {u v adK adV : Nat → Nat} {pf kf bf : Nat → Option Nat} {ft fd fs : Nat → Int32} {H : Heap} {locs : List Loc} {ls : Array Slot} (C : Cx p s m #[.ref b] meth c code 4 wsL_law yL_law ret) (hXs : va_X b 6 xs s s.heap) (hbl : b < s.heap.size) (hT : Sit D (TY g) (fun q => s.heap.size ≤ q) s (potW g q0 u pf kf bf ++ modW g q1 v ft fd fs) H locs) (hpF : potF u pf kf bf) (hmF : modF ft fs) (hXS : XS (fun q => s.heap.size ≤ q) adK adV s s.heap) (hl : lv_has ls 4 [(3, .int 0), (2, .ref q1), (1, .ref q0), (0, .ref b)]) : W p l e room_1 s m #[.ref b] below meth c H locs 1000 20000 (lw_Z below #[.ref b] s) (F0 m 406 ls []) := by
  have hx := C.1.1
  have hb := C.1.2.1
  have hbA : ¬ (fun q : Nat => s.heap.size ≤ q) b := Nat.not_le.mpr hbl
  refine lv_aload_n hx hb dL_law_406 rfl (lv_at hl 2 rfl) ?_
  refine lv_aload_n hx hb dL_law_407 rfl (lv_at hl 3 rfl) ?_
  refine lv_iload_n hx hb dL_law_408 rfl (lv_at hl 0 rfl) ?_
  refine lv_iconst (v := 1) hx hb dL_law_409 (by decide +kernel) ?_
  refine lv_iadd hx hb dL_law_410 ?_
  refine z_eq (y := 1) (by decide +kernel) ?_
  refine va_sld hx hb hXs hbl hbA hT.2.2.2.1 (vin rfl) dL_law_411 ?_
  refine z_eq (y := xs 1) rfl ?_
  refine z_callVI (wr := [(q1, .inr (8, [.ref (v 0), .int 0, .ref (v 1), .ref (v 2), .ref (v 3), .ref (v 4), .int 0, .ref (v 5), .ref (v 6), .ref (v 7), .int 0, .int 0, .int 0, .int 0, .int 0, .ref (v 8), .ref (v 9), .ref (v 10), .ref (v 11), .ref (v 12), .ref (v 13)])), ((v 3), .inl (g 0, 33, .inl fs)), ((v 5), .inl (g 0, 66, .inl (fun _ => 0))), ((v 6), .inl (g 1, 2, .inl (fun _ => 0)))]) (n := 1) C (c_P_keep l D g q0 u kf hpF.2.1 hpF.2.2.1 (xs 1)) gL_law_X7_keep rfl (by decide +kernel) ⟨Nat.le_of_ble_eq_true rfl, Nat.le_of_ble_eq_true rfl⟩ ⟨Nat.le_of_ble_eq_true rfl, Nat.le_of_ble_eq_true rfl⟩ blind_T (fun _ _ _ => trivial) hT [0, 36, 37, 38, 39, 40, 41, 42, 43, 44, 45, 46, 47, 48, 49, 50, 51, 52, 53, 54, 55, 56, 57, 58, 59, 60, 61, 62, 1, 2, 3, 4, 5, 6, 7, 8, 9, 10, 11, 12] [77, 81, 83, 84] rfl rfl rfl rfl rfl 0 rfl rfl rfl rfl hl.1 rfl (Nat.le_of_ble_eq_true rfl) dL_law_412 (fun r1 u1 H locs hp1 hT => ?_)
  have hT : Sit D (TY g) (fun q => s.heap.size ≤ q) s [(q1, .inr (8, [.ref (v 0), .int 0, .ref (v 1), .ref (v 2), .ref (v 3), .ref (v 4), .int 0, .ref (v 5), .ref (v 6), .ref (v 7), .int 0, .int 0, .int 0, .int 0, .int 0, .ref (v 8), .ref (v 9), .ref (v 10), .ref (v 11), .ref (v 12), .ref (v 13)])), ((v 3), .inl (g 0, 33, .inl fs)), ((v 5), .inl (g 0, 66, .inl (fun _ => 0))), ((v 6), .inl (g 1, 2, .inl (fun _ => 0)))] H _ := hT
  subst hp1
  refine lv_aload_n hx hb dL_law_415 rfl (lv_at hl 1 rfl) ?_
  refine lv_aload_n hx hb dL_law_416 rfl (lv_at hl 3 rfl) ?_
  refine lv_iload_n hx hb dL_law_417 rfl (lv_at hl 0 rfl) ?_
  refine lv_iconst (v := 1) hx hb dL_law_418 (by decide +kernel) ?_
  refine lv_iadd hx hb dL_law_419 ?_
  refine z_eq (y := 1) (by decide +kernel) ?_
  refine va_sld hx hb hXs hbl hbA hT.2.2.2.1 (vin rfl) dL_law_420 ?_
  refine z_eq (y := xs 1) rfl ?_
  refine z_callVI (wr := []) (n := 1) C (c_M_keep l D g q1 v ft fs hmF.1 hmF.2 (xs 1)) gL_law_X8_keep rfl (by decide +kernel) ⟨Nat.le_of_ble_eq_true rfl, Nat.le_of_ble_eq_true rfl⟩ ⟨Nat.le_of_ble_eq_true rfl, Nat.le_of_ble_eq_true rfl⟩ blind_T (fun _ _ _ => trivial) hT [0, 1, 2, 3] [] rfl rfl rfl rfl rfl 0 rfl rfl rfl rfl hl.1 rfl (Nat.le_of_ble_eq_true rfl) dL_law_421 (fun r2 u2 H locs hp2 hT => ?_)
  subst hp2
  refine lv_icmp_eq (tgt := 719) hx hb dL_law_424 (by decide +kernel) (fun _ => ?_) (fun c9 => absurd (q_keep (xs 1)) c9)
  exact law_tail C hXs hbl hT hl

set_option maxHeartbeats 4000000 in
set_option maxRecDepth 100000 in
/-- the law's call of back -/
theorem law_back {p : Program} {l : Launch} {e : Env} {s : State} {m : MethodId} {below : List Frame} {meth : Method} {c : Code} {b q0 q1 : Nat} {xs : Nat → Int32} {D : va_G} {g : Nat → ClassId} {u v adK adV : Nat → Nat} {pf kf bf : Nat → Option Nat} {ft fd fs : Nat → Int32} {H : Heap} {locs : List Loc} {ls : Array Slot} (C : Cx p s m #[.ref b] meth c code 4 wsL_law yL_law ret) (hXs : va_X b 6 xs s s.heap) (hbl : b < s.heap.size) (hT : Sit D (TY g) (fun q => s.heap.size ≤ q) s (potW g q0 u pf kf bf ++ modW g q1 v ft fd fs) H locs) (hpF : potF u pf kf bf) (hmF : modF ft fs) (hXS : XS (fun q => s.heap.size ≤ q) adK adV s s.heap) (hl : lv_has ls 4 [(3, .int 0), (2, .ref q1), (1, .ref q0), (0, .ref b)]) : W p l e room_1 s m #[.ref b] below meth c H locs 1000 20000 (lw_Z below #[.ref b] s) (F0 m 429 ls []) := by
  have hx := C.1.1
  have hb := C.1.2.1
  have hbA : ¬ (fun q : Nat => s.heap.size ≤ q) b := Nat.not_le.mpr hbl
  refine lv_aload_n hx hb dL_law_429 rfl (lv_at hl 2 rfl) ?_
  refine lv_aload_n hx hb dL_law_430 rfl (lv_at hl 3 rfl) ?_
  refine lv_iload_n hx hb dL_law_431 rfl (lv_at hl 0 rfl) ?_
  refine lv_iconst (v := 1) hx hb dL_law_432 (by decide +kernel) ?_
  refine lv_iadd hx hb dL_law_433 ?_
  refine z_eq (y := 1) (by decide +kernel) ?_
  refine va_sld hx hb hXs hbl hbA hT.2.2.2.1 (vin rfl) dL_law_434 ?_
  refine z_eq (y := xs 1) rfl ?_
  refine z_callVI (wr := [(q1, .inr (8, [.ref (v 0), .int 0, .ref (v 1), .ref (v 2), .ref (v 3), .ref (v 4), .int 0, .ref (v 5), .ref (v 6), .ref (v 7), .int 0, .int 0, .int 0, .int 0, .int 0, .ref (v 8), .ref (v 9), .ref (v 10), .ref (v 11), .ref (v 12), .ref (v 13)])), ((v 3), .inl (g 0, 33, .inl fs)), ((v 5), .inl (g 0, 66, .inl (fun _ => 0))), ((v 6), .inl (g 1, 2, .inl (fun _ => 0)))]) (n := 1) C (c_P_back l D g q0 u kf hpF.2.1 hpF.2.2.1 (xs 1)) gL_law_X7_back rfl (by decide +kernel) ⟨Nat.le_of_ble_eq_true rfl, Nat.le_of_ble_eq_true rfl⟩ ⟨Nat.le_of_ble_eq_true rfl, Nat.le_of_ble_eq_true rfl⟩ blind_T (fun _ _ _ => trivial) hT [0, 36, 37, 38, 39, 40, 41, 42, 43, 44, 45, 46, 47, 48, 49, 50, 51, 52, 53, 54, 55, 56, 57, 58, 59, 60, 61, 62, 1, 2, 3, 4, 5, 6, 7, 8, 9, 10, 11, 12] [77, 81, 83, 84] rfl rfl rfl rfl rfl 0 rfl rfl rfl rfl hl.1 rfl (Nat.le_of_ble_eq_true rfl) dL_law_435 (fun r1 u1 H locs hp1 hT => ?_)
  have hT : Sit D (TY g) (fun q => s.heap.size ≤ q) s [(q1, .inr (8, [.ref (v 0), .int 0, .ref (v 1), .ref (v 2), .ref (v 3), .ref (v 4), .int 0, .ref (v 5), .ref (v 6), .ref (v 7), .int 0, .int 0, .int 0, .int 0, .int 0, .ref (v 8), .ref (v 9), .ref (v 10), .ref (v 11), .ref (v 12), .ref (v 13)])), ((v 3), .inl (g 0, 33, .inl fs)), ((v 5), .inl (g 0, 66, .inl (fun _ => 0))), ((v 6), .inl (g 1, 2, .inl (fun _ => 0)))] H _ := hT
  subst hp1
  refine lv_aload_n hx hb dL_law_438 rfl (lv_at hl 1 rfl) ?_
  refine lv_aload_n hx hb dL_law_439 rfl (lv_at hl 3 rfl) ?_
  refine lv_iload_n hx hb dL_law_440 rfl (lv_at hl 0 rfl) ?_
  refine lv_iconst (v := 1) hx hb dL_law_441 (by decide +kernel) ?_
  refine lv_iadd hx hb dL_law_442 ?_
  refine z_eq (y := 1) (by decide +kernel) ?_
  refine va_sld hx hb hXs hbl hbA hT.2.2.2.1 (vin rfl) dL_law_443 ?_
  refine z_eq (y := xs 1) rfl ?_
  refine z_callVI (wr := []) (n := 1) C (c_M_back l D g q1 v ft fs hmF.1 hmF.2 (xs 1)) gL_law_X8_back rfl (by decide +kernel) ⟨Nat.le_of_ble_eq_true rfl, Nat.le_of_ble_eq_true rfl⟩ ⟨Nat.le_of_ble_eq_true rfl, Nat.le_of_ble_eq_true rfl⟩ blind_T (fun _ _ _ => trivial) hT [0, 1, 2, 3] [] rfl rfl rfl rfl rfl 0 rfl rfl rfl rfl hl.1 rfl (Nat.le_of_ble_eq_true rfl) dL_law_444 (fun r2 u2 H locs hp2 hT => ?_)
  subst hp2
  refine lv_icmp_eq (tgt := 719) hx hb dL_law_447 (by decide +kernel) (fun _ => ?_) (fun c9 => absurd (q_back (xs 1)) c9)
  exact law_tail C hXs hbl hT hl

set_option maxHeartbeats 4000000 in
set_option maxRecDepth 100000 in
/-- the law's call of gets -/
theorem law_gets {p : Program} {l : Launch} {e : Env} {s : State} {m : MethodId} {below : List Frame} {meth : Method} {c : Code} {b q0 q1 : Nat} {xs : Nat → Int32} {D : va_G} {g : Nat → ClassId} {u v adK adV : Nat → Nat} {pf kf bf : Nat → Option Nat} {ft fd fs : Nat → Int32} {H : Heap} {locs : List Loc} {ls : Array Slot} (C : Cx p s m #[.ref b] meth c code 4 wsL_law yL_law ret) (hXs : va_X b 6 xs s s.heap) (hbl : b < s.heap.size) (hT : Sit D (TY g) (fun q => s.heap.size ≤ q) s (potW g q0 u pf kf bf ++ modW g q1 v ft fd fs) H locs) (hpF : potF u pf kf bf) (hmF : modF ft fs) (hXS : XS (fun q => s.heap.size ≤ q) adK adV s s.heap) (hl : lv_has ls 4 [(3, .int 0), (2, .ref q1), (1, .ref q0), (0, .ref b)]) : W p l e room_1 s m #[.ref b] below meth c H locs 1000 20000 (lw_Z below #[.ref b] s) (F0 m 452 ls []) := by
  have hx := C.1.1
  have hb := C.1.2.1
  have hbA : ¬ (fun q : Nat => s.heap.size ≤ q) b := Nat.not_le.mpr hbl
  refine lv_aload_n hx hb dL_law_452 rfl (lv_at hl 2 rfl) ?_
  refine lv_aload_n hx hb dL_law_453 rfl (lv_at hl 3 rfl) ?_
  refine lv_iload_n hx hb dL_law_454 rfl (lv_at hl 0 rfl) ?_
  refine lv_iconst (v := 1) hx hb dL_law_455 (by decide +kernel) ?_
  refine lv_iadd hx hb dL_law_456 ?_
  refine z_eq (y := 1) (by decide +kernel) ?_
  refine va_sld hx hb hXs hbl hbA hT.2.2.2.1 (vin rfl) dL_law_457 ?_
  refine z_eq (y := xs 1) rfl ?_
  refine z_callVI (wr := [(q1, .inr (8, [.ref (v 0), .int 0, .ref (v 1), .ref (v 2), .ref (v 3), .ref (v 4), .int 0, .ref (v 5), .ref (v 6), .ref (v 7), .int 0, .int 0, .int 0, .int 0, .int 0, .ref (v 8), .ref (v 9), .ref (v 10), .ref (v 11), .ref (v 12), .ref (v 13)])), ((v 1), .inl (g 0, 29, .inl ft))]) (n := 1) C (c_P_gets l D g q0 u (xs 1)) gL_law_X7_gets rfl (by decide +kernel) ⟨Nat.le_of_ble_eq_true rfl, Nat.le_of_ble_eq_true rfl⟩ ⟨Nat.le_of_ble_eq_true rfl, Nat.le_of_ble_eq_true rfl⟩ blind_T (fun _ _ _ => trivial) hT [0, 3] [77, 79] rfl rfl rfl rfl rfl 0 rfl rfl rfl rfl hl.1 rfl (Nat.le_of_ble_eq_true rfl) dL_law_458 (fun r1 u1 H locs hp1 hT => ?_)
  have hT : Sit D (TY g) (fun q => s.heap.size ≤ q) s [(q1, .inr (8, [.ref (v 0), .int 0, .ref (v 1), .ref (v 2), .ref (v 3), .ref (v 4), .int 0, .ref (v 5), .ref (v 6), .ref (v 7), .int 0, .int 0, .int 0, .int 0, .int 0, .ref (v 8), .ref (v 9), .ref (v 10), .ref (v 11), .ref (v 12), .ref (v 13)])), ((v 1), .inl (g 0, 29, .inl ft))] H _ := hT
  subst hp1
  refine lv_aload_n hx hb dL_law_461 rfl (lv_at hl 1 rfl) ?_
  refine lv_aload_n hx hb dL_law_462 rfl (lv_at hl 3 rfl) ?_
  refine lv_iload_n hx hb dL_law_463 rfl (lv_at hl 0 rfl) ?_
  refine lv_iconst (v := 1) hx hb dL_law_464 (by decide +kernel) ?_
  refine lv_iadd hx hb dL_law_465 ?_
  refine z_eq (y := 1) (by decide +kernel) ?_
  refine va_sld hx hb hXs hbl hbA hT.2.2.2.1 (vin rfl) dL_law_466 ?_
  refine z_eq (y := xs 1) rfl ?_
  refine z_callVI (wr := []) (n := 1) C (c_M_gets l D g q1 v ft fs hmF.1 hmF.2 (xs 1)) gL_law_X8_gets rfl (by decide +kernel) ⟨Nat.le_of_ble_eq_true rfl, Nat.le_of_ble_eq_true rfl⟩ ⟨Nat.le_of_ble_eq_true rfl, Nat.le_of_ble_eq_true rfl⟩ blind_T (fun _ _ _ => trivial) hT [0, 1] [] rfl rfl rfl rfl rfl 0 rfl rfl rfl rfl hl.1 rfl (Nat.le_of_ble_eq_true rfl) dL_law_467 (fun r2 u2 H locs hp2 hT => ?_)
  subst hp2
  refine lv_icmp_eq (tgt := 719) hx hb dL_law_470 (by decide +kernel) (fun _ => ?_) (fun c9 => absurd rfl c9)
  exact law_tail C hXs hbl hT hl

set_option maxHeartbeats 4000000 in
set_option maxRecDepth 100000 in
/-- the law's call of need -/
theorem law_need {p : Program} {l : Launch} {e : Env} {s : State} {m : MethodId} {below : List Frame} {meth : Method} {c : Code} {b q0 q1 : Nat} {xs : Nat → Int32} {D : va_G} {g : Nat → ClassId} {u v adK adV : Nat → Nat} {pf kf bf : Nat → Option Nat} {ft fd fs : Nat → Int32} {H : Heap} {locs : List Loc} {ls : Array Slot} (C : Cx p s m #[.ref b] meth c code 4 wsL_law yL_law ret) (hXs : va_X b 6 xs s s.heap) (hbl : b < s.heap.size) (hT : Sit D (TY g) (fun q => s.heap.size ≤ q) s (potW g q0 u pf kf bf ++ modW g q1 v ft fd fs) H locs) (hpF : potF u pf kf bf) (hmF : modF ft fs) (hXS : XS (fun q => s.heap.size ≤ q) adK adV s s.heap) (hl : lv_has ls 4 [(3, .int 0), (2, .ref q1), (1, .ref q0), (0, .ref b)]) : W p l e room_1 s m #[.ref b] below meth c H locs 1000 20000 (lw_Z below #[.ref b] s) (F0 m 475 ls []) := by
  have hx := C.1.1
  have hb := C.1.2.1
  have hbA : ¬ (fun q : Nat => s.heap.size ≤ q) b := Nat.not_le.mpr hbl
  refine lv_aload_n hx hb dL_law_475 rfl (lv_at hl 2 rfl) ?_
  refine lv_aload_n hx hb dL_law_476 rfl (lv_at hl 3 rfl) ?_
  refine lv_iload_n hx hb dL_law_477 rfl (lv_at hl 0 rfl) ?_
  refine lv_iconst (v := 1) hx hb dL_law_478 (by decide +kernel) ?_
  refine lv_iadd hx hb dL_law_479 ?_
  refine z_eq (y := 1) (by decide +kernel) ?_
  refine va_sld hx hb hXs hbl hbA hT.2.2.2.1 (vin rfl) dL_law_480 ?_
  refine z_eq (y := xs 1) rfl ?_
  refine lv_aload_n hx hb dL_law_481 rfl (lv_at hl 3 rfl) ?_
  refine lv_iload_n hx hb dL_law_482 rfl (lv_at hl 0 rfl) ?_
  refine lv_iconst (v := 2) hx hb dL_law_483 (by decide +kernel) ?_
  refine lv_iadd hx hb dL_law_484 ?_
  refine z_eq (y := 2) (by decide +kernel) ?_
  refine va_sld hx hb hXs hbl hbA hT.2.2.2.1 (vin rfl) dL_law_485 ?_
  refine z_eq (y := xs 2) rfl ?_
  refine z_callVI (wr := [(q1, .inr (8, [.ref (v 0), .int 0, .ref (v 1), .ref (v 2), .ref (v 3), .ref (v 4), .int 0, .ref (v 5), .ref (v 6), .ref (v 7), .int 0, .int 0, .int 0, .int 0, .int 0, .ref (v 8), .ref (v 9), .ref (v 10), .ref (v 11), .ref (v 12), .ref (v 13)])), ((v 1), .inl (g 0, 29, .inl ft))]) (n := 2) C (c_P_need l D g q0 u (xs 1) (xs 2)) gL_law_X7_need rfl (by decide +kernel) ⟨Nat.le_of_ble_eq_true rfl, Nat.le_of_ble_eq_true rfl⟩ ⟨Nat.le_of_ble_eq_true rfl, Nat.le_of_ble_eq_true rfl⟩ blind_T (fun _ _ _ => trivial) hT [0, 3] [77, 79] rfl rfl rfl rfl rfl 0 rfl rfl rfl rfl hl.1 rfl (Nat.le_of_ble_eq_true rfl) dL_law_486 (fun r1 u1 H locs hp1 hT => ?_)
  have hT : Sit D (TY g) (fun q => s.heap.size ≤ q) s [(q1, .inr (8, [.ref (v 0), .int 0, .ref (v 1), .ref (v 2), .ref (v 3), .ref (v 4), .int 0, .ref (v 5), .ref (v 6), .ref (v 7), .int 0, .int 0, .int 0, .int 0, .int 0, .ref (v 8), .ref (v 9), .ref (v 10), .ref (v 11), .ref (v 12), .ref (v 13)])), ((v 1), .inl (g 0, 29, .inl ft))] H _ := hT
  subst hp1
  refine lv_aload_n hx hb dL_law_489 rfl (lv_at hl 1 rfl) ?_
  refine lv_aload_n hx hb dL_law_490 rfl (lv_at hl 3 rfl) ?_
  refine lv_iload_n hx hb dL_law_491 rfl (lv_at hl 0 rfl) ?_
  refine lv_iconst (v := 1) hx hb dL_law_492 (by decide +kernel) ?_
  refine lv_iadd hx hb dL_law_493 ?_
  refine z_eq (y := 1) (by decide +kernel) ?_
  refine va_sld hx hb hXs hbl hbA hT.2.2.2.1 (vin rfl) dL_law_494 ?_
  refine z_eq (y := xs 1) rfl ?_
  refine lv_aload_n hx hb dL_law_495 rfl (lv_at hl 3 rfl) ?_
  refine lv_iload_n hx hb dL_law_496 rfl (lv_at hl 0 rfl) ?_
  refine lv_iconst (v := 2) hx hb dL_law_497 (by decide +kernel) ?_
  refine lv_iadd hx hb dL_law_498 ?_
  refine z_eq (y := 2) (by decide +kernel) ?_
  refine va_sld hx hb hXs hbl hbA hT.2.2.2.1 (vin rfl) dL_law_499 ?_
  refine z_eq (y := xs 2) rfl ?_
  refine z_callVI (wr := []) (n := 2) C (c_M_need l D g q1 v ft fs hmF.1 hmF.2 (xs 1) (xs 2)) gL_law_X8_need rfl (by decide +kernel) ⟨Nat.le_of_ble_eq_true rfl, Nat.le_of_ble_eq_true rfl⟩ ⟨Nat.le_of_ble_eq_true rfl, Nat.le_of_ble_eq_true rfl⟩ blind_T (fun _ _ _ => trivial) hT [0, 1] [] rfl rfl rfl rfl rfl 0 rfl rfl rfl rfl hl.1 rfl (Nat.le_of_ble_eq_true rfl) dL_law_500 (fun r2 u2 H locs hp2 hT => ?_)
  subst hp2
  refine lv_icmp_eq (tgt := 719) hx hb dL_law_503 (by decide +kernel) (fun _ => ?_) (fun c9 => absurd rfl c9)
  exact law_tail C hXs hbl hT hl

set_option maxHeartbeats 4000000 in
set_option maxRecDepth 100000 in
/-- the law's call of deeds -/
theorem law_deeds {p : Program} {l : Launch} {e : Env} {s : State} {m : MethodId} {below : List Frame} {meth : Method} {c : Code} {b q0 q1 : Nat} {xs : Nat → Int32} {D : va_G} {g : Nat → ClassId} {u v adK adV : Nat → Nat} {pf kf bf : Nat → Option Nat} {ft fd fs : Nat → Int32} {H : Heap} {locs : List Loc} {ls : Array Slot} (C : Cx p s m #[.ref b] meth c code 4 wsL_law yL_law ret) (hXs : va_X b 6 xs s s.heap) (hbl : b < s.heap.size) (hT : Sit D (TY g) (fun q => s.heap.size ≤ q) s (potW g q0 u pf kf bf ++ modW g q1 v ft fd fs) H locs) (hpF : potF u pf kf bf) (hmF : modF ft fs) (hXS : XS (fun q => s.heap.size ≤ q) adK adV s s.heap) (hl : lv_has ls 4 [(3, .int 0), (2, .ref q1), (1, .ref q0), (0, .ref b)]) : W p l e room_1 s m #[.ref b] below meth c H locs 1000 20000 (lw_Z below #[.ref b] s) (F0 m 508 ls []) := by
  have hx := C.1.1
  have hb := C.1.2.1
  have hbA : ¬ (fun q : Nat => s.heap.size ≤ q) b := Nat.not_le.mpr hbl
  refine lv_aload_n hx hb dL_law_508 rfl (lv_at hl 2 rfl) ?_
  refine lv_aload_n hx hb dL_law_509 rfl (lv_at hl 3 rfl) ?_
  refine lv_iload_n hx hb dL_law_510 rfl (lv_at hl 0 rfl) ?_
  refine lv_iconst (v := 1) hx hb dL_law_511 (by decide +kernel) ?_
  refine lv_iadd hx hb dL_law_512 ?_
  refine z_eq (y := 1) (by decide +kernel) ?_
  refine va_sld hx hb hXs hbl hbA hT.2.2.2.1 (vin rfl) dL_law_513 ?_
  refine z_eq (y := xs 1) rfl ?_
  refine lv_aload_n hx hb dL_law_514 rfl (lv_at hl 3 rfl) ?_
  refine lv_iload_n hx hb dL_law_515 rfl (lv_at hl 0 rfl) ?_
  refine lv_iconst (v := 2) hx hb dL_law_516 (by decide +kernel) ?_
  refine lv_iadd hx hb dL_law_517 ?_
  refine z_eq (y := 2) (by decide +kernel) ?_
  refine va_sld hx hb hXs hbl hbA hT.2.2.2.1 (vin rfl) dL_law_518 ?_
  refine z_eq (y := xs 2) rfl ?_
  refine lv_aload_n hx hb dL_law_519 rfl (lv_at hl 3 rfl) ?_
  refine lv_iload_n hx hb dL_law_520 rfl (lv_at hl 0 rfl) ?_
  refine lv_iconst (v := 3) hx hb dL_law_521 (by decide +kernel) ?_
  refine lv_iadd hx hb dL_law_522 ?_
  refine z_eq (y := 3) (by decide +kernel) ?_
  refine va_sld hx hb hXs hbl hbA hT.2.2.2.1 (vin rfl) dL_law_523 ?_
  refine z_eq (y := xs 3) rfl ?_
  refine z_callVI (wr := [(q1, .inr (8, [.ref (v 0), .int 0, .ref (v 1), .ref (v 2), .ref (v 3), .ref (v 4), .int 0, .ref (v 5), .ref (v 6), .ref (v 7), .int 0, .int 0, .int 0, .int 0, .int 0, .ref (v 8), .ref (v 9), .ref (v 10), .ref (v 11), .ref (v 12), .ref (v 13)])), ((v 1), .inl (g 0, 29, .inl ft))]) (n := 3) C (c_P_deeds l D g q0 u (xs 1) (xs 2) (xs 3)) gL_law_X7_deeds rfl (by decide +kernel) ⟨Nat.le_of_ble_eq_true rfl, Nat.le_of_ble_eq_true rfl⟩ ⟨Nat.le_of_ble_eq_true rfl, Nat.le_of_ble_eq_true rfl⟩ blind_T (fun _ _ _ => trivial) hT [0, 3] [77, 79] rfl rfl rfl rfl rfl 0 rfl rfl rfl rfl hl.1 rfl (Nat.le_of_ble_eq_true rfl) dL_law_524 (fun r1 u1 H locs hp1 hT => ?_)
  have hT : Sit D (TY g) (fun q => s.heap.size ≤ q) s [(q1, .inr (8, [.ref (v 0), .int 0, .ref (v 1), .ref (v 2), .ref (v 3), .ref (v 4), .int 0, .ref (v 5), .ref (v 6), .ref (v 7), .int 0, .int 0, .int 0, .int 0, .int 0, .ref (v 8), .ref (v 9), .ref (v 10), .ref (v 11), .ref (v 12), .ref (v 13)])), ((v 1), .inl (g 0, 29, .inl ft))] H _ := hT
  subst hp1
  refine lv_aload_n hx hb dL_law_527 rfl (lv_at hl 1 rfl) ?_
  refine lv_aload_n hx hb dL_law_528 rfl (lv_at hl 3 rfl) ?_
  refine lv_iload_n hx hb dL_law_529 rfl (lv_at hl 0 rfl) ?_
  refine lv_iconst (v := 1) hx hb dL_law_530 (by decide +kernel) ?_
  refine lv_iadd hx hb dL_law_531 ?_
  refine z_eq (y := 1) (by decide +kernel) ?_
  refine va_sld hx hb hXs hbl hbA hT.2.2.2.1 (vin rfl) dL_law_532 ?_
  refine z_eq (y := xs 1) rfl ?_
  refine lv_aload_n hx hb dL_law_533 rfl (lv_at hl 3 rfl) ?_
  refine lv_iload_n hx hb dL_law_534 rfl (lv_at hl 0 rfl) ?_
  refine lv_iconst (v := 2) hx hb dL_law_535 (by decide +kernel) ?_
  refine lv_iadd hx hb dL_law_536 ?_
  refine z_eq (y := 2) (by decide +kernel) ?_
  refine va_sld hx hb hXs hbl hbA hT.2.2.2.1 (vin rfl) dL_law_537 ?_
  refine z_eq (y := xs 2) rfl ?_
  refine lv_aload_n hx hb dL_law_538 rfl (lv_at hl 3 rfl) ?_
  refine lv_iload_n hx hb dL_law_539 rfl (lv_at hl 0 rfl) ?_
  refine lv_iconst (v := 3) hx hb dL_law_540 (by decide +kernel) ?_
  refine lv_iadd hx hb dL_law_541 ?_
  refine z_eq (y := 3) (by decide +kernel) ?_
  refine va_sld hx hb hXs hbl hbA hT.2.2.2.1 (vin rfl) dL_law_542 ?_
  refine z_eq (y := xs 3) rfl ?_
  refine z_callVI (wr := []) (n := 3) C (c_M_deeds l D g q1 v ft fs hmF.1 hmF.2 (xs 1) (xs 2) (xs 3)) gL_law_X8_deeds rfl (by decide +kernel) ⟨Nat.le_of_ble_eq_true rfl, Nat.le_of_ble_eq_true rfl⟩ ⟨Nat.le_of_ble_eq_true rfl, Nat.le_of_ble_eq_true rfl⟩ blind_T (fun _ _ _ => trivial) hT [0, 1] [] rfl rfl rfl rfl rfl 0 rfl rfl rfl rfl hl.1 rfl (Nat.le_of_ble_eq_true rfl) dL_law_543 (fun r2 u2 H locs hp2 hT => ?_)
  subst hp2
  refine lv_icmp_eq (tgt := 719) hx hb dL_law_546 (by decide +kernel) (fun _ => ?_) (fun c9 => absurd rfl c9)
  exact law_tail C hXs hbl hT hl

set_option maxHeartbeats 4000000 in
set_option maxRecDepth 100000 in
/-- the law's call of seen -/
theorem law_seen {p : Program} {l : Launch} {e : Env} {s : State} {m : MethodId} {below : List Frame} {meth : Method} {c : Code} {b q0 q1 : Nat} {xs : Nat → Int32} {D : va_G} {g : Nat → ClassId} {u v adK adV : Nat → Nat} {pf kf bf : Nat → Option Nat} {ft fd fs : Nat → Int32} {H : Heap} {locs : List Loc} {ls : Array Slot} (C : Cx p s m #[.ref b] meth c code 4 wsL_law yL_law ret) (hXs : va_X b 6 xs s s.heap) (hbl : b < s.heap.size) (hT : Sit D (TY g) (fun q => s.heap.size ≤ q) s (potW g q0 u pf kf bf ++ modW g q1 v ft fd fs) H locs) (hpF : potF u pf kf bf) (hmF : modF ft fs) (hXS : XS (fun q => s.heap.size ≤ q) adK adV s s.heap) (hl : lv_has ls 4 [(3, .int 0), (2, .ref q1), (1, .ref q0), (0, .ref b)]) : W p l e room_1 s m #[.ref b] below meth c H locs 1000 20000 (lw_Z below #[.ref b] s) (F0 m 551 ls []) := by
  have hx := C.1.1
  have hb := C.1.2.1
  have hbA : ¬ (fun q : Nat => s.heap.size ≤ q) b := Nat.not_le.mpr hbl
  refine lv_aload_n hx hb dL_law_551 rfl (lv_at hl 2 rfl) ?_
  refine lv_aload_n hx hb dL_law_552 rfl (lv_at hl 3 rfl) ?_
  refine lv_iload_n hx hb dL_law_553 rfl (lv_at hl 0 rfl) ?_
  refine lv_iconst (v := 1) hx hb dL_law_554 (by decide +kernel) ?_
  refine lv_iadd hx hb dL_law_555 ?_
  refine z_eq (y := 1) (by decide +kernel) ?_
  refine va_sld hx hb hXs hbl hbA hT.2.2.2.1 (vin rfl) dL_law_556 ?_
  refine z_eq (y := xs 1) rfl ?_
  refine lv_aload_n hx hb dL_law_557 rfl (lv_at hl 3 rfl) ?_
  refine lv_iload_n hx hb dL_law_558 rfl (lv_at hl 0 rfl) ?_
  refine lv_iconst (v := 2) hx hb dL_law_559 (by decide +kernel) ?_
  refine lv_iadd hx hb dL_law_560 ?_
  refine z_eq (y := 2) (by decide +kernel) ?_
  refine va_sld hx hb hXs hbl hbA hT.2.2.2.1 (vin rfl) dL_law_561 ?_
  refine z_eq (y := xs 2) rfl ?_
  refine z_callVI (wr := [(q1, .inr (8, [.ref (v 0), .int 0, .ref (v 1), .ref (v 2), .ref (v 3), .ref (v 4), .int 0, .ref (v 5), .ref (v 6), .ref (v 7), .int 0, .int 0, .int 0, .int 0, .int 0, .ref (v 8), .ref (v 9), .ref (v 10), .ref (v 11), .ref (v 12), .ref (v 13)])), ((v 1), .inl (g 0, 29, .inl ft)), ((v 7), .inl (g 0, 6, .inl (fun _ => 0)))]) (n := 2) C (c_P_seen l D g q0 u (xs 1) (xs 2)) gL_law_X7_seen rfl (by decide +kernel) ⟨Nat.le_of_ble_eq_true rfl, Nat.le_of_ble_eq_true rfl⟩ ⟨Nat.le_of_ble_eq_true rfl, Nat.le_of_ble_eq_true rfl⟩ blind_T (fun _ _ _ => trivial) hT [0, 3, 63, 64, 65] [77, 79, 85] rfl rfl rfl rfl rfl 0 rfl rfl rfl rfl hl.1 rfl (Nat.le_of_ble_eq_true rfl) dL_law_562 (fun r1 u1 H locs hp1 hT => ?_)
  have hT : Sit D (TY g) (fun q => s.heap.size ≤ q) s [(q1, .inr (8, [.ref (v 0), .int 0, .ref (v 1), .ref (v 2), .ref (v 3), .ref (v 4), .int 0, .ref (v 5), .ref (v 6), .ref (v 7), .int 0, .int 0, .int 0, .int 0, .int 0, .ref (v 8), .ref (v 9), .ref (v 10), .ref (v 11), .ref (v 12), .ref (v 13)])), ((v 1), .inl (g 0, 29, .inl ft)), ((v 7), .inl (g 0, 6, .inl (fun _ => 0)))] H _ := hT
  subst hp1
  refine lv_aload_n hx hb dL_law_565 rfl (lv_at hl 1 rfl) ?_
  refine lv_aload_n hx hb dL_law_566 rfl (lv_at hl 3 rfl) ?_
  refine lv_iload_n hx hb dL_law_567 rfl (lv_at hl 0 rfl) ?_
  refine lv_iconst (v := 1) hx hb dL_law_568 (by decide +kernel) ?_
  refine lv_iadd hx hb dL_law_569 ?_
  refine z_eq (y := 1) (by decide +kernel) ?_
  refine va_sld hx hb hXs hbl hbA hT.2.2.2.1 (vin rfl) dL_law_570 ?_
  refine z_eq (y := xs 1) rfl ?_
  refine lv_aload_n hx hb dL_law_571 rfl (lv_at hl 3 rfl) ?_
  refine lv_iload_n hx hb dL_law_572 rfl (lv_at hl 0 rfl) ?_
  refine lv_iconst (v := 2) hx hb dL_law_573 (by decide +kernel) ?_
  refine lv_iadd hx hb dL_law_574 ?_
  refine z_eq (y := 2) (by decide +kernel) ?_
  refine va_sld hx hb hXs hbl hbA hT.2.2.2.1 (vin rfl) dL_law_575 ?_
  refine z_eq (y := xs 2) rfl ?_
  refine z_callVI (wr := []) (n := 2) C (c_M_seen l D g q1 v ft fs hmF.1 hmF.2 (xs 1) (xs 2)) gL_law_X8_seen rfl (by decide +kernel) ⟨Nat.le_of_ble_eq_true rfl, Nat.le_of_ble_eq_true rfl⟩ ⟨Nat.le_of_ble_eq_true rfl, Nat.le_of_ble_eq_true rfl⟩ blind_T (fun _ _ _ => trivial) hT [0, 1, 2] [] rfl rfl rfl rfl rfl 0 rfl rfl rfl rfl hl.1 rfl (Nat.le_of_ble_eq_true rfl) dL_law_576 (fun r2 u2 H locs hp2 hT => ?_)
  subst hp2
  refine lv_icmp_eq (tgt := 719) hx hb dL_law_579 (by decide +kernel) (fun _ => ?_) (fun c9 => absurd (q_seen (xs 1) (xs 2)) c9)
  exact law_tail C hXs hbl hT hl

set_option maxHeartbeats 4000000 in
set_option maxRecDepth 100000 in
/-- the law's call of forget -/
theorem law_forget {p : Program} {l : Launch} {e : Env} {s : State} {m : MethodId} {below : List Frame} {meth : Method} {c : Code} {b q0 q1 : Nat} {xs : Nat → Int32} {D : va_G} {g : Nat → ClassId} {u v adK adV : Nat → Nat} {pf kf bf : Nat → Option Nat} {ft fd fs : Nat → Int32} {H : Heap} {locs : List Loc} {ls : Array Slot} (C : Cx p s m #[.ref b] meth c code 4 wsL_law yL_law ret) (hXs : va_X b 6 xs s s.heap) (hbl : b < s.heap.size) (hT : Sit D (TY g) (fun q => s.heap.size ≤ q) s (potW g q0 u pf kf bf ++ modW g q1 v ft fd fs) H locs) (hpF : potF u pf kf bf) (hmF : modF ft fs) (hXS : XS (fun q => s.heap.size ≤ q) adK adV s s.heap) (hl : lv_has ls 4 [(3, .int 0), (2, .ref q1), (1, .ref q0), (0, .ref b)]) : W p l e room_1 s m #[.ref b] below meth c H locs 1000 20000 (lw_Z below #[.ref b] s) (F0 m 584 ls []) := by
  have hx := C.1.1
  have hb := C.1.2.1
  have hbA : ¬ (fun q : Nat => s.heap.size ≤ q) b := Nat.not_le.mpr hbl
  refine lv_aload_n hx hb dL_law_584 rfl (lv_at hl 2 rfl) ?_
  refine z_callVI (wr := [(q1, .inr (8, [.ref (v 0), .int 0, .ref (v 1), .ref (v 2), .ref (v 3), .ref (v 4), .int 0, .ref (v 5), .ref (v 6), .ref (v 7), .int 0, .int 0, .int 0, .int 0, .int 0, .ref (v 8), .ref (v 9), .ref (v 10), .ref (v 11), .ref (v 12), .ref (v 13)]))]) (n := 0) C (c_P_forget l D g q0 u ) gL_law_X7_forget rfl (by decide +kernel) ⟨Nat.le_of_ble_eq_true rfl, Nat.le_of_ble_eq_true rfl⟩ ⟨Nat.le_of_ble_eq_true rfl, Nat.le_of_ble_eq_true rfl⟩ blind_T (fun _ _ _ => trivial) hT [0, 63] [77] rfl rfl rfl rfl rfl 0 rfl rfl rfl rfl hl.1 rfl (Nat.le_of_ble_eq_true rfl) dL_law_585 (fun r1 u1 H locs hp1 hT => ?_)
  have hT : Sit D (TY g) (fun q => s.heap.size ≤ q) s [(q1, .inr (8, [.ref (v 0), .int 0, .ref (v 1), .ref (v 2), .ref (v 3), .ref (v 4), .int 0, .ref (v 5), .ref (v 6), .ref (v 7), .int 0, .int 0, .int 0, .int 0, .int 0, .ref (v 8), .ref (v 9), .ref (v 10), .ref (v 11), .ref (v 12), .ref (v 13)]))] H _ := hT
  subst hp1
  refine lv_aload_n hx hb dL_law_588 rfl (lv_at hl 1 rfl) ?_
  refine z_callVI (wr := []) (n := 0) C (c_M_forget l D g q1 v ft fs hmF.1 hmF.2 ) gL_law_X8_forget rfl (by decide +kernel) ⟨Nat.le_of_ble_eq_true rfl, Nat.le_of_ble_eq_true rfl⟩ ⟨Nat.le_of_ble_eq_true rfl, Nat.le_of_ble_eq_true rfl⟩ blind_T (fun _ _ _ => trivial) hT [0] [] rfl rfl rfl rfl rfl 0 rfl rfl rfl rfl hl.1 rfl (Nat.le_of_ble_eq_true rfl) dL_law_589 (fun r2 u2 H locs hp2 hT => ?_)
  subst hp2
  refine lv_icmp_eq (tgt := 719) hx hb dL_law_592 (by decide +kernel) (fun _ => ?_) (fun c9 => absurd rfl c9)
  exact law_tail C hXs hbl hT hl

set_option maxHeartbeats 4000000 in
set_option maxRecDepth 100000 in
/-- the law's call of scales -/
theorem law_scales {p : Program} {l : Launch} {e : Env} {s : State} {m : MethodId} {below : List Frame} {meth : Method} {c : Code} {b q0 q1 : Nat} {xs : Nat → Int32} {D : va_G} {g : Nat → ClassId} {u v adK adV : Nat → Nat} {pf kf bf : Nat → Option Nat} {ft fd fs : Nat → Int32} {H : Heap} {locs : List Loc} {ls : Array Slot} (C : Cx p s m #[.ref b] meth c code 4 wsL_law yL_law ret) (hXs : va_X b 6 xs s s.heap) (hbl : b < s.heap.size) (hT : Sit D (TY g) (fun q => s.heap.size ≤ q) s (potW g q0 u pf kf bf ++ modW g q1 v ft fd fs) H locs) (hpF : potF u pf kf bf) (hmF : modF ft fs) (hXS : XS (fun q => s.heap.size ≤ q) adK adV s s.heap) (hl : lv_has ls 4 [(3, .int 0), (2, .ref q1), (1, .ref q0), (0, .ref b)]) : W p l e room_1 s m #[.ref b] below meth c H locs 1000 20000 (lw_Z below #[.ref b] s) (F0 m 597 ls []) := by
  have hx := C.1.1
  have hb := C.1.2.1
  have hbA : ¬ (fun q : Nat => s.heap.size ≤ q) b := Nat.not_le.mpr hbl
  refine lv_aload_n hx hb dL_law_597 rfl (lv_at hl 2 rfl) ?_
  refine lv_aload_n hx hb dL_law_598 rfl (lv_at hl 3 rfl) ?_
  refine lv_iload_n hx hb dL_law_599 rfl (lv_at hl 0 rfl) ?_
  refine lv_iconst (v := 1) hx hb dL_law_600 (by decide +kernel) ?_
  refine lv_iadd hx hb dL_law_601 ?_
  refine z_eq (y := 1) (by decide +kernel) ?_
  refine va_sld hx hb hXs hbl hbA hT.2.2.2.1 (vin rfl) dL_law_602 ?_
  refine z_eq (y := xs 1) rfl ?_
  refine z_callVI (wr := [(q1, .inr (8, [.ref (v 0), .int 0, .ref (v 1), .ref (v 2), .ref (v 3), .ref (v 4), .int 0, .ref (v 5), .ref (v 6), .ref (v 7), .int 0, .int 0, .int 0, .int 0, .int 0, .ref (v 8), .ref (v 9), .ref (v 10), .ref (v 11), .ref (v 12), .ref (v 13)]))]) (n := 1) C (c_P_scales l D g q0 u bf hpF.2.2.2 (xs 1)) gL_law_X7_scales rfl (by decide +kernel) ⟨Nat.le_of_ble_eq_true rfl, Nat.le_of_ble_eq_true rfl⟩ ⟨Nat.le_of_ble_eq_true rfl, Nat.le_of_ble_eq_true rfl⟩ blind_T (fun _ _ _ => trivial) hT [0, 3, 63, 66, 67, 68, 69, 70, 71, 72, 73, 74, 75, 76] [77] rfl rfl rfl rfl rfl 0 rfl rfl rfl rfl hl.1 rfl (Nat.le_of_ble_eq_true rfl) dL_law_603 (fun r1 u1 H locs hp1 hT => ?_)
  have hT : Sit D (TY g) (fun q => s.heap.size ≤ q) s [(q1, .inr (8, [.ref (v 0), .int 0, .ref (v 1), .ref (v 2), .ref (v 3), .ref (v 4), .int 0, .ref (v 5), .ref (v 6), .ref (v 7), .int 0, .int 0, .int 0, .int 0, .int 0, .ref (v 8), .ref (v 9), .ref (v 10), .ref (v 11), .ref (v 12), .ref (v 13)]))] H _ := hT
  subst hp1
  refine lv_aload_n hx hb dL_law_606 rfl (lv_at hl 1 rfl) ?_
  refine lv_aload_n hx hb dL_law_607 rfl (lv_at hl 3 rfl) ?_
  refine lv_iload_n hx hb dL_law_608 rfl (lv_at hl 0 rfl) ?_
  refine lv_iconst (v := 1) hx hb dL_law_609 (by decide +kernel) ?_
  refine lv_iadd hx hb dL_law_610 ?_
  refine z_eq (y := 1) (by decide +kernel) ?_
  refine va_sld hx hb hXs hbl hbA hT.2.2.2.1 (vin rfl) dL_law_611 ?_
  refine z_eq (y := xs 1) rfl ?_
  refine z_callVI (wr := []) (n := 1) C (c_M_scales l D g q1 v (xs 1)) gL_law_X8_scales rfl (by decide +kernel) ⟨Nat.le_of_ble_eq_true rfl, Nat.le_of_ble_eq_true rfl⟩ ⟨Nat.le_of_ble_eq_true rfl, Nat.le_of_ble_eq_true rfl⟩ blind_T (fun _ _ _ => trivial) hT [0] [] rfl rfl rfl rfl rfl 0 rfl rfl rfl rfl hl.1 rfl (Nat.le_of_ble_eq_true rfl) dL_law_612 (fun r2 u2 H locs hp2 hT => ?_)
  subst hp2
  refine lv_icmp_eq (tgt := 719) hx hb dL_law_615 (by decide +kernel) (fun _ => ?_) (fun c9 => absurd (q_scales (xs 1)) c9)
  exact law_tail C hXs hbl hT hl

set_option maxHeartbeats 4000000 in
set_option maxRecDepth 100000 in
/-- the law's call of tells -/
theorem law_tells {p : Program} {l : Launch} {e : Env} {s : State} {m : MethodId} {below : List Frame} {meth : Method} {c : Code} {b q0 q1 : Nat} {xs : Nat → Int32} {D : va_G} {g : Nat → ClassId} {u v adK adV : Nat → Nat} {pf kf bf : Nat → Option Nat} {ft fd fs : Nat → Int32} {H : Heap} {locs : List Loc} {ls : Array Slot} (C : Cx p s m #[.ref b] meth c code 4 wsL_law yL_law ret) (hXs : va_X b 6 xs s s.heap) (hbl : b < s.heap.size) (hT : Sit D (TY g) (fun q => s.heap.size ≤ q) s (potW g q0 u pf kf bf ++ modW g q1 v ft fd fs) H locs) (hpF : potF u pf kf bf) (hmF : modF ft fs) (hXS : XS (fun q => s.heap.size ≤ q) adK adV s s.heap) (hl : lv_has ls 4 [(3, .int 0), (2, .ref q1), (1, .ref q0), (0, .ref b)]) (N : Nat) (hN : N = 100) : W p l e room_1 s m #[.ref b] below meth c H locs 1000 20000 (lw_Z below #[.ref b] s) (F0 m 620 ls []) := by
  have hx := C.1.1
  have hb := C.1.2.1
  have hbA : ¬ (fun q : Nat => s.heap.size ≤ q) b := Nat.not_le.mpr hbl
  refine lv_aload_n hx hb dL_law_620 rfl (lv_at hl 2 rfl) ?_
  refine z_callVI (wr := [(q1, .inr (8, [.ref (v 0), .int 0, .ref (v 1), .ref (v 2), .ref (v 3), .ref (v 4), .int 0, .ref (v 5), .ref (v 6), .ref (v 7), .int 0, .int 0, .int 0, .int 0, .int 0, .ref (v 8), .ref (v 9), .ref (v 10), .ref (v 11), .ref (v 12), .ref (v 13)])), ((v 1), .inl (g 0, 29, .inl ft)), ((v 11), .inl (g 0, 100, .inl (fun _ => 0))), ((v 12), .inl (g 0, 10, .inl (fun _ => 0)))]) (n := 0) C (c_P_tells l D g q0 u bf hpF.2.2.2 N hN ) gL_law_X7_tells rfl (by decide +kernel) ⟨Nat.le_of_ble_eq_true rfl, Nat.le_of_ble_eq_true rfl⟩ ⟨Nat.le_of_ble_eq_true rfl, Nat.le_of_ble_eq_true rfl⟩ blind_T (fun _ _ _ => trivial) hT [0, 3, 63, 66, 67, 68, 69, 70, 71, 72, 73, 74, 75, 76] [77, 79, 86, 87] rfl rfl rfl rfl rfl 0 rfl rfl rfl rfl hl.1 rfl (Nat.le_of_ble_eq_true rfl) dL_law_621 (fun r1 u1 H locs hp1 hT => ?_)
  have hT : Sit D (TY g) (fun q => s.heap.size ≤ q) s [(q1, .inr (8, [.ref (v 0), .int 0, .ref (v 1), .ref (v 2), .ref (v 3), .ref (v 4), .int 0, .ref (v 5), .ref (v 6), .ref (v 7), .int 0, .int 0, .int 0, .int 0, .int 0, .ref (v 8), .ref (v 9), .ref (v 10), .ref (v 11), .ref (v 12), .ref (v 13)])), ((v 1), .inl (g 0, 29, .inl ft)), ((v 11), .inl (g 0, 100, .inl (fun _ => 0))), ((v 12), .inl (g 0, 10, .inl (fun _ => 0)))] H _ := hT
  subst hp1
  refine lv_aload_n hx hb dL_law_624 rfl (lv_at hl 1 rfl) ?_
  refine z_callVI (wr := []) (n := 0) C (c_M_tells l D g q1 v ft hmF.1 N hN ) gL_law_X8_tells rfl (by decide +kernel) ⟨Nat.le_of_ble_eq_true rfl, Nat.le_of_ble_eq_true rfl⟩ ⟨Nat.le_of_ble_eq_true rfl, Nat.le_of_ble_eq_true rfl⟩ blind_T (fun _ _ _ => trivial) hT [0, 1, 2, 3] [] rfl rfl rfl rfl rfl 0 rfl rfl rfl rfl hl.1 rfl (Nat.le_of_ble_eq_true rfl) dL_law_625 (fun r2 u2 H locs hp2 hT => ?_)
  subst hp2
  refine lv_icmp_eq (tgt := 719) hx hb dL_law_628 (by decide +kernel) (fun _ => ?_) (fun c9 => absurd rfl c9)
  exact law_tail C hXs hbl hT hl

set_option maxHeartbeats 4000000 in
set_option maxRecDepth 100000 in
/-- the law's call of chance -/
theorem law_chance {p : Program} {l : Launch} {e : Env} {s : State} {m : MethodId} {below : List Frame} {meth : Method} {c : Code} {b q0 q1 : Nat} {xs : Nat → Int32} {D : va_G} {g : Nat → ClassId} {u v adK adV : Nat → Nat} {pf kf bf : Nat → Option Nat} {ft fd fs : Nat → Int32} {H : Heap} {locs : List Loc} {ls : Array Slot} (C : Cx p s m #[.ref b] meth c code 4 wsL_law yL_law ret) (hXs : va_X b 6 xs s s.heap) (hbl : b < s.heap.size) (hT : Sit D (TY g) (fun q => s.heap.size ≤ q) s (potW g q0 u pf kf bf ++ modW g q1 v ft fd fs) H locs) (hpF : potF u pf kf bf) (hmF : modF ft fs) (hXS : XS (fun q => s.heap.size ≤ q) adK adV s s.heap) (hl : lv_has ls 4 [(3, .int 0), (2, .ref q1), (1, .ref q0), (0, .ref b)]) : W p l e room_1 s m #[.ref b] below meth c H locs 1000 20000 (lw_Z below #[.ref b] s) (F0 m 633 ls []) := by
  have hx := C.1.1
  have hb := C.1.2.1
  have hbA : ¬ (fun q : Nat => s.heap.size ≤ q) b := Nat.not_le.mpr hbl
  refine lv_aload_n hx hb dL_law_633 rfl (lv_at hl 2 rfl) ?_
  refine lv_aload_n hx hb dL_law_634 rfl (lv_at hl 3 rfl) ?_
  refine lv_iload_n hx hb dL_law_635 rfl (lv_at hl 0 rfl) ?_
  refine lv_iconst (v := 1) hx hb dL_law_636 (by decide +kernel) ?_
  refine lv_iadd hx hb dL_law_637 ?_
  refine z_eq (y := 1) (by decide +kernel) ?_
  refine va_sld hx hb hXs hbl hbA hT.2.2.2.1 (vin rfl) dL_law_638 ?_
  refine z_eq (y := xs 1) rfl ?_
  refine lv_aload_n hx hb dL_law_639 rfl (lv_at hl 3 rfl) ?_
  refine lv_iload_n hx hb dL_law_640 rfl (lv_at hl 0 rfl) ?_
  refine lv_iconst (v := 2) hx hb dL_law_641 (by decide +kernel) ?_
  refine lv_iadd hx hb dL_law_642 ?_
  refine z_eq (y := 2) (by decide +kernel) ?_
  refine va_sld hx hb hXs hbl hbA hT.2.2.2.1 (vin rfl) dL_law_643 ?_
  refine z_eq (y := xs 2) rfl ?_
  refine lv_aload_n hx hb dL_law_644 rfl (lv_at hl 3 rfl) ?_
  refine lv_iload_n hx hb dL_law_645 rfl (lv_at hl 0 rfl) ?_
  refine lv_iconst (v := 3) hx hb dL_law_646 (by decide +kernel) ?_
  refine lv_iadd hx hb dL_law_647 ?_
  refine z_eq (y := 3) (by decide +kernel) ?_
  refine va_sld hx hb hXs hbl hbA hT.2.2.2.1 (vin rfl) dL_law_648 ?_
  refine z_eq (y := xs 3) rfl ?_
  refine lv_aload_n hx hb dL_law_649 rfl (lv_at hl 3 rfl) ?_
  refine lv_iload_n hx hb dL_law_650 rfl (lv_at hl 0 rfl) ?_
  refine lv_iconst (v := 4) hx hb dL_law_651 (by decide +kernel) ?_
  refine lv_iadd hx hb dL_law_652 ?_
  refine z_eq (y := 4) (by decide +kernel) ?_
  refine va_sld hx hb hXs hbl hbA hT.2.2.2.1 (vin rfl) dL_law_653 ?_
  refine z_eq (y := xs 4) rfl ?_
  refine lv_aload_n hx hb dL_law_654 rfl (lv_at hl 3 rfl) ?_
  refine lv_iload_n hx hb dL_law_655 rfl (lv_at hl 0 rfl) ?_
  refine lv_iconst (v := 5) hx hb dL_law_656 (by decide +kernel) ?_
  refine lv_iadd hx hb dL_law_657 ?_
  refine z_eq (y := 5) (by decide +kernel) ?_
  refine va_sld hx hb hXs hbl hbA hT.2.2.2.1 (vin rfl) dL_law_658 ?_
  refine z_eq (y := xs 5) rfl ?_
  refine z_callVI (wr := [(q1, .inr (8, [.ref (v 0), .int 0, .ref (v 1), .ref (v 2), .ref (v 3), .ref (v 4), .int 0, .ref (v 5), .ref (v 6), .ref (v 7), .int 0, .int 0, .int 0, .int 0, .int 0, .ref (v 8), .ref (v 9), .ref (v 10), .ref (v 11), .ref (v 12), .ref (v 13)])), ((v 1), .inl (g 0, 29, .inl ft))]) (n := 5) C (c_P_chance l D g q0 u (xs 1) (xs 2) (xs 3) (xs 4) (xs 5)) gL_law_X7_chance rfl (by decide +kernel) ⟨Nat.le_of_ble_eq_true rfl, Nat.le_of_ble_eq_true rfl⟩ ⟨Nat.le_of_ble_eq_true rfl, Nat.le_of_ble_eq_true rfl⟩ blind_T (fun _ _ _ => trivial) hT [0, 3] [77, 79] rfl rfl rfl rfl rfl 0 rfl rfl rfl rfl hl.1 rfl (Nat.le_of_ble_eq_true rfl) dL_law_659 (fun r1 u1 H locs hp1 hT => ?_)
  have hT : Sit D (TY g) (fun q => s.heap.size ≤ q) s [(q1, .inr (8, [.ref (v 0), .int 0, .ref (v 1), .ref (v 2), .ref (v 3), .ref (v 4), .int 0, .ref (v 5), .ref (v 6), .ref (v 7), .int 0, .int 0, .int 0, .int 0, .int 0, .ref (v 8), .ref (v 9), .ref (v 10), .ref (v 11), .ref (v 12), .ref (v 13)])), ((v 1), .inl (g 0, 29, .inl ft))] H _ := hT
  subst hp1
  refine lv_aload_n hx hb dL_law_662 rfl (lv_at hl 1 rfl) ?_
  refine lv_aload_n hx hb dL_law_663 rfl (lv_at hl 3 rfl) ?_
  refine lv_iload_n hx hb dL_law_664 rfl (lv_at hl 0 rfl) ?_
  refine lv_iconst (v := 1) hx hb dL_law_665 (by decide +kernel) ?_
  refine lv_iadd hx hb dL_law_666 ?_
  refine z_eq (y := 1) (by decide +kernel) ?_
  refine va_sld hx hb hXs hbl hbA hT.2.2.2.1 (vin rfl) dL_law_667 ?_
  refine z_eq (y := xs 1) rfl ?_
  refine lv_aload_n hx hb dL_law_668 rfl (lv_at hl 3 rfl) ?_
  refine lv_iload_n hx hb dL_law_669 rfl (lv_at hl 0 rfl) ?_
  refine lv_iconst (v := 2) hx hb dL_law_670 (by decide +kernel) ?_
  refine lv_iadd hx hb dL_law_671 ?_
  refine z_eq (y := 2) (by decide +kernel) ?_
  refine va_sld hx hb hXs hbl hbA hT.2.2.2.1 (vin rfl) dL_law_672 ?_
  refine z_eq (y := xs 2) rfl ?_
  refine lv_aload_n hx hb dL_law_673 rfl (lv_at hl 3 rfl) ?_
  refine lv_iload_n hx hb dL_law_674 rfl (lv_at hl 0 rfl) ?_
  refine lv_iconst (v := 3) hx hb dL_law_675 (by decide +kernel) ?_
  refine lv_iadd hx hb dL_law_676 ?_
  refine z_eq (y := 3) (by decide +kernel) ?_
  refine va_sld hx hb hXs hbl hbA hT.2.2.2.1 (vin rfl) dL_law_677 ?_
  refine z_eq (y := xs 3) rfl ?_
  refine lv_aload_n hx hb dL_law_678 rfl (lv_at hl 3 rfl) ?_
  refine lv_iload_n hx hb dL_law_679 rfl (lv_at hl 0 rfl) ?_
  refine lv_iconst (v := 4) hx hb dL_law_680 (by decide +kernel) ?_
  refine lv_iadd hx hb dL_law_681 ?_
  refine z_eq (y := 4) (by decide +kernel) ?_
  refine va_sld hx hb hXs hbl hbA hT.2.2.2.1 (vin rfl) dL_law_682 ?_
  refine z_eq (y := xs 4) rfl ?_
  refine lv_aload_n hx hb dL_law_683 rfl (lv_at hl 3 rfl) ?_
  refine lv_iload_n hx hb dL_law_684 rfl (lv_at hl 0 rfl) ?_
  refine lv_iconst (v := 5) hx hb dL_law_685 (by decide +kernel) ?_
  refine lv_iadd hx hb dL_law_686 ?_
  refine z_eq (y := 5) (by decide +kernel) ?_
  refine va_sld hx hb hXs hbl hbA hT.2.2.2.1 (vin rfl) dL_law_687 ?_
  refine z_eq (y := xs 5) rfl ?_
  refine z_callVI (wr := []) (n := 5) C (c_M_chance l D g q1 v ft fs hmF.1 hmF.2 (xs 1) (xs 2) (xs 3) (xs 4) (xs 5)) gL_law_X8_chance rfl (by decide +kernel) ⟨Nat.le_of_ble_eq_true rfl, Nat.le_of_ble_eq_true rfl⟩ ⟨Nat.le_of_ble_eq_true rfl, Nat.le_of_ble_eq_true rfl⟩ blind_T (fun _ _ _ => trivial) hT [0, 1] [] rfl rfl rfl rfl rfl 0 rfl rfl rfl rfl hl.1 rfl (Nat.le_of_ble_eq_true rfl) dL_law_688 (fun r2 u2 H locs hp2 hT => ?_)
  subst hp2
  refine lv_icmp_eq (tgt := 719) hx hb dL_law_691 (by decide +kernel) (fun _ => ?_) (fun c9 => absurd rfl c9)
  exact law_tail C hXs hbl hT hl

set_option maxHeartbeats 4000000 in
set_option maxRecDepth 100000 in
/-- the law's call of count -/
theorem law_count {p : Program} {l : Launch} {e : Env} {s : State} {m : MethodId} {below : List Frame} {meth : Method} {c : Code} {b q0 q1 : Nat} {xs : Nat → Int32} {D : va_G} {g : Nat → ClassId} {u v adK adV : Nat → Nat} {pf kf bf : Nat → Option Nat} {ft fd fs : Nat → Int32} {H : Heap} {locs : List Loc} {ls : Array Slot} (C : Cx p s m #[.ref b] meth c code 4 wsL_law yL_law ret) (hXs : va_X b 6 xs s s.heap) (hbl : b < s.heap.size) (hT : Sit D (TY g) (fun q => s.heap.size ≤ q) s (potW g q0 u pf kf bf ++ modW g q1 v ft fd fs) H locs) (hpF : potF u pf kf bf) (hmF : modF ft fs) (hXS : XS (fun q => s.heap.size ≤ q) adK adV s s.heap) (hl : lv_has ls 4 [(3, .int 0), (2, .ref q1), (1, .ref q0), (0, .ref b)]) : W p l e room_1 s m #[.ref b] below meth c H locs 1000 20000 (lw_Z below #[.ref b] s) (F0 m 696 ls []) := by
  have hx := C.1.1
  have hb := C.1.2.1
  have hbA : ¬ (fun q : Nat => s.heap.size ≤ q) b := Nat.not_le.mpr hbl
  refine lv_aload_n hx hb dL_law_696 rfl (lv_at hl 2 rfl) ?_
  refine lv_aload_n hx hb dL_law_697 rfl (lv_at hl 3 rfl) ?_
  refine lv_iload_n hx hb dL_law_698 rfl (lv_at hl 0 rfl) ?_
  refine lv_iconst (v := 1) hx hb dL_law_699 (by decide +kernel) ?_
  refine lv_iadd hx hb dL_law_700 ?_
  refine z_eq (y := 1) (by decide +kernel) ?_
  refine va_sld hx hb hXs hbl hbA hT.2.2.2.1 (vin rfl) dL_law_701 ?_
  refine z_eq (y := xs 1) rfl ?_
  refine z_callVI (wr := [(q1, .inr (8, [.ref (v 0), .int 0, .ref (v 1), .ref (v 2), .ref (v 3), .ref (v 4), .int 0, .ref (v 5), .ref (v 6), .ref (v 7), .int 0, .int 0, .int 0, .int 0, .int 0, .ref (v 8), .ref (v 9), .ref (v 10), .ref (v 11), .ref (v 12), .ref (v 13)])), ((v 1), .inl (g 0, 29, .inl ft)), ((v 3), .inl (g 0, 33, .inl fs))]) (n := 1) C (c_P_count l D g q0 u (xs 1)) gL_law_X7_count rfl (by decide +kernel) ⟨Nat.le_of_ble_eq_true rfl, Nat.le_of_ble_eq_true rfl⟩ ⟨Nat.le_of_ble_eq_true rfl, Nat.le_of_ble_eq_true rfl⟩ blind_T (fun _ _ _ => trivial) hT [0, 3, 63, 24, 1] [77, 79, 81] rfl rfl rfl rfl rfl 0 rfl rfl rfl rfl hl.1 rfl (Nat.le_of_ble_eq_true rfl) dL_law_702 (fun r1 u1 H locs hp1 hT => ?_)
  have hT : Sit D (TY g) (fun q => s.heap.size ≤ q) s [(q1, .inr (8, [.ref (v 0), .int 0, .ref (v 1), .ref (v 2), .ref (v 3), .ref (v 4), .int 0, .ref (v 5), .ref (v 6), .ref (v 7), .int 0, .int 0, .int 0, .int 0, .int 0, .ref (v 8), .ref (v 9), .ref (v 10), .ref (v 11), .ref (v 12), .ref (v 13)])), ((v 1), .inl (g 0, 29, .inl ft)), ((v 3), .inl (g 0, 33, .inl fs))] H _ := hT
  subst hp1
  refine lv_aload_n hx hb dL_law_705 rfl (lv_at hl 1 rfl) ?_
  refine lv_aload_n hx hb dL_law_706 rfl (lv_at hl 3 rfl) ?_
  refine lv_iload_n hx hb dL_law_707 rfl (lv_at hl 0 rfl) ?_
  refine lv_iconst (v := 1) hx hb dL_law_708 (by decide +kernel) ?_
  refine lv_iadd hx hb dL_law_709 ?_
  refine z_eq (y := 1) (by decide +kernel) ?_
  refine va_sld hx hb hXs hbl hbA hT.2.2.2.1 (vin rfl) dL_law_710 ?_
  refine z_eq (y := xs 1) rfl ?_
  refine z_callVI (wr := []) (n := 1) C (c_M_count l D g q1 v ft fs hmF.1 hmF.2 (xs 1)) gL_law_X8_count rfl (by decide +kernel) ⟨Nat.le_of_ble_eq_true rfl, Nat.le_of_ble_eq_true rfl⟩ ⟨Nat.le_of_ble_eq_true rfl, Nat.le_of_ble_eq_true rfl⟩ blind_T (fun _ _ _ => trivial) hT [0, 1, 2] [] rfl rfl rfl rfl rfl 0 rfl rfl rfl rfl hl.1 rfl (Nat.le_of_ble_eq_true rfl) dL_law_711 (fun r2 u2 H locs hp2 hT => ?_)
  subst hp2
  refine lv_icmp_eq (tgt := 719) hx hb dL_law_714 (by decide +kernel) (fun _ => ?_) (fun c9 => absurd (q_count (xs 1)) c9)
  exact law_tail C hXs hbl hT hl

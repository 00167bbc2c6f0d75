theorem dX5_isSo_0 : decode cX5_isSo 0 = .ok (.iconst 0, 1) := by decide +kernel
theorem dX5_isSo_1 : decode cX5_isSo 1 = .ok (.istore 4, 2) := by decide +kernel
theorem dX5_isSo_3 : decode cX5_isSo 3 = .ok (.iload 4, 2) := by decide +kernel
theorem dX5_isSo_5 : decode cX5_isSo 5 = .ok (.aload_n 0, 1) := by decide +kernel
theorem dX5_isSo_6 : decode cX5_isSo 6 = .ok (.getfield 18, 3) := by decide +kernel
theorem dX5_isSo_9 : decode cX5_isSo 9 = .ok (.if_icmp .ge 34, 3) := by decide +kernel
theorem dX5_isSo_43 : decode cX5_isSo 43 = .ok (.iconst 1, 1) := by decide +kernel
theorem dX5_isSo_44 : decode cX5_isSo 44 = .ok (.ireturn, 1) := by decide +kernel
theorem dX5_clearScales_0 : decode cX5_clearScales 0 = .ok (.aload_n 0, 1) := by decide +kernel
theorem dX5_clearScales_1 : decode cX5_clearScales 1 = .ok (.iconst 0, 1) := by decide +kernel
theorem dX5_clearScales_2 : decode cX5_clearScales 2 = .ok (.putfield 22, 3) := by decide +kernel
theorem dX5_clearScales_5 : decode cX5_clearScales 5 = .ok (.aload_n 0, 1) := by decide +kernel
theorem dX5_clearScales_6 : decode cX5_clearScales 6 = .ok (.iconst (-1), 1) := by decide +kernel
theorem dX5_clearScales_7 : decode cX5_clearScales 7 = .ok (.putfield 25, 3) := by decide +kernel
theorem dX5_clearScales_10 : decode cX5_clearScales 10 = .ok (.aload_n 0, 1) := by decide +kernel
theorem dX5_clearScales_11 : decode cX5_clearScales 11 = .ok (.iconst (-1), 1) := by decide +kernel
theorem dX5_clearScales_12 : decode cX5_clearScales 12 = .ok (.putfield 28, 3) := by decide +kernel
theorem dX5_clearScales_15 : decode cX5_clearScales 15 = .ok (.iconst 0, 1) := by decide +kernel
theorem dX5_clearScales_16 : decode cX5_clearScales 16 = .ok (.istore_n 1, 1) := by decide +kernel
theorem dX5_clearScales_17 : decode cX5_clearScales 17 = .ok (.iload_n 1, 1) := by decide +kernel
theorem dX5_clearScales_18 : decode cX5_clearScales 18 = .ok (.bipush 9, 2) := by decide +kernel
theorem dX5_clearScales_20 : decode cX5_clearScales 20 = .ok (.if_icmp .ge 39, 3) := by decide +kernel
theorem dX5_clearScales_23 : decode cX5_clearScales 23 = .ok (.aload_n 0, 1) := by decide +kernel
theorem dX5_clearScales_24 : decode cX5_clearScales 24 = .ok (.getfield 36, 3) := by decide +kernel
theorem dX5_clearScales_27 : decode cX5_clearScales 27 = .ok (.iload_n 1, 1) := by decide +kernel
theorem dX5_clearScales_28 : decode cX5_clearScales 28 = .ok (.iconst 0, 1) := by decide +kernel
theorem dX5_clearScales_29 : decode cX5_clearScales 29 = .ok (.iastore, 1) := by decide +kernel
theorem dX5_clearScales_30 : decode cX5_clearScales 30 = .ok (.iconst 0, 1) := by decide +kernel
theorem dX5_clearScales_31 : decode cX5_clearScales 31 = .ok (.istore_n 2, 1) := by decide +kernel
theorem dX5_clearScales_32 : decode cX5_clearScales 32 = .ok (.iload_n 2, 1) := by decide +kernel
theorem dX5_clearScales_33 : decode cX5_clearScales 33 = .ok (.bipush 99, 2) := by decide +kernel
theorem dX5_clearScales_35 : decode cX5_clearScales 35 = .ok (.if_icmp .gt 18, 3) := by decide +kernel
theorem dX5_clearScales_38 : decode cX5_clearScales 38 = .ok (.aload_n 0, 1) := by decide +kernel
theorem dX5_clearScales_39 : decode cX5_clearScales 39 = .ok (.getfield 33, 3) := by decide +kernel
theorem dX5_clearScales_42 : decode cX5_clearScales 42 = .ok (.iload_n 1, 1) := by decide +kernel
theorem dX5_clearScales_43 : decode cX5_clearScales 43 = .ok (.aaload, 1) := by decide +kernel
theorem dX5_clearScales_44 : decode cX5_clearScales 44 = .ok (.iload_n 2, 1) := by decide +kernel
theorem dX5_clearScales_45 : decode cX5_clearScales 45 = .ok (.iconst 0, 1) := by decide +kernel
theorem dX5_clearScales_46 : decode cX5_clearScales 46 = .ok (.iastore, 1) := by decide +kernel
theorem dX5_clearScales_47 : decode cX5_clearScales 47 = .ok (.iinc 2 1, 3) := by decide +kernel
theorem dX5_clearScales_50 : decode cX5_clearScales 50 = .ok (.goto (-18), 3) := by decide +kernel
theorem dX5_clearScales_53 : decode cX5_clearScales 53 = .ok (.iinc 1 1, 3) := by decide +kernel
theorem dX5_clearScales_56 : decode cX5_clearScales 56 = .ok (.goto (-39), 3) := by decide +kernel
theorem dX5_clearScales_59 : decode cX5_clearScales 59 = .ok (.return_, 1) := by decide +kernel
theorem dX5_noteScale_0 : decode cX5_noteScale 0 = .ok (.aload_n 0, 1) := by decide +kernel
theorem dX5_noteScale_1 : decode cX5_noteScale 1 = .ok (.getfield 22, 3) := by decide +kernel
theorem dX5_noteScale_4 : decode cX5_noteScale 4 = .ok (.ifCond .ne 13, 3) := by decide +kernel
theorem dX5_noteScale_7 : decode cX5_noteScale 7 = .ok (.aload_n 0, 1) := by decide +kernel
theorem dX5_noteScale_8 : decode cX5_noteScale 8 = .ok (.iload_n 1, 1) := by decide +kernel
theorem dX5_noteScale_9 : decode cX5_noteScale 9 = .ok (.putfield 25, 3) := by decide +kernel
theorem dX5_noteScale_12 : decode cX5_noteScale 12 = .ok (.aload_n 0, 1) := by decide +kernel
theorem dX5_noteScale_13 : decode cX5_noteScale 13 = .ok (.iload_n 2, 1) := by decide +kernel
theorem dX5_noteScale_14 : decode cX5_noteScale 14 = .ok (.putfield 28, 3) := by decide +kernel
theorem dX5_noteScale_17 : decode cX5_noteScale 17 = .ok (.aload_n 0, 1) := by decide +kernel
theorem dX5_noteScale_18 : decode cX5_noteScale 18 = .ok (.dup, 1) := by decide +kernel
theorem dX5_noteScale_19 : decode cX5_noteScale 19 = .ok (.getfield 22, 3) := by decide +kernel
theorem dX5_noteScale_22 : decode cX5_noteScale 22 = .ok (.iconst 1, 1) := by decide +kernel
theorem dX5_noteScale_23 : decode cX5_noteScale 23 = .ok (.iadd, 1) := by decide +kernel
theorem dX5_noteScale_24 : decode cX5_noteScale 24 = .ok (.putfield 22, 3) := by decide +kernel
theorem dX5_noteScale_27 : decode cX5_noteScale 27 = .ok (.iconst 0, 1) := by decide +kernel
theorem dX5_noteScale_28 : decode cX5_noteScale 28 = .ok (.istore 4, 2) := by decide +kernel
theorem dX5_noteScale_30 : decode cX5_noteScale 30 = .ok (.iload 4, 2) := by decide +kernel
theorem dX5_noteScale_32 : decode cX5_noteScale 32 = .ok (.iload_n 3, 1) := by decide +kernel
theorem dX5_noteScale_33 : decode cX5_noteScale 33 = .ok (.if_icmp .ge 38, 3) := by decide +kernel
theorem dX5_noteScale_36 : decode cX5_noteScale 36 = .ok (.iload 4, 2) := by decide +kernel
theorem dX5_noteScale_38 : decode cX5_noteScale 38 = .ok (.bipush 9, 2) := by decide +kernel
theorem dX5_noteScale_40 : decode cX5_noteScale 40 = .ok (.if_icmp .ge 31, 3) := by decide +kernel
theorem dX5_noteScale_43 : decode cX5_noteScale 43 = .ok (.aload_n 0, 1) := by decide +kernel
theorem dX5_noteScale_44 : decode cX5_noteScale 44 = .ok (.getfield 33, 3) := by decide +kernel
theorem dX5_noteScale_47 : decode cX5_noteScale 47 = .ok (.iload 4, 2) := by decide +kernel
theorem dX5_noteScale_49 : decode cX5_noteScale 49 = .ok (.aaload, 1) := by decide +kernel
theorem dX5_noteScale_50 : decode cX5_noteScale 50 = .ok (.iconst 0, 1) := by decide +kernel
theorem dX5_noteScale_51 : decode cX5_noteScale 51 = .ok (.iload_n 1, 1) := by decide +kernel
theorem dX5_noteScale_52 : decode cX5_noteScale 52 = .ok (.iload 4, 2) := by decide +kernel
theorem dX5_noteScale_54 : decode cX5_noteScale 54 = .ok (.iload_n 2, 1) := by decide +kernel
theorem dX5_noteScale_55 : decode cX5_noteScale 55 = .ok (.imul, 1) := by decide +kernel
theorem dX5_noteScale_56 : decode cX5_noteScale 56 = .ok (.isub, 1) := by decide +kernel
theorem dX5_noteScale_57 : decode cX5_noteScale 57 = .ok (.invokestatic 54, 3) := by decide +kernel
theorem dX5_noteScale_60 : decode cX5_noteScale 60 = .ok (.dup2, 1) := by decide +kernel
theorem dX5_noteScale_61 : decode cX5_noteScale 61 = .ok (.iaload, 1) := by decide +kernel
theorem dX5_noteScale_62 : decode cX5_noteScale 62 = .ok (.iconst 1, 1) := by decide +kernel
theorem dX5_noteScale_63 : decode cX5_noteScale 63 = .ok (.iadd, 1) := by decide +kernel
theorem dX5_noteScale_64 : decode cX5_noteScale 64 = .ok (.iastore, 1) := by decide +kernel
theorem dX5_noteScale_65 : decode cX5_noteScale 65 = .ok (.iinc 4 1, 3) := by decide +kernel
theorem dX5_noteScale_68 : decode cX5_noteScale 68 = .ok (.goto (-38), 3) := by decide +kernel
theorem dX5_noteScale_71 : decode cX5_noteScale 71 = .ok (.return_, 1) := by decide +kernel
set_option maxHeartbeats 4000000 in
set_option maxRecDepth 100000 in
/-- Sightings.clearScales, new -/
theorem c_S_clear (l : Launch) (D : va_G) (g : Nat → ClassId) (u : Nat → Nat) (bf : Nat → Option Nat) (hbf : ∀ k, k < 9 → bf k = some (u (73 + k))) : CtV l yX5_clearScales wsX5_clearScales { frames := 0, cells := 0, slots := 0, locals := 0 } D (TY g) [.ref (u 5)] (fun _ => True) [((u 5), .inr (5, [.ref (u 69), .ref (u 70), .int 0, .int 0, .int (-1), .int (-1), .ref (u 71), .ref (u 72)])), ((u 71), .inl (g 4, 9, .inr (.inr (.inr (.inr bf))))), ((u 72), .inl (g 0, 9, .inl (fun _ => 0))), ((u 73), .inl (g 0, 100, .inl (fun _ => 0))), ((u 74), .inl (g 0, 100, .inl (fun _ => 0))), ((u 75), .inl (g 0, 100, .inl (fun _ => 0))), ((u 76), .inl (g 0, 100, .inl (fun _ => 0))), ((u 77), .inl (g 0, 100, .inl (fun _ => 0))), ((u 78), .inl (g 0, 100, .inl (fun _ => 0))), ((u 79), .inl (g 0, 100, .inl (fun _ => 0))), ((u 80), .inl (g 0, 100, .inl (fun _ => 0))), ((u 81), .inl (g 0, 100, .inl (fun _ => 0)))] (fun _ : Unit => True) (fun _ => [((u 5), .inr (5, [.ref (u 69), .ref (u 70), .int 0, .int 0, .int (-1), .int (-1), .ref (u 71), .ref (u 72)])), ((u 71), .inl (g 4, 9, .inr (.inr (.inr (.inr bf))))), ((u 72), .inl (g 0, 9, .inl (fun _ => 0))), ((u 73), .inl (g 0, 100, .inl (fun _ => 0))), ((u 74), .inl (g 0, 100, .inl (fun _ => 0))), ((u 75), .inl (g 0, 100, .inl (fun _ => 0))), ((u 76), .inl (g 0, 100, .inl (fun _ => 0))), ((u 77), .inl (g 0, 100, .inl (fun _ => 0)))]) := by
  refine CtV.intro (cc := cX5_clearScales) (maxL := 3) (ret := none) rfl (by decide +kernel) (Nat.le_of_ble_eq_true rfl) ?_
  intro p e s m below meth c A ls C hmn hX hAe hT hl
  have hx := C.1.1
  have hb := C.1.2.1
  have hl : lv_has ls 3 [(0, .ref (u 5))] := hl
  have hin5 : ∀ w ∈ u_ws RX5 TX5 8, w ∈ wsX5_clearScales := by decide +kernel
  refine lv_aload_n hx hb dX5_clearScales_0 rfl (lv_at hl 0 rfl) ?_
  refine lv_iconst (v := 0) hx hb dX5_clearScales_1 (by decide +kernel) ?_
  refine z_put C (ci := 5) (N := 8) rfl hin5 tyX5_ok nmX5 hT 0 3 rfl (Nat.le_of_ble_eq_true rfl) (by decide +kernel) (by decide +kernel) rfl rfl rfl dX5_clearScales_2 [((u 5), .inr (5, [.ref (u 69), .ref (u 70), .int 0, .int 0, .int (-1), .int (-1), .ref (u 71), .ref (u 72)])), ((u 71), .inl (g 4, 9, .inr (.inr (.inr (.inr bf))))), ((u 72), .inl (g 0, 9, .inl (fun _ => 0))), ((u 73), .inl (g 0, 100, .inl (fun _ => 0))), ((u 74), .inl (g 0, 100, .inl (fun _ => 0))), ((u 75), .inl (g 0, 100, .inl (fun _ => 0))), ((u 76), .inl (g 0, 100, .inl (fun _ => 0))), ((u 77), .inl (g 0, 100, .inl (fun _ => 0))), ((u 78), .inl (g 0, 100, .inl (fun _ => 0))), ((u 79), .inl (g 0, 100, .inl (fun _ => 0))), ((u 80), .inl (g 0, 100, .inl (fun _ => 0))), ((u 81), .inl (g 0, 100, .inl (fun _ => 0)))] rfl (fun H locs hT => ?_)
  refine lv_aload_n hx hb dX5_clearScales_5 rfl (lv_at hl 0 rfl) ?_
  refine lv_iconst (v := (-1)) hx hb dX5_clearScales_6 (by decide +kernel) ?_
  refine z_put C (ci := 5) (N := 8) rfl hin5 tyX5_ok nmX5 hT 0 4 rfl (Nat.le_of_ble_eq_true rfl) (by decide +kernel) (by decide +kernel) rfl rfl rfl dX5_clearScales_7 [((u 5), .inr (5, [.ref (u 69), .ref (u 70), .int 0, .int 0, .int (-1), .int (-1), .ref (u 71), .ref (u 72)])), ((u 71), .inl (g 4, 9, .inr (.inr (.inr (.inr bf))))), ((u 72), .inl (g 0, 9, .inl (fun _ => 0))), ((u 73), .inl (g 0, 100, .inl (fun _ => 0))), ((u 74), .inl (g 0, 100, .inl (fun _ => 0))), ((u 75), .inl (g 0, 100, .inl (fun _ => 0))), ((u 76), .inl (g 0, 100, .inl (fun _ => 0))), ((u 77), .inl (g 0, 100, .inl (fun _ => 0))), ((u 78), .inl (g 0, 100, .inl (fun _ => 0))), ((u 79), .inl (g 0, 100, .inl (fun _ => 0))), ((u 80), .inl (g 0, 100, .inl (fun _ => 0))), ((u 81), .inl (g 0, 100, .inl (fun _ => 0)))] rfl (fun H locs hT => ?_)
  refine lv_aload_n hx hb dX5_clearScales_10 rfl (lv_at hl 0 rfl) ?_
  refine lv_iconst (v := (-1)) hx hb dX5_clearScales_11 (by decide +kernel) ?_
  refine z_put C (ci := 5) (N := 8) rfl hin5 tyX5_ok nmX5 hT 0 5 rfl (Nat.le_of_ble_eq_true rfl) (by decide +kernel) (by decide +kernel) rfl rfl rfl dX5_clearScales_12 [((u 5), .inr (5, [.ref (u 69), .ref (u 70), .int 0, .int 0, .int (-1), .int (-1), .ref (u 71), .ref (u 72)])), ((u 71), .inl (g 4, 9, .inr (.inr (.inr (.inr bf))))), ((u 72), .inl (g 0, 9, .inl (fun _ => 0))), ((u 73), .inl (g 0, 100, .inl (fun _ => 0))), ((u 74), .inl (g 0, 100, .inl (fun _ => 0))), ((u 75), .inl (g 0, 100, .inl (fun _ => 0))), ((u 76), .inl (g 0, 100, .inl (fun _ => 0))), ((u 77), .inl (g 0, 100, .inl (fun _ => 0))), ((u 78), .inl (g 0, 100, .inl (fun _ => 0))), ((u 79), .inl (g 0, 100, .inl (fun _ => 0))), ((u 80), .inl (g 0, 100, .inl (fun _ => 0))), ((u 81), .inl (g 0, 100, .inl (fun _ => 0)))] rfl (fun H locs hT => ?_)
  refine lv_iconst (v := 0) hx hb dX5_clearScales_15 (by decide +kernel) ?_
  refine lv_istore_n (lv' := [(1, .int 0), (0, .ref (u 5))]) hx hb dX5_clearScales_16 rfl hl (by decide +kernel) rfl (fun ls hl => ?_)
  refine lv_iload_n hx hb dX5_clearScales_17 rfl (lv_at hl 0 rfl) ?_
  refine lv_bipush (v := 9) hx hb dX5_clearScales_18 (by decide +kernel) ?_
  refine lv_icmp_ge (tgt := 59) hx hb dX5_clearScales_20 (by decide +kernel) (fun c9 => absurd c9 (by decide +kernel)) (fun _ => ?_)
  refine lv_aload_n hx hb dX5_clearScales_23 rfl (lv_at hl 1 rfl) ?_
  refine z_get C (ci := 5) (N := 8) rfl hin5 hT 0 7 rfl rfl (by decide +kernel) (by decide +kernel) dX5_clearScales_24 ?_
  refine lv_iload_n hx hb dX5_clearScales_27 rfl (lv_at hl 0 rfl) ?_
  refine lv_iconst (v := 0) hx hb dX5_clearScales_28 (by decide +kernel) ?_
  refine z_iast C hT 2 0 rfl rfl (vin rfl) dX5_clearScales_29 (fun _ => 0) (upd_zz _) [((u 5), .inr (5, [.ref (u 69), .ref (u 70), .int 0, .int 0, .int (-1), .int (-1), .ref (u 71), .ref (u 72)])), ((u 71), .inl (g 4, 9, .inr (.inr (.inr (.inr bf))))), ((u 72), .inl (g 0, 9, .inl (fun _ => 0))), ((u 73), .inl (g 0, 100, .inl (fun _ => 0))), ((u 74), .inl (g 0, 100, .inl (fun _ => 0))), ((u 75), .inl (g 0, 100, .inl (fun _ => 0))), ((u 76), .inl (g 0, 100, .inl (fun _ => 0))), ((u 77), .inl (g 0, 100, .inl (fun _ => 0))), ((u 78), .inl (g 0, 100, .inl (fun _ => 0))), ((u 79), .inl (g 0, 100, .inl (fun _ => 0))), ((u 80), .inl (g 0, 100, .inl (fun _ => 0))), ((u 81), .inl (g 0, 100, .inl (fun _ => 0)))] rfl (fun H locs hT => ?_)
  refine lv_iconst (v := 0) hx hb dX5_clearScales_30 (by decide +kernel) ?_
  refine lv_istore_n (lv' := [(2, .int 0), (1, .int 0), (0, .ref (u 5))]) hx hb dX5_clearScales_31 rfl hl (by decide +kernel) rfl (fun ls hl => ?_)
  refine z_loop (α := Unit) (N := 100) (fun i a => True) (fun i a => [((u 5), .inr (5, [.ref (u 69), .ref (u 70), .int 0, .int 0, .int (-1), .int (-1), .ref (u 71), .ref (u 72)])), ((u 71), .inl (g 4, 9, .inr (.inr (.inr (.inr bf))))), ((u 72), .inl (g 0, 9, .inl (fun _ => 0))), ((u 73), .inl (g 0, 100, .inl (fun _ => 0))), ((u 74), .inl (g 0, 100, .inl (fun _ => 0))), ((u 75), .inl (g 0, 100, .inl (fun _ => 0))), ((u 76), .inl (g 0, 100, .inl (fun _ => 0))), ((u 77), .inl (g 0, 100, .inl (fun _ => 0))), ((u 78), .inl (g 0, 100, .inl (fun _ => 0))), ((u 79), .inl (g 0, 100, .inl (fun _ => 0))), ((u 80), .inl (g 0, 100, .inl (fun _ => 0))), ((u 81), .inl (g 0, 100, .inl (fun _ => 0)))]) (fun i a => [(2, .int (nI i)), (1, .int 0), (0, .ref (u 5))]) ?_ ?_ 0 () (Nat.zero_le _) trivial _ _ _ hT (lv_sub hl [0, 1, 2] rfl)
  · intro i a H locs ls hi hI hT hl ih
    have hT : Sit D (TY g) A s [((u 5), .inr (5, [.ref (u 69), .ref (u 70), .int 0, .int 0, .int (-1), .int (-1), .ref (u 71), .ref (u 72)])), ((u 71), .inl (g 4, 9, .inr (.inr (.inr (.inr bf))))), ((u 72), .inl (g 0, 9, .inl (fun _ => 0))), ((u 73), .inl (g 0, 100, .inl (fun _ => 0))), ((u 74), .inl (g 0, 100, .inl (fun _ => 0))), ((u 75), .inl (g 0, 100, .inl (fun _ => 0))), ((u 76), .inl (g 0, 100, .inl (fun _ => 0))), ((u 77), .inl (g 0, 100, .inl (fun _ => 0))), ((u 78), .inl (g 0, 100, .inl (fun _ => 0))), ((u 79), .inl (g 0, 100, .inl (fun _ => 0))), ((u 80), .inl (g 0, 100, .inl (fun _ => 0))), ((u 81), .inl (g 0, 100, .inl (fun _ => 0)))] H locs := hT
    have hl : lv_has ls _ [(2, .int (nI i)), (1, .int 0), (0, .ref (u 5))] := hl
    refine lv_iload_n hx hb dX5_clearScales_32 rfl (lv_at hl 0 rfl) ?_
    refine lv_bipush (v := 99) hx hb dX5_clearScales_33 (by decide +kernel) ?_
    refine lv_icmp_gt (tgt := 53) hx hb dX5_clearScales_35 (by decide +kernel) (fun c9 => absurd c9 (lp_gt (N := 99) (by decide +kernel) (by omega) (by decide +kernel))) (fun _ => ?_)
    refine lv_aload_n hx hb dX5_clearScales_38 rfl (lv_at hl 2 rfl) ?_
    refine z_get C (ci := 5) (N := 8) rfl hin5 hT 0 6 rfl rfl (by decide +kernel) (by decide +kernel) dX5_clearScales_39 ?_
    refine lv_iload_n hx hb dX5_clearScales_42 rfl (lv_at hl 1 rfl) ?_
    refine z_aald C hT 1 4 rfl rfl rfl (vin rfl) (v := .ref (u 73)) (show va_rf (bf (0 : Int32).toNatClampNeg) = .ref (u 73) from by rw [show (0 : Int32).toNatClampNeg = 0 from by decide +kernel, hbf 0 (by decide)]; rfl) dX5_clearScales_43 ?_
    refine lv_iload_n hx hb dX5_clearScales_44 rfl (lv_at hl 0 rfl) ?_
    refine lv_iconst (v := 0) hx hb dX5_clearScales_45 (by decide +kernel) ?_
    refine z_iast C hT 3 0 rfl rfl (vp_in_nI (by omega) (by decide +kernel)) dX5_clearScales_46 (fun _ => 0) (upd_zz _) [((u 5), .inr (5, [.ref (u 69), .ref (u 70), .int 0, .int 0, .int (-1), .int (-1), .ref (u 71), .ref (u 72)])), ((u 71), .inl (g 4, 9, .inr (.inr (.inr (.inr bf))))), ((u 72), .inl (g 0, 9, .inl (fun _ => 0))), ((u 73), .inl (g 0, 100, .inl (fun _ => 0))), ((u 74), .inl (g 0, 100, .inl (fun _ => 0))), ((u 75), .inl (g 0, 100, .inl (fun _ => 0))), ((u 76), .inl (g 0, 100, .inl (fun _ => 0))), ((u 77), .inl (g 0, 100, .inl (fun _ => 0))), ((u 78), .inl (g 0, 100, .inl (fun _ => 0))), ((u 79), .inl (g 0, 100, .inl (fun _ => 0))), ((u 80), .inl (g 0, 100, .inl (fun _ => 0))), ((u 81), .inl (g 0, 100, .inl (fun _ => 0)))] rfl (fun H locs hT => ?_)
    refine lv_iinc (v := nI (i + 1)) (lv' := [(2, .int (nI (i + 1))), (1, .int 0), (0, .ref (u 5))]) hx hb dX5_clearScales_47 hl (k := 0) rfl (inc1 _) (by decide +kernel) rfl (fun ls hl => ?_)
    refine lv_goto (tgt := 32) hx hb dX5_clearScales_50 (by decide +kernel) ?_
    exact ih () _ _ _ trivial hT (lv_sub hl [0, 1, 2] rfl)
  · intro a H locs ls hI hT hl
    have hT : Sit D (TY g) A s [((u 5), .inr (5, [.ref (u 69), .ref (u 70), .int 0, .int 0, .int (-1), .int (-1), .ref (u 71), .ref (u 72)])), ((u 71), .inl (g 4, 9, .inr (.inr (.inr (.inr bf))))), ((u 72), .inl (g 0, 9, .inl (fun _ => 0))), ((u 73), .inl (g 0, 100, .inl (fun _ => 0))), ((u 74), .inl (g 0, 100, .inl (fun _ => 0))), ((u 75), .inl (g 0, 100, .inl (fun _ => 0))), ((u 76), .inl (g 0, 100, .inl (fun _ => 0))), ((u 77), .inl (g 0, 100, .inl (fun _ => 0))), ((u 78), .inl (g 0, 100, .inl (fun _ => 0))), ((u 79), .inl (g 0, 100, .inl (fun _ => 0))), ((u 80), .inl (g 0, 100, .inl (fun _ => 0))), ((u 81), .inl (g 0, 100, .inl (fun _ => 0)))] H locs := hT
    have hl : lv_has ls _ [(2, .int (nI 100)), (1, .int 0), (0, .ref (u 5))] := hl
    refine lv_iload_n hx hb dX5_clearScales_32 rfl (lv_at hl 0 rfl) ?_
    refine lv_bipush (v := 99) hx hb dX5_clearScales_33 (by decide +kernel) ?_
    refine lv_icmp_gt (tgt := 53) hx hb dX5_clearScales_35 (by decide +kernel) (fun _ => ?_) (fun c9 => absurd (by decide +kernel) c9)
    refine lv_iinc (v := 1) (lv' := [(1, .int 1), (2, .int (nI 100)), (0, .ref (u 5))]) hx hb dX5_clearScales_53 hl (k := 1) rfl (by decide +kernel) (by decide +kernel) rfl (fun ls hl => ?_)
    refine lv_goto (tgt := 17) hx hb dX5_clearScales_56 (by decide +kernel) ?_
    refine lv_iload_n hx hb dX5_clearScales_17 rfl (lv_at hl 0 rfl) ?_
    refine lv_bipush (v := 9) hx hb dX5_clearScales_18 (by decide +kernel) ?_
    refine lv_icmp_ge (tgt := 59) hx hb dX5_clearScales_20 (by decide +kernel) (fun c9 => absurd c9 (by decide +kernel)) (fun _ => ?_)
    refine lv_aload_n hx hb dX5_clearScales_23 rfl (lv_at hl 2 rfl) ?_
    refine z_get C (ci := 5) (N := 8) rfl hin5 hT 0 7 rfl rfl (by decide +kernel) (by decide +kernel) dX5_clearScales_24 ?_
    refine lv_iload_n hx hb dX5_clearScales_27 rfl (lv_at hl 0 rfl) ?_
    refine lv_iconst (v := 0) hx hb dX5_clearScales_28 (by decide +kernel) ?_
    refine z_iast C hT 2 0 rfl rfl (vin rfl) dX5_clearScales_29 (fun _ => 0) (upd_zz _) [((u 5), .inr (5, [.ref (u 69), .ref (u 70), .int 0, .int 0, .int (-1), .int (-1), .ref (u 71), .ref (u 72)])), ((u 71), .inl (g 4, 9, .inr (.inr (.inr (.inr bf))))), ((u 72), .inl (g 0, 9, .inl (fun _ => 0))), ((u 73), .inl (g 0, 100, .inl (fun _ => 0))), ((u 74), .inl (g 0, 100, .inl (fun _ => 0))), ((u 75), .inl (g 0, 100, .inl (fun _ => 0))), ((u 76), .inl (g 0, 100, .inl (fun _ => 0))), ((u 77), .inl (g 0, 100, .inl (fun _ => 0))), ((u 78), .inl (g 0, 100, .inl (fun _ => 0))), ((u 79), .inl (g 0, 100, .inl (fun _ => 0))), ((u 80), .inl (g 0, 100, .inl (fun _ => 0))), ((u 81), .inl (g 0, 100, .inl (fun _ => 0)))] rfl (fun H locs hT => ?_)
    refine lv_iconst (v := 0) hx hb dX5_clearScales_30 (by decide +kernel) ?_
    refine lv_istore_n (lv' := [(2, .int 0), (1, .int 1), (0, .ref (u 5))]) hx hb dX5_clearScales_31 rfl hl (by decide +kernel) rfl (fun ls hl => ?_)
    refine z_loop (α := Unit) (N := 100) (fun i a => True) (fun i a => [((u 5), .inr (5, [.ref (u 69), .ref (u 70), .int 0, .int 0, .int (-1), .int (-1), .ref (u 71), .ref (u 72)])), ((u 71), .inl (g 4, 9, .inr (.inr (.inr (.inr bf))))), ((u 72), .inl (g 0, 9, .inl (fun _ => 0))), ((u 73), .inl (g 0, 100, .inl (fun _ => 0))), ((u 74), .inl (g 0, 100, .inl (fun _ => 0))), ((u 75), .inl (g 0, 100, .inl (fun _ => 0))), ((u 76), .inl (g 0, 100, .inl (fun _ => 0))), ((u 77), .inl (g 0, 100, .inl (fun _ => 0))), ((u 78), .inl (g 0, 100, .inl (fun _ => 0))), ((u 79), .inl (g 0, 100, .inl (fun _ => 0))), ((u 80), .inl (g 0, 100, .inl (fun _ => 0))), ((u 81), .inl (g 0, 100, .inl (fun _ => 0)))]) (fun i a => [(2, .int (nI i)), (1, .int 1), (0, .ref (u 5))]) ?_ ?_ 0 () (Nat.zero_le _) trivial _ _ _ hT (lv_sub hl [0, 1, 2] rfl)
    · intro i a H locs ls hi hI hT hl ih
      have hT : Sit D (TY g) A s [((u 5), .inr (5, [.ref (u 69), .ref (u 70), .int 0, .int 0, .int (-1), .int (-1), .ref (u 71), .ref (u 72)])), ((u 71), .inl (g 4, 9, .inr (.inr (.inr (.inr bf))))), ((u 72), .inl (g 0, 9, .inl (fun _ => 0))), ((u 73), .inl (g 0, 100, .inl (fun _ => 0))), ((u 74), .inl (g 0, 100, .inl (fun _ => 0))), ((u 75), .inl (g 0, 100, .inl (fun _ => 0))), ((u 76), .inl (g 0, 100, .inl (fun _ => 0))), ((u 77), .inl (g 0, 100, .inl (fun _ => 0))), ((u 78), .inl (g 0, 100, .inl (fun _ => 0))), ((u 79), .inl (g 0, 100, .inl (fun _ => 0))), ((u 80), .inl (g 0, 100, .inl (fun _ => 0))), ((u 81), .inl (g 0, 100, .inl (fun _ => 0)))] H locs := hT
      have hl : lv_has ls _ [(2, .int (nI i)), (1, .int 1), (0, .ref (u 5))] := hl
      refine lv_iload_n hx hb dX5_clearScales_32 rfl (lv_at hl 0 rfl) ?_
      refine lv_bipush (v := 99) hx hb dX5_clearScales_33 (by decide +kernel) ?_
      refine lv_icmp_gt (tgt := 53) hx hb dX5_clearScales_35 (by decide +kernel) (fun c9 => absurd c9 (lp_gt (N := 99) (by decide +kernel) (by omega) (by decide +kernel))) (fun _ => ?_)
      refine lv_aload_n hx hb dX5_clearScales_38 rfl (lv_at hl 2 rfl) ?_
      refine z_get C (ci := 5) (N := 8) rfl hin5 hT 0 6 rfl rfl (by decide +kernel) (by decide +kernel) dX5_clearScales_39 ?_
      refine lv_iload_n hx hb dX5_clearScales_42 rfl (lv_at hl 1 rfl) ?_
      refine z_aald C hT 1 4 rfl rfl rfl (vin rfl) (v := .ref (u 74)) (show va_rf (bf (1 : Int32).toNatClampNeg) = .ref (u 74) from by rw [show (1 : Int32).toNatClampNeg = 1 from by decide +kernel, hbf 1 (by decide)]; rfl) dX5_clearScales_43 ?_
      refine lv_iload_n hx hb dX5_clearScales_44 rfl (lv_at hl 0 rfl) ?_
      refine lv_iconst (v := 0) hx hb dX5_clearScales_45 (by decide +kernel) ?_
      refine z_iast C hT 4 0 rfl rfl (vp_in_nI (by omega) (by decide +kernel)) dX5_clearScales_46 (fun _ => 0) (upd_zz _) [((u 5), .inr (5, [.ref (u 69), .ref (u 70), .int 0, .int 0, .int (-1), .int (-1), .ref (u 71), .ref (u 72)])), ((u 71), .inl (g 4, 9, .inr (.inr (.inr (.inr bf))))), ((u 72), .inl (g 0, 9, .inl (fun _ => 0))), ((u 73), .inl (g 0, 100, .inl (fun _ => 0))), ((u 74), .inl (g 0, 100, .inl (fun _ => 0))), ((u 75), .inl (g 0, 100, .inl (fun _ => 0))), ((u 76), .inl (g 0, 100, .inl (fun _ => 0))), ((u 77), .inl (g 0, 100, .inl (fun _ => 0))), ((u 78), .inl (g 0, 100, .inl (fun _ => 0))), ((u 79), .inl (g 0, 100, .inl (fun _ => 0))), ((u 80), .inl (g 0, 100, .inl (fun _ => 0))), ((u 81), .inl (g 0, 100, .inl (fun _ => 0)))] rfl (fun H locs hT => ?_)
      refine lv_iinc (v := nI (i + 1)) (lv' := [(2, .int (nI (i + 1))), (1, .int 1), (0, .ref (u 5))]) hx hb dX5_clearScales_47 hl (k := 0) rfl (inc1 _) (by decide +kernel) rfl (fun ls hl => ?_)
      refine lv_goto (tgt := 32) hx hb dX5_clearScales_50 (by decide +kernel) ?_
      exact ih () _ _ _ trivial hT (lv_sub hl [0, 1, 2] rfl)
    · intro a H locs ls hI hT hl
      have hT : Sit D (TY g) A s [((u 5), .inr (5, [.ref (u 69), .ref (u 70), .int 0, .int 0, .int (-1), .int (-1), .ref (u 71), .ref (u 72)])), ((u 71), .inl (g 4, 9, .inr (.inr (.inr (.inr bf))))), ((u 72), .inl (g 0, 9, .inl (fun _ => 0))), ((u 73), .inl (g 0, 100, .inl (fun _ => 0))), ((u 74), .inl (g 0, 100, .inl (fun _ => 0))), ((u 75), .inl (g 0, 100, .inl (fun _ => 0))), ((u 76), .inl (g 0, 100, .inl (fun _ => 0))), ((u 77), .inl (g 0, 100, .inl (fun _ => 0))), ((u 78), .inl (g 0, 100, .inl (fun _ => 0))), ((u 79), .inl (g 0, 100, .inl (fun _ => 0))), ((u 80), .inl (g 0, 100, .inl (fun _ => 0))), ((u 81), .inl (g 0, 100, .inl (fun _ => 0)))] H locs := hT
      have hl : lv_has ls _ [(2, .int (nI 100)), (1, .int 1), (0, .ref (u 5))] := hl
      refine lv_iload_n hx hb dX5_clearScales_32 rfl (lv_at hl 0 rfl) ?_
      refine lv_bipush (v := 99) hx hb dX5_clearScales_33 (by decide +kernel) ?_
      refine lv_icmp_gt (tgt := 53) hx hb dX5_clearScales_35 (by decide +kernel) (fun _ => ?_) (fun c9 => absurd (by decide +kernel) c9)
      refine lv_iinc (v := 2) (lv' := [(1, .int 2), (2, .int (nI 100)), (0, .ref (u 5))]) hx hb dX5_clearScales_53 hl (k := 1) rfl (by decide +kernel) (by decide +kernel) rfl (fun ls hl => ?_)
      refine lv_goto (tgt := 17) hx hb dX5_clearScales_56 (by decide +kernel) ?_
      refine lv_iload_n hx hb dX5_clearScales_17 rfl (lv_at hl 0 rfl) ?_
      refine lv_bipush (v := 9) hx hb dX5_clearScales_18 (by decide +kernel) ?_
      refine lv_icmp_ge (tgt := 59) hx hb dX5_clearScales_20 (by decide +kernel) (fun c9 => absurd c9 (by decide +kernel)) (fun _ => ?_)
      refine lv_aload_n hx hb dX5_clearScales_23 rfl (lv_at hl 2 rfl) ?_
      refine z_get C (ci := 5) (N := 8) rfl hin5 hT 0 7 rfl rfl (by decide +kernel) (by decide +kernel) dX5_clearScales_24 ?_
      refine lv_iload_n hx hb dX5_clearScales_27 rfl (lv_at hl 0 rfl) ?_
      refine lv_iconst (v := 0) hx hb dX5_clearScales_28 (by decide +kernel) ?_
      refine z_iast C hT 2 0 rfl rfl (vin rfl) dX5_clearScales_29 (fun _ => 0) (upd_zz _) [((u 5), .inr (5, [.ref (u 69), .ref (u 70), .int 0, .int 0, .int (-1), .int (-1), .ref (u 71), .ref (u 72)])), ((u 71), .inl (g 4, 9, .inr (.inr (.inr (.inr bf))))), ((u 72), .inl (g 0, 9, .inl (fun _ => 0))), ((u 73), .inl (g 0, 100, .inl (fun _ => 0))), ((u 74), .inl (g 0, 100, .inl (fun _ => 0))), ((u 75), .inl (g 0, 100, .inl (fun _ => 0))), ((u 76), .inl (g 0, 100, .inl (fun _ => 0))), ((u 77), .inl (g 0, 100, .inl (fun _ => 0))), ((u 78), .inl (g 0, 100, .inl (fun _ => 0))), ((u 79), .inl (g 0, 100, .inl (fun _ => 0))), ((u 80), .inl (g 0, 100, .inl (fun _ => 0))), ((u 81), .inl (g 0, 100, .inl (fun _ => 0)))] rfl (fun H locs hT => ?_)
      refine lv_iconst (v := 0) hx hb dX5_clearScales_30 (by decide +kernel) ?_
      refine lv_istore_n (lv' := [(2, .int 0), (1, .int 2), (0, .ref (u 5))]) hx hb dX5_clearScales_31 rfl hl (by decide +kernel) rfl (fun ls hl => ?_)
      refine z_loop (α := Unit) (N := 100) (fun i a => True) (fun i a => [((u 5), .inr (5, [.ref (u 69), .ref (u 70), .int 0, .int 0, .int (-1), .int (-1), .ref (u 71), .ref (u 72)])), ((u 71), .inl (g 4, 9, .inr (.inr (.inr (.inr bf))))), ((u 72), .inl (g 0, 9, .inl (fun _ => 0))), ((u 73), .inl (g 0, 100, .inl (fun _ => 0))), ((u 74), .inl (g 0, 100, .inl (fun _ => 0))), ((u 75), .inl (g 0, 100, .inl (fun _ => 0))), ((u 76), .inl (g 0, 100, .inl (fun _ => 0))), ((u 77), .inl (g 0, 100, .inl (fun _ => 0))), ((u 78), .inl (g 0, 100, .inl (fun _ => 0))), ((u 79), .inl (g 0, 100, .inl (fun _ => 0))), ((u 80), .inl (g 0, 100, .inl (fun _ => 0))), ((u 81), .inl (g 0, 100, .inl (fun _ => 0)))]) (fun i a => [(2, .int (nI i)), (1, .int 2), (0, .ref (u 5))]) ?_ ?_ 0 () (Nat.zero_le _) trivial _ _ _ hT (lv_sub hl [0, 1, 2] rfl)
      · intro i a H locs ls hi hI hT hl ih
        have hT : Sit D (TY g) A s [((u 5), .inr (5, [.ref (u 69), .ref (u 70), .int 0, .int 0, .int (-1), .int (-1), .ref (u 71), .ref (u 72)])), ((u 71), .inl (g 4, 9, .inr (.inr (.inr (.inr bf))))), ((u 72), .inl (g 0, 9, .inl (fun _ => 0))), ((u 73), .inl (g 0, 100, .inl (fun _ => 0))), ((u 74), .inl (g 0, 100, .inl (fun _ => 0))), ((u 75), .inl (g 0, 100, .inl (fun _ => 0))), ((u 76), .inl (g 0, 100, .inl (fun _ => 0))), ((u 77), .inl (g 0, 100, .inl (fun _ => 0))), ((u 78), .inl (g 0, 100, .inl (fun _ => 0))), ((u 79), .inl (g 0, 100, .inl (fun _ => 0))), ((u 80), .inl (g 0, 100, .inl (fun _ => 0))), ((u 81), .inl (g 0, 100, .inl (fun _ => 0)))] H locs := hT
        have hl : lv_has ls _ [(2, .int (nI i)), (1, .int 2), (0, .ref (u 5))] := hl
        refine lv_iload_n hx hb dX5_clearScales_32 rfl (lv_at hl 0 rfl) ?_
        refine lv_bipush (v := 99) hx hb dX5_clearScales_33 (by decide +kernel) ?_
        refine lv_icmp_gt (tgt := 53) hx hb dX5_clearScales_35 (by decide +kernel) (fun c9 => absurd c9 (lp_gt (N := 99) (by decide +kernel) (by omega) (by decide +kernel))) (fun _ => ?_)
        refine lv_aload_n hx hb dX5_clearScales_38 rfl (lv_at hl 2 rfl) ?_
        refine z_get C (ci := 5) (N := 8) rfl hin5 hT 0 6 rfl rfl (by decide +kernel) (by decide +kernel) dX5_clearScales_39 ?_
        refine lv_iload_n hx hb dX5_clearScales_42 rfl (lv_at hl 1 rfl) ?_
        refine z_aald C hT 1 4 rfl rfl rfl (vin rfl) (v := .ref (u 75)) (show va_rf (bf (2 : Int32).toNatClampNeg) = .ref (u 75) from by rw [show (2 : Int32).toNatClampNeg = 2 from by decide +kernel, hbf 2 (by decide)]; rfl) dX5_clearScales_43 ?_
        refine lv_iload_n hx hb dX5_clearScales_44 rfl (lv_at hl 0 rfl) ?_
        refine lv_iconst (v := 0) hx hb dX5_clearScales_45 (by decide +kernel) ?_
        refine z_iast C hT 5 0 rfl rfl (vp_in_nI (by omega) (by decide +kernel)) dX5_clearScales_46 (fun _ => 0) (upd_zz _) [((u 5), .inr (5, [.ref (u 69), .ref (u 70), .int 0, .int 0, .int (-1), .int (-1), .ref (u 71), .ref (u 72)])), ((u 71), .inl (g 4, 9, .inr (.inr (.inr (.inr bf))))), ((u 72), .inl (g 0, 9, .inl (fun _ => 0))), ((u 73), .inl (g 0, 100, .inl (fun _ => 0))), ((u 74), .inl (g 0, 100, .inl (fun _ => 0))), ((u 75), .inl (g 0, 100, .inl (fun _ => 0))), ((u 76), .inl (g 0, 100, .inl (fun _ => 0))), ((u 77), .inl (g 0, 100, .inl (fun _ => 0))), ((u 78), .inl (g 0, 100, .inl (fun _ => 0))), ((u 79), .inl (g 0, 100, .inl (fun _ => 0))), ((u 80), .inl (g 0, 100, .inl (fun _ => 0))), ((u 81), .inl (g 0, 100, .inl (fun _ => 0)))] rfl (fun H locs hT => ?_)
        refine lv_iinc (v := nI (i + 1)) (lv' := [(2, .int (nI (i + 1))), (1, .int 2), (0, .ref (u 5))]) hx hb dX5_clearScales_47 hl (k := 0) rfl (inc1 _) (by decide +kernel) rfl (fun ls hl => ?_)
        refine lv_goto (tgt := 32) hx hb dX5_clearScales_50 (by decide +kernel) ?_
        exact ih () _ _ _ trivial hT (lv_sub hl [0, 1, 2] rfl)
      · intro a H locs ls hI hT hl
        have hT : Sit D (TY g) A s [((u 5), .inr (5, [.ref (u 69), .ref (u 70), .int 0, .int 0, .int (-1), .int (-1), .ref (u 71), .ref (u 72)])), ((u 71), .inl (g 4, 9, .inr (.inr (.inr (.inr bf))))), ((u 72), .inl (g 0, 9, .inl (fun _ => 0))), ((u 73), .inl (g 0, 100, .inl (fun _ => 0))), ((u 74), .inl (g 0, 100, .inl (fun _ => 0))), ((u 75), .inl (g 0, 100, .inl (fun _ => 0))), ((u 76), .inl (g 0, 100, .inl (fun _ => 0))), ((u 77), .inl (g 0, 100, .inl (fun _ => 0))), ((u 78), .inl (g 0, 100, .inl (fun _ => 0))), ((u 79), .inl (g 0, 100, .inl (fun _ => 0))), ((u 80), .inl (g 0, 100, .inl (fun _ => 0))), ((u 81), .inl (g 0, 100, .inl (fun _ => 0)))] H locs := hT
        have hl : lv_has ls _ [(2, .int (nI 100)), (1, .int 2), (0, .ref (u 5))] := hl
        refine lv_iload_n hx hb dX5_clearScales_32 rfl (lv_at hl 0 rfl) ?_
        refine lv_bipush (v := 99) hx hb dX5_clearScales_33 (by decide +kernel) ?_
        refine lv_icmp_gt (tgt := 53) hx hb dX5_clearScales_35 (by decide +kernel) (fun _ => ?_) (fun c9 => absurd (by decide +kernel) c9)
        refine lv_iinc (v := 3) (lv' := [(1, .int 3), (2, .int (nI 100)), (0, .ref (u 5))]) hx hb dX5_clearScales_53 hl (k := 1) rfl (by decide +kernel) (by decide +kernel) rfl (fun ls hl => ?_)
        refine lv_goto (tgt := 17) hx hb dX5_clearScales_56 (by decide +kernel) ?_
        refine lv_iload_n hx hb dX5_clearScales_17 rfl (lv_at hl 0 rfl) ?_
        refine lv_bipush (v := 9) hx hb dX5_clearScales_18 (by decide +kernel) ?_
        refine lv_icmp_ge (tgt := 59) hx hb dX5_clearScales_20 (by decide +kernel) (fun c9 => absurd c9 (by decide +kernel)) (fun _ => ?_)
        refine lv_aload_n hx hb dX5_clearScales_23 rfl (lv_at hl 2 rfl) ?_
        refine z_get C (ci := 5) (N := 8) rfl hin5 hT 0 7 rfl rfl (by decide +kernel) (by decide +kernel) dX5_clearScales_24 ?_
        refine lv_iload_n hx hb dX5_clearScales_27 rfl (lv_at hl 0 rfl) ?_
        refine lv_iconst (v := 0) hx hb dX5_clearScales_28 (by decide +kernel) ?_
        refine z_iast C hT 2 0 rfl rfl (vin rfl) dX5_clearScales_29 (fun _ => 0) (upd_zz _) [((u 5), .inr (5, [.ref (u 69), .ref (u 70), .int 0, .int 0, .int (-1), .int (-1), .ref (u 71), .ref (u 72)])), ((u 71), .inl (g 4, 9, .inr (.inr (.inr (.inr bf))))), ((u 72), .inl (g 0, 9, .inl (fun _ => 0))), ((u 73), .inl (g 0, 100, .inl (fun _ => 0))), ((u 74), .inl (g 0, 100, .inl (fun _ => 0))), ((u 75), .inl (g 0, 100, .inl (fun _ => 0))), ((u 76), .inl (g 0, 100, .inl (fun _ => 0))), ((u 77), .inl (g 0, 100, .inl (fun _ => 0))), ((u 78), .inl (g 0, 100, .inl (fun _ => 0))), ((u 79), .inl (g 0, 100, .inl (fun _ => 0))), ((u 80), .inl (g 0, 100, .inl (fun _ => 0))), ((u 81), .inl (g 0, 100, .inl (fun _ => 0)))] rfl (fun H locs hT => ?_)
        refine lv_iconst (v := 0) hx hb dX5_clearScales_30 (by decide +kernel) ?_
        refine lv_istore_n (lv' := [(2, .int 0), (1, .int 3), (0, .ref (u 5))]) hx hb dX5_clearScales_31 rfl hl (by decide +kernel) rfl (fun ls hl => ?_)
        refine z_loop (α := Unit) (N := 100) (fun i a => True) (fun i a => [((u 5), .inr (5, [.ref (u 69), .ref (u 70), .int 0, .int 0, .int (-1), .int (-1), .ref (u 71), .ref (u 72)])), ((u 71), .inl (g 4, 9, .inr (.inr (.inr (.inr bf))))), ((u 72), .inl (g 0, 9, .inl (fun _ => 0))), ((u 73), .inl (g 0, 100, .inl (fun _ => 0))), ((u 74), .inl (g 0, 100, .inl (fun _ => 0))), ((u 75), .inl (g 0, 100, .inl (fun _ => 0))), ((u 76), .inl (g 0, 100, .inl (fun _ => 0))), ((u 77), .inl (g 0, 100, .inl (fun _ => 0))), ((u 78), .inl (g 0, 100, .inl (fun _ => 0))), ((u 79), .inl (g 0, 100, .inl (fun _ => 0))), ((u 80), .inl (g 0, 100, .inl (fun _ => 0))), ((u 81), .inl (g 0, 100, .inl (fun _ => 0)))]) (fun i a => [(2, .int (nI i)), (1, .int 3), (0, .ref (u 5))]) ?_ ?_ 0 () (Nat.zero_le _) trivial _ _ _ hT (lv_sub hl [0, 1, 2] rfl)
        · intro i a H locs ls hi hI hT hl ih
          have hT : Sit D (TY g) A s [((u 5), .inr (5, [.ref (u 69), .ref (u 70), .int 0, .int 0, .int (-1), .int (-1), .ref (u 71), .ref (u 72)])), ((u 71), .inl (g 4, 9, .inr (.inr (.inr (.inr bf))))), ((u 72), .inl (g 0, 9, .inl (fun _ => 0))), ((u 73), .inl (g 0, 100, .inl (fun _ => 0))), ((u 74), .inl (g 0, 100, .inl (fun _ => 0))), ((u 75), .inl (g 0, 100, .inl (fun _ => 0))), ((u 76), .inl (g 0, 100, .inl (fun _ => 0))), ((u 77), .inl (g 0, 100, .inl (fun _ => 0))), ((u 78), .inl (g 0, 100, .inl (fun _ => 0))), ((u 79), .inl (g 0, 100, .inl (fun _ => 0))), ((u 80), .inl (g 0, 100, .inl (fun _ => 0))), ((u 81), .inl (g 0, 100, .inl (fun _ => 0)))] H locs := hT
          have hl : lv_has ls _ [(2, .int (nI i)), (1, .int 3), (0, .ref (u 5))] := hl
          refine lv_iload_n hx hb dX5_clearScales_32 rfl (lv_at hl 0 rfl) ?_
          refine lv_bipush (v := 99) hx hb dX5_clearScales_33 (by decide +kernel) ?_
          refine lv_icmp_gt (tgt := 53) hx hb dX5_clearScales_35 (by decide +kernel) (fun c9 => absurd c9 (lp_gt (N := 99) (by decide +kernel) (by omega) (by decide +kernel))) (fun _ => ?_)
          refine lv_aload_n hx hb dX5_clearScales_38 rfl (lv_at hl 2 rfl) ?_
          refine z_get C (ci := 5) (N := 8) rfl hin5 hT 0 6 rfl rfl (by decide +kernel) (by decide +kernel) dX5_clearScales_39 ?_
          refine lv_iload_n hx hb dX5_clearScales_42 rfl (lv_at hl 1 rfl) ?_
          refine z_aald C hT 1 4 rfl rfl rfl (vin rfl) (v := .ref (u 76)) (show va_rf (bf (3 : Int32).toNatClampNeg) = .ref (u 76) from by rw [show (3 : Int32).toNatClampNeg = 3 from by decide +kernel, hbf 3 (by decide)]; rfl) dX5_clearScales_43 ?_
          refine lv_iload_n hx hb dX5_clearScales_44 rfl (lv_at hl 0 rfl) ?_
          refine lv_iconst (v := 0) hx hb dX5_clearScales_45 (by decide +kernel) ?_
          refine z_iast C hT 6 0 rfl rfl (vp_in_nI (by omega) (by decide +kernel)) dX5_clearScales_46 (fun _ => 0) (upd_zz _) [((u 5), .inr (5, [.ref (u 69), .ref (u 70), .int 0, .int 0, .int (-1), .int (-1), .ref (u 71), .ref (u 72)])), ((u 71), .inl (g 4, 9, .inr (.inr (.inr (.inr bf))))), ((u 72), .inl (g 0, 9, .inl (fun _ => 0))), ((u 73), .inl (g 0, 100, .inl (fun _ => 0))), ((u 74), .inl (g 0, 100, .inl (fun _ => 0))), ((u 75), .inl (g 0, 100, .inl (fun _ => 0))), ((u 76), .inl (g 0, 100, .inl (fun _ => 0))), ((u 77), .inl (g 0, 100, .inl (fun _ => 0))), ((u 78), .inl (g 0, 100, .inl (fun _ => 0))), ((u 79), .inl (g 0, 100, .inl (fun _ => 0))), ((u 80), .inl (g 0, 100, .inl (fun _ => 0))), ((u 81), .inl (g 0, 100, .inl (fun _ => 0)))] rfl (fun H locs hT => ?_)
          refine lv_iinc (v := nI (i + 1)) (lv' := [(2, .int (nI (i + 1))), (1, .int 3), (0, .ref (u 5))]) hx hb dX5_clearScales_47 hl (k := 0) rfl (inc1 _) (by decide +kernel) rfl (fun ls hl => ?_)
          refine lv_goto (tgt := 32) hx hb dX5_clearScales_50 (by decide +kernel) ?_
          exact ih () _ _ _ trivial hT (lv_sub hl [0, 1, 2] rfl)
        · intro a H locs ls hI hT hl
          have hT : Sit D (TY g) A s [((u 5), .inr (5, [.ref (u 69), .ref (u 70), .int 0, .int 0, .int (-1), .int (-1), .ref (u 71), .ref (u 72)])), ((u 71), .inl (g 4, 9, .inr (.inr (.inr (.inr bf))))), ((u 72), .inl (g 0, 9, .inl (fun _ => 0))), ((u 73), .inl (g 0, 100, .inl (fun _ => 0))), ((u 74), .inl (g 0, 100, .inl (fun _ => 0))), ((u 75), .inl (g 0, 100, .inl (fun _ => 0))), ((u 76), .inl (g 0, 100, .inl (fun _ => 0))), ((u 77), .inl (g 0, 100, .inl (fun _ => 0))), ((u 78), .inl (g 0, 100, .inl (fun _ => 0))), ((u 79), .inl (g 0, 100, .inl (fun _ => 0))), ((u 80), .inl (g 0, 100, .inl (fun _ => 0))), ((u 81), .inl (g 0, 100, .inl (fun _ => 0)))] H locs := hT
          have hl : lv_has ls _ [(2, .int (nI 100)), (1, .int 3), (0, .ref (u 5))] := hl
          refine lv_iload_n hx hb dX5_clearScales_32 rfl (lv_at hl 0 rfl) ?_
          refine lv_bipush (v := 99) hx hb dX5_clearScales_33 (by decide +kernel) ?_
          refine lv_icmp_gt (tgt := 53) hx hb dX5_clearScales_35 (by decide +kernel) (fun _ => ?_) (fun c9 => absurd (by decide +kernel) c9)
          refine lv_iinc (v := 4) (lv' := [(1, .int 4), (2, .int (nI 100)), (0, .ref (u 5))]) hx hb dX5_clearScales_53 hl (k := 1) rfl (by decide +kernel) (by decide +kernel) rfl (fun ls hl => ?_)
          refine lv_goto (tgt := 17) hx hb dX5_clearScales_56 (by decide +kernel) ?_
          refine lv_iload_n hx hb dX5_clearScales_17 rfl (lv_at hl 0 rfl) ?_
          refine lv_bipush (v := 9) hx hb dX5_clearScales_18 (by decide +kernel) ?_
          refine lv_icmp_ge (tgt := 59) hx hb dX5_clearScales_20 (by decide +kernel) (fun c9 => absurd c9 (by decide +kernel)) (fun _ => ?_)
          refine lv_aload_n hx hb dX5_clearScales_23 rfl (lv_at hl 2 rfl) ?_
          refine z_get C (ci := 5) (N := 8) rfl hin5 hT 0 7 rfl rfl (by decide +kernel) (by decide +kernel) dX5_clearScales_24 ?_
          refine lv_iload_n hx hb dX5_clearScales_27 rfl (lv_at hl 0 rfl) ?_
          refine lv_iconst (v := 0) hx hb dX5_clearScales_28 (by decide +kernel) ?_
          refine z_iast C hT 2 0 rfl rfl (vin rfl) dX5_clearScales_29 (fun _ => 0) (upd_zz _) [((u 5), .inr (5, [.ref (u 69), .ref (u 70), .int 0, .int 0, .int (-1), .int (-1), .ref (u 71), .ref (u 72)])), ((u 71), .inl (g 4, 9, .inr (.inr (.inr (.inr bf))))), ((u 72), .inl (g 0, 9, .inl (fun _ => 0))), ((u 73), .inl (g 0, 100, .inl (fun _ => 0))), ((u 74), .inl (g 0, 100, .inl (fun _ => 0))), ((u 75), .inl (g 0, 100, .inl (fun _ => 0))), ((u 76), .inl (g 0, 100, .inl (fun _ => 0))), ((u 77), .inl (g 0, 100, .inl (fun _ => 0))), ((u 78), .inl (g 0, 100, .inl (fun _ => 0))), ((u 79), .inl (g 0, 100, .inl (fun _ => 0))), ((u 80), .inl (g 0, 100, .inl (fun _ => 0))), ((u 81), .inl (g 0, 100, .inl (fun _ => 0)))] rfl (fun H locs hT => ?_)
          refine lv_iconst (v := 0) hx hb dX5_clearScales_30 (by decide +kernel) ?_
          refine lv_istore_n (lv' := [(2, .int 0), (1, .int 4), (0, .ref (u 5))]) hx hb dX5_clearScales_31 rfl hl (by decide +kernel) rfl (fun ls hl => ?_)
          refine z_loop (α := Unit) (N := 100) (fun i a => True) (fun i a => [((u 5), .inr (5, [.ref (u 69), .ref (u 70), .int 0, .int 0, .int (-1), .int (-1), .ref (u 71), .ref (u 72)])), ((u 71), .inl (g 4, 9, .inr (.inr (.inr (.inr bf))))), ((u 72), .inl (g 0, 9, .inl (fun _ => 0))), ((u 73), .inl (g 0, 100, .inl (fun _ => 0))), ((u 74), .inl (g 0, 100, .inl (fun _ => 0))), ((u 75), .inl (g 0, 100, .inl (fun _ => 0))), ((u 76), .inl (g 0, 100, .inl (fun _ => 0))), ((u 77), .inl (g 0, 100, .inl (fun _ => 0))), ((u 78), .inl (g 0, 100, .inl (fun _ => 0))), ((u 79), .inl (g 0, 100, .inl (fun _ => 0))), ((u 80), .inl (g 0, 100, .inl (fun _ => 0))), ((u 81), .inl (g 0, 100, .inl (fun _ => 0)))]) (fun i a => [(2, .int (nI i)), (1, .int 4), (0, .ref (u 5))]) ?_ ?_ 0 () (Nat.zero_le _) trivial _ _ _ hT (lv_sub hl [0, 1, 2] rfl)
          · intro i a H locs ls hi hI hT hl ih
            have hT : Sit D (TY g) A s [((u 5), .inr (5, [.ref (u 69), .ref (u 70), .int 0, .int 0, .int (-1), .int (-1), .ref (u 71), .ref (u 72)])), ((u 71), .inl (g 4, 9, .inr (.inr (.inr (.inr bf))))), ((u 72), .inl (g 0, 9, .inl (fun _ => 0))), ((u 73), .inl (g 0, 100, .inl (fun _ => 0))), ((u 74), .inl (g 0, 100, .inl (fun _ => 0))), ((u 75), .inl (g 0, 100, .inl (fun _ => 0))), ((u 76), .inl (g 0, 100, .inl (fun _ => 0))), ((u 77), .inl (g 0, 100, .inl (fun _ => 0))), ((u 78), .inl (g 0, 100, .inl (fun _ => 0))), ((u 79), .inl (g 0, 100, .inl (fun _ => 0))), ((u 80), .inl (g 0, 100, .inl (fun _ => 0))), ((u 81), .inl (g 0, 100, .inl (fun _ => 0)))] H locs := hT
            have hl : lv_has ls _ [(2, .int (nI i)), (1, .int 4), (0, .ref (u 5))] := hl
            refine lv_iload_n hx hb dX5_clearScales_32 rfl (lv_at hl 0 rfl) ?_
            refine lv_bipush (v := 99) hx hb dX5_clearScales_33 (by decide +kernel) ?_
            refine lv_icmp_gt (tgt := 53) hx hb dX5_clearScales_35 (by decide +kernel) (fun c9 => absurd c9 (lp_gt (N := 99) (by decide +kernel) (by omega) (by decide +kernel))) (fun _ => ?_)
            refine lv_aload_n hx hb dX5_clearScales_38 rfl (lv_at hl 2 rfl) ?_
            refine z_get C (ci := 5) (N := 8) rfl hin5 hT 0 6 rfl rfl (by decide +kernel) (by decide +kernel) dX5_clearScales_39 ?_
            refine lv_iload_n hx hb dX5_clearScales_42 rfl (lv_at hl 1 rfl) ?_
            refine z_aald C hT 1 4 rfl rfl rfl (vin rfl) (v := .ref (u 77)) (show va_rf (bf (4 : Int32).toNatClampNeg) = .ref (u 77) from by rw [show (4 : Int32).toNatClampNeg = 4 from by decide +kernel, hbf 4 (by decide)]; rfl) dX5_clearScales_43 ?_
            refine lv_iload_n hx hb dX5_clearScales_44 rfl (lv_at hl 0 rfl) ?_
            refine lv_iconst (v := 0) hx hb dX5_clearScales_45 (by decide +kernel) ?_
            refine z_iast C hT 7 0 rfl rfl (vp_in_nI (by omega) (by decide +kernel)) dX5_clearScales_46 (fun _ => 0) (upd_zz _) [((u 5), .inr (5, [.ref (u 69), .ref (u 70), .int 0, .int 0, .int (-1), .int (-1), .ref (u 71), .ref (u 72)])), ((u 71), .inl (g 4, 9, .inr (.inr (.inr (.inr bf))))), ((u 72), .inl (g 0, 9, .inl (fun _ => 0))), ((u 73), .inl (g 0, 100, .inl (fun _ => 0))), ((u 74), .inl (g 0, 100, .inl (fun _ => 0))), ((u 75), .inl (g 0, 100, .inl (fun _ => 0))), ((u 76), .inl (g 0, 100, .inl (fun _ => 0))), ((u 77), .inl (g 0, 100, .inl (fun _ => 0))), ((u 78), .inl (g 0, 100, .inl (fun _ => 0))), ((u 79), .inl (g 0, 100, .inl (fun _ => 0))), ((u 80), .inl (g 0, 100, .inl (fun _ => 0))), ((u 81), .inl (g 0, 100, .inl (fun _ => 0)))] rfl (fun H locs hT => ?_)
            refine lv_iinc (v := nI (i + 1)) (lv' := [(2, .int (nI (i + 1))), (1, .int 4), (0, .ref (u 5))]) hx hb dX5_clearScales_47 hl (k := 0) rfl (inc1 _) (by decide +kernel) rfl (fun ls hl => ?_)
            refine lv_goto (tgt := 32) hx hb dX5_clearScales_50 (by decide +kernel) ?_
            exact ih () _ _ _ trivial hT (lv_sub hl [0, 1, 2] rfl)
          · intro a H locs ls hI hT hl
            have hT : Sit D (TY g) A s [((u 5), .inr (5, [.ref (u 69), .ref (u 70), .int 0, .int 0, .int (-1), .int (-1), .ref (u 71), .ref (u 72)])), ((u 71), .inl (g 4, 9, .inr (.inr (.inr (.inr bf))))), ((u 72), .inl (g 0, 9, .inl (fun _ => 0))), ((u 73), .inl (g 0, 100, .inl (fun _ => 0))), ((u 74), .inl (g 0, 100, .inl (fun _ => 0))), ((u 75), .inl (g 0, 100, .inl (fun _ => 0))), ((u 76), .inl (g 0, 100, .inl (fun _ => 0))), ((u 77), .inl (g 0, 100, .inl (fun _ => 0))), ((u 78), .inl (g 0, 100, .inl (fun _ => 0))), ((u 79), .inl (g 0, 100, .inl (fun _ => 0))), ((u 80), .inl (g 0, 100, .inl (fun _ => 0))), ((u 81), .inl (g 0, 100, .inl (fun _ => 0)))] H locs := hT
            have hl : lv_has ls _ [(2, .int (nI 100)), (1, .int 4), (0, .ref (u 5))] := hl
            refine lv_iload_n hx hb dX5_clearScales_32 rfl (lv_at hl 0 rfl) ?_
            refine lv_bipush (v := 99) hx hb dX5_clearScales_33 (by decide +kernel) ?_
            refine lv_icmp_gt (tgt := 53) hx hb dX5_clearScales_35 (by decide +kernel) (fun _ => ?_) (fun c9 => absurd (by decide +kernel) c9)
            refine lv_iinc (v := 5) (lv' := [(1, .int 5), (2, .int (nI 100)), (0, .ref (u 5))]) hx hb dX5_clearScales_53 hl (k := 1) rfl (by decide +kernel) (by decide +kernel) rfl (fun ls hl => ?_)
            refine lv_goto (tgt := 17) hx hb dX5_clearScales_56 (by decide +kernel) ?_
            refine lv_iload_n hx hb dX5_clearScales_17 rfl (lv_at hl 0 rfl) ?_
            refine lv_bipush (v := 9) hx hb dX5_clearScales_18 (by decide +kernel) ?_
            refine lv_icmp_ge (tgt := 59) hx hb dX5_clearScales_20 (by decide +kernel) (fun c9 => absurd c9 (by decide +kernel)) (fun _ => ?_)
            refine lv_aload_n hx hb dX5_clearScales_23 rfl (lv_at hl 2 rfl) ?_
            refine z_get C (ci := 5) (N := 8) rfl hin5 hT 0 7 rfl rfl (by decide +kernel) (by decide +kernel) dX5_clearScales_24 ?_
            refine lv_iload_n hx hb dX5_clearScales_27 rfl (lv_at hl 0 rfl) ?_
            refine lv_iconst (v := 0) hx hb dX5_clearScales_28 (by decide +kernel) ?_
            refine z_iast C hT 2 0 rfl rfl (vin rfl) dX5_clearScales_29 (fun _ => 0) (upd_zz _) [((u 5), .inr (5, [.ref (u 69), .ref (u 70), .int 0, .int 0, .int (-1), .int (-1), .ref (u 71), .ref (u 72)])), ((u 71), .inl (g 4, 9, .inr (.inr (.inr (.inr bf))))), ((u 72), .inl (g 0, 9, .inl (fun _ => 0))), ((u 73), .inl (g 0, 100, .inl (fun _ => 0))), ((u 74), .inl (g 0, 100, .inl (fun _ => 0))), ((u 75), .inl (g 0, 100, .inl (fun _ => 0))), ((u 76), .inl (g 0, 100, .inl (fun _ => 0))), ((u 77), .inl (g 0, 100, .inl (fun _ => 0))), ((u 78), .inl (g 0, 100, .inl (fun _ => 0))), ((u 79), .inl (g 0, 100, .inl (fun _ => 0))), ((u 80), .inl (g 0, 100, .inl (fun _ => 0))), ((u 81), .inl (g 0, 100, .inl (fun _ => 0)))] rfl (fun H locs hT => ?_)
            refine lv_iconst (v := 0) hx hb dX5_clearScales_30 (by decide +kernel) ?_
            refine lv_istore_n (lv' := [(2, .int 0), (1, .int 5), (0, .ref (u 5))]) hx hb dX5_clearScales_31 rfl hl (by decide +kernel) rfl (fun ls hl => ?_)
            refine z_loop (α := Unit) (N := 100) (fun i a => True) (fun i a => [((u 5), .inr (5, [.ref (u 69), .ref (u 70), .int 0, .int 0, .int (-1), .int (-1), .ref (u 71), .ref (u 72)])), ((u 71), .inl (g 4, 9, .inr (.inr (.inr (.inr bf))))), ((u 72), .inl (g 0, 9, .inl (fun _ => 0))), ((u 73), .inl (g 0, 100, .inl (fun _ => 0))), ((u 74), .inl (g 0, 100, .inl (fun _ => 0))), ((u 75), .inl (g 0, 100, .inl (fun _ => 0))), ((u 76), .inl (g 0, 100, .inl (fun _ => 0))), ((u 77), .inl (g 0, 100, .inl (fun _ => 0))), ((u 78), .inl (g 0, 100, .inl (fun _ => 0))), ((u 79), .inl (g 0, 100, .inl (fun _ => 0))), ((u 80), .inl (g 0, 100, .inl (fun _ => 0))), ((u 81), .inl (g 0, 100, .inl (fun _ => 0)))]) (fun i a => [(2, .int (nI i)), (1, .int 5), (0, .ref (u 5))]) ?_ ?_ 0 () (Nat.zero_le _) trivial _ _ _ hT (lv_sub hl [0, 1, 2] rfl)
            · intro i a H locs ls hi hI hT hl ih
              have hT : Sit D (TY g) A s [((u 5), .inr (5, [.ref (u 69), .ref (u 70), .int 0, .int 0, .int (-1), .int (-1), .ref (u 71), .ref (u 72)])), ((u 71), .inl (g 4, 9, .inr (.inr (.inr (.inr bf))))), ((u 72), .inl (g 0, 9, .inl (fun _ => 0))), ((u 73), .inl (g 0, 100, .inl (fun _ => 0))), ((u 74), .inl (g 0, 100, .inl (fun _ => 0))), ((u 75), .inl (g 0, 100, .inl (fun _ => 0))), ((u 76), .inl (g 0, 100, .inl (fun _ => 0))), ((u 77), .inl (g 0, 100, .inl (fun _ => 0))), ((u 78), .inl (g 0, 100, .inl (fun _ => 0))), ((u 79), .inl (g 0, 100, .inl (fun _ => 0))), ((u 80), .inl (g 0, 100, .inl (fun _ => 0))), ((u 81), .inl (g 0, 100, .inl (fun _ => 0)))] H locs := hT
              have hl : lv_has ls _ [(2, .int (nI i)), (1, .int 5), (0, .ref (u 5))] := hl
              refine lv_iload_n hx hb dX5_clearScales_32 rfl (lv_at hl 0 rfl) ?_
              refine lv_bipush (v := 99) hx hb dX5_clearScales_33 (by decide +kernel) ?_
              refine lv_icmp_gt (tgt := 53) hx hb dX5_clearScales_35 (by decide +kernel) (fun c9 => absurd c9 (lp_gt (N := 99) (by decide +kernel) (by omega) (by decide +kernel))) (fun _ => ?_)
              refine lv_aload_n hx hb dX5_clearScales_38 rfl (lv_at hl 2 rfl) ?_
              refine z_get C (ci := 5) (N := 8) rfl hin5 hT 0 6 rfl rfl (by decide +kernel) (by decide +kernel) dX5_clearScales_39 ?_
              refine lv_iload_n hx hb dX5_clearScales_42 rfl (lv_at hl 1 rfl) ?_
              refine z_aald C hT 1 4 rfl rfl rfl (vin rfl) (v := .ref (u 78)) (show va_rf (bf (5 : Int32).toNatClampNeg) = .ref (u 78) from by rw [show (5 : Int32).toNatClampNeg = 5 from by decide +kernel, hbf 5 (by decide)]; rfl) dX5_clearScales_43 ?_
              refine lv_iload_n hx hb dX5_clearScales_44 rfl (lv_at hl 0 rfl) ?_
              refine lv_iconst (v := 0) hx hb dX5_clearScales_45 (by decide +kernel) ?_
              refine z_iast C hT 8 0 rfl rfl (vp_in_nI (by omega) (by decide +kernel)) dX5_clearScales_46 (fun _ => 0) (upd_zz _) [((u 5), .inr (5, [.ref (u 69), .ref (u 70), .int 0, .int 0, .int (-1), .int (-1), .ref (u 71), .ref (u 72)])), ((u 71), .inl (g 4, 9, .inr (.inr (.inr (.inr bf))))), ((u 72), .inl (g 0, 9, .inl (fun _ => 0))), ((u 73), .inl (g 0, 100, .inl (fun _ => 0))), ((u 74), .inl (g 0, 100, .inl (fun _ => 0))), ((u 75), .inl (g 0, 100, .inl (fun _ => 0))), ((u 76), .inl (g 0, 100, .inl (fun _ => 0))), ((u 77), .inl (g 0, 100, .inl (fun _ => 0))), ((u 78), .inl (g 0, 100, .inl (fun _ => 0))), ((u 79), .inl (g 0, 100, .inl (fun _ => 0))), ((u 80), .inl (g 0, 100, .inl (fun _ => 0))), ((u 81), .inl (g 0, 100, .inl (fun _ => 0)))] rfl (fun H locs hT => ?_)
              refine lv_iinc (v := nI (i + 1)) (lv' := [(2, .int (nI (i + 1))), (1, .int 5), (0, .ref (u 5))]) hx hb dX5_clearScales_47 hl (k := 0) rfl (inc1 _) (by decide +kernel) rfl (fun ls hl => ?_)
              refine lv_goto (tgt := 32) hx hb dX5_clearScales_50 (by decide +kernel) ?_
              exact ih () _ _ _ trivial hT (lv_sub hl [0, 1, 2] rfl)
            · intro a H locs ls hI hT hl
              have hT : Sit D (TY g) A s [((u 5), .inr (5, [.ref (u 69), .ref (u 70), .int 0, .int 0, .int (-1), .int (-1), .ref (u 71), .ref (u 72)])), ((u 71), .inl (g 4, 9, .inr (.inr (.inr (.inr bf))))), ((u 72), .inl (g 0, 9, .inl (fun _ => 0))), ((u 73), .inl (g 0, 100, .inl (fun _ => 0))), ((u 74), .inl (g 0, 100, .inl (fun _ => 0))), ((u 75), .inl (g 0, 100, .inl (fun _ => 0))), ((u 76), .inl (g 0, 100, .inl (fun _ => 0))), ((u 77), .inl (g 0, 100, .inl (fun _ => 0))), ((u 78), .inl (g 0, 100, .inl (fun _ => 0))), ((u 79), .inl (g 0, 100, .inl (fun _ => 0))), ((u 80), .inl (g 0, 100, .inl (fun _ => 0))), ((u 81), .inl (g 0, 100, .inl (fun _ => 0)))] H locs := hT
              have hl : lv_has ls _ [(2, .int (nI 100)), (1, .int 5), (0, .ref (u 5))] := hl
              refine lv_iload_n hx hb dX5_clearScales_32 rfl (lv_at hl 0 rfl) ?_
              refine lv_bipush (v := 99) hx hb dX5_clearScales_33 (by decide +kernel) ?_
              refine lv_icmp_gt (tgt := 53) hx hb dX5_clearScales_35 (by decide +kernel) (fun _ => ?_) (fun c9 => absurd (by decide +kernel) c9)
              refine lv_iinc (v := 6) (lv' := [(1, .int 6), (2, .int (nI 100)), (0, .ref (u 5))]) hx hb dX5_clearScales_53 hl (k := 1) rfl (by decide +kernel) (by decide +kernel) rfl (fun ls hl => ?_)
              refine lv_goto (tgt := 17) hx hb dX5_clearScales_56 (by decide +kernel) ?_
              refine lv_iload_n hx hb dX5_clearScales_17 rfl (lv_at hl 0 rfl) ?_
              refine lv_bipush (v := 9) hx hb dX5_clearScales_18 (by decide +kernel) ?_
              refine lv_icmp_ge (tgt := 59) hx hb dX5_clearScales_20 (by decide +kernel) (fun c9 => absurd c9 (by decide +kernel)) (fun _ => ?_)
              refine lv_aload_n hx hb dX5_clearScales_23 rfl (lv_at hl 2 rfl) ?_
              refine z_get C (ci := 5) (N := 8) rfl hin5 hT 0 7 rfl rfl (by decide +kernel) (by decide +kernel) dX5_clearScales_24 ?_
              refine lv_iload_n hx hb dX5_clearScales_27 rfl (lv_at hl 0 rfl) ?_
              refine lv_iconst (v := 0) hx hb dX5_clearScales_28 (by decide +kernel) ?_
              refine z_iast C hT 2 0 rfl rfl (vin rfl) dX5_clearScales_29 (fun _ => 0) (upd_zz _) [((u 5), .inr (5, [.ref (u 69), .ref (u 70), .int 0, .int 0, .int (-1), .int (-1), .ref (u 71), .ref (u 72)])), ((u 71), .inl (g 4, 9, .inr (.inr (.inr (.inr bf))))), ((u 72), .inl (g 0, 9, .inl (fun _ => 0))), ((u 73), .inl (g 0, 100, .inl (fun _ => 0))), ((u 74), .inl (g 0, 100, .inl (fun _ => 0))), ((u 75), .inl (g 0, 100, .inl (fun _ => 0))), ((u 76), .inl (g 0, 100, .inl (fun _ => 0))), ((u 77), .inl (g 0, 100, .inl (fun _ => 0))), ((u 78), .inl (g 0, 100, .inl (fun _ => 0))), ((u 79), .inl (g 0, 100, .inl (fun _ => 0))), ((u 80), .inl (g 0, 100, .inl (fun _ => 0))), ((u 81), .inl (g 0, 100, .inl (fun _ => 0)))] rfl (fun H locs hT => ?_)
              refine lv_iconst (v := 0) hx hb dX5_clearScales_30 (by decide +kernel) ?_
              refine lv_istore_n (lv' := [(2, .int 0), (1, .int 6), (0, .ref (u 5))]) hx hb dX5_clearScales_31 rfl hl (by decide +kernel) rfl (fun ls hl => ?_)
              refine z_loop (α := Unit) (N := 100) (fun i a => True) (fun i a => [((u 5), .inr (5, [.ref (u 69), .ref (u 70), .int 0, .int 0, .int (-1), .int (-1), .ref (u 71), .ref (u 72)])), ((u 71), .inl (g 4, 9, .inr (.inr (.inr (.inr bf))))), ((u 72), .inl (g 0, 9, .inl (fun _ => 0))), ((u 73), .inl (g 0, 100, .inl (fun _ => 0))), ((u 74), .inl (g 0, 100, .inl (fun _ => 0))), ((u 75), .inl (g 0, 100, .inl (fun _ => 0))), ((u 76), .inl (g 0, 100, .inl (fun _ => 0))), ((u 77), .inl (g 0, 100, .inl (fun _ => 0))), ((u 78), .inl (g 0, 100, .inl (fun _ => 0))), ((u 79), .inl (g 0, 100, .inl (fun _ => 0))), ((u 80), .inl (g 0, 100, .inl (fun _ => 0))), ((u 81), .inl (g 0, 100, .inl (fun _ => 0)))]) (fun i a => [(2, .int (nI i)), (1, .int 6), (0, .ref (u 5))]) ?_ ?_ 0 () (Nat.zero_le _) trivial _ _ _ hT (lv_sub hl [0, 1, 2] rfl)
              · intro i a H locs ls hi hI hT hl ih
                have hT : Sit D (TY g) A s [((u 5), .inr (5, [.ref (u 69), .ref (u 70), .int 0, .int 0, .int (-1), .int (-1), .ref (u 71), .ref (u 72)])), ((u 71), .inl (g 4, 9, .inr (.inr (.inr (.inr bf))))), ((u 72), .inl (g 0, 9, .inl (fun _ => 0))), ((u 73), .inl (g 0, 100, .inl (fun _ => 0))), ((u 74), .inl (g 0, 100, .inl (fun _ => 0))), ((u 75), .inl (g 0, 100, .inl (fun _ => 0))), ((u 76), .inl (g 0, 100, .inl (fun _ => 0))), ((u 77), .inl (g 0, 100, .inl (fun _ => 0))), ((u 78), .inl (g 0, 100, .inl (fun _ => 0))), ((u 79), .inl (g 0, 100, .inl (fun _ => 0))), ((u 80), .inl (g 0, 100, .inl (fun _ => 0))), ((u 81), .inl (g 0, 100, .inl (fun _ => 0)))] H locs := hT
                have hl : lv_has ls _ [(2, .int (nI i)), (1, .int 6), (0, .ref (u 5))] := hl
                refine lv_iload_n hx hb dX5_clearScales_32 rfl (lv_at hl 0 rfl) ?_
                refine lv_bipush (v := 99) hx hb dX5_clearScales_33 (by decide +kernel) ?_
                refine lv_icmp_gt (tgt := 53) hx hb dX5_clearScales_35 (by decide +kernel) (fun c9 => absurd c9 (lp_gt (N := 99) (by decide +kernel) (by omega) (by decide +kernel))) (fun _ => ?_)
                refine lv_aload_n hx hb dX5_clearScales_38 rfl (lv_at hl 2 rfl) ?_
                refine z_get C (ci := 5) (N := 8) rfl hin5 hT 0 6 rfl rfl (by decide +kernel) (by decide +kernel) dX5_clearScales_39 ?_
                refine lv_iload_n hx hb dX5_clearScales_42 rfl (lv_at hl 1 rfl) ?_
                refine z_aald C hT 1 4 rfl rfl rfl (vin rfl) (v := .ref (u 79)) (show va_rf (bf (6 : Int32).toNatClampNeg) = .ref (u 79) from by rw [show (6 : Int32).toNatClampNeg = 6 from by decide +kernel, hbf 6 (by decide)]; rfl) dX5_clearScales_43 ?_
                refine lv_iload_n hx hb dX5_clearScales_44 rfl (lv_at hl 0 rfl) ?_
                refine lv_iconst (v := 0) hx hb dX5_clearScales_45 (by decide +kernel) ?_
                refine z_iast C hT 9 0 rfl rfl (vp_in_nI (by omega) (by decide +kernel)) dX5_clearScales_46 (fun _ => 0) (upd_zz _) [((u 5), .inr (5, [.ref (u 69), .ref (u 70), .int 0, .int 0, .int (-1), .int (-1), .ref (u 71), .ref (u 72)])), ((u 71), .inl (g 4, 9, .inr (.inr (.inr (.inr bf))))), ((u 72), .inl (g 0, 9, .inl (fun _ => 0))), ((u 73), .inl (g 0, 100, .inl (fun _ => 0))), ((u 74), .inl (g 0, 100, .inl (fun _ => 0))), ((u 75), .inl (g 0, 100, .inl (fun _ => 0))), ((u 76), .inl (g 0, 100, .inl (fun _ => 0))), ((u 77), .inl (g 0, 100, .inl (fun _ => 0))), ((u 78), .inl (g 0, 100, .inl (fun _ => 0))), ((u 79), .inl (g 0, 100, .inl (fun _ => 0))), ((u 80), .inl (g 0, 100, .inl (fun _ => 0))), ((u 81), .inl (g 0, 100, .inl (fun _ => 0)))] rfl (fun H locs hT => ?_)
                refine lv_iinc (v := nI (i + 1)) (lv' := [(2, .int (nI (i + 1))), (1, .int 6), (0, .ref (u 5))]) hx hb dX5_clearScales_47 hl (k := 0) rfl (inc1 _) (by decide +kernel) rfl (fun ls hl => ?_)
                refine lv_goto (tgt := 32) hx hb dX5_clearScales_50 (by decide +kernel) ?_
                exact ih () _ _ _ trivial hT (lv_sub hl [0, 1, 2] rfl)
              · intro a H locs ls hI hT hl
                have hT : Sit D (TY g) A s [((u 5), .inr (5, [.ref (u 69), .ref (u 70), .int 0, .int 0, .int (-1), .int (-1), .ref (u 71), .ref (u 72)])), ((u 71), .inl (g 4, 9, .inr (.inr (.inr (.inr bf))))), ((u 72), .inl (g 0, 9, .inl (fun _ => 0))), ((u 73), .inl (g 0, 100, .inl (fun _ => 0))), ((u 74), .inl (g 0, 100, .inl (fun _ => 0))), ((u 75), .inl (g 0, 100, .inl (fun _ => 0))), ((u 76), .inl (g 0, 100, .inl (fun _ => 0))), ((u 77), .inl (g 0, 100, .inl (fun _ => 0))), ((u 78), .inl (g 0, 100, .inl (fun _ => 0))), ((u 79), .inl (g 0, 100, .inl (fun _ => 0))), ((u 80), .inl (g 0, 100, .inl (fun _ => 0))), ((u 81), .inl (g 0, 100, .inl (fun _ => 0)))] H locs := hT
                have hl : lv_has ls _ [(2, .int (nI 100)), (1, .int 6), (0, .ref (u 5))] := hl
                refine lv_iload_n hx hb dX5_clearScales_32 rfl (lv_at hl 0 rfl) ?_
                refine lv_bipush (v := 99) hx hb dX5_clearScales_33 (by decide +kernel) ?_
                refine lv_icmp_gt (tgt := 53) hx hb dX5_clearScales_35 (by decide +kernel) (fun _ => ?_) (fun c9 => absurd (by decide +kernel) c9)
                refine lv_iinc (v := 7) (lv' := [(1, .int 7), (2, .int (nI 100)), (0, .ref (u 5))]) hx hb dX5_clearScales_53 hl (k := 1) rfl (by decide +kernel) (by decide +kernel) rfl (fun ls hl => ?_)
                refine lv_goto (tgt := 17) hx hb dX5_clearScales_56 (by decide +kernel) ?_
                refine lv_iload_n hx hb dX5_clearScales_17 rfl (lv_at hl 0 rfl) ?_
                refine lv_bipush (v := 9) hx hb dX5_clearScales_18 (by decide +kernel) ?_
                refine lv_icmp_ge (tgt := 59) hx hb dX5_clearScales_20 (by decide +kernel) (fun c9 => absurd c9 (by decide +kernel)) (fun _ => ?_)
                refine lv_aload_n hx hb dX5_clearScales_23 rfl (lv_at hl 2 rfl) ?_
                refine z_get C (ci := 5) (N := 8) rfl hin5 hT 0 7 rfl rfl (by decide +kernel) (by decide +kernel) dX5_clearScales_24 ?_
                refine lv_iload_n hx hb dX5_clearScales_27 rfl (lv_at hl 0 rfl) ?_
                refine lv_iconst (v := 0) hx hb dX5_clearScales_28 (by decide +kernel) ?_
                refine z_iast C hT 2 0 rfl rfl (vin rfl) dX5_clearScales_29 (fun _ => 0) (upd_zz _) [((u 5), .inr (5, [.ref (u 69), .ref (u 70), .int 0, .int 0, .int (-1), .int (-1), .ref (u 71), .ref (u 72)])), ((u 71), .inl (g 4, 9, .inr (.inr (.inr (.inr bf))))), ((u 72), .inl (g 0, 9, .inl (fun _ => 0))), ((u 73), .inl (g 0, 100, .inl (fun _ => 0))), ((u 74), .inl (g 0, 100, .inl (fun _ => 0))), ((u 75), .inl (g 0, 100, .inl (fun _ => 0))), ((u 76), .inl (g 0, 100, .inl (fun _ => 0))), ((u 77), .inl (g 0, 100, .inl (fun _ => 0))), ((u 78), .inl (g 0, 100, .inl (fun _ => 0))), ((u 79), .inl (g 0, 100, .inl (fun _ => 0))), ((u 80), .inl (g 0, 100, .inl (fun _ => 0))), ((u 81), .inl (g 0, 100, .inl (fun _ => 0)))] rfl (fun H locs hT => ?_)
                refine lv_iconst (v := 0) hx hb dX5_clearScales_30 (by decide +kernel) ?_
                refine lv_istore_n (lv' := [(2, .int 0), (1, .int 7), (0, .ref (u 5))]) hx hb dX5_clearScales_31 rfl hl (by decide +kernel) rfl (fun ls hl => ?_)
                refine z_loop (α := Unit) (N := 100) (fun i a => True) (fun i a => [((u 5), .inr (5, [.ref (u 69), .ref (u 70), .int 0, .int 0, .int (-1), .int (-1), .ref (u 71), .ref (u 72)])), ((u 71), .inl (g 4, 9, .inr (.inr (.inr (.inr bf))))), ((u 72), .inl (g 0, 9, .inl (fun _ => 0))), ((u 73), .inl (g 0, 100, .inl (fun _ => 0))), ((u 74), .inl (g 0, 100, .inl (fun _ => 0))), ((u 75), .inl (g 0, 100, .inl (fun _ => 0))), ((u 76), .inl (g 0, 100, .inl (fun _ => 0))), ((u 77), .inl (g 0, 100, .inl (fun _ => 0))), ((u 78), .inl (g 0, 100, .inl (fun _ => 0))), ((u 79), .inl (g 0, 100, .inl (fun _ => 0))), ((u 80), .inl (g 0, 100, .inl (fun _ => 0))), ((u 81), .inl (g 0, 100, .inl (fun _ => 0)))]) (fun i a => [(2, .int (nI i)), (1, .int 7), (0, .ref (u 5))]) ?_ ?_ 0 () (Nat.zero_le _) trivial _ _ _ hT (lv_sub hl [0, 1, 2] rfl)
                · intro i a H locs ls hi hI hT hl ih
                  have hT : Sit D (TY g) A s [((u 5), .inr (5, [.ref (u 69), .ref (u 70), .int 0, .int 0, .int (-1), .int (-1), .ref (u 71), .ref (u 72)])), ((u 71), .inl (g 4, 9, .inr (.inr (.inr (.inr bf))))), ((u 72), .inl (g 0, 9, .inl (fun _ => 0))), ((u 73), .inl (g 0, 100, .inl (fun _ => 0))), ((u 74), .inl (g 0, 100, .inl (fun _ => 0))), ((u 75), .inl (g 0, 100, .inl (fun _ => 0))), ((u 76), .inl (g 0, 100, .inl (fun _ => 0))), ((u 77), .inl (g 0, 100, .inl (fun _ => 0))), ((u 78), .inl (g 0, 100, .inl (fun _ => 0))), ((u 79), .inl (g 0, 100, .inl (fun _ => 0))), ((u 80), .inl (g 0, 100, .inl (fun _ => 0))), ((u 81), .inl (g 0, 100, .inl (fun _ => 0)))] H locs := hT
                  have hl : lv_has ls _ [(2, .int (nI i)), (1, .int 7), (0, .ref (u 5))] := hl
                  refine lv_iload_n hx hb dX5_clearScales_32 rfl (lv_at hl 0 rfl) ?_
                  refine lv_bipush (v := 99) hx hb dX5_clearScales_33 (by decide +kernel) ?_
                  refine lv_icmp_gt (tgt := 53) hx hb dX5_clearScales_35 (by decide +kernel) (fun c9 => absurd c9 (lp_gt (N := 99) (by decide +kernel) (by omega) (by decide +kernel))) (fun _ => ?_)
                  refine lv_aload_n hx hb dX5_clearScales_38 rfl (lv_at hl 2 rfl) ?_
                  refine z_get C (ci := 5) (N := 8) rfl hin5 hT 0 6 rfl rfl (by decide +kernel) (by decide +kernel) dX5_clearScales_39 ?_
                  refine lv_iload_n hx hb dX5_clearScales_42 rfl (lv_at hl 1 rfl) ?_
                  refine z_aald C hT 1 4 rfl rfl rfl (vin rfl) (v := .ref (u 80)) (show va_rf (bf (7 : Int32).toNatClampNeg) = .ref (u 80) from by rw [show (7 : Int32).toNatClampNeg = 7 from by decide +kernel, hbf 7 (by decide)]; rfl) dX5_clearScales_43 ?_
                  refine lv_iload_n hx hb dX5_clearScales_44 rfl (lv_at hl 0 rfl) ?_
                  refine lv_iconst (v := 0) hx hb dX5_clearScales_45 (by decide +kernel) ?_
                  refine z_iast C hT 10 0 rfl rfl (vp_in_nI (by omega) (by decide +kernel)) dX5_clearScales_46 (fun _ => 0) (upd_zz _) [((u 5), .inr (5, [.ref (u 69), .ref (u 70), .int 0, .int 0, .int (-1), .int (-1), .ref (u 71), .ref (u 72)])), ((u 71), .inl (g 4, 9, .inr (.inr (.inr (.inr bf))))), ((u 72), .inl (g 0, 9, .inl (fun _ => 0))), ((u 73), .inl (g 0, 100, .inl (fun _ => 0))), ((u 74), .inl (g 0, 100, .inl (fun _ => 0))), ((u 75), .inl (g 0, 100, .inl (fun _ => 0))), ((u 76), .inl (g 0, 100, .inl (fun _ => 0))), ((u 77), .inl (g 0, 100, .inl (fun _ => 0))), ((u 78), .inl (g 0, 100, .inl (fun _ => 0))), ((u 79), .inl (g 0, 100, .inl (fun _ => 0))), ((u 80), .inl (g 0, 100, .inl (fun _ => 0))), ((u 81), .inl (g 0, 100, .inl (fun _ => 0)))] rfl (fun H locs hT => ?_)
                  refine lv_iinc (v := nI (i + 1)) (lv' := [(2, .int (nI (i + 1))), (1, .int 7), (0, .ref (u 5))]) hx hb dX5_clearScales_47 hl (k := 0) rfl (inc1 _) (by decide +kernel) rfl (fun ls hl => ?_)
                  refine lv_goto (tgt := 32) hx hb dX5_clearScales_50 (by decide +kernel) ?_
                  exact ih () _ _ _ trivial hT (lv_sub hl [0, 1, 2] rfl)
                · intro a H locs ls hI hT hl
                  have hT : Sit D (TY g) A s [((u 5), .inr (5, [.ref (u 69), .ref (u 70), .int 0, .int 0, .int (-1), .int (-1), .ref (u 71), .ref (u 72)])), ((u 71), .inl (g 4, 9, .inr (.inr (.inr (.inr bf))))), ((u 72), .inl (g 0, 9, .inl (fun _ => 0))), ((u 73), .inl (g 0, 100, .inl (fun _ => 0))), ((u 74), .inl (g 0, 100, .inl (fun _ => 0))), ((u 75), .inl (g 0, 100, .inl (fun _ => 0))), ((u 76), .inl (g 0, 100, .inl (fun _ => 0))), ((u 77), .inl (g 0, 100, .inl (fun _ => 0))), ((u 78), .inl (g 0, 100, .inl (fun _ => 0))), ((u 79), .inl (g 0, 100, .inl (fun _ => 0))), ((u 80), .inl (g 0, 100, .inl (fun _ => 0))), ((u 81), .inl (g 0, 100, .inl (fun _ => 0)))] H locs := hT
                  have hl : lv_has ls _ [(2, .int (nI 100)), (1, .int 7), (0, .ref (u 5))] := hl
                  refine lv_iload_n hx hb dX5_clearScales_32 rfl (lv_at hl 0 rfl) ?_
                  refine lv_bipush (v := 99) hx hb dX5_clearScales_33 (by decide +kernel) ?_
                  refine lv_icmp_gt (tgt := 53) hx hb dX5_clearScales_35 (by decide +kernel) (fun _ => ?_) (fun c9 => absurd (by decide +kernel) c9)
                  refine lv_iinc (v := 8) (lv' := [(1, .int 8), (2, .int (nI 100)), (0, .ref (u 5))]) hx hb dX5_clearScales_53 hl (k := 1) rfl (by decide +kernel) (by decide +kernel) rfl (fun ls hl => ?_)
                  refine lv_goto (tgt := 17) hx hb dX5_clearScales_56 (by decide +kernel) ?_
                  refine lv_iload_n hx hb dX5_clearScales_17 rfl (lv_at hl 0 rfl) ?_
                  refine lv_bipush (v := 9) hx hb dX5_clearScales_18 (by decide +kernel) ?_
                  refine lv_icmp_ge (tgt := 59) hx hb dX5_clearScales_20 (by decide +kernel) (fun c9 => absurd c9 (by decide +kernel)) (fun _ => ?_)
                  refine lv_aload_n hx hb dX5_clearScales_23 rfl (lv_at hl 2 rfl) ?_
                  refine z_get C (ci := 5) (N := 8) rfl hin5 hT 0 7 rfl rfl (by decide +kernel) (by decide +kernel) dX5_clearScales_24 ?_
                  refine lv_iload_n hx hb dX5_clearScales_27 rfl (lv_at hl 0 rfl) ?_
                  refine lv_iconst (v := 0) hx hb dX5_clearScales_28 (by decide +kernel) ?_
                  refine z_iast C hT 2 0 rfl rfl (vin rfl) dX5_clearScales_29 (fun _ => 0) (upd_zz _) [((u 5), .inr (5, [.ref (u 69), .ref (u 70), .int 0, .int 0, .int (-1), .int (-1), .ref (u 71), .ref (u 72)])), ((u 71), .inl (g 4, 9, .inr (.inr (.inr (.inr bf))))), ((u 72), .inl (g 0, 9, .inl (fun _ => 0))), ((u 73), .inl (g 0, 100, .inl (fun _ => 0))), ((u 74), .inl (g 0, 100, .inl (fun _ => 0))), ((u 75), .inl (g 0, 100, .inl (fun _ => 0))), ((u 76), .inl (g 0, 100, .inl (fun _ => 0))), ((u 77), .inl (g 0, 100, .inl (fun _ => 0))), ((u 78), .inl (g 0, 100, .inl (fun _ => 0))), ((u 79), .inl (g 0, 100, .inl (fun _ => 0))), ((u 80), .inl (g 0, 100, .inl (fun _ => 0))), ((u 81), .inl (g 0, 100, .inl (fun _ => 0)))] rfl (fun H locs hT => ?_)
                  refine lv_iconst (v := 0) hx hb dX5_clearScales_30 (by decide +kernel) ?_
                  refine lv_istore_n (lv' := [(2, .int 0), (1, .int 8), (0, .ref (u 5))]) hx hb dX5_clearScales_31 rfl hl (by decide +kernel) rfl (fun ls hl => ?_)
                  refine z_loop (α := Unit) (N := 100) (fun i a => True) (fun i a => [((u 5), .inr (5, [.ref (u 69), .ref (u 70), .int 0, .int 0, .int (-1), .int (-1), .ref (u 71), .ref (u 72)])), ((u 71), .inl (g 4, 9, .inr (.inr (.inr (.inr bf))))), ((u 72), .inl (g 0, 9, .inl (fun _ => 0))), ((u 73), .inl (g 0, 100, .inl (fun _ => 0))), ((u 74), .inl (g 0, 100, .inl (fun _ => 0))), ((u 75), .inl (g 0, 100, .inl (fun _ => 0))), ((u 76), .inl (g 0, 100, .inl (fun _ => 0))), ((u 77), .inl (g 0, 100, .inl (fun _ => 0))), ((u 78), .inl (g 0, 100, .inl (fun _ => 0))), ((u 79), .inl (g 0, 100, .inl (fun _ => 0))), ((u 80), .inl (g 0, 100, .inl (fun _ => 0))), ((u 81), .inl (g 0, 100, .inl (fun _ => 0)))]) (fun i a => [(2, .int (nI i)), (1, .int 8), (0, .ref (u 5))]) ?_ ?_ 0 () (Nat.zero_le _) trivial _ _ _ hT (lv_sub hl [0, 1, 2] rfl)
                  · intro i a H locs ls hi hI hT hl ih
                    have hT : Sit D (TY g) A s [((u 5), .inr (5, [.ref (u 69), .ref (u 70), .int 0, .int 0, .int (-1), .int (-1), .ref (u 71), .ref (u 72)])), ((u 71), .inl (g 4, 9, .inr (.inr (.inr (.inr bf))))), ((u 72), .inl (g 0, 9, .inl (fun _ => 0))), ((u 73), .inl (g 0, 100, .inl (fun _ => 0))), ((u 74), .inl (g 0, 100, .inl (fun _ => 0))), ((u 75), .inl (g 0, 100, .inl (fun _ => 0))), ((u 76), .inl (g 0, 100, .inl (fun _ => 0))), ((u 77), .inl (g 0, 100, .inl (fun _ => 0))), ((u 78), .inl (g 0, 100, .inl (fun _ => 0))), ((u 79), .inl (g 0, 100, .inl (fun _ => 0))), ((u 80), .inl (g 0, 100, .inl (fun _ => 0))), ((u 81), .inl (g 0, 100, .inl (fun _ => 0)))] H locs := hT
                    have hl : lv_has ls _ [(2, .int (nI i)), (1, .int 8), (0, .ref (u 5))] := hl
                    refine lv_iload_n hx hb dX5_clearScales_32 rfl (lv_at hl 0 rfl) ?_
                    refine lv_bipush (v := 99) hx hb dX5_clearScales_33 (by decide +kernel) ?_
                    refine lv_icmp_gt (tgt := 53) hx hb dX5_clearScales_35 (by decide +kernel) (fun c9 => absurd c9 (lp_gt (N := 99) (by decide +kernel) (by omega) (by decide +kernel))) (fun _ => ?_)
                    refine lv_aload_n hx hb dX5_clearScales_38 rfl (lv_at hl 2 rfl) ?_
                    refine z_get C (ci := 5) (N := 8) rfl hin5 hT 0 6 rfl rfl (by decide +kernel) (by decide +kernel) dX5_clearScales_39 ?_
                    refine lv_iload_n hx hb dX5_clearScales_42 rfl (lv_at hl 1 rfl) ?_
                    refine z_aald C hT 1 4 rfl rfl rfl (vin rfl) (v := .ref (u 81)) (show va_rf (bf (8 : Int32).toNatClampNeg) = .ref (u 81) from by rw [show (8 : Int32).toNatClampNeg = 8 from by decide +kernel, hbf 8 (by decide)]; rfl) dX5_clearScales_43 ?_
                    refine lv_iload_n hx hb dX5_clearScales_44 rfl (lv_at hl 0 rfl) ?_
                    refine lv_iconst (v := 0) hx hb dX5_clearScales_45 (by decide +kernel) ?_
                    refine z_iast C hT 11 0 rfl rfl (vp_in_nI (by omega) (by decide +kernel)) dX5_clearScales_46 (fun _ => 0) (upd_zz _) [((u 5), .inr (5, [.ref (u 69), .ref (u 70), .int 0, .int 0, .int (-1), .int (-1), .ref (u 71), .ref (u 72)])), ((u 71), .inl (g 4, 9, .inr (.inr (.inr (.inr bf))))), ((u 72), .inl (g 0, 9, .inl (fun _ => 0))), ((u 73), .inl (g 0, 100, .inl (fun _ => 0))), ((u 74), .inl (g 0, 100, .inl (fun _ => 0))), ((u 75), .inl (g 0, 100, .inl (fun _ => 0))), ((u 76), .inl (g 0, 100, .inl (fun _ => 0))), ((u 77), .inl (g 0, 100, .inl (fun _ => 0))), ((u 78), .inl (g 0, 100, .inl (fun _ => 0))), ((u 79), .inl (g 0, 100, .inl (fun _ => 0))), ((u 80), .inl (g 0, 100, .inl (fun _ => 0))), ((u 81), .inl (g 0, 100, .inl (fun _ => 0)))] rfl (fun H locs hT => ?_)
                    refine lv_iinc (v := nI (i + 1)) (lv' := [(2, .int (nI (i + 1))), (1, .int 8), (0, .ref (u 5))]) hx hb dX5_clearScales_47 hl (k := 0) rfl (inc1 _) (by decide +kernel) rfl (fun ls hl => ?_)
                    refine lv_goto (tgt := 32) hx hb dX5_clearScales_50 (by decide +kernel) ?_
                    exact ih () _ _ _ trivial hT (lv_sub hl [0, 1, 2] rfl)
                  · intro a H locs ls hI hT hl
                    have hT : Sit D (TY g) A s [((u 5), .inr (5, [.ref (u 69), .ref (u 70), .int 0, .int 0, .int (-1), .int (-1), .ref (u 71), .ref (u 72)])), ((u 71), .inl (g 4, 9, .inr (.inr (.inr (.inr bf))))), ((u 72), .inl (g 0, 9, .inl (fun _ => 0))), ((u 73), .inl (g 0, 100, .inl (fun _ => 0))), ((u 74), .inl (g 0, 100, .inl (fun _ => 0))), ((u 75), .inl (g 0, 100, .inl (fun _ => 0))), ((u 76), .inl (g 0, 100, .inl (fun _ => 0))), ((u 77), .inl (g 0, 100, .inl (fun _ => 0))), ((u 78), .inl (g 0, 100, .inl (fun _ => 0))), ((u 79), .inl (g 0, 100, .inl (fun _ => 0))), ((u 80), .inl (g 0, 100, .inl (fun _ => 0))), ((u 81), .inl (g 0, 100, .inl (fun _ => 0)))] H locs := hT
                    have hl : lv_has ls _ [(2, .int (nI 100)), (1, .int 8), (0, .ref (u 5))] := hl
                    refine lv_iload_n hx hb dX5_clearScales_32 rfl (lv_at hl 0 rfl) ?_
                    refine lv_bipush (v := 99) hx hb dX5_clearScales_33 (by decide +kernel) ?_
                    refine lv_icmp_gt (tgt := 53) hx hb dX5_clearScales_35 (by decide +kernel) (fun _ => ?_) (fun c9 => absurd (by decide +kernel) c9)
                    refine lv_iinc (v := 9) (lv' := [(1, .int 9), (2, .int (nI 100)), (0, .ref (u 5))]) hx hb dX5_clearScales_53 hl (k := 1) rfl (by decide +kernel) (by decide +kernel) rfl (fun ls hl => ?_)
                    refine lv_goto (tgt := 17) hx hb dX5_clearScales_56 (by decide +kernel) ?_
                    refine lv_iload_n hx hb dX5_clearScales_17 rfl (lv_at hl 0 rfl) ?_
                    refine lv_bipush (v := 9) hx hb dX5_clearScales_18 (by decide +kernel) ?_
                    refine lv_icmp_ge (tgt := 59) hx hb dX5_clearScales_20 (by decide +kernel) (fun _ => ?_) (fun c9 => absurd (by decide +kernel) c9)
                    exact z_vret C rfl hT () trivial [0, 1, 2, 3, 4, 5, 6, 7] rfl rfl (Nat.le_of_ble_eq_true rfl) (Nat.le_of_ble_eq_true rfl) dX5_clearScales_59

def sS_isSo  : Int32 := 1
set_option maxHeartbeats 4000000 in
set_option maxRecDepth 100000 in
theorem c_S_isSo (l : Launch) (D : va_G) (g : Nat → ClassId) (u : Nat → Nat) (sf lb lt p0 p1 p2 : Int32) : CtI l yX5_isSo wsX5_isSo { frames := 0, cells := 0, slots := 0, locals := 0 } D (TY g) [.ref (u 5), .int p0, .int p1, .int p2] (fun _ => True) [((u 5), .inr (5, [.ref (u 69), .ref (u 70), .int 0, .int sf, .int lb, .int lt, .ref (u 71), .ref (u 72)]))] (fun r (_ : Unit) => r = sS_isSo ) (fun _ => [((u 5), .inr (5, [.ref (u 69), .ref (u 70), .int 0, .int sf, .int lb, .int lt, .ref (u 71), .ref (u 72)]))]) := by
  refine CtI.intro (cc := cX5_isSo) (maxL := 5) (ret := (some .boolean)) rfl (by decide +kernel) (Nat.le_of_ble_eq_true rfl) ?_
  intro p e s m below meth c A ls C hmn hX hAe hT hl
  have hx := C.1.1
  have hb := C.1.2.1
  have hl : lv_has ls 5 [(0, .ref (u 5)), (1, .int p0), (2, .int p1), (3, .int p2)] := hl
  have hin5 : ∀ w ∈ u_ws RX5 TX5 8, w ∈ wsX5_isSo := by decide +kernel
  refine lv_iconst (v := 0) hx hb dX5_isSo_0 (by decide +kernel) ?_
  refine lv_istore (lv' := [(4, .int 0), (0, .ref (u 5)), (1, .int p0), (2, .int p1), (3, .int p2)]) hx hb dX5_isSo_1 hl (by decide +kernel) rfl (fun ls hl => ?_)
  refine lv_iload hx hb dX5_isSo_3 (lv_at hl 0 rfl) ?_
  refine lv_aload_n hx hb dX5_isSo_5 rfl (lv_at hl 1 rfl) ?_
  refine z_get C (ci := 5) (N := 8) rfl hin5 hT 0 2 rfl rfl (by decide +kernel) (by decide +kernel) dX5_isSo_6 ?_
  refine lv_icmp_ge (tgt := 43) hx hb dX5_isSo_9 (by decide +kernel) (fun _ => ?_) (fun c9 => absurd (by decide +kernel) c9)
  refine lv_iconst (v := 1) hx hb dX5_isSo_43 (by decide +kernel) ?_
  exact z_zret C rfl (by first | rfl | (split <;> rfl)) hT () rfl [0] rfl rfl (Nat.le_of_ble_eq_true rfl) (Nat.le_of_ble_eq_true rfl) dX5_isSo_44

set_option maxHeartbeats 4000000 in
set_option maxRecDepth 100000 in
/-- Sightings.noteScale with five joints -/
theorem c_S_note (l : Launch) (D : va_G) (g : Nat → ClassId) (u : Nat → Nat) (bf : Nat → Option Nat) (hbf : ∀ k, k < 9 → bf k = some (u (73 + k))) (r : Nat → Nat → Int32) (sf lb lt : Int32) (B S : Nat) (hB : B < 100) (hS : S ≤ 20) : CtV l yX5_noteScale wsX5_noteScale { frames := 1, cells := 0, slots := 0, locals := 30 } D (TY g) [.ref (u 5), .int (nI B), .int (nI S), .int 5] (fun _ => True) [((u 5), .inr (5, [.ref (u 69), .ref (u 70), .int 0, .int sf, .int lb, .int lt, .ref (u 71), .ref (u 72)])), ((u 71), .inl (g 4, 9, .inr (.inr (.inr (.inr bf))))), ((u 73), .inl (g 0, 100, .inl (r 0))), ((u 74), .inl (g 0, 100, .inl (r 1))), ((u 75), .inl (g 0, 100, .inl (r 2))), ((u 76), .inl (g 0, 100, .inl (r 3))), ((u 77), .inl (g 0, 100, .inl (r 4)))] (fun z : Int32 × Int32 => z = if sf = 0 then (nI B, nI S) else (lb, lt)) (fun z : Int32 × Int32 => [((u 5), .inr (5, [.ref (u 69), .ref (u 70), .int 0, .int (sf + 1), .int z.1, .int z.2, .ref (u 71), .ref (u 72)])), ((u 71), .inl (g 4, 9, .inr (.inr (.inr (.inr bf))))), ((u 73), .inl (g 0, 100, .inl (upd (r 0) (B - 0 * S) ((r 0) (B - 0 * S) + 1)))), ((u 74), .inl (g 0, 100, .inl (upd (r 1) (B - 1 * S) ((r 1) (B - 1 * S) + 1)))), ((u 75), .inl (g 0, 100, .inl (upd (r 2) (B - 2 * S) ((r 2) (B - 2 * S) + 1)))), ((u 76), .inl (g 0, 100, .inl (upd (r 3) (B - 3 * S) ((r 3) (B - 3 * S) + 1)))), ((u 77), .inl (g 0, 100, .inl (upd (r 4) (B - 4 * S) ((r 4) (B - 4 * S) + 1))))]) := by
  refine CtV.intro (cc := cX5_noteScale) (maxL := 5) (ret := none) rfl (by decide +kernel) (Nat.le_of_ble_eq_true rfl) ?_
  intro p e s m below meth c A ls C hmn hX hAe hT hl
  have hx := C.1.1
  have hb := C.1.2.1
  have hl : lv_has ls 5 [(0, .ref (u 5)), (1, .int (nI B)), (2, .int (nI S)), (3, .int 5)] := hl
  have hin5 : ∀ w ∈ u_ws RX5 TX5 8, w ∈ wsX5_noteScale := by decide +kernel
  refine lv_aload_n hx hb dX5_noteScale_0 rfl (lv_at hl 0 rfl) ?_
  refine z_get C (ci := 5) (N := 8) rfl hin5 hT 0 3 rfl rfl (by decide +kernel) (by decide +kernel) dX5_noteScale_1 ?_
  refine lv_if_ne (tgt := 17) hx hb dX5_noteScale_4 (by decide +kernel) (fun c_4 => ?_) (fun c_4 => ?_)
  · refine lv_aload_n hx hb dX5_noteScale_17 rfl (lv_at hl 0 rfl) ?_
    refine lv_dup hx hb dX5_noteScale_18 rfl ?_
    refine z_get C (ci := 5) (N := 8) rfl hin5 hT 0 3 rfl rfl (by decide +kernel) (by decide +kernel) dX5_noteScale_19 ?_
    refine lv_iconst (v := 1) hx hb dX5_noteScale_22 (by decide +kernel) ?_
    refine lv_iadd hx hb dX5_noteScale_23 ?_
    refine z_put C (ci := 5) (N := 8) rfl hin5 tyX5_ok nmX5 hT 0 3 rfl (Nat.le_of_ble_eq_true rfl) (by decide +kernel) (by decide +kernel) rfl rfl rfl dX5_noteScale_24 [((u 5), .inr (5, [.ref (u 69), .ref (u 70), .int 0, .int (sf + 1), .int lb, .int lt, .ref (u 71), .ref (u 72)])), ((u 71), .inl (g 4, 9, .inr (.inr (.inr (.inr bf))))), ((u 73), .inl (g 0, 100, .inl (r 0))), ((u 74), .inl (g 0, 100, .inl (r 1))), ((u 75), .inl (g 0, 100, .inl (r 2))), ((u 76), .inl (g 0, 100, .inl (r 3))), ((u 77), .inl (g 0, 100, .inl (r 4)))] rfl (fun H locs hT => ?_)
    refine lv_iconst (v := 0) hx hb dX5_noteScale_27 (by decide +kernel) ?_
    refine lv_istore (lv' := [(4, .int 0), (0, .ref (u 5)), (1, .int (nI B)), (2, .int (nI S)), (3, .int 5)]) hx hb dX5_noteScale_28 hl (by decide +kernel) rfl (fun ls hl => ?_)
    refine lv_iload hx hb dX5_noteScale_30 (lv_at hl 0 rfl) ?_
    refine lv_iload_n hx hb dX5_noteScale_32 rfl (lv_at hl 4 rfl) ?_
    refine lv_icmp_ge (tgt := 71) hx hb dX5_noteScale_33 (by decide +kernel) (fun c9 => absurd c9 (by decide +kernel)) (fun _ => ?_)
    refine lv_iload hx hb dX5_noteScale_36 (lv_at hl 0 rfl) ?_
    refine lv_bipush (v := 9) hx hb dX5_noteScale_38 (by decide +kernel) ?_
    refine lv_icmp_ge (tgt := 71) hx hb dX5_noteScale_40 (by decide +kernel) (fun c9 => absurd c9 (by decide +kernel)) (fun _ => ?_)
    refine lv_aload_n hx hb dX5_noteScale_43 rfl (lv_at hl 1 rfl) ?_
    refine z_get C (ci := 5) (N := 8) rfl hin5 hT 0 6 rfl rfl (by decide +kernel) (by decide +kernel) dX5_noteScale_44 ?_
    refine lv_iload hx hb dX5_noteScale_47 (lv_at hl 0 rfl) ?_
    refine z_aald C hT 1 4 rfl rfl rfl (vin rfl) (v := .ref (u 73)) (show va_rf (bf (0 : Int32).toNatClampNeg) = .ref (u 73) from by rw [show (0 : Int32).toNatClampNeg = 0 from by decide +kernel, hbf 0 (by decide)]; rfl) dX5_noteScale_49 ?_
    refine lv_iconst (v := 0) hx hb dX5_noteScale_50 (by decide +kernel) ?_
    refine lv_iload_n hx hb dX5_noteScale_51 rfl (lv_at hl 2 rfl) ?_
    refine lv_iload hx hb dX5_noteScale_52 (lv_at hl 0 rfl) ?_
    refine lv_iload_n hx hb dX5_noteScale_54 rfl (lv_at hl 3 rfl) ?_
    refine lv_imul hx hb dX5_noteScale_55 ?_
    refine lv_isub hx hb dX5_noteScale_56 ?_
    refine z_max C hl.1 (by decide +kernel) (by decide +kernel) (by decide +kernel) (by decide +kernel) (Nat.le_of_ble_eq_true rfl) (Nat.le_of_ble_eq_true rfl) (Nat.le_of_ble_eq_true rfl) (Nat.le_of_ble_eq_true rfl) (v := nI (B - 0 * S)) (mx_of (k := 0) (by omega) (by omega) (by decide) rfl) dX5_noteScale_57 ?_
    refine lv_dup2_11 hx hb dX5_noteScale_60 rfl rfl ?_
    refine z_iald C hT 2 0 rfl rfl (vp_in_nI (by omega) (by decide +kernel)) (v := (r 0) (B - 0 * S)) (congrArg _ (nI_clamp (by omega))) dX5_noteScale_61 ?_
    refine lv_iconst (v := 1) hx hb dX5_noteScale_62 (by decide +kernel) ?_
    refine lv_iadd hx hb dX5_noteScale_63 ?_
    refine z_iast C hT 2 0 rfl rfl (vp_in_nI (by omega) (by decide +kernel)) dX5_noteScale_64 (upd (r 0) (B - 0 * S) (((r 0) (B - 0 * S)) + 1)) (by rw [nI_clamp (by omega)]) [((u 5), .inr (5, [.ref (u 69), .ref (u 70), .int 0, .int (sf + 1), .int lb, .int lt, .ref (u 71), .ref (u 72)])), ((u 71), .inl (g 4, 9, .inr (.inr (.inr (.inr bf))))), ((u 73), .inl (g 0, 100, .inl (upd (r 0) (B - 0 * S) (((r 0) (B - 0 * S)) + 1)))), ((u 74), .inl (g 0, 100, .inl (r 1))), ((u 75), .inl (g 0, 100, .inl (r 2))), ((u 76), .inl (g 0, 100, .inl (r 3))), ((u 77), .inl (g 0, 100, .inl (r 4)))] rfl (fun H locs hT => ?_)
    refine lv_iinc (v := 1) (lv' := [(4, .int 1), (0, .ref (u 5)), (1, .int (nI B)), (2, .int (nI S)), (3, .int 5)]) hx hb dX5_noteScale_65 hl (k := 0) rfl (by decide +kernel) (by decide +kernel) rfl (fun ls hl => ?_)
    refine lv_goto (tgt := 30) hx hb dX5_noteScale_68 (by decide +kernel) ?_
    refine lv_iload hx hb dX5_noteScale_30 (lv_at hl 0 rfl) ?_
    refine lv_iload_n hx hb dX5_noteScale_32 rfl (lv_at hl 4 rfl) ?_
    refine lv_icmp_ge (tgt := 71) hx hb dX5_noteScale_33 (by decide +kernel) (fun c9 => absurd c9 (by decide +kernel)) (fun _ => ?_)
    refine lv_iload hx hb dX5_noteScale_36 (lv_at hl 0 rfl) ?_
    refine lv_bipush (v := 9) hx hb dX5_noteScale_38 (by decide +kernel) ?_
    refine lv_icmp_ge (tgt := 71) hx hb dX5_noteScale_40 (by decide +kernel) (fun c9 => absurd c9 (by decide +kernel)) (fun _ => ?_)
    refine lv_aload_n hx hb dX5_noteScale_43 rfl (lv_at hl 1 rfl) ?_
    refine z_get C (ci := 5) (N := 8) rfl hin5 hT 0 6 rfl rfl (by decide +kernel) (by decide +kernel) dX5_noteScale_44 ?_
    refine lv_iload hx hb dX5_noteScale_47 (lv_at hl 0 rfl) ?_
    refine z_aald C hT 1 4 rfl rfl rfl (vin rfl) (v := .ref (u 74)) (show va_rf (bf (1 : Int32).toNatClampNeg) = .ref (u 74) from by rw [show (1 : Int32).toNatClampNeg = 1 from by decide +kernel, hbf 1 (by decide)]; rfl) dX5_noteScale_49 ?_
    refine lv_iconst (v := 0) hx hb dX5_noteScale_50 (by decide +kernel) ?_
    refine lv_iload_n hx hb dX5_noteScale_51 rfl (lv_at hl 2 rfl) ?_
    refine lv_iload hx hb dX5_noteScale_52 (lv_at hl 0 rfl) ?_
    refine lv_iload_n hx hb dX5_noteScale_54 rfl (lv_at hl 3 rfl) ?_
    refine lv_imul hx hb dX5_noteScale_55 ?_
    refine lv_isub hx hb dX5_noteScale_56 ?_
    refine z_max C hl.1 (by decide +kernel) (by decide +kernel) (by decide +kernel) (by decide +kernel) (Nat.le_of_ble_eq_true rfl) (Nat.le_of_ble_eq_true rfl) (Nat.le_of_ble_eq_true rfl) (Nat.le_of_ble_eq_true rfl) (v := nI (B - 1 * S)) (mx_of (k := 1) (by omega) (by omega) (by decide) rfl) dX5_noteScale_57 ?_
    refine lv_dup2_11 hx hb dX5_noteScale_60 rfl rfl ?_
    refine z_iald C hT 3 0 rfl rfl (vp_in_nI (by omega) (by decide +kernel)) (v := (r 1) (B - 1 * S)) (congrArg _ (nI_clamp (by omega))) dX5_noteScale_61 ?_
    refine lv_iconst (v := 1) hx hb dX5_noteScale_62 (by decide +kernel) ?_
    refine lv_iadd hx hb dX5_noteScale_63 ?_
    refine z_iast C hT 3 0 rfl rfl (vp_in_nI (by omega) (by decide +kernel)) dX5_noteScale_64 (upd (r 1) (B - 1 * S) (((r 1) (B - 1 * S)) + 1)) (by rw [nI_clamp (by omega)]) [((u 5), .inr (5, [.ref (u 69), .ref (u 70), .int 0, .int (sf + 1), .int lb, .int lt, .ref (u 71), .ref (u 72)])), ((u 71), .inl (g 4, 9, .inr (.inr (.inr (.inr bf))))), ((u 73), .inl (g 0, 100, .inl (upd (r 0) (B - 0 * S) (((r 0) (B - 0 * S)) + 1)))), ((u 74), .inl (g 0, 100, .inl (upd (r 1) (B - 1 * S) (((r 1) (B - 1 * S)) + 1)))), ((u 75), .inl (g 0, 100, .inl (r 2))), ((u 76), .inl (g 0, 100, .inl (r 3))), ((u 77), .inl (g 0, 100, .inl (r 4)))] rfl (fun H locs hT => ?_)
    refine lv_iinc (v := 2) (lv' := [(4, .int 2), (0, .ref (u 5)), (1, .int (nI B)), (2, .int (nI S)), (3, .int 5)]) hx hb dX5_noteScale_65 hl (k := 0) rfl (by decide +kernel) (by decide +kernel) rfl (fun ls hl => ?_)
    refine lv_goto (tgt := 30) hx hb dX5_noteScale_68 (by decide +kernel) ?_
    refine lv_iload hx hb dX5_noteScale_30 (lv_at hl 0 rfl) ?_
    refine lv_iload_n hx hb dX5_noteScale_32 rfl (lv_at hl 4 rfl) ?_
    refine lv_icmp_ge (tgt := 71) hx hb dX5_noteScale_33 (by decide +kernel) (fun c9 => absurd c9 (by decide +kernel)) (fun _ => ?_)
    refine lv_iload hx hb dX5_noteScale_36 (lv_at hl 0 rfl) ?_
    refine lv_bipush (v := 9) hx hb dX5_noteScale_38 (by decide +kernel) ?_
    refine lv_icmp_ge (tgt := 71) hx hb dX5_noteScale_40 (by decide +kernel) (fun c9 => absurd c9 (by decide +kernel)) (fun _ => ?_)
    refine lv_aload_n hx hb dX5_noteScale_43 rfl (lv_at hl 1 rfl) ?_
    refine z_get C (ci := 5) (N := 8) rfl hin5 hT 0 6 rfl rfl (by decide +kernel) (by decide +kernel) dX5_noteScale_44 ?_
    refine lv_iload hx hb dX5_noteScale_47 (lv_at hl 0 rfl) ?_
    refine z_aald C hT 1 4 rfl rfl rfl (vin rfl) (v := .ref (u 75)) (show va_rf (bf (2 : Int32).toNatClampNeg) = .ref (u 75) from by rw [show (2 : Int32).toNatClampNeg = 2 from by decide +kernel, hbf 2 (by decide)]; rfl) dX5_noteScale_49 ?_
    refine lv_iconst (v := 0) hx hb dX5_noteScale_50 (by decide +kernel) ?_
    refine lv_iload_n hx hb dX5_noteScale_51 rfl (lv_at hl 2 rfl) ?_
    refine lv_iload hx hb dX5_noteScale_52 (lv_at hl 0 rfl) ?_
    refine lv_iload_n hx hb dX5_noteScale_54 rfl (lv_at hl 3 rfl) ?_
    refine lv_imul hx hb dX5_noteScale_55 ?_
    refine lv_isub hx hb dX5_noteScale_56 ?_
    refine z_max C hl.1 (by decide +kernel) (by decide +kernel) (by decide +kernel) (by decide +kernel) (Nat.le_of_ble_eq_true rfl) (Nat.le_of_ble_eq_true rfl) (Nat.le_of_ble_eq_true rfl) (Nat.le_of_ble_eq_true rfl) (v := nI (B - 2 * S)) (mx_of (k := 2) (by omega) (by omega) (by decide) rfl) dX5_noteScale_57 ?_
    refine lv_dup2_11 hx hb dX5_noteScale_60 rfl rfl ?_
    refine z_iald C hT 4 0 rfl rfl (vp_in_nI (by omega) (by decide +kernel)) (v := (r 2) (B - 2 * S)) (congrArg _ (nI_clamp (by omega))) dX5_noteScale_61 ?_
    refine lv_iconst (v := 1) hx hb dX5_noteScale_62 (by decide +kernel) ?_
    refine lv_iadd hx hb dX5_noteScale_63 ?_
    refine z_iast C hT 4 0 rfl rfl (vp_in_nI (by omega) (by decide +kernel)) dX5_noteScale_64 (upd (r 2) (B - 2 * S) (((r 2) (B - 2 * S)) + 1)) (by rw [nI_clamp (by omega)]) [((u 5), .inr (5, [.ref (u 69), .ref (u 70), .int 0, .int (sf + 1), .int lb, .int lt, .ref (u 71), .ref (u 72)])), ((u 71), .inl (g 4, 9, .inr (.inr (.inr (.inr bf))))), ((u 73), .inl (g 0, 100, .inl (upd (r 0) (B - 0 * S) (((r 0) (B - 0 * S)) + 1)))), ((u 74), .inl (g 0, 100, .inl (upd (r 1) (B - 1 * S) (((r 1) (B - 1 * S)) + 1)))), ((u 75), .inl (g 0, 100, .inl (upd (r 2) (B - 2 * S) (((r 2) (B - 2 * S)) + 1)))), ((u 76), .inl (g 0, 100, .inl (r 3))), ((u 77), .inl (g 0, 100, .inl (r 4)))] rfl (fun H locs hT => ?_)
    refine lv_iinc (v := 3) (lv' := [(4, .int 3), (0, .ref (u 5)), (1, .int (nI B)), (2, .int (nI S)), (3, .int 5)]) hx hb dX5_noteScale_65 hl (k := 0) rfl (by decide +kernel) (by decide +kernel) rfl (fun ls hl => ?_)
    refine lv_goto (tgt := 30) hx hb dX5_noteScale_68 (by decide +kernel) ?_
    refine lv_iload hx hb dX5_noteScale_30 (lv_at hl 0 rfl) ?_
    refine lv_iload_n hx hb dX5_noteScale_32 rfl (lv_at hl 4 rfl) ?_
    refine lv_icmp_ge (tgt := 71) hx hb dX5_noteScale_33 (by decide +kernel) (fun c9 => absurd c9 (by decide +kernel)) (fun _ => ?_)
    refine lv_iload hx hb dX5_noteScale_36 (lv_at hl 0 rfl) ?_
    refine lv_bipush (v := 9) hx hb dX5_noteScale_38 (by decide +kernel) ?_
    refine lv_icmp_ge (tgt := 71) hx hb dX5_noteScale_40 (by decide +kernel) (fun c9 => absurd c9 (by decide +kernel)) (fun _ => ?_)
    refine lv_aload_n hx hb dX5_noteScale_43 rfl (lv_at hl 1 rfl) ?_
    refine z_get C (ci := 5) (N := 8) rfl hin5 hT 0 6 rfl rfl (by decide +kernel) (by decide +kernel) dX5_noteScale_44 ?_
    refine lv_iload hx hb dX5_noteScale_47 (lv_at hl 0 rfl) ?_
    refine z_aald C hT 1 4 rfl rfl rfl (vin rfl) (v := .ref (u 76)) (show va_rf (bf (3 : Int32).toNatClampNeg) = .ref (u 76) from by rw [show (3 : Int32).toNatClampNeg = 3 from by decide +kernel, hbf 3 (by decide)]; rfl) dX5_noteScale_49 ?_
    refine lv_iconst (v := 0) hx hb dX5_noteScale_50 (by decide +kernel) ?_
    refine lv_iload_n hx hb dX5_noteScale_51 rfl (lv_at hl 2 rfl) ?_
    refine lv_iload hx hb dX5_noteScale_52 (lv_at hl 0 rfl) ?_
    refine lv_iload_n hx hb dX5_noteScale_54 rfl (lv_at hl 3 rfl) ?_
    refine lv_imul hx hb dX5_noteScale_55 ?_
    refine lv_isub hx hb dX5_noteScale_56 ?_
    refine z_max C hl.1 (by decide +kernel) (by decide +kernel) (by decide +kernel) (by decide +kernel) (Nat.le_of_ble_eq_true rfl) (Nat.le_of_ble_eq_true rfl) (Nat.le_of_ble_eq_true rfl) (Nat.le_of_ble_eq_true rfl) (v := nI (B - 3 * S)) (mx_of (k := 3) (by omega) (by omega) (by decide) rfl) dX5_noteScale_57 ?_
    refine lv_dup2_11 hx hb dX5_noteScale_60 rfl rfl ?_
    refine z_iald C hT 5 0 rfl rfl (vp_in_nI (by omega) (by decide +kernel)) (v := (r 3) (B - 3 * S)) (congrArg _ (nI_clamp (by omega))) dX5_noteScale_61 ?_
    refine lv_iconst (v := 1) hx hb dX5_noteScale_62 (by decide +kernel) ?_
    refine lv_iadd hx hb dX5_noteScale_63 ?_
    refine z_iast C hT 5 0 rfl rfl (vp_in_nI (by omega) (by decide +kernel)) dX5_noteScale_64 (upd (r 3) (B - 3 * S) (((r 3) (B - 3 * S)) + 1)) (by rw [nI_clamp (by omega)]) [((u 5), .inr (5, [.ref (u 69), .ref (u 70), .int 0, .int (sf + 1), .int lb, .int lt, .ref (u 71), .ref (u 72)])), ((u 71), .inl (g 4, 9, .inr (.inr (.inr (.inr bf))))), ((u 73), .inl (g 0, 100, .inl (upd (r 0) (B - 0 * S) (((r 0) (B - 0 * S)) + 1)))), ((u 74), .inl (g 0, 100, .inl (upd (r 1) (B - 1 * S) (((r 1) (B - 1 * S)) + 1)))), ((u 75), .inl (g 0, 100, .inl (upd (r 2) (B - 2 * S) (((r 2) (B - 2 * S)) + 1)))), ((u 76), .inl (g 0, 100, .inl (upd (r 3) (B - 3 * S) (((r 3) (B - 3 * S)) + 1)))), ((u 77), .inl (g 0, 100, .inl (r 4)))] rfl (fun H locs hT => ?_)
    refine lv_iinc (v := 4) (lv' := [(4, .int 4), (0, .ref (u 5)), (1, .int (nI B)), (2, .int (nI S)), (3, .int 5)]) hx hb dX5_noteScale_65 hl (k := 0) rfl (by decide +kernel) (by decide +kernel) rfl (fun ls hl => ?_)
    refine lv_goto (tgt := 30) hx hb dX5_noteScale_68 (by decide +kernel) ?_
    refine lv_iload hx hb dX5_noteScale_30 (lv_at hl 0 rfl) ?_
    refine lv_iload_n hx hb dX5_noteScale_32 rfl (lv_at hl 4 rfl) ?_
    refine lv_icmp_ge (tgt := 71) hx hb dX5_noteScale_33 (by decide +kernel) (fun c9 => absurd c9 (by decide +kernel)) (fun _ => ?_)
    refine lv_iload hx hb dX5_noteScale_36 (lv_at hl 0 rfl) ?_
    refine lv_bipush (v := 9) hx hb dX5_noteScale_38 (by decide +kernel) ?_
    refine lv_icmp_ge (tgt := 71) hx hb dX5_noteScale_40 (by decide +kernel) (fun c9 => absurd c9 (by decide +kernel)) (fun _ => ?_)
    refine lv_aload_n hx hb dX5_noteScale_43 rfl (lv_at hl 1 rfl) ?_
    refine z_get C (ci := 5) (N := 8) rfl hin5 hT 0 6 rfl rfl (by decide +kernel) (by decide +kernel) dX5_noteScale_44 ?_
    refine lv_iload hx hb dX5_noteScale_47 (lv_at hl 0 rfl) ?_
    refine z_aald C hT 1 4 rfl rfl rfl (vin rfl) (v := .ref (u 77)) (show va_rf (bf (4 : Int32).toNatClampNeg) = .ref (u 77) from by rw [show (4 : Int32).toNatClampNeg = 4 from by decide +kernel, hbf 4 (by decide)]; rfl) dX5_noteScale_49 ?_
    refine lv_iconst (v := 0) hx hb dX5_noteScale_50 (by decide +kernel) ?_
    refine lv_iload_n hx hb dX5_noteScale_51 rfl (lv_at hl 2 rfl) ?_
    refine lv_iload hx hb dX5_noteScale_52 (lv_at hl 0 rfl) ?_
    refine lv_iload_n hx hb dX5_noteScale_54 rfl (lv_at hl 3 rfl) ?_
    refine lv_imul hx hb dX5_noteScale_55 ?_
    refine lv_isub hx hb dX5_noteScale_56 ?_
    refine z_max C hl.1 (by decide +kernel) (by decide +kernel) (by decide +kernel) (by decide +kernel) (Nat.le_of_ble_eq_true rfl) (Nat.le_of_ble_eq_true rfl) (Nat.le_of_ble_eq_true rfl) (Nat.le_of_ble_eq_true rfl) (v := nI (B - 4 * S)) (mx_of (k := 4) (by omega) (by omega) (by decide) rfl) dX5_noteScale_57 ?_
    refine lv_dup2_11 hx hb dX5_noteScale_60 rfl rfl ?_
    refine z_iald C hT 6 0 rfl rfl (vp_in_nI (by omega) (by decide +kernel)) (v := (r 4) (B - 4 * S)) (congrArg _ (nI_clamp (by omega))) dX5_noteScale_61 ?_
    refine lv_iconst (v := 1) hx hb dX5_noteScale_62 (by decide +kernel) ?_
    refine lv_iadd hx hb dX5_noteScale_63 ?_
    refine z_iast C hT 6 0 rfl rfl (vp_in_nI (by omega) (by decide +kernel)) dX5_noteScale_64 (upd (r 4) (B - 4 * S) (((r 4) (B - 4 * S)) + 1)) (by rw [nI_clamp (by omega)]) [((u 5), .inr (5, [.ref (u 69), .ref (u 70), .int 0, .int (sf + 1), .int lb, .int lt, .ref (u 71), .ref (u 72)])), ((u 71), .inl (g 4, 9, .inr (.inr (.inr (.inr bf))))), ((u 73), .inl (g 0, 100, .inl (upd (r 0) (B - 0 * S) (((r 0) (B - 0 * S)) + 1)))), ((u 74), .inl (g 0, 100, .inl (upd (r 1) (B - 1 * S) (((r 1) (B - 1 * S)) + 1)))), ((u 75), .inl (g 0, 100, .inl (upd (r 2) (B - 2 * S) (((r 2) (B - 2 * S)) + 1)))), ((u 76), .inl (g 0, 100, .inl (upd (r 3) (B - 3 * S) (((r 3) (B - 3 * S)) + 1)))), ((u 77), .inl (g 0, 100, .inl (upd (r 4) (B - 4 * S) (((r 4) (B - 4 * S)) + 1))))] rfl (fun H locs hT => ?_)
    refine lv_iinc (v := 5) (lv' := [(4, .int 5), (0, .ref (u 5)), (1, .int (nI B)), (2, .int (nI S)), (3, .int 5)]) hx hb dX5_noteScale_65 hl (k := 0) rfl (by decide +kernel) (by decide +kernel) rfl (fun ls hl => ?_)
    refine lv_goto (tgt := 30) hx hb dX5_noteScale_68 (by decide +kernel) ?_
    refine lv_iload hx hb dX5_noteScale_30 (lv_at hl 0 rfl) ?_
    refine lv_iload_n hx hb dX5_noteScale_32 rfl (lv_at hl 4 rfl) ?_
    refine lv_icmp_ge (tgt := 71) hx hb dX5_noteScale_33 (by decide +kernel) (fun _ => ?_) (fun c9 => absurd (by decide +kernel) c9)
    exact z_vret C rfl hT (lb, lt) (by rw [if_neg c_4]) [0, 1, 2, 3, 4, 5, 6] rfl rfl (Nat.le_of_ble_eq_true rfl) (Nat.le_of_ble_eq_true rfl) dX5_noteScale_71
  · refine lv_aload_n hx hb dX5_noteScale_7 rfl (lv_at hl 0 rfl) ?_
    refine lv_iload_n hx hb dX5_noteScale_8 rfl (lv_at hl 1 rfl) ?_
    refine z_put C (ci := 5) (N := 8) rfl hin5 tyX5_ok nmX5 hT 0 4 rfl (Nat.le_of_ble_eq_true rfl) (by decide +kernel) (by decide +kernel) rfl rfl rfl dX5_noteScale_9 [((u 5), .inr (5, [.ref (u 69), .ref (u 70), .int 0, .int sf, .int (nI B), .int lt, .ref (u 71), .ref (u 72)])), ((u 71), .inl (g 4, 9, .inr (.inr (.inr (.inr bf))))), ((u 73), .inl (g 0, 100, .inl (r 0))), ((u 74), .inl (g 0, 100, .inl (r 1))), ((u 75), .inl (g 0, 100, .inl (r 2))), ((u 76), .inl (g 0, 100, .inl (r 3))), ((u 77), .inl (g 0, 100, .inl (r 4)))] rfl (fun H locs hT => ?_)
    refine lv_aload_n hx hb dX5_noteScale_12 rfl (lv_at hl 0 rfl) ?_
    refine lv_iload_n hx hb dX5_noteScale_13 rfl (lv_at hl 2 rfl) ?_
    refine z_put C (ci := 5) (N := 8) rfl hin5 tyX5_ok nmX5 hT 0 5 rfl (Nat.le_of_ble_eq_true rfl) (by decide +kernel) (by decide +kernel) rfl rfl rfl dX5_noteScale_14 [((u 5), .inr (5, [.ref (u 69), .ref (u 70), .int 0, .int sf, .int (nI B), .int (nI S), .ref (u 71), .ref (u 72)])), ((u 71), .inl (g 4, 9, .inr (.inr (.inr (.inr bf))))), ((u 73), .inl (g 0, 100, .inl (r 0))), ((u 74), .inl (g 0, 100, .inl (r 1))), ((u 75), .inl (g 0, 100, .inl (r 2))), ((u 76), .inl (g 0, 100, .inl (r 3))), ((u 77), .inl (g 0, 100, .inl (r 4)))] rfl (fun H locs hT => ?_)
    refine lv_aload_n hx hb dX5_noteScale_17 rfl (lv_at hl 0 rfl) ?_
    refine lv_dup hx hb dX5_noteScale_18 rfl ?_
    refine z_get C (ci := 5) (N := 8) rfl hin5 hT 0 3 rfl rfl (by decide +kernel) (by decide +kernel) dX5_noteScale_19 ?_
    refine lv_iconst (v := 1) hx hb dX5_noteScale_22 (by decide +kernel) ?_
    refine lv_iadd hx hb dX5_noteScale_23 ?_
    refine z_put C (ci := 5) (N := 8) rfl hin5 tyX5_ok nmX5 hT 0 3 rfl (Nat.le_of_ble_eq_true rfl) (by decide +kernel) (by decide +kernel) rfl rfl rfl dX5_noteScale_24 [((u 5), .inr (5, [.ref (u 69), .ref (u 70), .int 0, .int (sf + 1), .int (nI B), .int (nI S), .ref (u 71), .ref (u 72)])), ((u 71), .inl (g 4, 9, .inr (.inr (.inr (.inr bf))))), ((u 73), .inl (g 0, 100, .inl (r 0))), ((u 74), .inl (g 0, 100, .inl (r 1))), ((u 75), .inl (g 0, 100, .inl (r 2))), ((u 76), .inl (g 0, 100, .inl (r 3))), ((u 77), .inl (g 0, 100, .inl (r 4)))] rfl (fun H locs hT => ?_)
    refine lv_iconst (v := 0) hx hb dX5_noteScale_27 (by decide +kernel) ?_
    refine lv_istore (lv' := [(4, .int 0), (0, .ref (u 5)), (1, .int (nI B)), (2, .int (nI S)), (3, .int 5)]) hx hb dX5_noteScale_28 hl (by decide +kernel) rfl (fun ls hl => ?_)
    refine lv_iload hx hb dX5_noteScale_30 (lv_at hl 0 rfl) ?_
    refine lv_iload_n hx hb dX5_noteScale_32 rfl (lv_at hl 4 rfl) ?_
    refine lv_icmp_ge (tgt := 71) hx hb dX5_noteScale_33 (by decide +kernel) (fun c9 => absurd c9 (by decide +kernel)) (fun _ => ?_)
    refine lv_iload hx hb dX5_noteScale_36 (lv_at hl 0 rfl) ?_
    refine lv_bipush (v := 9) hx hb dX5_noteScale_38 (by decide +kernel) ?_
    refine lv_icmp_ge (tgt := 71) hx hb dX5_noteScale_40 (by decide +kernel) (fun c9 => absurd c9 (by decide +kernel)) (fun _ => ?_)
    refine lv_aload_n hx hb dX5_noteScale_43 rfl (lv_at hl 1 rfl) ?_
    refine z_get C (ci := 5) (N := 8) rfl hin5 hT 0 6 rfl rfl (by decide +kernel) (by decide +kernel) dX5_noteScale_44 ?_
    refine lv_iload hx hb dX5_noteScale_47 (lv_at hl 0 rfl) ?_
    refine z_aald C hT 1 4 rfl rfl rfl (vin rfl) (v := .ref (u 73)) (show va_rf (bf (0 : Int32).toNatClampNeg) = .ref (u 73) from by rw [show (0 : Int32).toNatClampNeg = 0 from by decide +kernel, hbf 0 (by decide)]; rfl) dX5_noteScale_49 ?_
    refine lv_iconst (v := 0) hx hb dX5_noteScale_50 (by decide +kernel) ?_
    refine lv_iload_n hx hb dX5_noteScale_51 rfl (lv_at hl 2 rfl) ?_
    refine lv_iload hx hb dX5_noteScale_52 (lv_at hl 0 rfl) ?_
    refine lv_iload_n hx hb dX5_noteScale_54 rfl (lv_at hl 3 rfl) ?_
    refine lv_imul hx hb dX5_noteScale_55 ?_
    refine lv_isub hx hb dX5_noteScale_56 ?_
    refine z_max C hl.1 (by decide +kernel) (by decide +kernel) (by decide +kernel) (by decide +kernel) (Nat.le_of_ble_eq_true rfl) (Nat.le_of_ble_eq_true rfl) (Nat.le_of_ble_eq_true rfl) (Nat.le_of_ble_eq_true rfl) (v := nI (B - 0 * S)) (mx_of (k := 0) (by omega) (by omega) (by decide) rfl) dX5_noteScale_57 ?_
    refine lv_dup2_11 hx hb dX5_noteScale_60 rfl rfl ?_
    refine z_iald C hT 2 0 rfl rfl (vp_in_nI (by omega) (by decide +kernel)) (v := (r 0) (B - 0 * S)) (congrArg _ (nI_clamp (by omega))) dX5_noteScale_61 ?_
    refine lv_iconst (v := 1) hx hb dX5_noteScale_62 (by decide +kernel) ?_
    refine lv_iadd hx hb dX5_noteScale_63 ?_
    refine z_iast C hT 2 0 rfl rfl (vp_in_nI (by omega) (by decide +kernel)) dX5_noteScale_64 (upd (r 0) (B - 0 * S) (((r 0) (B - 0 * S)) + 1)) (by rw [nI_clamp (by omega)]) [((u 5), .inr (5, [.ref (u 69), .ref (u 70), .int 0, .int (sf + 1), .int (nI B), .int (nI S), .ref (u 71), .ref (u 72)])), ((u 71), .inl (g 4, 9, .inr (.inr (.inr (.inr bf))))), ((u 73), .inl (g 0, 100, .inl (upd (r 0) (B - 0 * S) (((r 0) (B - 0 * S)) + 1)))), ((u 74), .inl (g 0, 100, .inl (r 1))), ((u 75), .inl (g 0, 100, .inl (r 2))), ((u 76), .inl (g 0, 100, .inl (r 3))), ((u 77), .inl (g 0, 100, .inl (r 4)))] rfl (fun H locs hT => ?_)
    refine lv_iinc (v := 1) (lv' := [(4, .int 1), (0, .ref (u 5)), (1, .int (nI B)), (2, .int (nI S)), (3, .int 5)]) hx hb dX5_noteScale_65 hl (k := 0) rfl (by decide +kernel) (by decide +kernel) rfl (fun ls hl => ?_)
    refine lv_goto (tgt := 30) hx hb dX5_noteScale_68 (by decide +kernel) ?_
    refine lv_iload hx hb dX5_noteScale_30 (lv_at hl 0 rfl) ?_
    refine lv_iload_n hx hb dX5_noteScale_32 rfl (lv_at hl 4 rfl) ?_
    refine lv_icmp_ge (tgt := 71) hx hb dX5_noteScale_33 (by decide +kernel) (fun c9 => absurd c9 (by decide +kernel)) (fun _ => ?_)
    refine lv_iload hx hb dX5_noteScale_36 (lv_at hl 0 rfl) ?_
    refine lv_bipush (v := 9) hx hb dX5_noteScale_38 (by decide +kernel) ?_
    refine lv_icmp_ge (tgt := 71) hx hb dX5_noteScale_40 (by decide +kernel) (fun c9 => absurd c9 (by decide +kernel)) (fun _ => ?_)
    refine lv_aload_n hx hb dX5_noteScale_43 rfl (lv_at hl 1 rfl) ?_
    refine z_get C (ci := 5) (N := 8) rfl hin5 hT 0 6 rfl rfl (by decide +kernel) (by decide +kernel) dX5_noteScale_44 ?_
    refine lv_iload hx hb dX5_noteScale_47 (lv_at hl 0 rfl) ?_
    refine z_aald C hT 1 4 rfl rfl rfl (vin rfl) (v := .ref (u 74)) (show va_rf (bf (1 : Int32).toNatClampNeg) = .ref (u 74) from by rw [show (1 : Int32).toNatClampNeg = 1 from by decide +kernel, hbf 1 (by decide)]; rfl) dX5_noteScale_49 ?_
    refine lv_iconst (v := 0) hx hb dX5_noteScale_50 (by decide +kernel) ?_
    refine lv_iload_n hx hb dX5_noteScale_51 rfl (lv_at hl 2 rfl) ?_
    refine lv_iload hx hb dX5_noteScale_52 (lv_at hl 0 rfl) ?_
    refine lv_iload_n hx hb dX5_noteScale_54 rfl (lv_at hl 3 rfl) ?_
    refine lv_imul hx hb dX5_noteScale_55 ?_
    refine lv_isub hx hb dX5_noteScale_56 ?_
    refine z_max C hl.1 (by decide +kernel) (by decide +kernel) (by decide +kernel) (by decide +kernel) (Nat.le_of_ble_eq_true rfl) (Nat.le_of_ble_eq_true rfl) (Nat.le_of_ble_eq_true rfl) (Nat.le_of_ble_eq_true rfl) (v := nI (B - 1 * S)) (mx_of (k := 1) (by omega) (by omega) (by decide) rfl) dX5_noteScale_57 ?_
    refine lv_dup2_11 hx hb dX5_noteScale_60 rfl rfl ?_
    refine z_iald C hT 3 0 rfl rfl (vp_in_nI (by omega) (by decide +kernel)) (v := (r 1) (B - 1 * S)) (congrArg _ (nI_clamp (by omega))) dX5_noteScale_61 ?_
    refine lv_iconst (v := 1) hx hb dX5_noteScale_62 (by decide +kernel) ?_
    refine lv_iadd hx hb dX5_noteScale_63 ?_
    refine z_iast C hT 3 0 rfl rfl (vp_in_nI (by omega) (by decide +kernel)) dX5_noteScale_64 (upd (r 1) (B - 1 * S) (((r 1) (B - 1 * S)) + 1)) (by rw [nI_clamp (by omega)]) [((u 5), .inr (5, [.ref (u 69), .ref (u 70), .int 0, .int (sf + 1), .int (nI B), .int (nI S), .ref (u 71), .ref (u 72)])), ((u 71), .inl (g 4, 9, .inr (.inr (.inr (.inr bf))))), ((u 73), .inl (g 0, 100, .inl (upd (r 0) (B - 0 * S) (((r 0) (B - 0 * S)) + 1)))), ((u 74), .inl (g 0, 100, .inl (upd (r 1) (B - 1 * S) (((r 1) (B - 1 * S)) + 1)))), ((u 75), .inl (g 0, 100, .inl (r 2))), ((u 76), .inl (g 0, 100, .inl (r 3))), ((u 77), .inl (g 0, 100, .inl (r 4)))] rfl (fun H locs hT => ?_)
    refine lv_iinc (v := 2) (lv' := [(4, .int 2), (0, .ref (u 5)), (1, .int (nI B)), (2, .int (nI S)), (3, .int 5)]) hx hb dX5_noteScale_65 hl (k := 0) rfl (by decide +kernel) (by decide +kernel) rfl (fun ls hl => ?_)
    refine lv_goto (tgt := 30) hx hb dX5_noteScale_68 (by decide +kernel) ?_
    refine lv_iload hx hb dX5_noteScale_30 (lv_at hl 0 rfl) ?_
    refine lv_iload_n hx hb dX5_noteScale_32 rfl (lv_at hl 4 rfl) ?_
    refine lv_icmp_ge (tgt := 71) hx hb dX5_noteScale_33 (by decide +kernel) (fun c9 => absurd c9 (by decide +kernel)) (fun _ => ?_)
    refine lv_iload hx hb dX5_noteScale_36 (lv_at hl 0 rfl) ?_
    refine lv_bipush (v := 9) hx hb dX5_noteScale_38 (by decide +kernel) ?_
    refine lv_icmp_ge (tgt := 71) hx hb dX5_noteScale_40 (by decide +kernel) (fun c9 => absurd c9 (by decide +kernel)) (fun _ => ?_)
    refine lv_aload_n hx hb dX5_noteScale_43 rfl (lv_at hl 1 rfl) ?_
    refine z_get C (ci := 5) (N := 8) rfl hin5 hT 0 6 rfl rfl (by decide +kernel) (by decide +kernel) dX5_noteScale_44 ?_
    refine lv_iload hx hb dX5_noteScale_47 (lv_at hl 0 rfl) ?_
    refine z_aald C hT 1 4 rfl rfl rfl (vin rfl) (v := .ref (u 75)) (show va_rf (bf (2 : Int32).toNatClampNeg) = .ref (u 75) from by rw [show (2 : Int32).toNatClampNeg = 2 from by decide +kernel, hbf 2 (by decide)]; rfl) dX5_noteScale_49 ?_
    refine lv_iconst (v := 0) hx hb dX5_noteScale_50 (by decide +kernel) ?_
    refine lv_iload_n hx hb dX5_noteScale_51 rfl (lv_at hl 2 rfl) ?_
    refine lv_iload hx hb dX5_noteScale_52 (lv_at hl 0 rfl) ?_
    refine lv_iload_n hx hb dX5_noteScale_54 rfl (lv_at hl 3 rfl) ?_
    refine lv_imul hx hb dX5_noteScale_55 ?_
    refine lv_isub hx hb dX5_noteScale_56 ?_
    refine z_max C hl.1 (by decide +kernel) (by decide +kernel) (by decide +kernel) (by decide +kernel) (Nat.le_of_ble_eq_true rfl) (Nat.le_of_ble_eq_true rfl) (Nat.le_of_ble_eq_true rfl) (Nat.le_of_ble_eq_true rfl) (v := nI (B - 2 * S)) (mx_of (k := 2) (by omega) (by omega) (by decide) rfl) dX5_noteScale_57 ?_
    refine lv_dup2_11 hx hb dX5_noteScale_60 rfl rfl ?_
    refine z_iald C hT 4 0 rfl rfl (vp_in_nI (by omega) (by decide +kernel)) (v := (r 2) (B - 2 * S)) (congrArg _ (nI_clamp (by omega))) dX5_noteScale_61 ?_
    refine lv_iconst (v := 1) hx hb dX5_noteScale_62 (by decide +kernel) ?_
    refine lv_iadd hx hb dX5_noteScale_63 ?_
    refine z_iast C hT 4 0 rfl rfl (vp_in_nI (by omega) (by decide +kernel)) dX5_noteScale_64 (upd (r 2) (B - 2 * S) (((r 2) (B - 2 * S)) + 1)) (by rw [nI_clamp (by omega)]) [((u 5), .inr (5, [.ref (u 69), .ref (u 70), .int 0, .int (sf + 1), .int (nI B), .int (nI S), .ref (u 71), .ref (u 72)])), ((u 71), .inl (g 4, 9, .inr (.inr (.inr (.inr bf))))), ((u 73), .inl (g 0, 100, .inl (upd (r 0) (B - 0 * S) (((r 0) (B - 0 * S)) + 1)))), ((u 74), .inl (g 0, 100, .inl (upd (r 1) (B - 1 * S) (((r 1) (B - 1 * S)) + 1)))), ((u 75), .inl (g 0, 100, .inl (upd (r 2) (B - 2 * S) (((r 2) (B - 2 * S)) + 1)))), ((u 76), .inl (g 0, 100, .inl (r 3))), ((u 77), .inl (g 0, 100, .inl (r 4)))] rfl (fun H locs hT => ?_)
    refine lv_iinc (v := 3) (lv' := [(4, .int 3), (0, .ref (u 5)), (1, .int (nI B)), (2, .int (nI S)), (3, .int 5)]) hx hb dX5_noteScale_65 hl (k := 0) rfl (by decide +kernel) (by decide +kernel) rfl (fun ls hl => ?_)
    refine lv_goto (tgt := 30) hx hb dX5_noteScale_68 (by decide +kernel) ?_
    refine lv_iload hx hb dX5_noteScale_30 (lv_at hl 0 rfl) ?_
    refine lv_iload_n hx hb dX5_noteScale_32 rfl (lv_at hl 4 rfl) ?_
    refine lv_icmp_ge (tgt := 71) hx hb dX5_noteScale_33 (by decide +kernel) (fun c9 => absurd c9 (by decide +kernel)) (fun _ => ?_)
    refine lv_iload hx hb dX5_noteScale_36 (lv_at hl 0 rfl) ?_
    refine lv_bipush (v := 9) hx hb dX5_noteScale_38 (by decide +kernel) ?_
    refine lv_icmp_ge (tgt := 71) hx hb dX5_noteScale_40 (by decide +kernel) (fun c9 => absurd c9 (by decide +kernel)) (fun _ => ?_)
    refine lv_aload_n hx hb dX5_noteScale_43 rfl (lv_at hl 1 rfl) ?_
    refine z_get C (ci := 5) (N := 8) rfl hin5 hT 0 6 rfl rfl (by decide +kernel) (by decide +kernel) dX5_noteScale_44 ?_
    refine lv_iload hx hb dX5_noteScale_47 (lv_at hl 0 rfl) ?_
    refine z_aald C hT 1 4 rfl rfl rfl (vin rfl) (v := .ref (u 76)) (show va_rf (bf (3 : Int32).toNatClampNeg) = .ref (u 76) from by rw [show (3 : Int32).toNatClampNeg = 3 from by decide +kernel, hbf 3 (by decide)]; rfl) dX5_noteScale_49 ?_
    refine lv_iconst (v := 0) hx hb dX5_noteScale_50 (by decide +kernel) ?_
    refine lv_iload_n hx hb dX5_noteScale_51 rfl (lv_at hl 2 rfl) ?_
    refine lv_iload hx hb dX5_noteScale_52 (lv_at hl 0 rfl) ?_
    refine lv_iload_n hx hb dX5_noteScale_54 rfl (lv_at hl 3 rfl) ?_
    refine lv_imul hx hb dX5_noteScale_55 ?_
    refine lv_isub hx hb dX5_noteScale_56 ?_
    refine z_max C hl.1 (by decide +kernel) (by decide +kernel) (by decide +kernel) (by decide +kernel) (Nat.le_of_ble_eq_true rfl) (Nat.le_of_ble_eq_true rfl) (Nat.le_of_ble_eq_true rfl) (Nat.le_of_ble_eq_true rfl) (v := nI (B - 3 * S)) (mx_of (k := 3) (by omega) (by omega) (by decide) rfl) dX5_noteScale_57 ?_
    refine lv_dup2_11 hx hb dX5_noteScale_60 rfl rfl ?_
    refine z_iald C hT 5 0 rfl rfl (vp_in_nI (by omega) (by decide +kernel)) (v := (r 3) (B - 3 * S)) (congrArg _ (nI_clamp (by omega))) dX5_noteScale_61 ?_
    refine lv_iconst (v := 1) hx hb dX5_noteScale_62 (by decide +kernel) ?_
    refine lv_iadd hx hb dX5_noteScale_63 ?_
    refine z_iast C hT 5 0 rfl rfl (vp_in_nI (by omega) (by decide +kernel)) dX5_noteScale_64 (upd (r 3) (B - 3 * S) (((r 3) (B - 3 * S)) + 1)) (by rw [nI_clamp (by omega)]) [((u 5), .inr (5, [.ref (u 69), .ref (u 70), .int 0, .int (sf + 1), .int (nI B), .int (nI S), .ref (u 71), .ref (u 72)])), ((u 71), .inl (g 4, 9, .inr (.inr (.inr (.inr bf))))), ((u 73), .inl (g 0, 100, .inl (upd (r 0) (B - 0 * S) (((r 0) (B - 0 * S)) + 1)))), ((u 74), .inl (g 0, 100, .inl (upd (r 1) (B - 1 * S) (((r 1) (B - 1 * S)) + 1)))), ((u 75), .inl (g 0, 100, .inl (upd (r 2) (B - 2 * S) (((r 2) (B - 2 * S)) + 1)))), ((u 76), .inl (g 0, 100, .inl (upd (r 3) (B - 3 * S) (((r 3) (B - 3 * S)) + 1)))), ((u 77), .inl (g 0, 100, .inl (r 4)))] rfl (fun H locs hT => ?_)
    refine lv_iinc (v := 4) (lv' := [(4, .int 4), (0, .ref (u 5)), (1, .int (nI B)), (2, .int (nI S)), (3, .int 5)]) hx hb dX5_noteScale_65 hl (k := 0) rfl (by decide +kernel) (by decide +kernel) rfl (fun ls hl => ?_)
    refine lv_goto (tgt := 30) hx hb dX5_noteScale_68 (by decide +kernel) ?_
    refine lv_iload hx hb dX5_noteScale_30 (lv_at hl 0 rfl) ?_
    refine lv_iload_n hx hb dX5_noteScale_32 rfl (lv_at hl 4 rfl) ?_
    refine lv_icmp_ge (tgt := 71) hx hb dX5_noteScale_33 (by decide +kernel) (fun c9 => absurd c9 (by decide +kernel)) (fun _ => ?_)
    refine lv_iload hx hb dX5_noteScale_36 (lv_at hl 0 rfl) ?_
    refine lv_bipush (v := 9) hx hb dX5_noteScale_38 (by decide +kernel) ?_
    refine lv_icmp_ge (tgt := 71) hx hb dX5_noteScale_40 (by decide +kernel) (fun c9 => absurd c9 (by decide +kernel)) (fun _ => ?_)
    refine lv_aload_n hx hb dX5_noteScale_43 rfl (lv_at hl 1 rfl) ?_
    refine z_get C (ci := 5) (N := 8) rfl hin5 hT 0 6 rfl rfl (by decide +kernel) (by decide +kernel) dX5_noteScale_44 ?_
    refine lv_iload hx hb dX5_noteScale_47 (lv_at hl 0 rfl) ?_
    refine z_aald C hT 1 4 rfl rfl rfl (vin rfl) (v := .ref (u 77)) (show va_rf (bf (4 : Int32).toNatClampNeg) = .ref (u 77) from by rw [show (4 : Int32).toNatClampNeg = 4 from by decide +kernel, hbf 4 (by decide)]; rfl) dX5_noteScale_49 ?_
    refine lv_iconst (v := 0) hx hb dX5_noteScale_50 (by decide +kernel) ?_
    refine lv_iload_n hx hb dX5_noteScale_51 rfl (lv_at hl 2 rfl) ?_
    refine lv_iload hx hb dX5_noteScale_52 (lv_at hl 0 rfl) ?_
    refine lv_iload_n hx hb dX5_noteScale_54 rfl (lv_at hl 3 rfl) ?_
    refine lv_imul hx hb dX5_noteScale_55 ?_
    refine lv_isub hx hb dX5_noteScale_56 ?_
    refine z_max C hl.1 (by decide +kernel) (by decide +kernel) (by decide +kernel) (by decide +kernel) (Nat.le_of_ble_eq_true rfl) (Nat.le_of_ble_eq_true rfl) (Nat.le_of_ble_eq_true rfl) (Nat.le_of_ble_eq_true rfl) (v := nI (B - 4 * S)) (mx_of (k := 4) (by omega) (by omega) (by decide) rfl) dX5_noteScale_57 ?_
    refine lv_dup2_11 hx hb dX5_noteScale_60 rfl rfl ?_
    refine z_iald C hT 6 0 rfl rfl (vp_in_nI (by omega) (by decide +kernel)) (v := (r 4) (B - 4 * S)) (congrArg _ (nI_clamp (by omega))) dX5_noteScale_61 ?_
    refine lv_iconst (v := 1) hx hb dX5_noteScale_62 (by decide +kernel) ?_
    refine lv_iadd hx hb dX5_noteScale_63 ?_
    refine z_iast C hT 6 0 rfl rfl (vp_in_nI (by omega) (by decide +kernel)) dX5_noteScale_64 (upd (r 4) (B - 4 * S) (((r 4) (B - 4 * S)) + 1)) (by rw [nI_clamp (by omega)]) [((u 5), .inr (5, [.ref (u 69), .ref (u 70), .int 0, .int (sf + 1), .int (nI B), .int (nI S), .ref (u 71), .ref (u 72)])), ((u 71), .inl (g 4, 9, .inr (.inr (.inr (.inr bf))))), ((u 73), .inl (g 0, 100, .inl (upd (r 0) (B - 0 * S) (((r 0) (B - 0 * S)) + 1)))), ((u 74), .inl (g 0, 100, .inl (upd (r 1) (B - 1 * S) (((r 1) (B - 1 * S)) + 1)))), ((u 75), .inl (g 0, 100, .inl (upd (r 2) (B - 2 * S) (((r 2) (B - 2 * S)) + 1)))), ((u 76), .inl (g 0, 100, .inl (upd (r 3) (B - 3 * S) (((r 3) (B - 3 * S)) + 1)))), ((u 77), .inl (g 0, 100, .inl (upd (r 4) (B - 4 * S) (((r 4) (B - 4 * S)) + 1))))] rfl (fun H locs hT => ?_)
    refine lv_iinc (v := 5) (lv' := [(4, .int 5), (0, .ref (u 5)), (1, .int (nI B)), (2, .int (nI S)), (3, .int 5)]) hx hb dX5_noteScale_65 hl (k := 0) rfl (by decide +kernel) (by decide +kernel) rfl (fun ls hl => ?_)
    refine lv_goto (tgt := 30) hx hb dX5_noteScale_68 (by decide +kernel) ?_
    refine lv_iload hx hb dX5_noteScale_30 (lv_at hl 0 rfl) ?_
    refine lv_iload_n hx hb dX5_noteScale_32 rfl (lv_at hl 4 rfl) ?_
    refine lv_icmp_ge (tgt := 71) hx hb dX5_noteScale_33 (by decide +kernel) (fun _ => ?_) (fun c9 => absurd (by decide +kernel) c9)
    exact z_vret C rfl hT (nI B, nI S) (by rw [if_pos c_4]) [0, 1, 2, 3, 4, 5, 6] rfl rfl (Nat.le_of_ble_eq_true rfl) (Nat.le_of_ble_eq_true rfl) dX5_noteScale_71

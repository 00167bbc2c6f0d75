set_option maxRecDepth 20000 in
theorem ggX5_findScales_X5_clearScales : GoodIn wsX5_findScales wsX5_clearScales := goodIn_r _ [5, 6, 7, 8, 9, 10, 29, 30, 31, 32, 33, 34, 35, 36] (by decide +kernel) (by decide +kernel)
set_option maxRecDepth 20000 in
theorem gX5_findScales_X5_clearScales : GoodIn wsX5_findScales (wsV RX5 43 RX5 yX5_clearScales wsX5_clearScales) := goodIn_app (goodIn_of _ (by decide +kernel)) ggX5_findScales_X5_clearScales
set_option maxRecDepth 20000 in
theorem ggX5_findScales_X5_isSo : GoodIn wsX5_findScales wsX5_isSo := goodIn_r _ [14, 15, 16, 17, 18, 19, 20, 29, 30, 31, 32, 33, 34, 35, 36] (by decide +kernel) (by decide +kernel)
set_option maxRecDepth 20000 in
theorem gX5_findScales_X5_isSo : GoodIn wsX5_findScales (wsV RX5 46 RX5 yX5_isSo wsX5_isSo) := goodIn_app (goodIn_of _ (by decide +kernel)) ggX5_findScales_X5_isSo
set_option maxRecDepth 20000 in
theorem ggX5_findScales_X5_noteScale : GoodIn wsX5_findScales wsX5_noteScale := goodIn_r _ [24, 6, 7, 8, 10, 25, 26, 27, 28, 29, 30, 31, 32, 33, 34, 35, 36] (by decide +kernel) (by decide +kernel)
set_option maxRecDepth 20000 in
theorem gX5_findScales_X5_noteScale : GoodIn wsX5_findScales (wsV RX5 50 RX5 yX5_noteScale wsX5_noteScale) := goodIn_app (goodIn_of _ (by decide +kernel)) ggX5_findScales_X5_noteScale
theorem dX5_findScales_0 : decode cX5_findScales 0 = .ok (.aload_n 0, 1) := by decide +kernel
theorem dX5_findScales_1 : decode cX5_findScales 1 = .ok (.invokevirtual 43, 3) := by decide +kernel
theorem dX5_findScales_4 : decode cX5_findScales 4 = .ok (.iconst 0, 1) := by decide +kernel
theorem dX5_findScales_5 : decode cX5_findScales 5 = .ok (.istore_n 2, 1) := by decide +kernel
theorem dX5_findScales_6 : decode cX5_findScales 6 = .ok (.iload_n 2, 1) := by decide +kernel
theorem dX5_findScales_7 : decode cX5_findScales 7 = .ok (.bipush 99, 2) := by decide +kernel
theorem dX5_findScales_9 : decode cX5_findScales 9 = .ok (.if_icmp .gt 40, 3) := by decide +kernel
theorem dX5_findScales_12 : decode cX5_findScales 12 = .ok (.iconst 1, 1) := by decide +kernel
theorem dX5_findScales_13 : decode cX5_findScales 13 = .ok (.istore_n 3, 1) := by decide +kernel
theorem dX5_findScales_14 : decode cX5_findScales 14 = .ok (.iload_n 3, 1) := by decide +kernel
theorem dX5_findScales_15 : decode cX5_findScales 15 = .ok (.bipush 20, 2) := by decide +kernel
theorem dX5_findScales_17 : decode cX5_findScales 17 = .ok (.if_icmp .gt 26, 3) := by decide +kernel
theorem dX5_findScales_20 : decode cX5_findScales 20 = .ok (.aload_n 0, 1) := by decide +kernel
theorem dX5_findScales_21 : decode cX5_findScales 21 = .ok (.iload_n 2, 1) := by decide +kernel
theorem dX5_findScales_22 : decode cX5_findScales 22 = .ok (.iload_n 3, 1) := by decide +kernel
theorem dX5_findScales_23 : decode cX5_findScales 23 = .ok (.iload_n 1, 1) := by decide +kernel
theorem dX5_findScales_24 : decode cX5_findScales 24 = .ok (.invokevirtual 46, 3) := by decide +kernel
theorem dX5_findScales_27 : decode cX5_findScales 27 = .ok (.ifCond .eq 10, 3) := by decide +kernel
theorem dX5_findScales_30 : decode cX5_findScales 30 = .ok (.aload_n 0, 1) := by decide +kernel
theorem dX5_findScales_31 : decode cX5_findScales 31 = .ok (.iload_n 2, 1) := by decide +kernel
theorem dX5_findScales_32 : decode cX5_findScales 32 = .ok (.iload_n 3, 1) := by decide +kernel
theorem dX5_findScales_33 : decode cX5_findScales 33 = .ok (.iload_n 1, 1) := by decide +kernel
theorem dX5_findScales_34 : decode cX5_findScales 34 = .ok (.invokevirtual 50, 3) := by decide +kernel
theorem dX5_findScales_37 : decode cX5_findScales 37 = .ok (.iinc 3 1, 3) := by decide +kernel
theorem dX5_findScales_40 : decode cX5_findScales 40 = .ok (.goto (-26), 3) := by decide +kernel
theorem dX5_findScales_43 : decode cX5_findScales 43 = .ok (.iinc 2 1, 3) := by decide +kernel
theorem dX5_findScales_46 : decode cX5_findScales 46 = .ok (.goto (-40), 3) := by decide +kernel
theorem dX5_findScales_49 : decode cX5_findScales 49 = .ok (.return_, 1) := by decide +kernel
set_option maxRecDepth 20000 in
theorem ggX7_scales_X5_findScales : GoodIn wsX7_scales wsX5_findScales := goodIn_r _ [11, 12, 13, 14, 10, 15, 16, 17, 18, 19, 20, 21, 22, 23, 24, 25, 26, 27, 28, 29, 30, 31, 32, 33, 34, 35, 36, 37, 38, 62, 63, 64, 65, 66, 67, 68, 69] (by decide +kernel) (by decide +kernel)
set_option maxRecDepth 20000 in
theorem gX7_scales_X5_findScales : GoodIn wsX7_scales (wsV RX7 205 RX5 yX5_findScales wsX5_findScales) := goodIn_app (goodIn_of _ (by decide +kernel)) ggX7_scales_X5_findScales
theorem dX7_scales_0 : decode cX7_scales 0 = .ok (.iload_n 1, 1) := by decide +kernel
theorem dX7_scales_1 : decode cX7_scales 1 = .ok (.ifCond .lt 8, 3) := by decide +kernel
theorem dX7_scales_4 : decode cX7_scales 4 = .ok (.iload_n 1, 1) := by decide +kernel
theorem dX7_scales_5 : decode cX7_scales 5 = .ok (.iconst 2, 1) := by decide +kernel
theorem dX7_scales_6 : decode cX7_scales 6 = .ok (.if_icmp .le 6, 3) := by decide +kernel
theorem dX7_scales_9 : decode cX7_scales 9 = .ok (.bipush (-3), 2) := by decide +kernel
theorem dX7_scales_11 : decode cX7_scales 11 = .ok (.ireturn, 1) := by decide +kernel
theorem dX7_scales_12 : decode cX7_scales 12 = .ok (.aload_n 0, 1) := by decide +kernel
theorem dX7_scales_13 : decode cX7_scales 13 = .ok (.getfield 46, 3) := by decide +kernel
theorem dX7_scales_16 : decode cX7_scales 16 = .ok (.aload_n 0, 1) := by decide +kernel
theorem dX7_scales_17 : decode cX7_scales 17 = .ok (.getfield 19, 3) := by decide +kernel
theorem dX7_scales_20 : decode cX7_scales 20 = .ok (.getfield 202, 3) := by decide +kernel
theorem dX7_scales_23 : decode cX7_scales 23 = .ok (.invokevirtual 205, 3) := by decide +kernel
theorem dX7_scales_26 : decode cX7_scales 26 = .ok (.iload_n 1, 1) := by decide +kernel
theorem dX7_scales_27 : decode cX7_scales 27 = .ok (.lookupswitch 41 #[(0, 25), (1, 33)], 25) := by decide +kernel
theorem dX7_scales_52 : decode cX7_scales 52 = .ok (.aload_n 0, 1) := by decide +kernel
theorem dX7_scales_53 : decode cX7_scales 53 = .ok (.getfield 46, 3) := by decide +kernel
theorem dX7_scales_56 : decode cX7_scales 56 = .ok (.getfield 208, 3) := by decide +kernel
theorem dX7_scales_59 : decode cX7_scales 59 = .ok (.ireturn, 1) := by decide +kernel
theorem dX7_scales_60 : decode cX7_scales 60 = .ok (.aload_n 0, 1) := by decide +kernel
theorem dX7_scales_61 : decode cX7_scales 61 = .ok (.getfield 46, 3) := by decide +kernel
theorem dX7_scales_64 : decode cX7_scales 64 = .ok (.getfield 211, 3) := by decide +kernel
theorem dX7_scales_67 : decode cX7_scales 67 = .ok (.ireturn, 1) := by decide +kernel
theorem dX7_scales_68 : decode cX7_scales 68 = .ok (.aload_n 0, 1) := by decide +kernel
theorem dX7_scales_69 : decode cX7_scales 69 = .ok (.getfield 46, 3) := by decide +kernel
theorem dX7_scales_72 : decode cX7_scales 72 = .ok (.getfield 214, 3) := by decide +kernel
theorem dX7_scales_75 : decode cX7_scales 75 = .ok (.ireturn, 1) := by decide +kernel
set_option maxHeartbeats 4000000 in
set_option maxRecDepth 100000 in
/-- Sightings.findScales, new: all 2000 -/
theorem c_S_find (l : Launch) (D : va_G) (g : Nat → ClassId) (u : Nat → Nat) (bf : Nat → Option Nat) (hbf : ∀ k, k < 9 → bf k = some (u (73 + k))) : CtV l yX5_findScales wsX5_findScales { frames := 2, cells := 0, slots := 0, locals := 60 } D (TY g) [.ref (u 5), .int 5] (fun _ => True) [((u 5), .inr (5, [.ref (u 69), .ref (u 70), .int 0, .int 0, .int (-1), .int (-1), .ref (u 71), .ref (u 72)])), ((u 71), .inl (g 4, 9, .inr (.inr (.inr (.inr bf))))), ((u 72), .inl (g 0, 9, .inl (fun _ => 0))), ((u 73), .inl (g 0, 100, .inl (fun _ => 0))), ((u 74), .inl (g 0, 100, .inl (fun _ => 0))), ((u 75), .inl (g 0, 100, .inl (fun _ => 0))), ((u 76), .inl (g 0, 100, .inl (fun _ => 0))), ((u 77), .inl (g 0, 100, .inl (fun _ => 0))), ((u 78), .inl (g 0, 100, .inl (fun _ => 0))), ((u 79), .inl (g 0, 100, .inl (fun _ => 0))), ((u 80), .inl (g 0, 100, .inl (fun _ => 0))), ((u 81), .inl (g 0, 100, .inl (fun _ => 0)))] (fun r : Nat → Nat → Int32 => ∀ k, k < 5 → ∀ v, v < 100 → r k v = nI (cnt k v 2000)) (fun r => [((u 5), .inr (5, [.ref (u 69), .ref (u 70), .int 0, .int (nI 2000), .int 0, .int 1, .ref (u 71), .ref (u 72)])), ((u 71), .inl (g 4, 9, .inr (.inr (.inr (.inr bf))))), ((u 72), .inl (g 0, 9, .inl (fun _ => 0))), ((u 73), .inl (g 0, 100, .inl (r 0))), ((u 74), .inl (g 0, 100, .inl (r 1))), ((u 75), .inl (g 0, 100, .inl (r 2))), ((u 76), .inl (g 0, 100, .inl (r 3))), ((u 77), .inl (g 0, 100, .inl (r 4)))]) := by
  refine CtV.intro (cc := cX5_findScales) (maxL := 4) (ret := none) rfl (by decide +kernel) (Nat.le_of_ble_eq_true rfl) ?_
  intro p e s m below meth c A ls C hmn hX hAe hT hl
  have hx := C.1.1
  have hb := C.1.2.1
  have hl : lv_has ls 4 [(0, .ref (u 5)), (1, .int 5)] := hl
  refine lv_aload_n hx hb dX5_findScales_0 rfl (lv_at hl 0 rfl) ?_
  refine z_callVV (wr := []) (n := 0) C (c_S_clear l D g u bf hbf) gX5_findScales_X5_clearScales rfl (by decide +kernel) ⟨Nat.le_of_ble_eq_true rfl, Nat.le_of_ble_eq_true rfl⟩ ⟨Nat.le_of_ble_eq_true rfl, Nat.le_of_ble_eq_true rfl⟩ blind_T (fun _ _ _ => trivial) hT [0, 1, 2, 3, 4, 5, 6, 7, 8, 9, 10, 11] [] rfl rfl rfl rfl rfl 0 rfl rfl rfl rfl hl.1 rfl (Nat.le_of_ble_eq_true rfl) dX5_findScales_1 (fun u_1 H locs hp_2 hT => ?_)
  have hT : Sit D (TY g) A s [((u 5), .inr (5, [.ref (u 69), .ref (u 70), .int 0, .int 0, .int (-1), .int (-1), .ref (u 71), .ref (u 72)])), ((u 71), .inl (g 4, 9, .inr (.inr (.inr (.inr bf))))), ((u 72), .inl (g 0, 9, .inl (fun _ => 0))), ((u 73), .inl (g 0, 100, .inl (fun _ => 0))), ((u 74), .inl (g 0, 100, .inl (fun _ => 0))), ((u 75), .inl (g 0, 100, .inl (fun _ => 0))), ((u 76), .inl (g 0, 100, .inl (fun _ => 0))), ((u 77), .inl (g 0, 100, .inl (fun _ => 0)))] H _ := hT
  refine lv_iconst (v := 0) hx hb dX5_findScales_4 (by decide +kernel) ?_
  refine lv_istore_n (lv' := [(2, .int 0), (0, .ref (u 5)), (1, .int 5)]) hx hb dX5_findScales_5 rfl hl (by decide +kernel) rfl (fun ls hl => ?_)
  refine z_loop (α := (Nat → Nat → Int32) × Int32 × Int32) (N := 100) (fun i a => fdI (20 * i) a.1 a.2.1 a.2.2) (fun i a => [((u 5), .inr (5, [.ref (u 69), .ref (u 70), .int 0, .int (nI (20 * i)), .int a.2.1, .int a.2.2, .ref (u 71), .ref (u 72)])), ((u 71), .inl (g 4, 9, .inr (.inr (.inr (.inr bf))))), ((u 72), .inl (g 0, 9, .inl (fun _ => 0))), ((u 73), .inl (g 0, 100, .inl (a.1 0))), ((u 74), .inl (g 0, 100, .inl (a.1 1))), ((u 75), .inl (g 0, 100, .inl (a.1 2))), ((u 76), .inl (g 0, 100, .inl (a.1 3))), ((u 77), .inl (g 0, 100, .inl (a.1 4)))]) (fun i a => [(2, .int (nI i)), (0, .ref (u 5)), (1, .int 5)]) ?_ ?_ 0 ((fun _ _ => 0), (-1), (-1)) (Nat.zero_le _) fdI_0 _ _ _ hT (lv_sub hl [0, 1, 2] rfl)
  · intro i a H locs ls hi hI hT hl ih
    have hT : Sit D (TY g) A s [((u 5), .inr (5, [.ref (u 69), .ref (u 70), .int 0, .int (nI (20 * i)), .int a.2.1, .int a.2.2, .ref (u 71), .ref (u 72)])), ((u 71), .inl (g 4, 9, .inr (.inr (.inr (.inr bf))))), ((u 72), .inl (g 0, 9, .inl (fun _ => 0))), ((u 73), .inl (g 0, 100, .inl (a.1 0))), ((u 74), .inl (g 0, 100, .inl (a.1 1))), ((u 75), .inl (g 0, 100, .inl (a.1 2))), ((u 76), .inl (g 0, 100, .inl (a.1 3))), ((u 77), .inl (g 0, 100, .inl (a.1 4)))] H locs := hT
    have hl : lv_has ls _ [(2, .int (nI i)), (0, .ref (u 5)), (1, .int 5)] := hl
    refine lv_iload_n hx hb dX5_findScales_6 rfl (lv_at hl 0 rfl) ?_
    refine lv_bipush (v := 99) hx hb dX5_findScales_7 (by decide +kernel) ?_
    refine lv_icmp_gt (tgt := 49) hx hb dX5_findScales_9 (by decide +kernel) (fun c9 => absurd c9 (lp_gt (N := 99) (by decide +kernel) (by omega) (by decide +kernel))) (fun _ => ?_)
    refine lv_iconst (v := 1) hx hb dX5_findScales_12 (by decide +kernel) ?_
    refine lv_istore_n (lv' := [(3, .int 1), (2, .int (nI i)), (0, .ref (u 5)), (1, .int 5)]) hx hb dX5_findScales_13 rfl hl (by decide +kernel) rfl (fun ls hl => ?_)
    refine z_loop (α := (Nat → Nat → Int32) × Int32 × Int32) (N := 20) (fun j a => fdI (20 * i + j) a.1 a.2.1 a.2.2) (fun j a => [((u 5), .inr (5, [.ref (u 69), .ref (u 70), .int 0, .int (nI (20 * i + j)), .int a.2.1, .int a.2.2, .ref (u 71), .ref (u 72)])), ((u 71), .inl (g 4, 9, .inr (.inr (.inr (.inr bf))))), ((u 72), .inl (g 0, 9, .inl (fun _ => 0))), ((u 73), .inl (g 0, 100, .inl (a.1 0))), ((u 74), .inl (g 0, 100, .inl (a.1 1))), ((u 75), .inl (g 0, 100, .inl (a.1 2))), ((u 76), .inl (g 0, 100, .inl (a.1 3))), ((u 77), .inl (g 0, 100, .inl (a.1 4)))]) (fun j a => [(3, .int (nI (j + 1))), (2, .int (nI i)), (0, .ref (u 5)), (1, .int 5)]) ?_ ?_ 0 a (Nat.zero_le _) hI _ _ _ hT (lv_sub hl [0, 1, 2, 3] rfl)
    · intro j a H locs ls hj hI hT hl ih
      have hT : Sit D (TY g) A s [((u 5), .inr (5, [.ref (u 69), .ref (u 70), .int 0, .int (nI (20 * i + j)), .int a.2.1, .int a.2.2, .ref (u 71), .ref (u 72)])), ((u 71), .inl (g 4, 9, .inr (.inr (.inr (.inr bf))))), ((u 72), .inl (g 0, 9, .inl (fun _ => 0))), ((u 73), .inl (g 0, 100, .inl (a.1 0))), ((u 74), .inl (g 0, 100, .inl (a.1 1))), ((u 75), .inl (g 0, 100, .inl (a.1 2))), ((u 76), .inl (g 0, 100, .inl (a.1 3))), ((u 77), .inl (g 0, 100, .inl (a.1 4)))] H locs := hT
      have hl : lv_has ls _ [(3, .int (nI (j + 1))), (2, .int (nI i)), (0, .ref (u 5)), (1, .int 5)] := hl
      refine lv_iload_n hx hb dX5_findScales_14 rfl (lv_at hl 0 rfl) ?_
      refine lv_bipush (v := 20) hx hb dX5_findScales_15 (by decide +kernel) ?_
      refine lv_icmp_gt (tgt := 43) hx hb dX5_findScales_17 (by decide +kernel) (fun c9 => absurd c9 (lp_gt (N := 20) (by decide +kernel) (by omega) (by decide +kernel))) (fun _ => ?_)
      refine lv_aload_n hx hb dX5_findScales_20 rfl (lv_at hl 2 rfl) ?_
      refine lv_iload_n hx hb dX5_findScales_21 rfl (lv_at hl 1 rfl) ?_
      refine lv_iload_n hx hb dX5_findScales_22 rfl (lv_at hl 0 rfl) ?_
      refine lv_iload_n hx hb dX5_findScales_23 rfl (lv_at hl 3 rfl) ?_
      refine z_callVI (wr := [((u 71), .inl (g 4, 9, .inr (.inr (.inr (.inr bf))))), ((u 72), .inl (g 0, 9, .inl (fun _ => 0))), ((u 73), .inl (g 0, 100, .inl (a.1 0))), ((u 74), .inl (g 0, 100, .inl (a.1 1))), ((u 75), .inl (g 0, 100, .inl (a.1 2))), ((u 76), .inl (g 0, 100, .inl (a.1 3))), ((u 77), .inl (g 0, 100, .inl (a.1 4)))]) (n := 3) C (c_S_isSo l D g u (nI (20 * i + j)) a.2.1 a.2.2 (nI i) (nI (j + 1)) 5) gX5_findScales_X5_isSo rfl (by decide +kernel) ⟨Nat.le_of_ble_eq_true rfl, Nat.le_of_ble_eq_true rfl⟩ ⟨Nat.le_of_ble_eq_true rfl, Nat.le_of_ble_eq_true rfl⟩ blind_T (fun _ _ _ => trivial) hT [0] [1, 2, 3, 4, 5, 6, 7] rfl rfl rfl rfl rfl 0 rfl rfl rfl rfl hl.1 rfl (Nat.le_of_ble_eq_true rfl) dX5_findScales_24 (fun r_5 u_3 H locs hp_4 hT => ?_)
      have hT : Sit D (TY g) A s [((u 71), .inl (g 4, 9, .inr (.inr (.inr (.inr bf))))), ((u 72), .inl (g 0, 9, .inl (fun _ => 0))), ((u 73), .inl (g 0, 100, .inl (a.1 0))), ((u 74), .inl (g 0, 100, .inl (a.1 1))), ((u 75), .inl (g 0, 100, .inl (a.1 2))), ((u 76), .inl (g 0, 100, .inl (a.1 3))), ((u 77), .inl (g 0, 100, .inl (a.1 4))), ((u 5), .inr (5, [.ref (u 69), .ref (u 70), .int 0, .int (nI (20 * i + j)), .int a.2.1, .int a.2.2, .ref (u 71), .ref (u 72)]))] H _ := hT
      have hp_4 := hp_4.trans (show sS_isSo = 1 from rfl)
      subst hp_4
      refine lv_if_eq (tgt := 37) hx hb dX5_findScales_27 (by decide +kernel) (fun c9 => absurd c9 (by decide +kernel)) (fun _ => ?_)
      refine lv_aload_n hx hb dX5_findScales_30 rfl (lv_at hl 2 rfl) ?_
      refine lv_iload_n hx hb dX5_findScales_31 rfl (lv_at hl 1 rfl) ?_
      refine lv_iload_n hx hb dX5_findScales_32 rfl (lv_at hl 0 rfl) ?_
      refine lv_iload_n hx hb dX5_findScales_33 rfl (lv_at hl 3 rfl) ?_
      refine z_callVV (wr := [((u 72), .inl (g 0, 9, .inl (fun _ => 0)))]) (n := 3) C (c_S_note l D g u bf hbf a.1 (nI (20 * i + j)) a.2.1 a.2.2 i (j + 1) hi (by omega)) gX5_findScales_X5_noteScale rfl (by decide +kernel) ⟨Nat.le_of_ble_eq_true rfl, Nat.le_of_ble_eq_true rfl⟩ ⟨Nat.le_of_ble_eq_true rfl, Nat.le_of_ble_eq_true rfl⟩ blind_T (fun _ _ _ => trivial) hT [7, 0, 2, 3, 4, 5, 6] [1] rfl rfl rfl rfl rfl 7 rfl rfl rfl rfl hl.1 rfl (Nat.le_of_ble_eq_true rfl) dX5_findScales_34 (fun u_6 H locs hp_7 hT => ?_)
      have hT : Sit D (TY g) A s [((u 72), .inl (g 0, 9, .inl (fun _ => 0))), ((u 5), .inr (5, [.ref (u 69), .ref (u 70), .int 0, .int (nI (20 * i + j) + 1), .int u_6.1, .int u_6.2, .ref (u 71), .ref (u 72)])), ((u 71), .inl (g 4, 9, .inr (.inr (.inr (.inr bf))))), ((u 73), .inl (g 0, 100, .inl (upd (a.1 0) (i - 0 * (j + 1)) ((a.1 0) (i - 0 * (j + 1)) + 1)))), ((u 74), .inl (g 0, 100, .inl (upd (a.1 1) (i - 1 * (j + 1)) ((a.1 1) (i - 1 * (j + 1)) + 1)))), ((u 75), .inl (g 0, 100, .inl (upd (a.1 2) (i - 2 * (j + 1)) ((a.1 2) (i - 2 * (j + 1)) + 1)))), ((u 76), .inl (g 0, 100, .inl (upd (a.1 3) (i - 3 * (j + 1)) ((a.1 3) (i - 3 * (j + 1)) + 1)))), ((u 77), .inl (g 0, 100, .inl (upd (a.1 4) (i - 4 * (j + 1)) ((a.1 4) (i - 4 * (j + 1)) + 1))))] H _ := hT
      rw [nI_1] at hT
      have hT : Sit D (TY g) A s [((u 72), .inl (g 0, 9, .inl (fun _ => 0))), ((u 5), .inr (5, [.ref (u 69), .ref (u 70), .int 0, .int (nI (20 * i + j + 1)), .int u_6.1, .int u_6.2, .ref (u 71), .ref (u 72)])), ((u 71), .inl (g 4, 9, .inr (.inr (.inr (.inr bf))))), ((u 73), .inl (g 0, 100, .inl (upd (a.1 0) (i - 0 * (j + 1)) ((a.1 0) (i - 0 * (j + 1)) + 1)))), ((u 74), .inl (g 0, 100, .inl (upd (a.1 1) (i - 1 * (j + 1)) ((a.1 1) (i - 1 * (j + 1)) + 1)))), ((u 75), .inl (g 0, 100, .inl (upd (a.1 2) (i - 2 * (j + 1)) ((a.1 2) (i - 2 * (j + 1)) + 1)))), ((u 76), .inl (g 0, 100, .inl (upd (a.1 3) (i - 3 * (j + 1)) ((a.1 3) (i - 3 * (j + 1)) + 1)))), ((u 77), .inl (g 0, 100, .inl (upd (a.1 4) (i - 4 * (j + 1)) ((a.1 4) (i - 4 * (j + 1)) + 1))))] H _ := hT
      refine lv_iinc (v := nI ((j + 1) + 1)) (lv' := [(3, .int (nI ((j + 1) + 1))), (2, .int (nI i)), (0, .ref (u 5)), (1, .int 5)]) hx hb dX5_findScales_37 hl (k := 0) rfl (inc1 _) (by decide +kernel) rfl (fun ls hl => ?_)
      refine lv_goto (tgt := 14) hx hb dX5_findScales_40 (by decide +kernel) ?_
      exact ih ((fun z => ([upd (a.1 0) (i - 0 * (j + 1)) ((a.1 0) (i - 0 * (j + 1)) + 1), upd (a.1 1) (i - 1 * (j + 1)) ((a.1 1) (i - 1 * (j + 1)) + 1), upd (a.1 2) (i - 2 * (j + 1)) ((a.1 2) (i - 2 * (j + 1)) + 1), upd (a.1 3) (i - 3 * (j + 1)) ((a.1 3) (i - 3 * (j + 1)) + 1), upd (a.1 4) (i - 4 * (j + 1)) ((a.1 4) (i - 4 * (j + 1)) + 1)] : List (Nat → Int32)).getD z (fun _ => 0)), u_6.1, u_6.2) _ _ _ (fdI_step hi hj hI (fun k hk => by rcases (show k = 0 ∨ k = 1 ∨ k = 2 ∨ k = 3 ∨ k = 4 by omega) with rfl | rfl | rfl | rfl | rfl <;> rfl) hp_7) (hT.sub [((u 5), .inr (5, [.ref (u 69), .ref (u 70), .int 0, .int (nI (20 * i + j + 1)), .int u_6.1, .int u_6.2, .ref (u 71), .ref (u 72)])), ((u 71), .inl (g 4, 9, .inr (.inr (.inr (.inr bf))))), ((u 72), .inl (g 0, 9, .inl (fun _ => 0))), ((u 73), .inl (g 0, 100, .inl (upd (a.1 0) (i - 0 * (j + 1)) ((a.1 0) (i - 0 * (j + 1)) + 1)))), ((u 74), .inl (g 0, 100, .inl (upd (a.1 1) (i - 1 * (j + 1)) ((a.1 1) (i - 1 * (j + 1)) + 1)))), ((u 75), .inl (g 0, 100, .inl (upd (a.1 2) (i - 2 * (j + 1)) ((a.1 2) (i - 2 * (j + 1)) + 1)))), ((u 76), .inl (g 0, 100, .inl (upd (a.1 3) (i - 3 * (j + 1)) ((a.1 3) (i - 3 * (j + 1)) + 1)))), ((u 77), .inl (g 0, 100, .inl (upd (a.1 4) (i - 4 * (j + 1)) ((a.1 4) (i - 4 * (j + 1)) + 1))))] [1, 2, 0, 3, 4, 5, 6, 7] rfl rfl) (lv_sub hl [0, 1, 2, 3] rfl)
    · intro a H locs ls hI hT hl
      have hT : Sit D (TY g) A s [((u 5), .inr (5, [.ref (u 69), .ref (u 70), .int 0, .int (nI (20 * i + 20)), .int a.2.1, .int a.2.2, .ref (u 71), .ref (u 72)])), ((u 71), .inl (g 4, 9, .inr (.inr (.inr (.inr bf))))), ((u 72), .inl (g 0, 9, .inl (fun _ => 0))), ((u 73), .inl (g 0, 100, .inl (a.1 0))), ((u 74), .inl (g 0, 100, .inl (a.1 1))), ((u 75), .inl (g 0, 100, .inl (a.1 2))), ((u 76), .inl (g 0, 100, .inl (a.1 3))), ((u 77), .inl (g 0, 100, .inl (a.1 4)))] H locs := hT
      have hl : lv_has ls _ [(3, .int (nI 21)), (2, .int (nI i)), (0, .ref (u 5)), (1, .int 5)] := hl
      refine lv_iload_n hx hb dX5_findScales_14 rfl (lv_at hl 0 rfl) ?_
      refine lv_bipush (v := 20) hx hb dX5_findScales_15 (by decide +kernel) ?_
      refine lv_icmp_gt (tgt := 43) hx hb dX5_findScales_17 (by decide +kernel) (fun _ => ?_) (fun c9 => absurd (by decide +kernel) c9)
      refine lv_iinc (v := nI (i + 1)) (lv' := [(2, .int (nI (i + 1))), (3, .int (nI 21)), (0, .ref (u 5)), (1, .int 5)]) hx hb dX5_findScales_43 hl (k := 1) rfl (inc1 _) (by decide +kernel) rfl (fun ls hl => ?_)
      refine lv_goto (tgt := 6) hx hb dX5_findScales_46 (by decide +kernel) ?_
      exact ih a _ _ _ hI hT (lv_sub hl [0, 2, 3] rfl)
  · intro a H locs ls hI hT hl
    have hT : Sit D (TY g) A s [((u 5), .inr (5, [.ref (u 69), .ref (u 70), .int 0, .int (nI (20 * 100)), .int a.2.1, .int a.2.2, .ref (u 71), .ref (u 72)])), ((u 71), .inl (g 4, 9, .inr (.inr (.inr (.inr bf))))), ((u 72), .inl (g 0, 9, .inl (fun _ => 0))), ((u 73), .inl (g 0, 100, .inl (a.1 0))), ((u 74), .inl (g 0, 100, .inl (a.1 1))), ((u 75), .inl (g 0, 100, .inl (a.1 2))), ((u 76), .inl (g 0, 100, .inl (a.1 3))), ((u 77), .inl (g 0, 100, .inl (a.1 4)))] H locs := hT
    have hl : lv_has ls _ [(2, .int (nI 100)), (0, .ref (u 5)), (1, .int 5)] := hl
    obtain ⟨r, lb, lt⟩ := a
    have e2 : (lb, lt) = ((0 : Int32), (1 : Int32)) := hI.2
    cases e2
    have hT : Sit D (TY g) A s [((u 5), .inr (5, [.ref (u 69), .ref (u 70), .int 0, .int (nI 2000), .int 0, .int 1, .ref (u 71), .ref (u 72)])), ((u 71), .inl (g 4, 9, .inr (.inr (.inr (.inr bf))))), ((u 72), .inl (g 0, 9, .inl (fun _ => 0))), ((u 73), .inl (g 0, 100, .inl (r 0))), ((u 74), .inl (g 0, 100, .inl (r 1))), ((u 75), .inl (g 0, 100, .inl (r 2))), ((u 76), .inl (g 0, 100, .inl (r 3))), ((u 77), .inl (g 0, 100, .inl (r 4)))] H _ := hT
    refine lv_iload_n hx hb dX5_findScales_6 rfl (lv_at hl 0 rfl) ?_
    refine lv_bipush (v := 99) hx hb dX5_findScales_7 (by decide +kernel) ?_
    refine lv_icmp_gt (tgt := 49) hx hb dX5_findScales_9 (by decide +kernel) (fun _ => ?_) (fun c9 => absurd (by decide +kernel) c9)
    exact z_vret C rfl hT r hI.1 [0, 1, 2, 3, 4, 5, 6, 7] rfl rfl (Nat.le_of_ble_eq_true rfl) (Nat.le_of_ble_eq_true rfl) dX5_findScales_49

theorem i3_of {p0 : Int32} (h0 : ¬ p0 < 0) (h2 : ¬ 2 < p0) (n0 : ¬ p0 = 0) (n1 : ¬ p0 = 1) : p0 = 2 := by
  obtain ⟨j, hj, e⟩ := nI_of h0
  subst e
  have h3 : j ≤ 2 := by
    rcases Nat.lt_or_ge 2 j with q | q
    · exact absurd (nI_lt q hj) h2
    · exact q
  rcases (show j = 0 ∨ j = 1 ∨ j = 2 by omega) with rfl | rfl | rfl
  · exact absurd rfl n0
  · exact absurd rfl n1
  · rfl

def sP_scales (p0 : Int32) : Int32 := (if p0 < 0 then (-3) else (if p0 ≤ 2 then (if p0 = 0 then nI 2000 else (if p0 = 1 then 0 else 1)) else (-3)))
set_option maxHeartbeats 4000000 in
set_option maxRecDepth 100000 in
/-- CowardsPot.scales on a new pot -/
theorem c_P_scales (l : Launch) (D : va_G) (g : Nat → ClassId) (h0 : Nat) (u : Nat → Nat) (bf : Nat → Option Nat) (hbf : ∀ k, k < 9 → bf k = some (u (73 + k))) (p0 : Int32) : CtI l yX7_scales wsX7_scales { frames := 3, cells := 0, slots := 0, locals := 100 } D (TY g) [.ref h0, .int p0] (fun _ => True) [(h0, .inr (7, [.ref (u 0), .ref (u 1), .ref (u 2), .ref (u 3), .ref (u 4), .ref (u 5), .ref (u 6)])), ((u 1), .inr (1, [.int 5, .int 40, .int 8, .int 0, .int 0, .int 0, .ref (u 8), .ref (u 9), .ref (u 10), .ref (u 11), .ref (u 12), .ref (u 13), .ref (u 14), .ref (u 15), .ref (u 16), .ref (u 17)])), ((u 5), .inr (5, [.ref (u 69), .ref (u 70), .int 0, .int 0, .int (-1), .int (-1), .ref (u 71), .ref (u 72)])), ((u 71), .inl (g 4, 9, .inr (.inr (.inr (.inr bf))))), ((u 72), .inl (g 0, 9, .inl (fun _ => 0))), ((u 73), .inl (g 0, 100, .inl (fun _ => 0))), ((u 74), .inl (g 0, 100, .inl (fun _ => 0))), ((u 75), .inl (g 0, 100, .inl (fun _ => 0))), ((u 76), .inl (g 0, 100, .inl (fun _ => 0))), ((u 77), .inl (g 0, 100, .inl (fun _ => 0))), ((u 78), .inl (g 0, 100, .inl (fun _ => 0))), ((u 79), .inl (g 0, 100, .inl (fun _ => 0))), ((u 80), .inl (g 0, 100, .inl (fun _ => 0))), ((u 81), .inl (g 0, 100, .inl (fun _ => 0)))] (fun r (_ : Unit) => r = sP_scales p0) (fun _ => []) := by
  refine CtI.intro (cc := cX7_scales) (maxL := 2) (ret := (some .int)) rfl (by decide +kernel) (Nat.le_of_ble_eq_true rfl) ?_
  intro p e s m below meth c A ls C hmn hX hAe hT hl
  have hx := C.1.1
  have hb := C.1.2.1
  have hl : lv_has ls 2 [(0, .ref h0), (1, .int p0)] := hl
  have hin1 : ∀ w ∈ u_ws RX1 TX1 16, w ∈ wsX7_scales := by decide +kernel
  have hin5 : ∀ w ∈ u_ws RX5 TX5 8, w ∈ wsX7_scales := by decide +kernel
  have hin7 : ∀ w ∈ u_ws RX7 TX7 7, w ∈ wsX7_scales := by decide +kernel
  refine lv_iload_n hx hb dX7_scales_0 rfl (lv_at hl 1 rfl) ?_
  refine lv_if_lt (tgt := 9) hx hb dX7_scales_1 (by decide +kernel) (fun c_1 => ?_) (fun c_1 => ?_)
  · refine lv_bipush (v := (-3)) hx hb dX7_scales_9 (by decide +kernel) ?_
    exact z_iret C rfl hT () (by unfold sP_scales; rw [if_pos c_1]) [] rfl rfl (Nat.le_of_ble_eq_true rfl) (Nat.le_of_ble_eq_true rfl) dX7_scales_11
  · refine lv_iload_n hx hb dX7_scales_4 rfl (lv_at hl 1 rfl) ?_
    refine lv_iconst (v := 2) hx hb dX7_scales_5 (by decide +kernel) ?_
    refine lv_icmp_le (tgt := 12) hx hb dX7_scales_6 (by decide +kernel) (fun c_6 => ?_) (fun c_6 => ?_)
    · refine lv_aload_n hx hb dX7_scales_12 rfl (lv_at hl 0 rfl) ?_
      refine z_get C (ci := 7) (N := 7) rfl hin7 hT 0 5 rfl rfl (by decide +kernel) (by decide +kernel) dX7_scales_13 ?_
      refine lv_aload_n hx hb dX7_scales_16 rfl (lv_at hl 0 rfl) ?_
      refine z_get C (ci := 7) (N := 7) rfl hin7 hT 0 1 rfl rfl (by decide +kernel) (by decide +kernel) dX7_scales_17 ?_
      refine z_get C (ci := 1) (N := 16) rfl hin1 hT 1 0 rfl rfl (by decide +kernel) (by decide +kernel) dX7_scales_20 ?_
      refine z_callVV (wr := [(h0, .inr (7, [.ref (u 0), .ref (u 1), .ref (u 2), .ref (u 3), .ref (u 4), .ref (u 5), .ref (u 6)])), ((u 1), .inr (1, [.int 5, .int 40, .int 8, .int 0, .int 0, .int 0, .ref (u 8), .ref (u 9), .ref (u 10), .ref (u 11), .ref (u 12), .ref (u 13), .ref (u 14), .ref (u 15), .ref (u 16), .ref (u 17)]))]) (n := 1) C (c_S_find l D g u bf hbf) gX7_scales_X5_findScales rfl (by decide +kernel) ⟨Nat.le_of_ble_eq_true rfl, Nat.le_of_ble_eq_true rfl⟩ ⟨Nat.le_of_ble_eq_true rfl, Nat.le_of_ble_eq_true rfl⟩ blind_T (fun _ _ _ => trivial) hT [2, 3, 4, 5, 6, 7, 8, 9, 10, 11, 12, 13] [0, 1] rfl rfl rfl rfl rfl 2 rfl rfl rfl rfl hl.1 rfl (Nat.le_of_ble_eq_true rfl) dX7_scales_23 (fun u_1 H locs hp_2 hT => ?_)
      have hT : Sit D (TY g) A s [(h0, .inr (7, [.ref (u 0), .ref (u 1), .ref (u 2), .ref (u 3), .ref (u 4), .ref (u 5), .ref (u 6)])), ((u 1), .inr (1, [.int 5, .int 40, .int 8, .int 0, .int 0, .int 0, .ref (u 8), .ref (u 9), .ref (u 10), .ref (u 11), .ref (u 12), .ref (u 13), .ref (u 14), .ref (u 15), .ref (u 16), .ref (u 17)])), ((u 5), .inr (5, [.ref (u 69), .ref (u 70), .int 0, .int (nI 2000), .int 0, .int 1, .ref (u 71), .ref (u 72)])), ((u 71), .inl (g 4, 9, .inr (.inr (.inr (.inr bf))))), ((u 72), .inl (g 0, 9, .inl (fun _ => 0))), ((u 73), .inl (g 0, 100, .inl (u_1 0))), ((u 74), .inl (g 0, 100, .inl (u_1 1))), ((u 75), .inl (g 0, 100, .inl (u_1 2))), ((u 76), .inl (g 0, 100, .inl (u_1 3))), ((u 77), .inl (g 0, 100, .inl (u_1 4)))] H _ := hT
      refine lv_iload_n hx hb dX7_scales_26 rfl (lv_at hl 1 rfl) ?_
      by_cases c_27_0 : p0 = 0
      · refine lv_lookup (off := 25) (tgt := 52) hx hb dX7_scales_27 (by decide +kernel) (by rw [c_27_0]; decide +kernel) (by decide +kernel) ?_
        refine lv_aload_n hx hb dX7_scales_52 rfl (lv_at hl 0 rfl) ?_
        refine z_get C (ci := 7) (N := 7) rfl hin7 hT 0 5 rfl rfl (by decide +kernel) (by decide +kernel) dX7_scales_53 ?_
        refine z_get C (ci := 5) (N := 8) rfl hin5 hT 2 3 rfl rfl (by decide +kernel) (by decide +kernel) dX7_scales_56 ?_
        exact z_iret C rfl hT () (by unfold sP_scales; rw [if_neg c_1, if_pos c_6, if_pos c_27_0]) [] rfl rfl (Nat.le_of_ble_eq_true rfl) (Nat.le_of_ble_eq_true rfl) dX7_scales_59
      by_cases c_27_1 : p0 = 1
      · refine lv_lookup (off := 33) (tgt := 60) hx hb dX7_scales_27 (by decide +kernel) (by rw [c_27_1]; decide +kernel) (by decide +kernel) ?_
        refine lv_aload_n hx hb dX7_scales_60 rfl (lv_at hl 0 rfl) ?_
        refine z_get C (ci := 7) (N := 7) rfl hin7 hT 0 5 rfl rfl (by decide +kernel) (by decide +kernel) dX7_scales_61 ?_
        refine z_get C (ci := 5) (N := 8) rfl hin5 hT 2 4 rfl rfl (by decide +kernel) (by decide +kernel) dX7_scales_64 ?_
        exact z_iret C rfl hT () (by unfold sP_scales; rw [if_neg c_1, if_pos c_6, if_neg c_27_0, if_pos c_27_1]) [] rfl rfl (Nat.le_of_ble_eq_true rfl) (Nat.le_of_ble_eq_true rfl) dX7_scales_67
      have c2 : p0 = 2 := i3_of c_1 (fun q => absurd c_6 (Int32.not_le.mpr q)) c_27_0 c_27_1
      refine lv_lookup (off := 41) (tgt := 68) hx hb dX7_scales_27 (by decide +kernel) (by rw [c2]; decide +kernel) (by decide +kernel) ?_
      refine lv_aload_n hx hb dX7_scales_68 rfl (lv_at hl 0 rfl) ?_
      refine z_get C (ci := 7) (N := 7) rfl hin7 hT 0 5 rfl rfl (by decide +kernel) (by decide +kernel) dX7_scales_69 ?_
      refine z_get C (ci := 5) (N := 8) rfl hin5 hT 2 5 rfl rfl (by decide +kernel) (by decide +kernel) dX7_scales_72 ?_
      exact z_iret C rfl hT () (by unfold sP_scales; rw [if_neg c_1, if_pos c_6, if_neg c_27_0, if_neg c_27_1]) [] rfl rfl (Nat.le_of_ble_eq_true rfl) (Nat.le_of_ble_eq_true rfl) dX7_scales_75
    · refine lv_bipush (v := (-3)) hx hb dX7_scales_9 (by decide +kernel) ?_
      exact z_iret C rfl hT () (by unfold sP_scales; rw [if_neg c_1, if_neg c_6]) [] rfl rfl (Nat.le_of_ble_eq_true rfl) (Nat.le_of_ble_eq_true rfl) dX7_scales_11

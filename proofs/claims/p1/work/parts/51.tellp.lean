set_option maxRecDepth 20000 in
theorem ggX5_mostTelling_X5_findScales : GoodIn wsX5_mostTelling wsX5_findScales := goodIn_r _ [6, 7, 8, 9, 5, 10, 1, 11, 12, 13, 14, 15, 16, 17, 18, 19, 20, 21, 22, 23, 24, 25, 26, 27, 28, 29, 30, 31, 32, 37, 38, 39, 40, 41, 42, 43, 44] (by decide +kernel) (by decide +kernel)
set_option maxRecDepth 20000 in
theorem gX5_mostTelling_X5_findScales : GoodIn wsX5_mostTelling (wsV RX5 60 RX5 yX5_findScales wsX5_findScales) := goodIn_app (goodIn_of _ (by decide +kernel)) ggX5_mostTelling_X5_findScales
set_option maxRecDepth 20000 in
theorem ggX5_mostTelling_X5_mostAlike : GoodIn wsX5_mostTelling wsX5_mostAlike := goodIn_r _ [36, 13, 14, 29, 30, 31, 32, 1, 37, 38, 39, 40, 41, 42, 43, 44] (by decide +kernel) (by decide +kernel)
set_option maxRecDepth 20000 in
theorem gX5_mostTelling_X5_mostAlike : GoodIn wsX5_mostTelling (wsV RX5 64 RX5 yX5_mostAlike wsX5_mostAlike) := goodIn_app (goodIn_of _ (by decide +kernel)) ggX5_mostTelling_X5_mostAlike
theorem dX5_mostTelling_0 : decode cX5_mostTelling 0 = .ok (.aload_n 0, 1) := by decide +kernel
theorem dX5_mostTelling_1 : decode cX5_mostTelling 1 = .ok (.iload_n 1, 1) := by decide +kernel
theorem dX5_mostTelling_2 : decode cX5_mostTelling 2 = .ok (.invokevirtual 60, 3) := by decide +kernel
theorem dX5_mostTelling_5 : decode cX5_mostTelling 5 = .ok (.iconst (-1), 1) := by decide +kernel
theorem dX5_mostTelling_6 : decode cX5_mostTelling 6 = .ok (.istore_n 2, 1) := by decide +kernel
theorem dX5_mostTelling_7 : decode cX5_mostTelling 7 = .ok (.aload_n 0, 1) := by decide +kernel
theorem dX5_mostTelling_8 : decode cX5_mostTelling 8 = .ok (.getfield 22, 3) := by decide +kernel
theorem dX5_mostTelling_11 : decode cX5_mostTelling 11 = .ok (.iconst 1, 1) := by decide +kernel
theorem dX5_mostTelling_12 : decode cX5_mostTelling 12 = .ok (.iadd, 1) := by decide +kernel
theorem dX5_mostTelling_13 : decode cX5_mostTelling 13 = .ok (.istore_n 3, 1) := by decide +kernel
theorem dX5_mostTelling_14 : decode cX5_mostTelling 14 = .ok (.iconst 0, 1) := by decide +kernel
theorem dX5_mostTelling_15 : decode cX5_mostTelling 15 = .ok (.istore 4, 2) := by decide +kernel
theorem dX5_mostTelling_17 : decode cX5_mostTelling 17 = .ok (.iload 4, 2) := by decide +kernel
theorem dX5_mostTelling_19 : decode cX5_mostTelling 19 = .ok (.bipush 99, 2) := by decide +kernel
theorem dX5_mostTelling_21 : decode cX5_mostTelling 21 = .ok (.if_icmp .gt 37, 3) := by decide +kernel
theorem dX5_mostTelling_24 : decode cX5_mostTelling 24 = .ok (.aload_n 0, 1) := by decide +kernel
theorem dX5_mostTelling_25 : decode cX5_mostTelling 25 = .ok (.getfield 22, 3) := by decide +kernel
theorem dX5_mostTelling_28 : decode cX5_mostTelling 28 = .ok (.ifCond .le 30, 3) := by decide +kernel
theorem dX5_mostTelling_31 : decode cX5_mostTelling 31 = .ok (.aload_n 0, 1) := by decide +kernel
theorem dX5_mostTelling_32 : decode cX5_mostTelling 32 = .ok (.iload 4, 2) := by decide +kernel
theorem dX5_mostTelling_34 : decode cX5_mostTelling 34 = .ok (.iload_n 1, 1) := by decide +kernel
theorem dX5_mostTelling_35 : decode cX5_mostTelling 35 = .ok (.invokevirtual 64, 3) := by decide +kernel
theorem dX5_mostTelling_38 : decode cX5_mostTelling 38 = .ok (.istore 5, 2) := by decide +kernel
theorem dX5_mostTelling_40 : decode cX5_mostTelling 40 = .ok (.iload 5, 2) := by decide +kernel
theorem dX5_mostTelling_42 : decode cX5_mostTelling 42 = .ok (.iload_n 3, 1) := by decide +kernel
theorem dX5_mostTelling_43 : decode cX5_mostTelling 43 = .ok (.if_icmp .ge 9, 3) := by decide +kernel
theorem dX5_mostTelling_46 : decode cX5_mostTelling 46 = .ok (.iload 5, 2) := by decide +kernel
theorem dX5_mostTelling_48 : decode cX5_mostTelling 48 = .ok (.istore_n 3, 1) := by decide +kernel
theorem dX5_mostTelling_49 : decode cX5_mostTelling 49 = .ok (.iload 4, 2) := by decide +kernel
theorem dX5_mostTelling_51 : decode cX5_mostTelling 51 = .ok (.istore_n 2, 1) := by decide +kernel
theorem dX5_mostTelling_52 : decode cX5_mostTelling 52 = .ok (.iinc 4 1, 3) := by decide +kernel
theorem dX5_mostTelling_55 : decode cX5_mostTelling 55 = .ok (.goto (-38), 3) := by decide +kernel
theorem dX5_mostTelling_58 : decode cX5_mostTelling 58 = .ok (.iload_n 2, 1) := by decide +kernel
theorem dX5_mostTelling_59 : decode cX5_mostTelling 59 = .ok (.ireturn, 1) := by decide +kernel
theorem dX5_mostAlike_0 : decode cX5_mostAlike 0 = .ok (.iconst 0, 1) := by decide +kernel
theorem dX5_mostAlike_1 : decode cX5_mostAlike 1 = .ok (.istore_n 3, 1) := by decide +kernel
theorem dX5_mostAlike_2 : decode cX5_mostAlike 2 = .ok (.iconst 0, 1) := by decide +kernel
theorem dX5_mostAlike_3 : decode cX5_mostAlike 3 = .ok (.istore 4, 2) := by decide +kernel
theorem dX5_mostAlike_5 : decode cX5_mostAlike 5 = .ok (.iconst 0, 1) := by decide +kernel
theorem dX5_mostAlike_6 : decode cX5_mostAlike 6 = .ok (.istore 5, 2) := by decide +kernel
theorem dX5_mostAlike_8 : decode cX5_mostAlike 8 = .ok (.iload 5, 2) := by decide +kernel
theorem dX5_mostAlike_10 : decode cX5_mostAlike 10 = .ok (.iload_n 2, 1) := by decide +kernel
theorem dX5_mostAlike_11 : decode cX5_mostAlike 11 = .ok (.if_icmp .ge 59, 3) := by decide +kernel
theorem dX5_mostAlike_14 : decode cX5_mostAlike 14 = .ok (.iload 5, 2) := by decide +kernel
theorem dX5_mostAlike_16 : decode cX5_mostAlike 16 = .ok (.bipush 9, 2) := by decide +kernel
theorem dX5_mostAlike_18 : decode cX5_mostAlike 18 = .ok (.if_icmp .ge 52, 3) := by decide +kernel
theorem dX5_mostAlike_21 : decode cX5_mostAlike 21 = .ok (.aload_n 0, 1) := by decide +kernel
theorem dX5_mostAlike_22 : decode cX5_mostAlike 22 = .ok (.getfield 36, 3) := by decide +kernel
theorem dX5_mostAlike_25 : decode cX5_mostAlike 25 = .ok (.iload 5, 2) := by decide +kernel
theorem dX5_mostAlike_27 : decode cX5_mostAlike 27 = .ok (.dup2, 1) := by decide +kernel
theorem dX5_mostAlike_28 : decode cX5_mostAlike 28 = .ok (.iaload, 1) := by decide +kernel
theorem dX5_mostAlike_29 : decode cX5_mostAlike 29 = .ok (.aload_n 0, 1) := by decide +kernel
theorem dX5_mostAlike_30 : decode cX5_mostAlike 30 = .ok (.getfield 33, 3) := by decide +kernel
theorem dX5_mostAlike_33 : decode cX5_mostAlike 33 = .ok (.iload 5, 2) := by decide +kernel
theorem dX5_mostAlike_35 : decode cX5_mostAlike 35 = .ok (.aaload, 1) := by decide +kernel
theorem dX5_mostAlike_36 : decode cX5_mostAlike 36 = .ok (.iload_n 1, 1) := by decide +kernel
theorem dX5_mostAlike_37 : decode cX5_mostAlike 37 = .ok (.iaload, 1) := by decide +kernel
theorem dX5_mostAlike_38 : decode cX5_mostAlike 38 = .ok (.iadd, 1) := by decide +kernel
theorem dX5_mostAlike_39 : decode cX5_mostAlike 39 = .ok (.iastore, 1) := by decide +kernel
theorem dX5_mostAlike_40 : decode cX5_mostAlike 40 = .ok (.iload_n 3, 1) := by decide +kernel
theorem dX5_mostAlike_41 : decode cX5_mostAlike 41 = .ok (.aload_n 0, 1) := by decide +kernel
theorem dX5_mostAlike_42 : decode cX5_mostAlike 42 = .ok (.getfield 36, 3) := by decide +kernel
theorem dX5_mostAlike_45 : decode cX5_mostAlike 45 = .ok (.iload 5, 2) := by decide +kernel
theorem dX5_mostAlike_47 : decode cX5_mostAlike 47 = .ok (.iaload, 1) := by decide +kernel
theorem dX5_mostAlike_48 : decode cX5_mostAlike 48 = .ok (.iload 4, 2) := by decide +kernel
theorem dX5_mostAlike_50 : decode cX5_mostAlike 50 = .ok (.isub, 1) := by decide +kernel
theorem dX5_mostAlike_51 : decode cX5_mostAlike 51 = .ok (.invokestatic 54, 3) := by decide +kernel
theorem dX5_mostAlike_54 : decode cX5_mostAlike 54 = .ok (.istore_n 3, 1) := by decide +kernel
theorem dX5_mostAlike_55 : decode cX5_mostAlike 55 = .ok (.aload_n 0, 1) := by decide +kernel
theorem dX5_mostAlike_56 : decode cX5_mostAlike 56 = .ok (.getfield 36, 3) := by decide +kernel
theorem dX5_mostAlike_59 : decode cX5_mostAlike 59 = .ok (.iload 5, 2) := by decide +kernel
theorem dX5_mostAlike_61 : decode cX5_mostAlike 61 = .ok (.iaload, 1) := by decide +kernel
theorem dX5_mostAlike_62 : decode cX5_mostAlike 62 = .ok (.istore 4, 2) := by decide +kernel
theorem dX5_mostAlike_64 : decode cX5_mostAlike 64 = .ok (.iinc 5 1, 3) := by decide +kernel
theorem dX5_mostAlike_67 : decode cX5_mostAlike 67 = .ok (.goto (-59), 3) := by decide +kernel
theorem dX5_mostAlike_70 : decode cX5_mostAlike 70 = .ok (.iload_n 3, 1) := by decide +kernel
theorem dX5_mostAlike_71 : decode cX5_mostAlike 71 = .ok (.aload_n 0, 1) := by decide +kernel
theorem dX5_mostAlike_72 : decode cX5_mostAlike 72 = .ok (.getfield 22, 3) := by decide +kernel
theorem dX5_mostAlike_75 : decode cX5_mostAlike 75 = .ok (.iload 4, 2) := by decide +kernel
theorem dX5_mostAlike_77 : decode cX5_mostAlike 77 = .ok (.isub, 1) := by decide +kernel
theorem dX5_mostAlike_78 : decode cX5_mostAlike 78 = .ok (.invokestatic 54, 3) := by decide +kernel
theorem dX5_mostAlike_81 : decode cX5_mostAlike 81 = .ok (.ireturn, 1) := by decide +kernel
set_option maxRecDepth 20000 in
theorem ggX7_tells_X5_mostTelling : GoodIn wsX7_tells wsX5_mostTelling := goodIn_r _ [8, 9, 10, 11, 12, 7, 13, 14, 15, 16, 17, 18, 19, 20, 21, 22, 23, 24, 25, 26, 27, 28, 29, 30, 31, 32, 33, 34, 35, 36, 37, 38, 39, 40, 41, 42, 43, 67, 68, 69, 70, 71, 72, 73, 74] (by decide +kernel) (by decide +kernel)
set_option maxRecDepth 20000 in
theorem gX7_tells_X5_mostTelling : GoodIn wsX7_tells (wsV RX7 217 RX5 yX5_mostTelling wsX5_mostTelling) := goodIn_app (goodIn_of _ (by decide +kernel)) ggX7_tells_X5_mostTelling
theorem dX7_tells_0 : decode cX7_tells 0 = .ok (.aload_n 0, 1) := by decide +kernel
theorem dX7_tells_1 : decode cX7_tells 1 = .ok (.getfield 46, 3) := by decide +kernel
theorem dX7_tells_4 : decode cX7_tells 4 = .ok (.aload_n 0, 1) := by decide +kernel
theorem dX7_tells_5 : decode cX7_tells 5 = .ok (.getfield 19, 3) := by decide +kernel
theorem dX7_tells_8 : decode cX7_tells 8 = .ok (.getfield 202, 3) := by decide +kernel
theorem dX7_tells_11 : decode cX7_tells 11 = .ok (.invokevirtual 217, 3) := by decide +kernel
theorem dX7_tells_14 : decode cX7_tells 14 = .ok (.ireturn, 1) := by decide +kernel
set_option maxHeartbeats 4000000 in
set_option maxRecDepth 100000 in
/-- Sightings.mostAlike behind all scales -/
theorem c_S_alike (l : Launch) (D : va_G) (g : Nat → ClassId) (u : Nat → Nat) (bf : Nat → Option Nat) (hbf : ∀ k, k < 9 → bf k = some (u (73 + k))) (r : Nat → Nat → Int32) (hr : ∀ k, k < 5 → ∀ v, v < 100 → r k v = nI (cnt k v 2000)) (f : Nat → Int32) (t : Nat) (ht : t < 100) (hf : ∀ k, k < 5 → f k = nI (cu k t)) : CtI l yX5_mostAlike wsX5_mostAlike { frames := 1, cells := 0, slots := 0, locals := 30 } D (TY g) [.ref (u 5), .int (nI t), .int 5] (fun _ => True) [((u 5), .inr (5, [.ref (u 69), .ref (u 70), .int 0, .int (nI 2000), .int 0, .int 1, .ref (u 71), .ref (u 72)])), ((u 71), .inl (g 4, 9, .inr (.inr (.inr (.inr bf))))), ((u 72), .inl (g 0, 9, .inl f)), ((u 73), .inl (g 0, 100, .inl (r 0))), ((u 74), .inl (g 0, 100, .inl (r 1))), ((u 75), .inl (g 0, 100, .inl (r 2))), ((u 76), .inl (g 0, 100, .inl (r 3))), ((u 77), .inl (g 0, 100, .inl (r 4)))] (fun q (f : Nat → Int32) => q = nI (mxv t) ∧ ∀ k, k < 5 → f k = nI (cu k (t + 1))) (fun f => [((u 5), .inr (5, [.ref (u 69), .ref (u 70), .int 0, .int (nI 2000), .int 0, .int 1, .ref (u 71), .ref (u 72)])), ((u 71), .inl (g 4, 9, .inr (.inr (.inr (.inr bf))))), ((u 72), .inl (g 0, 9, .inl f)), ((u 73), .inl (g 0, 100, .inl (r 0))), ((u 74), .inl (g 0, 100, .inl (r 1))), ((u 75), .inl (g 0, 100, .inl (r 2))), ((u 76), .inl (g 0, 100, .inl (r 3))), ((u 77), .inl (g 0, 100, .inl (r 4)))]) := by
  refine CtI.intro (cc := cX5_mostAlike) (maxL := 6) (ret := (some .int)) rfl (by decide +kernel) (Nat.le_of_ble_eq_true rfl) ?_
  intro p e s m below meth c A ls C hmn hX hAe hT hl
  have hx := C.1.1
  have hb := C.1.2.1
  have hl : lv_has ls 6 [(0, .ref (u 5)), (1, .int (nI t)), (2, .int 5)] := hl
  have g0 := gc_le 0 t 2000
  have g1 := gc_le 1 t 2000
  have g2 := gc_le 2 t 2000
  have g3 := gc_le 3 t 2000
  have g4 := gc_le 4 t 2000
  have g5 := gc_le 5 t 2000
  have hin5 : ∀ w ∈ u_ws RX5 TX5 8, w ∈ wsX5_mostAlike := by decide +kernel
  refine lv_iconst (v := 0) hx hb dX5_mostAlike_0 (by decide +kernel) ?_
  refine lv_istore_n (lv' := [(3, .int 0), (0, .ref (u 5)), (1, .int (nI t)), (2, .int 5)]) hx hb dX5_mostAlike_1 rfl hl (by decide +kernel) rfl (fun ls hl => ?_)
  refine lv_iconst (v := 0) hx hb dX5_mostAlike_2 (by decide +kernel) ?_
  refine lv_istore (lv' := [(4, .int 0), (3, .int 0), (0, .ref (u 5)), (1, .int (nI t)), (2, .int 5)]) hx hb dX5_mostAlike_3 hl (by decide +kernel) rfl (fun ls hl => ?_)
  refine lv_iconst (v := 0) hx hb dX5_mostAlike_5 (by decide +kernel) ?_
  refine lv_istore (lv' := [(5, .int 0), (4, .int 0), (3, .int 0), (0, .ref (u 5)), (1, .int (nI t)), (2, .int 5)]) hx hb dX5_mostAlike_6 hl (by decide +kernel) rfl (fun ls hl => ?_)
  refine lv_iload hx hb dX5_mostAlike_8 (lv_at hl 0 rfl) ?_
  refine lv_iload_n hx hb dX5_mostAlike_10 rfl (lv_at hl 5 rfl) ?_
  refine lv_icmp_ge (tgt := 70) hx hb dX5_mostAlike_11 (by decide +kernel) (fun c9 => absurd c9 (by decide +kernel)) (fun _ => ?_)
  refine lv_iload hx hb dX5_mostAlike_14 (lv_at hl 0 rfl) ?_
  refine lv_bipush (v := 9) hx hb dX5_mostAlike_16 (by decide +kernel) ?_
  refine lv_icmp_ge (tgt := 70) hx hb dX5_mostAlike_18 (by decide +kernel) (fun c9 => absurd c9 (by decide +kernel)) (fun _ => ?_)
  refine lv_aload_n hx hb dX5_mostAlike_21 rfl (lv_at hl 3 rfl) ?_
  refine z_get C (ci := 5) (N := 8) rfl hin5 hT 0 7 rfl rfl (by decide +kernel) (by decide +kernel) dX5_mostAlike_22 ?_
  refine lv_iload hx hb dX5_mostAlike_25 (lv_at hl 0 rfl) ?_
  refine lv_dup2_11 hx hb dX5_mostAlike_27 rfl rfl ?_
  refine z_iald C hT 2 0 rfl rfl (vin rfl) (v := nI (cu 0 t)) (hf 0 (by decide)) dX5_mostAlike_28 ?_
  refine lv_aload_n hx hb dX5_mostAlike_29 rfl (lv_at hl 3 rfl) ?_
  refine z_get C (ci := 5) (N := 8) rfl hin5 hT 0 6 rfl rfl (by decide +kernel) (by decide +kernel) dX5_mostAlike_30 ?_
  refine lv_iload hx hb dX5_mostAlike_33 (lv_at hl 0 rfl) ?_
  refine z_aald C hT 1 4 rfl rfl rfl (vin rfl) (v := .ref (u 73)) (show va_rf (bf (0 : Int32).toNatClampNeg) = .ref (u 73) from by rw [show (0 : Int32).toNatClampNeg = 0 from by decide +kernel, hbf 0 (by decide)]; rfl) dX5_mostAlike_35 ?_
  refine lv_iload_n hx hb dX5_mostAlike_36 rfl (lv_at hl 4 rfl) ?_
  refine z_iald C hT 3 0 rfl rfl (vp_in_nI (by omega) (by decide +kernel)) (v := nI (cnt 0 t 2000)) ((congrArg _ (nI_clamp (by omega))).trans (hr 0 (by decide) t ht)) dX5_mostAlike_37 ?_
  refine lv_iadd hx hb dX5_mostAlike_38 ?_
  refine z_eq (y := nI (cu 0 (t + 1))) (nI_add _ _) ?_
  refine z_iast C hT 2 0 rfl rfl (vin rfl) dX5_mostAlike_39 (upd f 0 (nI (cu 0 (t + 1)))) rfl [((u 5), .inr (5, [.ref (u 69), .ref (u 70), .int 0, .int (nI 2000), .int 0, .int 1, .ref (u 71), .ref (u 72)])), ((u 71), .inl (g 4, 9, .inr (.inr (.inr (.inr bf))))), ((u 72), .inl (g 0, 9, .inl (upd f 0 (nI (cu 0 (t + 1)))))), ((u 73), .inl (g 0, 100, .inl (r 0))), ((u 74), .inl (g 0, 100, .inl (r 1))), ((u 75), .inl (g 0, 100, .inl (r 2))), ((u 76), .inl (g 0, 100, .inl (r 3))), ((u 77), .inl (g 0, 100, .inl (r 4)))] rfl (fun H locs hT => ?_)
  refine lv_iload_n hx hb dX5_mostAlike_40 rfl (lv_at hl 2 rfl) ?_
  refine lv_aload_n hx hb dX5_mostAlike_41 rfl (lv_at hl 3 rfl) ?_
  refine z_get C (ci := 5) (N := 8) rfl hin5 hT 0 7 rfl rfl (by decide +kernel) (by decide +kernel) dX5_mostAlike_42 ?_
  refine lv_iload hx hb dX5_mostAlike_45 (lv_at hl 0 rfl) ?_
  refine z_iald C hT 2 0 rfl rfl (vin rfl) (v := nI (cu 0 (t + 1))) (upd_ss _ _ _) dX5_mostAlike_47 ?_
  refine lv_iload hx hb dX5_mostAlike_48 (lv_at hl 1 rfl) ?_
  refine lv_isub hx hb dX5_mostAlike_50 ?_
  refine z_eq (y := nI (gc 1 t 2000)) (df0 t) ?_
  refine z_max C hl.1 (by decide +kernel) (by decide +kernel) (by decide +kernel) (by decide +kernel) (Nat.le_of_ble_eq_true rfl) (Nat.le_of_ble_eq_true rfl) (Nat.le_of_ble_eq_true rfl) (Nat.le_of_ble_eq_true rfl) (v := nI (gc 1 t 2000)) (mx0 (by omega)) dX5_mostAlike_51 ?_
  refine lv_istore_n (lv' := [(3, .int (nI (gc 1 t 2000))), (5, .int 0), (4, .int 0), (0, .ref (u 5)), (1, .int (nI t)), (2, .int 5)]) hx hb dX5_mostAlike_54 rfl hl (by decide +kernel) rfl (fun ls hl => ?_)
  refine lv_aload_n hx hb dX5_mostAlike_55 rfl (lv_at hl 3 rfl) ?_
  refine z_get C (ci := 5) (N := 8) rfl hin5 hT 0 7 rfl rfl (by decide +kernel) (by decide +kernel) dX5_mostAlike_56 ?_
  refine lv_iload hx hb dX5_mostAlike_59 (lv_at hl 1 rfl) ?_
  refine z_iald C hT 2 0 rfl rfl (vin rfl) (v := nI (cu 0 (t + 1))) (upd_ss _ _ _) dX5_mostAlike_61 ?_
  refine lv_istore (lv' := [(4, .int (nI (cu 0 (t + 1)))), (3, .int (nI (gc 1 t 2000))), (5, .int 0), (0, .ref (u 5)), (1, .int (nI t)), (2, .int 5)]) hx hb dX5_mostAlike_62 hl (by decide +kernel) rfl (fun ls hl => ?_)
  refine lv_iinc (v := 1) (lv' := [(5, .int 1), (4, .int (nI (cu 0 (t + 1)))), (3, .int (nI (gc 1 t 2000))), (0, .ref (u 5)), (1, .int (nI t)), (2, .int 5)]) hx hb dX5_mostAlike_64 hl (k := 2) rfl (by decide +kernel) (by decide +kernel) rfl (fun ls hl => ?_)
  refine lv_goto (tgt := 8) hx hb dX5_mostAlike_67 (by decide +kernel) ?_
  refine lv_iload hx hb dX5_mostAlike_8 (lv_at hl 0 rfl) ?_
  refine lv_iload_n hx hb dX5_mostAlike_10 rfl (lv_at hl 5 rfl) ?_
  refine lv_icmp_ge (tgt := 70) hx hb dX5_mostAlike_11 (by decide +kernel) (fun c9 => absurd c9 (by decide +kernel)) (fun _ => ?_)
  refine lv_iload hx hb dX5_mostAlike_14 (lv_at hl 0 rfl) ?_
  refine lv_bipush (v := 9) hx hb dX5_mostAlike_16 (by decide +kernel) ?_
  refine lv_icmp_ge (tgt := 70) hx hb dX5_mostAlike_18 (by decide +kernel) (fun c9 => absurd c9 (by decide +kernel)) (fun _ => ?_)
  refine lv_aload_n hx hb dX5_mostAlike_21 rfl (lv_at hl 3 rfl) ?_
  refine z_get C (ci := 5) (N := 8) rfl hin5 hT 0 7 rfl rfl (by decide +kernel) (by decide +kernel) dX5_mostAlike_22 ?_
  refine lv_iload hx hb dX5_mostAlike_25 (lv_at hl 0 rfl) ?_
  refine lv_dup2_11 hx hb dX5_mostAlike_27 rfl rfl ?_
  refine z_iald C hT 2 0 rfl rfl (vin rfl) (v := nI (cu 1 t)) ((upd_no _ (by decide)).trans (hf 1 (by decide))) dX5_mostAlike_28 ?_
  refine lv_aload_n hx hb dX5_mostAlike_29 rfl (lv_at hl 3 rfl) ?_
  refine z_get C (ci := 5) (N := 8) rfl hin5 hT 0 6 rfl rfl (by decide +kernel) (by decide +kernel) dX5_mostAlike_30 ?_
  refine lv_iload hx hb dX5_mostAlike_33 (lv_at hl 0 rfl) ?_
  refine z_aald C hT 1 4 rfl rfl rfl (vin rfl) (v := .ref (u 74)) (show va_rf (bf (1 : Int32).toNatClampNeg) = .ref (u 74) from by rw [show (1 : Int32).toNatClampNeg = 1 from by decide +kernel, hbf 1 (by decide)]; rfl) dX5_mostAlike_35 ?_
  refine lv_iload_n hx hb dX5_mostAlike_36 rfl (lv_at hl 4 rfl) ?_
  refine z_iald C hT 4 0 rfl rfl (vp_in_nI (by omega) (by decide +kernel)) (v := nI (cnt 1 t 2000)) ((congrArg _ (nI_clamp (by omega))).trans (hr 1 (by decide) t ht)) dX5_mostAlike_37 ?_
  refine lv_iadd hx hb dX5_mostAlike_38 ?_
  refine z_eq (y := nI (cu 1 (t + 1))) (nI_add _ _) ?_
  refine z_iast C hT 2 0 rfl rfl (vin rfl) dX5_mostAlike_39 (upd (upd f 0 (nI (cu 0 (t + 1)))) 1 (nI (cu 1 (t + 1)))) rfl [((u 5), .inr (5, [.ref (u 69), .ref (u 70), .int 0, .int (nI 2000), .int 0, .int 1, .ref (u 71), .ref (u 72)])), ((u 71), .inl (g 4, 9, .inr (.inr (.inr (.inr bf))))), ((u 72), .inl (g 0, 9, .inl (upd (upd f 0 (nI (cu 0 (t + 1)))) 1 (nI (cu 1 (t + 1)))))), ((u 73), .inl (g 0, 100, .inl (r 0))), ((u 74), .inl (g 0, 100, .inl (r 1))), ((u 75), .inl (g 0, 100, .inl (r 2))), ((u 76), .inl (g 0, 100, .inl (r 3))), ((u 77), .inl (g 0, 100, .inl (r 4)))] rfl (fun H locs hT => ?_)
  refine lv_iload_n hx hb dX5_mostAlike_40 rfl (lv_at hl 2 rfl) ?_
  refine lv_aload_n hx hb dX5_mostAlike_41 rfl (lv_at hl 3 rfl) ?_
  refine z_get C (ci := 5) (N := 8) rfl hin5 hT 0 7 rfl rfl (by decide +kernel) (by decide +kernel) dX5_mostAlike_42 ?_
  refine lv_iload hx hb dX5_mostAlike_45 (lv_at hl 0 rfl) ?_
  refine z_iald C hT 2 0 rfl rfl (vin rfl) (v := nI (cu 1 (t + 1))) (upd_ss _ _ _) dX5_mostAlike_47 ?_
  refine lv_iload hx hb dX5_mostAlike_48 (lv_at hl 1 rfl) ?_
  refine lv_isub hx hb dX5_mostAlike_50 ?_
  refine z_eq (y := nI (gc 2 t 2000)) (df1 t) ?_
  refine z_max C hl.1 (by decide +kernel) (by decide +kernel) (by decide +kernel) (by decide +kernel) (Nat.le_of_ble_eq_true rfl) (Nat.le_of_ble_eq_true rfl) (Nat.le_of_ble_eq_true rfl) (Nat.le_of_ble_eq_true rfl) (v := nI (max (gc 1 t 2000) (gc 2 t 2000))) (mxN (by omega) (by omega)) dX5_mostAlike_51 ?_
  refine lv_istore_n (lv' := [(3, .int (nI (max (gc 1 t 2000) (gc 2 t 2000)))), (5, .int 1), (4, .int (nI (cu 0 (t + 1)))), (0, .ref (u 5)), (1, .int (nI t)), (2, .int 5)]) hx hb dX5_mostAlike_54 rfl hl (by decide +kernel) rfl (fun ls hl => ?_)
  refine lv_aload_n hx hb dX5_mostAlike_55 rfl (lv_at hl 3 rfl) ?_
  refine z_get C (ci := 5) (N := 8) rfl hin5 hT 0 7 rfl rfl (by decide +kernel) (by decide +kernel) dX5_mostAlike_56 ?_
  refine lv_iload hx hb dX5_mostAlike_59 (lv_at hl 1 rfl) ?_
  refine z_iald C hT 2 0 rfl rfl (vin rfl) (v := nI (cu 1 (t + 1))) (upd_ss _ _ _) dX5_mostAlike_61 ?_
  refine lv_istore (lv' := [(4, .int (nI (cu 1 (t + 1)))), (3, .int (nI (max (gc 1 t 2000) (gc 2 t 2000)))), (5, .int 1), (0, .ref (u 5)), (1, .int (nI t)), (2, .int 5)]) hx hb dX5_mostAlike_62 hl (by decide +kernel) rfl (fun ls hl => ?_)
  refine lv_iinc (v := 2) (lv' := [(5, .int 2), (4, .int (nI (cu 1 (t + 1)))), (3, .int (nI (max (gc 1 t 2000) (gc 2 t 2000)))), (0, .ref (u 5)), (1, .int (nI t)), (2, .int 5)]) hx hb dX5_mostAlike_64 hl (k := 2) rfl (by decide +kernel) (by decide +kernel) rfl (fun ls hl => ?_)
  refine lv_goto (tgt := 8) hx hb dX5_mostAlike_67 (by decide +kernel) ?_
  refine lv_iload hx hb dX5_mostAlike_8 (lv_at hl 0 rfl) ?_
  refine lv_iload_n hx hb dX5_mostAlike_10 rfl (lv_at hl 5 rfl) ?_
  refine lv_icmp_ge (tgt := 70) hx hb dX5_mostAlike_11 (by decide +kernel) (fun c9 => absurd c9 (by decide +kernel)) (fun _ => ?_)
  refine lv_iload hx hb dX5_mostAlike_14 (lv_at hl 0 rfl) ?_
  refine lv_bipush (v := 9) hx hb dX5_mostAlike_16 (by decide +kernel) ?_
  refine lv_icmp_ge (tgt := 70) hx hb dX5_mostAlike_18 (by decide +kernel) (fun c9 => absurd c9 (by decide +kernel)) (fun _ => ?_)
  refine lv_aload_n hx hb dX5_mostAlike_21 rfl (lv_at hl 3 rfl) ?_
  refine z_get C (ci := 5) (N := 8) rfl hin5 hT 0 7 rfl rfl (by decide +kernel) (by decide +kernel) dX5_mostAlike_22 ?_
  refine lv_iload hx hb dX5_mostAlike_25 (lv_at hl 0 rfl) ?_
  refine lv_dup2_11 hx hb dX5_mostAlike_27 rfl rfl ?_
  refine z_iald C hT 2 0 rfl rfl (vin rfl) (v := nI (cu 2 t)) ((upd_no _ (by decide)).trans ((upd_no _ (by decide)).trans (hf 2 (by decide)))) dX5_mostAlike_28 ?_
  refine lv_aload_n hx hb dX5_mostAlike_29 rfl (lv_at hl 3 rfl) ?_
  refine z_get C (ci := 5) (N := 8) rfl hin5 hT 0 6 rfl rfl (by decide +kernel) (by decide +kernel) dX5_mostAlike_30 ?_
  refine lv_iload hx hb dX5_mostAlike_33 (lv_at hl 0 rfl) ?_
  refine z_aald C hT 1 4 rfl rfl rfl (vin rfl) (v := .ref (u 75)) (show va_rf (bf (2 : Int32).toNatClampNeg) = .ref (u 75) from by rw [show (2 : Int32).toNatClampNeg = 2 from by decide +kernel, hbf 2 (by decide)]; rfl) dX5_mostAlike_35 ?_
  refine lv_iload_n hx hb dX5_mostAlike_36 rfl (lv_at hl 4 rfl) ?_
  refine z_iald C hT 5 0 rfl rfl (vp_in_nI (by omega) (by decide +kernel)) (v := nI (cnt 2 t 2000)) ((congrArg _ (nI_clamp (by omega))).trans (hr 2 (by decide) t ht)) dX5_mostAlike_37 ?_
  refine lv_iadd hx hb dX5_mostAlike_38 ?_
  refine z_eq (y := nI (cu 2 (t + 1))) (nI_add _ _) ?_
  refine z_iast C hT 2 0 rfl rfl (vin rfl) dX5_mostAlike_39 (upd (upd (upd f 0 (nI (cu 0 (t + 1)))) 1 (nI (cu 1 (t + 1)))) 2 (nI (cu 2 (t + 1)))) rfl [((u 5), .inr (5, [.ref (u 69), .ref (u 70), .int 0, .int (nI 2000), .int 0, .int 1, .ref (u 71), .ref (u 72)])), ((u 71), .inl (g 4, 9, .inr (.inr (.inr (.inr bf))))), ((u 72), .inl (g 0, 9, .inl (upd (upd (upd f 0 (nI (cu 0 (t + 1)))) 1 (nI (cu 1 (t + 1)))) 2 (nI (cu 2 (t + 1)))))), ((u 73), .inl (g 0, 100, .inl (r 0))), ((u 74), .inl (g 0, 100, .inl (r 1))), ((u 75), .inl (g 0, 100, .inl (r 2))), ((u 76), .inl (g 0, 100, .inl (r 3))), ((u 77), .inl (g 0, 100, .inl (r 4)))] rfl (fun H locs hT => ?_)
  refine lv_iload_n hx hb dX5_mostAlike_40 rfl (lv_at hl 2 rfl) ?_
  refine lv_aload_n hx hb dX5_mostAlike_41 rfl (lv_at hl 3 rfl) ?_
  refine z_get C (ci := 5) (N := 8) rfl hin5 hT 0 7 rfl rfl (by decide +kernel) (by decide +kernel) dX5_mostAlike_42 ?_
  refine lv_iload hx hb dX5_mostAlike_45 (lv_at hl 0 rfl) ?_
  refine z_iald C hT 2 0 rfl rfl (vin rfl) (v := nI (cu 2 (t + 1))) (upd_ss _ _ _) dX5_mostAlike_47 ?_
  refine lv_iload hx hb dX5_mostAlike_48 (lv_at hl 1 rfl) ?_
  refine lv_isub hx hb dX5_mostAlike_50 ?_
  refine z_eq (y := nI (gc 3 t 2000)) (df2 t) ?_
  refine z_max C hl.1 (by decide +kernel) (by decide +kernel) (by decide +kernel) (by decide +kernel) (Nat.le_of_ble_eq_true rfl) (Nat.le_of_ble_eq_true rfl) (Nat.le_of_ble_eq_true rfl) (Nat.le_of_ble_eq_true rfl) (v := nI (max (max (gc 1 t 2000) (gc 2 t 2000)) (gc 3 t 2000))) (mxN (by omega) (by omega)) dX5_mostAlike_51 ?_
  refine lv_istore_n (lv' := [(3, .int (nI (max (max (gc 1 t 2000) (gc 2 t 2000)) (gc 3 t 2000)))), (5, .int 2), (4, .int (nI (cu 1 (t + 1)))), (0, .ref (u 5)), (1, .int (nI t)), (2, .int 5)]) hx hb dX5_mostAlike_54 rfl hl (by decide +kernel) rfl (fun ls hl => ?_)
  refine lv_aload_n hx hb dX5_mostAlike_55 rfl (lv_at hl 3 rfl) ?_
  refine z_get C (ci := 5) (N := 8) rfl hin5 hT 0 7 rfl rfl (by decide +kernel) (by decide +kernel) dX5_mostAlike_56 ?_
  refine lv_iload hx hb dX5_mostAlike_59 (lv_at hl 1 rfl) ?_
  refine z_iald C hT 2 0 rfl rfl (vin rfl) (v := nI (cu 2 (t + 1))) (upd_ss _ _ _) dX5_mostAlike_61 ?_
  refine lv_istore (lv' := [(4, .int (nI (cu 2 (t + 1)))), (3, .int (nI (max (max (gc 1 t 2000) (gc 2 t 2000)) (gc 3 t 2000)))), (5, .int 2), (0, .ref (u 5)), (1, .int (nI t)), (2, .int 5)]) hx hb dX5_mostAlike_62 hl (by decide +kernel) rfl (fun ls hl => ?_)
  refine lv_iinc (v := 3) (lv' := [(5, .int 3), (4, .int (nI (cu 2 (t + 1)))), (3, .int (nI (max (max (gc 1 t 2000) (gc 2 t 2000)) (gc 3 t 2000)))), (0, .ref (u 5)), (1, .int (nI t)), (2, .int 5)]) hx hb dX5_mostAlike_64 hl (k := 2) rfl (by decide +kernel) (by decide +kernel) rfl (fun ls hl => ?_)
  refine lv_goto (tgt := 8) hx hb dX5_mostAlike_67 (by decide +kernel) ?_
  refine lv_iload hx hb dX5_mostAlike_8 (lv_at hl 0 rfl) ?_
  refine lv_iload_n hx hb dX5_mostAlike_10 rfl (lv_at hl 5 rfl) ?_
  refine lv_icmp_ge (tgt := 70) hx hb dX5_mostAlike_11 (by decide +kernel) (fun c9 => absurd c9 (by decide +kernel)) (fun _ => ?_)
  refine lv_iload hx hb dX5_mostAlike_14 (lv_at hl 0 rfl) ?_
  refine lv_bipush (v := 9) hx hb dX5_mostAlike_16 (by decide +kernel) ?_
  refine lv_icmp_ge (tgt := 70) hx hb dX5_mostAlike_18 (by decide +kernel) (fun c9 => absurd c9 (by decide +kernel)) (fun _ => ?_)
  refine lv_aload_n hx hb dX5_mostAlike_21 rfl (lv_at hl 3 rfl) ?_
  refine z_get C (ci := 5) (N := 8) rfl hin5 hT 0 7 rfl rfl (by decide +kernel) (by decide +kernel) dX5_mostAlike_22 ?_
  refine lv_iload hx hb dX5_mostAlike_25 (lv_at hl 0 rfl) ?_
  refine lv_dup2_11 hx hb dX5_mostAlike_27 rfl rfl ?_
  refine z_iald C hT 2 0 rfl rfl (vin rfl) (v := nI (cu 3 t)) ((upd_no _ (by decide)).trans ((upd_no _ (by decide)).trans ((upd_no _ (by decide)).trans (hf 3 (by decide))))) dX5_mostAlike_28 ?_
  refine lv_aload_n hx hb dX5_mostAlike_29 rfl (lv_at hl 3 rfl) ?_
  refine z_get C (ci := 5) (N := 8) rfl hin5 hT 0 6 rfl rfl (by decide +kernel) (by decide +kernel) dX5_mostAlike_30 ?_
  refine lv_iload hx hb dX5_mostAlike_33 (lv_at hl 0 rfl) ?_
  refine z_aald C hT 1 4 rfl rfl rfl (vin rfl) (v := .ref (u 76)) (show va_rf (bf (3 : Int32).toNatClampNeg) = .ref (u 76) from by rw [show (3 : Int32).toNatClampNeg = 3 from by decide +kernel, hbf 3 (by decide)]; rfl) dX5_mostAlike_35 ?_
  refine lv_iload_n hx hb dX5_mostAlike_36 rfl (lv_at hl 4 rfl) ?_
  refine z_iald C hT 6 0 rfl rfl (vp_in_nI (by omega) (by decide +kernel)) (v := nI (cnt 3 t 2000)) ((congrArg _ (nI_clamp (by omega))).trans (hr 3 (by decide) t ht)) dX5_mostAlike_37 ?_
  refine lv_iadd hx hb dX5_mostAlike_38 ?_
  refine z_eq (y := nI (cu 3 (t + 1))) (nI_add _ _) ?_
  refine z_iast C hT 2 0 rfl rfl (vin rfl) dX5_mostAlike_39 (upd (upd (upd (upd f 0 (nI (cu 0 (t + 1)))) 1 (nI (cu 1 (t + 1)))) 2 (nI (cu 2 (t + 1)))) 3 (nI (cu 3 (t + 1)))) rfl [((u 5), .inr (5, [.ref (u 69), .ref (u 70), .int 0, .int (nI 2000), .int 0, .int 1, .ref (u 71), .ref (u 72)])), ((u 71), .inl (g 4, 9, .inr (.inr (.inr (.inr bf))))), ((u 72), .inl (g 0, 9, .inl (upd (upd (upd (upd f 0 (nI (cu 0 (t + 1)))) 1 (nI (cu 1 (t + 1)))) 2 (nI (cu 2 (t + 1)))) 3 (nI (cu 3 (t + 1)))))), ((u 73), .inl (g 0, 100, .inl (r 0))), ((u 74), .inl (g 0, 100, .inl (r 1))), ((u 75), .inl (g 0, 100, .inl (r 2))), ((u 76), .inl (g 0, 100, .inl (r 3))), ((u 77), .inl (g 0, 100, .inl (r 4)))] rfl (fun H locs hT => ?_)
  refine lv_iload_n hx hb dX5_mostAlike_40 rfl (lv_at hl 2 rfl) ?_
  refine lv_aload_n hx hb dX5_mostAlike_41 rfl (lv_at hl 3 rfl) ?_
  refine z_get C (ci := 5) (N := 8) rfl hin5 hT 0 7 rfl rfl (by decide +kernel) (by decide +kernel) dX5_mostAlike_42 ?_
  refine lv_iload hx hb dX5_mostAlike_45 (lv_at hl 0 rfl) ?_
  refine z_iald C hT 2 0 rfl rfl (vin rfl) (v := nI (cu 3 (t + 1))) (upd_ss _ _ _) dX5_mostAlike_47 ?_
  refine lv_iload hx hb dX5_mostAlike_48 (lv_at hl 1 rfl) ?_
  refine lv_isub hx hb dX5_mostAlike_50 ?_
  refine z_eq (y := nI (gc 4 t 2000)) (df3 t) ?_
  refine z_max C hl.1 (by decide +kernel) (by decide +kernel) (by decide +kernel) (by decide +kernel) (Nat.le_of_ble_eq_true rfl) (Nat.le_of_ble_eq_true rfl) (Nat.le_of_ble_eq_true rfl) (Nat.le_of_ble_eq_true rfl) (v := nI (max (max (max (gc 1 t 2000) (gc 2 t 2000)) (gc 3 t 2000)) (gc 4 t 2000))) (mxN (by omega) (by omega)) dX5_mostAlike_51 ?_
  refine lv_istore_n (lv' := [(3, .int (nI (max (max (max (gc 1 t 2000) (gc 2 t 2000)) (gc 3 t 2000)) (gc 4 t 2000)))), (5, .int 3), (4, .int (nI (cu 2 (t + 1)))), (0, .ref (u 5)), (1, .int (nI t)), (2, .int 5)]) hx hb dX5_mostAlike_54 rfl hl (by decide +kernel) rfl (fun ls hl => ?_)
  refine lv_aload_n hx hb dX5_mostAlike_55 rfl (lv_at hl 3 rfl) ?_
  refine z_get C (ci := 5) (N := 8) rfl hin5 hT 0 7 rfl rfl (by decide +kernel) (by decide +kernel) dX5_mostAlike_56 ?_
  refine lv_iload hx hb dX5_mostAlike_59 (lv_at hl 1 rfl) ?_
  refine z_iald C hT 2 0 rfl rfl (vin rfl) (v := nI (cu 3 (t + 1))) (upd_ss _ _ _) dX5_mostAlike_61 ?_
  refine lv_istore (lv' := [(4, .int (nI (cu 3 (t + 1)))), (3, .int (nI (max (max (max (gc 1 t 2000) (gc 2 t 2000)) (gc 3 t 2000)) (gc 4 t 2000)))), (5, .int 3), (0, .ref (u 5)), (1, .int (nI t)), (2, .int 5)]) hx hb dX5_mostAlike_62 hl (by decide +kernel) rfl (fun ls hl => ?_)
  refine lv_iinc (v := 4) (lv' := [(5, .int 4), (4, .int (nI (cu 3 (t + 1)))), (3, .int (nI (max (max (max (gc 1 t 2000) (gc 2 t 2000)) (gc 3 t 2000)) (gc 4 t 2000)))), (0, .ref (u 5)), (1, .int (nI t)), (2, .int 5)]) hx hb dX5_mostAlike_64 hl (k := 2) rfl (by decide +kernel) (by decide +kernel) rfl (fun ls hl => ?_)
  refine lv_goto (tgt := 8) hx hb dX5_mostAlike_67 (by decide +kernel) ?_
  refine lv_iload hx hb dX5_mostAlike_8 (lv_at hl 0 rfl) ?_
  refine lv_iload_n hx hb dX5_mostAlike_10 rfl (lv_at hl 5 rfl) ?_
  refine lv_icmp_ge (tgt := 70) hx hb dX5_mostAlike_11 (by decide +kernel) (fun c9 => absurd c9 (by decide +kernel)) (fun _ => ?_)
  refine lv_iload hx hb dX5_mostAlike_14 (lv_at hl 0 rfl) ?_
  refine lv_bipush (v := 9) hx hb dX5_mostAlike_16 (by decide +kernel) ?_
  refine lv_icmp_ge (tgt := 70) hx hb dX5_mostAlike_18 (by decide +kernel) (fun c9 => absurd c9 (by decide +kernel)) (fun _ => ?_)
  refine lv_aload_n hx hb dX5_mostAlike_21 rfl (lv_at hl 3 rfl) ?_
  refine z_get C (ci := 5) (N := 8) rfl hin5 hT 0 7 rfl rfl (by decide +kernel) (by decide +kernel) dX5_mostAlike_22 ?_
  refine lv_iload hx hb dX5_mostAlike_25 (lv_at hl 0 rfl) ?_
  refine lv_dup2_11 hx hb dX5_mostAlike_27 rfl rfl ?_
  refine z_iald C hT 2 0 rfl rfl (vin rfl) (v := nI (cu 4 t)) ((upd_no _ (by decide)).trans ((upd_no _ (by decide)).trans ((upd_no _ (by decide)).trans ((upd_no _ (by decide)).trans (hf 4 (by decide)))))) dX5_mostAlike_28 ?_
  refine lv_aload_n hx hb dX5_mostAlike_29 rfl (lv_at hl 3 rfl) ?_
  refine z_get C (ci := 5) (N := 8) rfl hin5 hT 0 6 rfl rfl (by decide +kernel) (by decide +kernel) dX5_mostAlike_30 ?_
  refine lv_iload hx hb dX5_mostAlike_33 (lv_at hl 0 rfl) ?_
  refine z_aald C hT 1 4 rfl rfl rfl (vin rfl) (v := .ref (u 77)) (show va_rf (bf (4 : Int32).toNatClampNeg) = .ref (u 77) from by rw [show (4 : Int32).toNatClampNeg = 4 from by decide +kernel, hbf 4 (by decide)]; rfl) dX5_mostAlike_35 ?_
  refine lv_iload_n hx hb dX5_mostAlike_36 rfl (lv_at hl 4 rfl) ?_
  refine z_iald C hT 7 0 rfl rfl (vp_in_nI (by omega) (by decide +kernel)) (v := nI (cnt 4 t 2000)) ((congrArg _ (nI_clamp (by omega))).trans (hr 4 (by decide) t ht)) dX5_mostAlike_37 ?_
  refine lv_iadd hx hb dX5_mostAlike_38 ?_
  refine z_eq (y := nI (cu 4 (t + 1))) (nI_add _ _) ?_
  refine z_iast C hT 2 0 rfl rfl (vin rfl) dX5_mostAlike_39 (upd (upd (upd (upd (upd f 0 (nI (cu 0 (t + 1)))) 1 (nI (cu 1 (t + 1)))) 2 (nI (cu 2 (t + 1)))) 3 (nI (cu 3 (t + 1)))) 4 (nI (cu 4 (t + 1)))) rfl [((u 5), .inr (5, [.ref (u 69), .ref (u 70), .int 0, .int (nI 2000), .int 0, .int 1, .ref (u 71), .ref (u 72)])), ((u 71), .inl (g 4, 9, .inr (.inr (.inr (.inr bf))))), ((u 72), .inl (g 0, 9, .inl (upd (upd (upd (upd (upd f 0 (nI (cu 0 (t + 1)))) 1 (nI (cu 1 (t + 1)))) 2 (nI (cu 2 (t + 1)))) 3 (nI (cu 3 (t + 1)))) 4 (nI (cu 4 (t + 1)))))), ((u 73), .inl (g 0, 100, .inl (r 0))), ((u 74), .inl (g 0, 100, .inl (r 1))), ((u 75), .inl (g 0, 100, .inl (r 2))), ((u 76), .inl (g 0, 100, .inl (r 3))), ((u 77), .inl (g 0, 100, .inl (r 4)))] rfl (fun H locs hT => ?_)
  refine lv_iload_n hx hb dX5_mostAlike_40 rfl (lv_at hl 2 rfl) ?_
  refine lv_aload_n hx hb dX5_mostAlike_41 rfl (lv_at hl 3 rfl) ?_
  refine z_get C (ci := 5) (N := 8) rfl hin5 hT 0 7 rfl rfl (by decide +kernel) (by decide +kernel) dX5_mostAlike_42 ?_
  refine lv_iload hx hb dX5_mostAlike_45 (lv_at hl 0 rfl) ?_
  refine z_iald C hT 2 0 rfl rfl (vin rfl) (v := nI (cu 4 (t + 1))) (upd_ss _ _ _) dX5_mostAlike_47 ?_
  refine lv_iload hx hb dX5_mostAlike_48 (lv_at hl 1 rfl) ?_
  refine lv_isub hx hb dX5_mostAlike_50 ?_
  refine z_eq (y := nI (gc 5 t 2000)) (df4 t) ?_
  refine z_max C hl.1 (by decide +kernel) (by decide +kernel) (by decide +kernel) (by decide +kernel) (Nat.le_of_ble_eq_true rfl) (Nat.le_of_ble_eq_true rfl) (Nat.le_of_ble_eq_true rfl) (Nat.le_of_ble_eq_true rfl) (v := nI (max (max (max (max (gc 1 t 2000) (gc 2 t 2000)) (gc 3 t 2000)) (gc 4 t 2000)) (gc 5 t 2000))) (mxN (by omega) (by omega)) dX5_mostAlike_51 ?_
  refine lv_istore_n (lv' := [(3, .int (nI (max (max (max (max (gc 1 t 2000) (gc 2 t 2000)) (gc 3 t 2000)) (gc 4 t 2000)) (gc 5 t 2000)))), (5, .int 4), (4, .int (nI (cu 3 (t + 1)))), (0, .ref (u 5)), (1, .int (nI t)), (2, .int 5)]) hx hb dX5_mostAlike_54 rfl hl (by decide +kernel) rfl (fun ls hl => ?_)
  refine lv_aload_n hx hb dX5_mostAlike_55 rfl (lv_at hl 3 rfl) ?_
  refine z_get C (ci := 5) (N := 8) rfl hin5 hT 0 7 rfl rfl (by decide +kernel) (by decide +kernel) dX5_mostAlike_56 ?_
  refine lv_iload hx hb dX5_mostAlike_59 (lv_at hl 1 rfl) ?_
  refine z_iald C hT 2 0 rfl rfl (vin rfl) (v := nI (cu 4 (t + 1))) (upd_ss _ _ _) dX5_mostAlike_61 ?_
  refine lv_istore (lv' := [(4, .int (nI (cu 4 (t + 1)))), (3, .int (nI (max (max (max (max (gc 1 t 2000) (gc 2 t 2000)) (gc 3 t 2000)) (gc 4 t 2000)) (gc 5 t 2000)))), (5, .int 4), (0, .ref (u 5)), (1, .int (nI t)), (2, .int 5)]) hx hb dX5_mostAlike_62 hl (by decide +kernel) rfl (fun ls hl => ?_)
  refine lv_iinc (v := 5) (lv' := [(5, .int 5), (4, .int (nI (cu 4 (t + 1)))), (3, .int (nI (max (max (max (max (gc 1 t 2000) (gc 2 t 2000)) (gc 3 t 2000)) (gc 4 t 2000)) (gc 5 t 2000)))), (0, .ref (u 5)), (1, .int (nI t)), (2, .int 5)]) hx hb dX5_mostAlike_64 hl (k := 2) rfl (by decide +kernel) (by decide +kernel) rfl (fun ls hl => ?_)
  refine lv_goto (tgt := 8) hx hb dX5_mostAlike_67 (by decide +kernel) ?_
  refine lv_iload hx hb dX5_mostAlike_8 (lv_at hl 0 rfl) ?_
  refine lv_iload_n hx hb dX5_mostAlike_10 rfl (lv_at hl 5 rfl) ?_
  refine lv_icmp_ge (tgt := 70) hx hb dX5_mostAlike_11 (by decide +kernel) (fun _ => ?_) (fun c9 => absurd (by decide +kernel) c9)
  refine lv_iload_n hx hb dX5_mostAlike_70 rfl (lv_at hl 2 rfl) ?_
  refine lv_aload_n hx hb dX5_mostAlike_71 rfl (lv_at hl 3 rfl) ?_
  refine z_get C (ci := 5) (N := 8) rfl hin5 hT 0 3 rfl rfl (by decide +kernel) (by decide +kernel) dX5_mostAlike_72 ?_
  refine lv_iload hx hb dX5_mostAlike_75 (lv_at hl 1 rfl) ?_
  refine lv_isub hx hb dX5_mostAlike_77 ?_
  refine z_eq (y := nI (gc 0 t 2000)) (df5 t) ?_
  refine z_max C hl.1 (by decide +kernel) (by decide +kernel) (by decide +kernel) (by decide +kernel) (Nat.le_of_ble_eq_true rfl) (Nat.le_of_ble_eq_true rfl) (Nat.le_of_ble_eq_true rfl) (Nat.le_of_ble_eq_true rfl) (v := nI (max (max (max (max (max (gc 1 t 2000) (gc 2 t 2000)) (gc 3 t 2000)) (gc 4 t 2000)) (gc 5 t 2000)) (gc 0 t 2000))) (mxN (by omega) (by omega)) dX5_mostAlike_78 ?_
  exact z_iret C rfl hT (upd (upd (upd (upd (upd f 0 (nI (cu 0 (t + 1)))) 1 (nI (cu 1 (t + 1)))) 2 (nI (cu 2 (t + 1)))) 3 (nI (cu 3 (t + 1)))) 4 (nI (cu 4 (t + 1)))) ⟨rfl, (fun k hk => by rcases (show k = 0 ∨ k = 1 ∨ k = 2 ∨ k = 3 ∨ k = 4 by omega) with rfl | rfl | rfl | rfl | rfl <;> simp [upd])⟩ [0, 1, 2, 3, 4, 5, 6, 7] rfl rfl (Nat.le_of_ble_eq_true rfl) (Nat.le_of_ble_eq_true rfl) dX5_mostAlike_81

set_option maxHeartbeats 4000000 in
set_option maxRecDepth 100000 in
/-- Sightings.mostTelling, new -/
theorem c_S_telling (l : Launch) (D : va_G) (g : Nat → ClassId) (u : Nat → Nat) (bf : Nat → Option Nat) (hbf : ∀ k, k < 9 → bf k = some (u (73 + k))) (N : Nat) (hN : N = 100) : CtI l yX5_mostTelling wsX5_mostTelling { frames := 3, cells := 0, slots := 0, locals := 100 } D (TY g) [.ref (u 5), .int 5] (fun _ => True) [((u 5), .inr (5, [.ref (u 69), .ref (u 70), .int 0, .int 0, .int (-1), .int (-1), .ref (u 71), .ref (u 72)])), ((u 71), .inl (g 4, 9, .inr (.inr (.inr (.inr bf))))), ((u 72), .inl (g 0, 9, .inl (fun _ => 0))), ((u 73), .inl (g 0, 100, .inl (fun _ => 0))), ((u 74), .inl (g 0, 100, .inl (fun _ => 0))), ((u 75), .inl (g 0, 100, .inl (fun _ => 0))), ((u 76), .inl (g 0, 100, .inl (fun _ => 0))), ((u 77), .inl (g 0, 100, .inl (fun _ => 0))), ((u 78), .inl (g 0, 100, .inl (fun _ => 0))), ((u 79), .inl (g 0, 100, .inl (fun _ => 0))), ((u 80), .inl (g 0, 100, .inl (fun _ => 0))), ((u 81), .inl (g 0, 100, .inl (fun _ => 0)))] (fun q (_ : Unit) => q = (tf N).1) (fun _ => []) := by
  refine CtI.intro (cc := cX5_mostTelling) (maxL := 6) (ret := (some .int)) rfl (by decide +kernel) (Nat.le_of_ble_eq_true rfl) ?_
  intro p e s m below meth c A ls C hmn hX hAe hT hl
  have hx := C.1.1
  have hb := C.1.2.1
  have hl : lv_has ls 6 [(0, .ref (u 5)), (1, .int 5)] := hl
  have hin5 : ∀ w ∈ u_ws RX5 TX5 8, w ∈ wsX5_mostTelling := by decide +kernel
  refine lv_aload_n hx hb dX5_mostTelling_0 rfl (lv_at hl 0 rfl) ?_
  refine lv_iload_n hx hb dX5_mostTelling_1 rfl (lv_at hl 1 rfl) ?_
  refine z_callVV (wr := []) (n := 1) C (c_S_find l D g u bf hbf) gX5_mostTelling_X5_findScales rfl (by decide +kernel) ⟨Nat.le_of_ble_eq_true rfl, Nat.le_of_ble_eq_true rfl⟩ ⟨Nat.le_of_ble_eq_true rfl, Nat.le_of_ble_eq_true rfl⟩ blind_T (fun _ _ _ => trivial) hT [0, 1, 2, 3, 4, 5, 6, 7, 8, 9, 10, 11] [] rfl rfl rfl rfl rfl 0 rfl rfl rfl rfl hl.1 rfl (Nat.le_of_ble_eq_true rfl) dX5_mostTelling_2 (fun u_1 H locs hp_2 hT => ?_)
  have hT : Sit D (TY g) A s [((u 5), .inr (5, [.ref (u 69), .ref (u 70), .int 0, .int (nI 2000), .int 0, .int 1, .ref (u 71), .ref (u 72)])), ((u 71), .inl (g 4, 9, .inr (.inr (.inr (.inr bf))))), ((u 72), .inl (g 0, 9, .inl (fun _ => 0))), ((u 73), .inl (g 0, 100, .inl (u_1 0))), ((u 74), .inl (g 0, 100, .inl (u_1 1))), ((u 75), .inl (g 0, 100, .inl (u_1 2))), ((u 76), .inl (g 0, 100, .inl (u_1 3))), ((u 77), .inl (g 0, 100, .inl (u_1 4)))] H _ := hT
  obtain ⟨r, rfl⟩ : ∃ z, z = u_1 := ⟨_, rfl⟩
  have hr := hp_2
  have hT : Sit D (TY g) A s [((u 5), .inr (5, [.ref (u 69), .ref (u 70), .int 0, .int (nI 2000), .int 0, .int 1, .ref (u 71), .ref (u 72)])), ((u 71), .inl (g 4, 9, .inr (.inr (.inr (.inr bf))))), ((u 72), .inl (g 0, 9, .inl (fun _ => 0))), ((u 73), .inl (g 0, 100, .inl (r 0))), ((u 74), .inl (g 0, 100, .inl (r 1))), ((u 75), .inl (g 0, 100, .inl (r 2))), ((u 76), .inl (g 0, 100, .inl (r 3))), ((u 77), .inl (g 0, 100, .inl (r 4)))] H _ := hT
  refine lv_iconst (v := (-1)) hx hb dX5_mostTelling_5 (by decide +kernel) ?_
  refine lv_istore_n (lv' := [(2, .int (-1)), (0, .ref (u 5)), (1, .int 5)]) hx hb dX5_mostTelling_6 rfl hl (by decide +kernel) rfl (fun ls hl => ?_)
  refine lv_aload_n hx hb dX5_mostTelling_7 rfl (lv_at hl 1 rfl) ?_
  refine z_get C (ci := 5) (N := 8) rfl hin5 hT 0 3 rfl rfl (by decide +kernel) (by decide +kernel) dX5_mostTelling_8 ?_
  refine lv_iconst (v := 1) hx hb dX5_mostTelling_11 (by decide +kernel) ?_
  refine lv_iadd hx hb dX5_mostTelling_12 ?_
  refine z_eq (y := 2001) (by decide +kernel) ?_
  refine lv_istore_n (lv' := [(3, .int 2001), (2, .int (-1)), (0, .ref (u 5)), (1, .int 5)]) hx hb dX5_mostTelling_13 rfl hl (by decide +kernel) rfl (fun ls hl => ?_)
  refine lv_iconst (v := 0) hx hb dX5_mostTelling_14 (by decide +kernel) ?_
  refine lv_istore (lv' := [(4, .int 0), (3, .int 2001), (2, .int (-1)), (0, .ref (u 5)), (1, .int 5)]) hx hb dX5_mostTelling_15 hl (by decide +kernel) rfl (fun ls hl => ?_)
  refine z_loop (α := Int32 × Nat × (Nat → Int32)) (N := 100) (fun i a => (∀ M : Nat, M = i → (a.1, a.2.1) = tf M) ∧ ∀ k, k < 5 → a.2.2 k = nI (cu k i)) (fun i a => [((u 5), .inr (5, [.ref (u 69), .ref (u 70), .int 0, .int (nI 2000), .int 0, .int 1, .ref (u 71), .ref (u 72)])), ((u 71), .inl (g 4, 9, .inr (.inr (.inr (.inr bf))))), ((u 72), .inl (g 0, 9, .inl a.2.2)), ((u 73), .inl (g 0, 100, .inl (r 0))), ((u 74), .inl (g 0, 100, .inl (r 1))), ((u 75), .inl (g 0, 100, .inl (r 2))), ((u 76), .inl (g 0, 100, .inl (r 3))), ((u 77), .inl (g 0, 100, .inl (r 4)))]) (fun i a => [(4, .int (nI i)), (3, .int (nI a.2.1)), (2, .int a.1), (0, .ref (u 5)), (1, .int 5)]) ?_ ?_ 0 ((-1), 2001, (fun _ => 0)) (Nat.zero_le _) (⟨fun M hM => by subst hM; rfl, fun _ _ => rfl⟩) _ _ _ hT (lv_sub hl [0, 1, 2, 3, 4] rfl)
  · intro i a H locs ls hi hI hT hl ih
    have hT : Sit D (TY g) A s [((u 5), .inr (5, [.ref (u 69), .ref (u 70), .int 0, .int (nI 2000), .int 0, .int 1, .ref (u 71), .ref (u 72)])), ((u 71), .inl (g 4, 9, .inr (.inr (.inr (.inr bf))))), ((u 72), .inl (g 0, 9, .inl a.2.2)), ((u 73), .inl (g 0, 100, .inl (r 0))), ((u 74), .inl (g 0, 100, .inl (r 1))), ((u 75), .inl (g 0, 100, .inl (r 2))), ((u 76), .inl (g 0, 100, .inl (r 3))), ((u 77), .inl (g 0, 100, .inl (r 4)))] H locs := hT
    have hl : lv_has ls _ [(4, .int (nI i)), (3, .int (nI a.2.1)), (2, .int a.1), (0, .ref (u 5)), (1, .int 5)] := hl
    refine lv_iload hx hb dX5_mostTelling_17 (lv_at hl 0 rfl) ?_
    refine lv_bipush (v := 99) hx hb dX5_mostTelling_19 (by decide +kernel) ?_
    refine lv_icmp_gt (tgt := 58) hx hb dX5_mostTelling_21 (by decide +kernel) (fun c9 => absurd c9 (lp_gt (N := 99) (by decide +kernel) (by omega) (by decide +kernel))) (fun _ => ?_)
    refine lv_aload_n hx hb dX5_mostTelling_24 rfl (lv_at hl 3 rfl) ?_
    refine z_get C (ci := 5) (N := 8) rfl hin5 hT 0 3 rfl rfl (by decide +kernel) (by decide +kernel) dX5_mostTelling_25 ?_
    refine lv_if_le (tgt := 58) hx hb dX5_mostTelling_28 (by decide +kernel) (fun c9 => absurd c9 (by decide +kernel)) (fun _ => ?_)
    refine lv_aload_n hx hb dX5_mostTelling_31 rfl (lv_at hl 3 rfl) ?_
    refine lv_iload hx hb dX5_mostTelling_32 (lv_at hl 0 rfl) ?_
    refine lv_iload_n hx hb dX5_mostTelling_34 rfl (lv_at hl 4 rfl) ?_
    refine z_callVI (wr := []) (n := 2) C (c_S_alike l D g u bf hbf r hr a.2.2 i hi hI.2) gX5_mostTelling_X5_mostAlike rfl (by decide +kernel) ⟨Nat.le_of_ble_eq_true rfl, Nat.le_of_ble_eq_true rfl⟩ ⟨Nat.le_of_ble_eq_true rfl, Nat.le_of_ble_eq_true rfl⟩ blind_T (fun _ _ _ => trivial) hT [0, 1, 2, 3, 4, 5, 6, 7] [] rfl rfl rfl rfl rfl 0 rfl rfl rfl rfl hl.1 rfl (Nat.le_of_ble_eq_true rfl) dX5_mostTelling_35 (fun r_5 u_3 H locs hp_4 hT => ?_)
    have hT : Sit D (TY g) A s [((u 5), .inr (5, [.ref (u 69), .ref (u 70), .int 0, .int (nI 2000), .int 0, .int 1, .ref (u 71), .ref (u 72)])), ((u 71), .inl (g 4, 9, .inr (.inr (.inr (.inr bf))))), ((u 72), .inl (g 0, 9, .inl u_3)), ((u 73), .inl (g 0, 100, .inl (r 0))), ((u 74), .inl (g 0, 100, .inl (r 1))), ((u 75), .inl (g 0, 100, .inl (r 2))), ((u 76), .inl (g 0, 100, .inl (r 3))), ((u 77), .inl (g 0, 100, .inl (r 4)))] H _ := hT
    obtain ⟨hp_4, hf2⟩ := hp_4
    subst hp_4
    refine lv_istore (lv' := [(5, .int (nI (mxv i))), (4, .int (nI i)), (3, .int (nI a.2.1)), (2, .int a.1), (0, .ref (u 5)), (1, .int 5)]) hx hb dX5_mostTelling_38 hl (by decide +kernel) rfl (fun ls hl => ?_)
    refine lv_iload hx hb dX5_mostTelling_40 (lv_at hl 0 rfl) ?_
    refine lv_iload_n hx hb dX5_mostTelling_42 rfl (lv_at hl 2 rfl) ?_
    have hJ := hI.1 i rfl
    have m1 := mxv_le i
    have m2 : a.2.1 ≤ 2001 := by rw [show a.2.1 = (tf i).2 from congrArg Prod.snd hJ]; exact tf_le i
    refine lv_icmp_ge (tgt := 52) hx hb dX5_mostTelling_43 (by decide +kernel) (fun c_43 => ?_) (fun c_43 => ?_)
    · have hlt : ¬ mxv i < (tf i).2 := by rw [← show a.2.1 = (tf i).2 from congrArg Prod.snd hJ]; intro q; exact absurd c_43 (nI_ge q (by omega))
      refine lv_iinc (v := nI (i + 1)) (lv' := [(4, .int (nI (i + 1))), (5, .int (nI (mxv i))), (3, .int (nI a.2.1)), (2, .int a.1), (0, .ref (u 5)), (1, .int 5)]) hx hb dX5_mostTelling_52 hl (k := 1) rfl (inc1 _) (by decide +kernel) rfl (fun ls hl => ?_)
      refine lv_goto (tgt := 17) hx hb dX5_mostTelling_55 (by decide +kernel) ?_
      exact ih (a.1, a.2.1, u_3) _ _ _ (⟨fun M hM => by subst hM; rw [tf]; first | rw [if_pos hlt] | (rw [if_neg hlt]; exact hJ), hf2⟩) hT (lv_sub hl [0, 2, 3, 4, 5] rfl)
    · have hlt : mxv i < (tf i).2 := by
        rw [← show a.2.1 = (tf i).2 from congrArg Prod.snd hJ]
        rcases Nat.lt_or_ge (mxv i) a.2.1 with q | q
        · exact q
        · exact absurd (nI_le q (by omega)) c_43
      refine lv_iload hx hb dX5_mostTelling_46 (lv_at hl 0 rfl) ?_
      refine lv_istore_n (lv' := [(3, .int (nI (mxv i))), (5, .int (nI (mxv i))), (4, .int (nI i)), (2, .int a.1), (0, .ref (u 5)), (1, .int 5)]) hx hb dX5_mostTelling_48 rfl hl (by decide +kernel) rfl (fun ls hl => ?_)
      refine lv_iload hx hb dX5_mostTelling_49 (lv_at hl 2 rfl) ?_
      refine lv_istore_n (lv' := [(2, .int (nI i)), (3, .int (nI (mxv i))), (5, .int (nI (mxv i))), (4, .int (nI i)), (0, .ref (u 5)), (1, .int 5)]) hx hb dX5_mostTelling_51 rfl hl (by decide +kernel) rfl (fun ls hl => ?_)
      refine lv_iinc (v := nI (i + 1)) (lv' := [(4, .int (nI (i + 1))), (2, .int (nI i)), (3, .int (nI (mxv i))), (5, .int (nI (mxv i))), (0, .ref (u 5)), (1, .int 5)]) hx hb dX5_mostTelling_52 hl (k := 3) rfl (inc1 _) (by decide +kernel) rfl (fun ls hl => ?_)
      refine lv_goto (tgt := 17) hx hb dX5_mostTelling_55 (by decide +kernel) ?_
      exact ih (nI i, (mxv i), u_3) _ _ _ (⟨fun M hM => by subst hM; rw [tf]; first | rw [if_pos hlt] | (rw [if_neg hlt]; exact hJ), hf2⟩) hT (lv_sub hl [0, 2, 1, 4, 5] rfl)
  · intro a H locs ls hI hT hl
    have hT : Sit D (TY g) A s [((u 5), .inr (5, [.ref (u 69), .ref (u 70), .int 0, .int (nI 2000), .int 0, .int 1, .ref (u 71), .ref (u 72)])), ((u 71), .inl (g 4, 9, .inr (.inr (.inr (.inr bf))))), ((u 72), .inl (g 0, 9, .inl a.2.2)), ((u 73), .inl (g 0, 100, .inl (r 0))), ((u 74), .inl (g 0, 100, .inl (r 1))), ((u 75), .inl (g 0, 100, .inl (r 2))), ((u 76), .inl (g 0, 100, .inl (r 3))), ((u 77), .inl (g 0, 100, .inl (r 4)))] H locs := hT
    have hl : lv_has ls _ [(4, .int (nI 100)), (3, .int (nI a.2.1)), (2, .int a.1), (0, .ref (u 5)), (1, .int 5)] := hl
    refine lv_iload hx hb dX5_mostTelling_17 (lv_at hl 0 rfl) ?_
    refine lv_bipush (v := 99) hx hb dX5_mostTelling_19 (by decide +kernel) ?_
    refine lv_icmp_gt (tgt := 58) hx hb dX5_mostTelling_21 (by decide +kernel) (fun _ => ?_) (fun c9 => absurd (by decide +kernel) c9)
    refine lv_iload_n hx hb dX5_mostTelling_58 rfl (lv_at hl 2 rfl) ?_
    exact z_iret C rfl hT () (congrArg Prod.fst (hI.1 N hN)) [] rfl rfl (Nat.le_of_ble_eq_true rfl) (Nat.le_of_ble_eq_true rfl) dX5_mostTelling_59

def sP_tells (N : Nat) : Int32 := (tf N).1
set_option maxHeartbeats 4000000 in
set_option maxRecDepth 100000 in
/-- CowardsPot.tells on a new pot -/
theorem c_P_tells (l : Launch) (D : va_G) (g : Nat → ClassId) (h0 : Nat) (u : Nat → Nat) (bf : Nat → Option Nat) (hbf : ∀ k, k < 9 → bf k = some (u (73 + k))) (N : Nat) (hN : N = 100) : CtI l yX7_tells wsX7_tells { frames := 4, cells := 0, slots := 0, locals := 140 } D (TY g) [.ref h0] (fun _ => True) [(h0, .inr (7, [.ref (u 0), .ref (u 1), .ref (u 2), .ref (u 3), .ref (u 4), .ref (u 5), .ref (u 6)])), ((u 1), .inr (1, [.int 5, .int 40, .int 8, .int 0, .int 0, .int 0, .ref (u 8), .ref (u 9), .ref (u 10), .ref (u 11), .ref (u 12), .ref (u 13), .ref (u 14), .ref (u 15), .ref (u 16), .ref (u 17)])), ((u 5), .inr (5, [.ref (u 69), .ref (u 70), .int 0, .int 0, .int (-1), .int (-1), .ref (u 71), .ref (u 72)])), ((u 71), .inl (g 4, 9, .inr (.inr (.inr (.inr bf))))), ((u 72), .inl (g 0, 9, .inl (fun _ => 0))), ((u 73), .inl (g 0, 100, .inl (fun _ => 0))), ((u 74), .inl (g 0, 100, .inl (fun _ => 0))), ((u 75), .inl (g 0, 100, .inl (fun _ => 0))), ((u 76), .inl (g 0, 100, .inl (fun _ => 0))), ((u 77), .inl (g 0, 100, .inl (fun _ => 0))), ((u 78), .inl (g 0, 100, .inl (fun _ => 0))), ((u 79), .inl (g 0, 100, .inl (fun _ => 0))), ((u 80), .inl (g 0, 100, .inl (fun _ => 0))), ((u 81), .inl (g 0, 100, .inl (fun _ => 0)))] (fun r (_ : Unit) => r = sP_tells N) (fun _ => []) := by
  refine CtI.intro (cc := cX7_tells) (maxL := 1) (ret := (some .int)) rfl (by decide +kernel) (Nat.le_of_ble_eq_true rfl) ?_
  intro p e s m below meth c A ls C hmn hX hAe hT hl
  have hx := C.1.1
  have hb := C.1.2.1
  have hl : lv_has ls 1 [(0, .ref h0)] := hl
  have hin1 : ∀ w ∈ u_ws RX1 TX1 16, w ∈ wsX7_tells := by decide +kernel
  have hin7 : ∀ w ∈ u_ws RX7 TX7 7, w ∈ wsX7_tells := by decide +kernel
  refine lv_aload_n hx hb dX7_tells_0 rfl (lv_at hl 0 rfl) ?_
  refine z_get C (ci := 7) (N := 7) rfl hin7 hT 0 5 rfl rfl (by decide +kernel) (by decide +kernel) dX7_tells_1 ?_
  refine lv_aload_n hx hb dX7_tells_4 rfl (lv_at hl 0 rfl) ?_
  refine z_get C (ci := 7) (N := 7) rfl hin7 hT 0 1 rfl rfl (by decide +kernel) (by decide +kernel) dX7_tells_5 ?_
  refine z_get C (ci := 1) (N := 16) rfl hin1 hT 1 0 rfl rfl (by decide +kernel) (by decide +kernel) dX7_tells_8 ?_
  refine z_callVI (wr := [(h0, .inr (7, [.ref (u 0), .ref (u 1), .ref (u 2), .ref (u 3), .ref (u 4), .ref (u 5), .ref (u 6)])), ((u 1), .inr (1, [.int 5, .int 40, .int 8, .int 0, .int 0, .int 0, .ref (u 8), .ref (u 9), .ref (u 10), .ref (u 11), .ref (u 12), .ref (u 13), .ref (u 14), .ref (u 15), .ref (u 16), .ref (u 17)]))]) (n := 1) C (c_S_telling l D g u bf hbf N hN) gX7_tells_X5_mostTelling rfl (by decide +kernel) ⟨Nat.le_of_ble_eq_true rfl, Nat.le_of_ble_eq_true rfl⟩ ⟨Nat.le_of_ble_eq_true rfl, Nat.le_of_ble_eq_true rfl⟩ blind_T (fun _ _ _ => trivial) hT [2, 3, 4, 5, 6, 7, 8, 9, 10, 11, 12, 13] [0, 1] rfl rfl rfl rfl rfl 2 rfl rfl rfl rfl hl.1 rfl (Nat.le_of_ble_eq_true rfl) dX7_tells_11 (fun r_3 u_1 H locs hp_2 hT => ?_)
  have hT : Sit D (TY g) A s [(h0, .inr (7, [.ref (u 0), .ref (u 1), .ref (u 2), .ref (u 3), .ref (u 4), .ref (u 5), .ref (u 6)])), ((u 1), .inr (1, [.int 5, .int 40, .int 8, .int 0, .int 0, .int 0, .ref (u 8), .ref (u 9), .ref (u 10), .ref (u 11), .ref (u 12), .ref (u 13), .ref (u 14), .ref (u 15), .ref (u 16), .ref (u 17)]))] H _ := hT
  subst hp_2
  exact z_iret C rfl hT () rfl [] rfl rfl (Nat.le_of_ble_eq_true rfl) (Nat.le_of_ble_eq_true rfl) dX7_tells_14

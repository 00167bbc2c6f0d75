set_option maxRecDepth 20000 in
theorem ggX8_init_X8_forgets : GoodIn wsX8_init wsX8_forgets := goodIn_r _ [24, 7, 34, 35, 36, 37, 38, 39, 40, 41, 42, 43, 44, 45, 46, 47, 48, 49, 50, 51, 52, 53, 54] (by decide +kernel) (by decide +kernel)
set_option maxRecDepth 20000 in
theorem gX8_init_X8_forgets : GoodIn wsX8_init (wsV RX8 53 RX8 yX8_forgets wsX8_forgets) := goodIn_app (goodIn_of _ (by decide +kernel)) ggX8_init_X8_forgets
set_option maxRecDepth 20000 in
theorem ggX8_init_X8_lays : GoodIn wsX8_init wsX8_lays := goodIn_r _ [28, 8, 6, 29, 30, 12, 31, 32, 23, 33, 34, 35, 36, 37, 38, 39, 40, 41, 42, 43, 44, 45, 46, 47, 48, 49, 50, 51, 52, 53, 54] (by decide +kernel) (by decide +kernel)
set_option maxRecDepth 20000 in
theorem gX8_init_X8_lays : GoodIn wsX8_init (wsV RX8 57 RX8 yX8_lays wsX8_lays) := goodIn_app (goodIn_of _ (by decide +kernel)) ggX8_init_X8_lays
theorem dX8_init_0 : decode cX8_init 0 = .ok (.aload_n 0, 1) := by decide +kernel
theorem dX8_init_1 : decode cX8_init 1 = .ok (.invokespecial 1, 3) := by decide +kernel
theorem dX8_init_4 : decode cX8_init 4 = .ok (.aload_n 0, 1) := by decide +kernel
theorem dX8_init_5 : decode cX8_init 5 = .ok (.sipush 160, 3) := by decide +kernel
theorem dX8_init_8 : decode cX8_init 8 = .ok (.newarray .int, 2) := by decide +kernel
theorem dX8_init_10 : decode cX8_init 10 = .ok (.putfield 7, 3) := by decide +kernel
theorem dX8_init_13 : decode cX8_init 13 = .ok (.aload_n 0, 1) := by decide +kernel
theorem dX8_init_14 : decode cX8_init 14 = .ok (.bipush 29, 2) := by decide +kernel
theorem dX8_init_16 : decode cX8_init 16 = .ok (.newarray .int, 2) := by decide +kernel
theorem dX8_init_18 : decode cX8_init 18 = .ok (.putfield 13, 3) := by decide +kernel
theorem dX8_init_21 : decode cX8_init 21 = .ok (.aload_n 0, 1) := by decide +kernel
theorem dX8_init_22 : decode cX8_init 22 = .ok (.bipush 29, 2) := by decide +kernel
theorem dX8_init_24 : decode cX8_init 24 = .ok (.newarray .int, 2) := by decide +kernel
theorem dX8_init_26 : decode cX8_init 26 = .ok (.putfield 16, 3) := by decide +kernel
theorem dX8_init_29 : decode cX8_init 29 = .ok (.aload_n 0, 1) := by decide +kernel
theorem dX8_init_30 : decode cX8_init 30 = .ok (.bipush 33, 2) := by decide +kernel
theorem dX8_init_32 : decode cX8_init 32 = .ok (.newarray .int, 2) := by decide +kernel
theorem dX8_init_34 : decode cX8_init 34 = .ok (.putfield 19, 3) := by decide +kernel
theorem dX8_init_37 : decode cX8_init 37 = .ok (.aload_n 0, 1) := by decide +kernel
theorem dX8_init_38 : decode cX8_init 38 = .ok (.sipush 264, 3) := by decide +kernel
theorem dX8_init_41 : decode cX8_init 41 = .ok (.newarray .int, 2) := by decide +kernel
theorem dX8_init_43 : decode cX8_init 43 = .ok (.putfield 22, 3) := by decide +kernel
theorem dX8_init_46 : decode cX8_init 46 = .ok (.aload_n 0, 1) := by decide +kernel
theorem dX8_init_47 : decode cX8_init 47 = .ok (.bipush 66, 2) := by decide +kernel
theorem dX8_init_49 : decode cX8_init 49 = .ok (.newarray .int, 2) := by decide +kernel
theorem dX8_init_51 : decode cX8_init 51 = .ok (.putfield 25, 3) := by decide +kernel
theorem dX8_init_54 : decode cX8_init 54 = .ok (.aload_n 0, 1) := by decide +kernel
theorem dX8_init_55 : decode cX8_init 55 = .ok (.iconst 2, 1) := by decide +kernel
theorem dX8_init_56 : decode cX8_init 56 = .ok (.newarray .boolean, 2) := by decide +kernel
theorem dX8_init_58 : decode cX8_init 58 = .ok (.putfield 28, 3) := by decide +kernel
theorem dX8_init_61 : decode cX8_init 61 = .ok (.aload_n 0, 1) := by decide +kernel
theorem dX8_init_62 : decode cX8_init 62 = .ok (.bipush 6, 2) := by decide +kernel
theorem dX8_init_64 : decode cX8_init 64 = .ok (.newarray .int, 2) := by decide +kernel
theorem dX8_init_66 : decode cX8_init 66 = .ok (.putfield 32, 3) := by decide +kernel
theorem dX8_init_69 : decode cX8_init 69 = .ok (.aload_n 0, 1) := by decide +kernel
theorem dX8_init_70 : decode cX8_init 70 = .ok (.bipush 6, 2) := by decide +kernel
theorem dX8_init_72 : decode cX8_init 72 = .ok (.newarray .int, 2) := by decide +kernel
theorem dX8_init_74 : decode cX8_init 74 = .ok (.putfield 35, 3) := by decide +kernel
theorem dX8_init_77 : decode cX8_init 77 = .ok (.aload_n 0, 1) := by decide +kernel
theorem dX8_init_78 : decode cX8_init 78 = .ok (.iconst 3, 1) := by decide +kernel
theorem dX8_init_79 : decode cX8_init 79 = .ok (.newarray .int, 2) := by decide +kernel
theorem dX8_init_81 : decode cX8_init 81 = .ok (.putfield 38, 3) := by decide +kernel
theorem dX8_init_84 : decode cX8_init 84 = .ok (.aload_n 0, 1) := by decide +kernel
theorem dX8_init_85 : decode cX8_init 85 = .ok (.iconst 3, 1) := by decide +kernel
theorem dX8_init_86 : decode cX8_init 86 = .ok (.newarray .int, 2) := by decide +kernel
theorem dX8_init_88 : decode cX8_init 88 = .ok (.putfield 41, 3) := by decide +kernel
theorem dX8_init_91 : decode cX8_init 91 = .ok (.aload_n 0, 1) := by decide +kernel
theorem dX8_init_92 : decode cX8_init 92 = .ok (.bipush 100, 2) := by decide +kernel
theorem dX8_init_94 : decode cX8_init 94 = .ok (.newarray .int, 2) := by decide +kernel
theorem dX8_init_96 : decode cX8_init 96 = .ok (.putfield 44, 3) := by decide +kernel
theorem dX8_init_99 : decode cX8_init 99 = .ok (.aload_n 0, 1) := by decide +kernel
theorem dX8_init_100 : decode cX8_init 100 = .ok (.bipush 10, 2) := by decide +kernel
theorem dX8_init_102 : decode cX8_init 102 = .ok (.newarray .int, 2) := by decide +kernel
theorem dX8_init_104 : decode cX8_init 104 = .ok (.putfield 47, 3) := by decide +kernel
theorem dX8_init_107 : decode cX8_init 107 = .ok (.aload_n 0, 1) := by decide +kernel
theorem dX8_init_108 : decode cX8_init 108 = .ok (.bipush 33, 2) := by decide +kernel
theorem dX8_init_110 : decode cX8_init 110 = .ok (.newarray .int, 2) := by decide +kernel
theorem dX8_init_112 : decode cX8_init 112 = .ok (.putfield 50, 3) := by decide +kernel
theorem dX8_init_115 : decode cX8_init 115 = .ok (.aload_n 0, 1) := by decide +kernel
theorem dX8_init_116 : decode cX8_init 116 = .ok (.iconst 5, 1) := by decide +kernel
theorem dX8_init_117 : decode cX8_init 117 = .ok (.invokevirtual 53, 3) := by decide +kernel
theorem dX8_init_120 : decode cX8_init 120 = .ok (.iconst 0, 1) := by decide +kernel
theorem dX8_init_121 : decode cX8_init 121 = .ok (.istore_n 1, 1) := by decide +kernel
theorem dX8_init_122 : decode cX8_init 122 = .ok (.iload_n 1, 1) := by decide +kernel
theorem dX8_init_123 : decode cX8_init 123 = .ok (.bipush 29, 2) := by decide +kernel
theorem dX8_init_125 : decode cX8_init 125 = .ok (.if_icmp .ge 21, 3) := by decide +kernel
theorem dX8_init_128 : decode cX8_init 128 = .ok (.aload_n 0, 1) := by decide +kernel
theorem dX8_init_129 : decode cX8_init 129 = .ok (.getfield 13, 3) := by decide +kernel
theorem dX8_init_132 : decode cX8_init 132 = .ok (.iload_n 1, 1) := by decide +kernel
theorem dX8_init_133 : decode cX8_init 133 = .ok (.aload_n 0, 1) := by decide +kernel
theorem dX8_init_134 : decode cX8_init 134 = .ok (.getfield 16, 3) := by decide +kernel
theorem dX8_init_137 : decode cX8_init 137 = .ok (.iload_n 1, 1) := by decide +kernel
theorem dX8_init_138 : decode cX8_init 138 = .ok (.iaload, 1) := by decide +kernel
theorem dX8_init_139 : decode cX8_init 139 = .ok (.iastore, 1) := by decide +kernel
theorem dX8_init_140 : decode cX8_init 140 = .ok (.iinc 1 1, 3) := by decide +kernel
theorem dX8_init_143 : decode cX8_init 143 = .ok (.goto (-21), 3) := by decide +kernel
theorem dX8_init_146 : decode cX8_init 146 = .ok (.aload_n 0, 1) := by decide +kernel
theorem dX8_init_147 : decode cX8_init 147 = .ok (.invokevirtual 57, 3) := by decide +kernel
theorem dX8_init_150 : decode cX8_init 150 = .ok (.return_, 1) := by decide +kernel
theorem dX8_in_0 : decode cX8_in 0 = .ok (.iload_n 0, 1) := by decide +kernel
theorem dX8_in_1 : decode cX8_in 1 = .ok (.iload_n 1, 1) := by decide +kernel
theorem dX8_in_2 : decode cX8_in 2 = .ok (.if_icmp .lt 12, 3) := by decide +kernel
theorem dX8_in_5 : decode cX8_in 5 = .ok (.iload_n 0, 1) := by decide +kernel
theorem dX8_in_6 : decode cX8_in 6 = .ok (.iload_n 2, 1) := by decide +kernel
theorem dX8_in_7 : decode cX8_in 7 = .ok (.if_icmp .gt 7, 3) := by decide +kernel
theorem dX8_in_10 : decode cX8_in 10 = .ok (.iconst 1, 1) := by decide +kernel
theorem dX8_in_11 : decode cX8_in 11 = .ok (.goto 4, 3) := by decide +kernel
theorem dX8_in_14 : decode cX8_in 14 = .ok (.iconst 0, 1) := by decide +kernel
theorem dX8_in_15 : decode cX8_in 15 = .ok (.ireturn, 1) := by decide +kernel
theorem dX8_forgets_0 : decode cX8_forgets 0 = .ok (.iconst 0, 1) := by decide +kernel
theorem dX8_forgets_1 : decode cX8_forgets 1 = .ok (.istore_n 2, 1) := by decide +kernel
theorem dX8_forgets_2 : decode cX8_forgets 2 = .ok (.iload_n 2, 1) := by decide +kernel
theorem dX8_forgets_3 : decode cX8_forgets 3 = .ok (.bipush 29, 2) := by decide +kernel
theorem dX8_forgets_5 : decode cX8_forgets 5 = .ok (.if_icmp .ge 16, 3) := by decide +kernel
theorem dX8_forgets_8 : decode cX8_forgets 8 = .ok (.aload_n 0, 1) := by decide +kernel
theorem dX8_forgets_9 : decode cX8_forgets 9 = .ok (.getfield 16, 3) := by decide +kernel
theorem dX8_forgets_12 : decode cX8_forgets 12 = .ok (.iload_n 2, 1) := by decide +kernel
theorem dX8_forgets_13 : decode cX8_forgets 13 = .ok (.iconst 0, 1) := by decide +kernel
theorem dX8_forgets_14 : decode cX8_forgets 14 = .ok (.iastore, 1) := by decide +kernel
theorem dX8_forgets_15 : decode cX8_forgets 15 = .ok (.iinc 2 1, 3) := by decide +kernel
theorem dX8_forgets_18 : decode cX8_forgets 18 = .ok (.goto (-16), 3) := by decide +kernel
theorem dX8_forgets_21 : decode cX8_forgets 21 = .ok (.aload_n 0, 1) := by decide +kernel
theorem dX8_forgets_22 : decode cX8_forgets 22 = .ok (.getfield 16, 3) := by decide +kernel
theorem dX8_forgets_25 : decode cX8_forgets 25 = .ok (.iconst 0, 1) := by decide +kernel
theorem dX8_forgets_26 : decode cX8_forgets 26 = .ok (.iload_n 1, 1) := by decide +kernel
theorem dX8_forgets_27 : decode cX8_forgets 27 = .ok (.iastore, 1) := by decide +kernel
theorem dX8_forgets_28 : decode cX8_forgets 28 = .ok (.aload_n 0, 1) := by decide +kernel
theorem dX8_forgets_29 : decode cX8_forgets 29 = .ok (.getfield 16, 3) := by decide +kernel
theorem dX8_forgets_32 : decode cX8_forgets 32 = .ok (.iconst 1, 1) := by decide +kernel
theorem dX8_forgets_33 : decode cX8_forgets 33 = .ok (.bipush 40, 2) := by decide +kernel
theorem dX8_forgets_35 : decode cX8_forgets 35 = .ok (.iastore, 1) := by decide +kernel
theorem dX8_forgets_36 : decode cX8_forgets 36 = .ok (.aload_n 0, 1) := by decide +kernel
theorem dX8_forgets_37 : decode cX8_forgets 37 = .ok (.getfield 16, 3) := by decide +kernel
theorem dX8_forgets_40 : decode cX8_forgets 40 = .ok (.iconst 2, 1) := by decide +kernel
theorem dX8_forgets_41 : decode cX8_forgets 41 = .ok (.bipush 8, 2) := by decide +kernel
theorem dX8_forgets_43 : decode cX8_forgets 43 = .ok (.iastore, 1) := by decide +kernel
theorem dX8_forgets_44 : decode cX8_forgets 44 = .ok (.return_, 1) := by decide +kernel
set_option maxRecDepth 20000 in
theorem ggX8_lays_X8_in : GoodIn wsX8_lays wsX8_in := goodIn_r _ [9] (by decide +kernel) (by decide +kernel)
set_option maxRecDepth 20000 in
theorem gX8_lays_X8_in : GoodIn wsX8_lays (va_wsS RX8 60 yX8_in wsX8_in) := goodIn_app (goodIn_of _ (by decide +kernel)) ggX8_lays_X8_in
theorem dX8_lays_0 : decode cX8_lays 0 = .ok (.iconst 0, 1) := by decide +kernel
theorem dX8_lays_1 : decode cX8_lays 1 = .ok (.istore_n 1, 1) := by decide +kernel
theorem dX8_lays_2 : decode cX8_lays 2 = .ok (.iload_n 1, 1) := by decide +kernel
theorem dX8_lays_3 : decode cX8_lays 3 = .ok (.bipush 33, 2) := by decide +kernel
theorem dX8_lays_5 : decode cX8_lays 5 = .ok (.if_icmp .ge 49, 3) := by decide +kernel
theorem dX8_lays_8 : decode cX8_lays 8 = .ok (.aload_n 0, 1) := by decide +kernel
theorem dX8_lays_9 : decode cX8_lays 9 = .ok (.getfield 19, 3) := by decide +kernel
theorem dX8_lays_12 : decode cX8_lays 12 = .ok (.iload_n 1, 1) := by decide +kernel
theorem dX8_lays_13 : decode cX8_lays 13 = .ok (.iload_n 1, 1) := by decide +kernel
theorem dX8_lays_14 : decode cX8_lays 14 = .ok (.bipush 6, 2) := by decide +kernel
theorem dX8_lays_16 : decode cX8_lays 16 = .ok (.if_icmp .ge 15, 3) := by decide +kernel
theorem dX8_lays_19 : decode cX8_lays 19 = .ok (.aload_n 0, 1) := by decide +kernel
theorem dX8_lays_20 : decode cX8_lays 20 = .ok (.getfield 13, 3) := by decide +kernel
theorem dX8_lays_23 : decode cX8_lays 23 = .ok (.bipush 11, 2) := by decide +kernel
theorem dX8_lays_25 : decode cX8_lays 25 = .ok (.iload_n 1, 1) := by decide +kernel
theorem dX8_lays_26 : decode cX8_lays 26 = .ok (.iadd, 1) := by decide +kernel
theorem dX8_lays_27 : decode cX8_lays 27 = .ok (.iaload, 1) := by decide +kernel
theorem dX8_lays_28 : decode cX8_lays 28 = .ok (.goto 19, 3) := by decide +kernel
theorem dX8_lays_31 : decode cX8_lays 31 = .ok (.iload_n 1, 1) := by decide +kernel
theorem dX8_lays_32 : decode cX8_lays 32 = .ok (.bipush 18, 2) := by decide +kernel
theorem dX8_lays_34 : decode cX8_lays 34 = .ok (.bipush 23, 2) := by decide +kernel
theorem dX8_lays_36 : decode cX8_lays 36 = .ok (.invokestatic 60, 3) := by decide +kernel
theorem dX8_lays_39 : decode cX8_lays 39 = .ok (.ifCond .eq 7, 3) := by decide +kernel
theorem dX8_lays_42 : decode cX8_lays 42 = .ok (.iconst (-1), 1) := by decide +kernel
theorem dX8_lays_43 : decode cX8_lays 43 = .ok (.goto 4, 3) := by decide +kernel
theorem dX8_lays_46 : decode cX8_lays 46 = .ok (.iconst 0, 1) := by decide +kernel
theorem dX8_lays_47 : decode cX8_lays 47 = .ok (.iastore, 1) := by decide +kernel
theorem dX8_lays_48 : decode cX8_lays 48 = .ok (.iinc 1 1, 3) := by decide +kernel
theorem dX8_lays_51 : decode cX8_lays 51 = .ok (.goto (-49), 3) := by decide +kernel
theorem dX8_lays_54 : decode cX8_lays 54 = .ok (.aload_n 0, 1) := by decide +kernel
theorem dX8_lays_55 : decode cX8_lays 55 = .ok (.getfield 19, 3) := by decide +kernel
theorem dX8_lays_58 : decode cX8_lays 58 = .ok (.bipush 30, 2) := by decide +kernel
theorem dX8_lays_60 : decode cX8_lays 60 = .ok (.aload_n 0, 1) := by decide +kernel
theorem dX8_lays_61 : decode cX8_lays 61 = .ok (.getfield 13, 3) := by decide +kernel
theorem dX8_lays_64 : decode cX8_lays 64 = .ok (.iconst 1, 1) := by decide +kernel
theorem dX8_lays_65 : decode cX8_lays 65 = .ok (.iaload, 1) := by decide +kernel
theorem dX8_lays_66 : decode cX8_lays 66 = .ok (.iastore, 1) := by decide +kernel
theorem dX8_lays_67 : decode cX8_lays 67 = .ok (.aload_n 0, 1) := by decide +kernel
theorem dX8_lays_68 : decode cX8_lays 68 = .ok (.getfield 19, 3) := by decide +kernel
theorem dX8_lays_71 : decode cX8_lays 71 = .ok (.bipush 31, 2) := by decide +kernel
theorem dX8_lays_73 : decode cX8_lays 73 = .ok (.aload_n 0, 1) := by decide +kernel
theorem dX8_lays_74 : decode cX8_lays 74 = .ok (.getfield 13, 3) := by decide +kernel
theorem dX8_lays_77 : decode cX8_lays 77 = .ok (.iconst 2, 1) := by decide +kernel
theorem dX8_lays_78 : decode cX8_lays 78 = .ok (.iaload, 1) := by decide +kernel
theorem dX8_lays_79 : decode cX8_lays 79 = .ok (.iastore, 1) := by decide +kernel
theorem dX8_lays_80 : decode cX8_lays 80 = .ok (.aload_n 0, 1) := by decide +kernel
theorem dX8_lays_81 : decode cX8_lays 81 = .ok (.iconst 0, 1) := by decide +kernel
theorem dX8_lays_82 : decode cX8_lays 82 = .ok (.putfield 114, 3) := by decide +kernel
theorem dX8_lays_85 : decode cX8_lays 85 = .ok (.aload_n 0, 1) := by decide +kernel
theorem dX8_lays_86 : decode cX8_lays 86 = .ok (.iconst 0, 1) := by decide +kernel
theorem dX8_lays_87 : decode cX8_lays 87 = .ok (.putfield 117, 3) := by decide +kernel
theorem dX8_lays_90 : decode cX8_lays 90 = .ok (.aload_n 0, 1) := by decide +kernel
theorem dX8_lays_91 : decode cX8_lays 91 = .ok (.getfield 28, 3) := by decide +kernel
theorem dX8_lays_94 : decode cX8_lays 94 = .ok (.iconst 0, 1) := by decide +kernel
theorem dX8_lays_95 : decode cX8_lays 95 = .ok (.iconst 0, 1) := by decide +kernel
theorem dX8_lays_96 : decode cX8_lays 96 = .ok (.bastore, 1) := by decide +kernel
theorem dX8_lays_97 : decode cX8_lays 97 = .ok (.aload_n 0, 1) := by decide +kernel
theorem dX8_lays_98 : decode cX8_lays 98 = .ok (.getfield 28, 3) := by decide +kernel
theorem dX8_lays_101 : decode cX8_lays 101 = .ok (.iconst 1, 1) := by decide +kernel
theorem dX8_lays_102 : decode cX8_lays 102 = .ok (.iconst 0, 1) := by decide +kernel
theorem dX8_lays_103 : decode cX8_lays 103 = .ok (.bastore, 1) := by decide +kernel
theorem dX8_lays_104 : decode cX8_lays 104 = .ok (.return_, 1) := by decide +kernel
set_option maxHeartbeats 4000000 in
set_option maxRecDepth 100000 in
/-- in: between, both ends too -/
theorem c_M_in (l : Launch) (D : va_G) (g : Nat → ClassId) (p0 p1 p2 : Int32) : CtI l yX8_in wsX8_in { frames := 0, cells := 0, slots := 0, locals := 0 } D (TY g) [.int p0, .int p1, .int p2] (fun _ => True) [] (fun r (_ : Unit) => r = if p1 ≤ p0 ∧ p0 ≤ p2 then 1 else 0) (fun _ => []) := by
  refine CtI.intro (cc := cX8_in) (maxL := 3) (ret := (some .boolean)) rfl (by decide +kernel) (Nat.le_of_ble_eq_true rfl) ?_
  intro p e s m below meth c A ls C hmn hX hAe hT hl
  have hx := C.1.1
  have hb := C.1.2.1
  have hl : lv_has ls 3 [(0, .int p0), (1, .int p1), (2, .int p2)] := hl
  refine lv_iload_n hx hb dX8_in_0 rfl (lv_at hl 0 rfl) ?_
  refine lv_iload_n hx hb dX8_in_1 rfl (lv_at hl 1 rfl) ?_
  refine lv_icmp_lt (tgt := 14) hx hb dX8_in_2 (by decide +kernel) (fun c_2 => ?_) (fun c_2 => ?_)
  · refine lv_iconst (v := 0) hx hb dX8_in_14 (by decide +kernel) ?_
    exact z_zret C rfl rfl hT () (by rw [if_neg (fun h => absurd c_2 (Int32.not_lt.mpr h.1))]) [] rfl rfl (Nat.le_of_ble_eq_true rfl) (Nat.le_of_ble_eq_true rfl) dX8_in_15
  · refine lv_iload_n hx hb dX8_in_5 rfl (lv_at hl 0 rfl) ?_
    refine lv_iload_n hx hb dX8_in_6 rfl (lv_at hl 2 rfl) ?_
    refine lv_icmp_gt (tgt := 14) hx hb dX8_in_7 (by decide +kernel) (fun c_7 => ?_) (fun c_7 => ?_)
    · refine lv_iconst (v := 0) hx hb dX8_in_14 (by decide +kernel) ?_
      exact z_zret C rfl rfl hT () (by rw [if_neg (fun h => absurd c_7 (Int32.not_lt.mpr h.2))]) [] rfl rfl (Nat.le_of_ble_eq_true rfl) (Nat.le_of_ble_eq_true rfl) dX8_in_15
    · refine lv_iconst (v := 1) hx hb dX8_in_10 (by decide +kernel) ?_
      refine lv_goto (tgt := 15) hx hb dX8_in_11 (by decide +kernel) ?_
      exact z_zret C rfl rfl hT () (by rw [if_pos ⟨Int32.not_lt.mp c_2, Int32.not_lt.mp c_7⟩]) [] rfl rfl (Nat.le_of_ble_eq_true rfl) (Nat.le_of_ble_eq_true rfl) dX8_in_15

set_option maxHeartbeats 4000000 in
set_option maxRecDepth 100000 in
/-- forgets(5): the draft is as at first -/
theorem c_M_forgets (l : Launch) (D : va_G) (g : Nat → ClassId) (m0 : Nat) (v : Nat → Nat) (f : Nat → Int32) : CtV l yX8_forgets wsX8_forgets { frames := 0, cells := 0, slots := 0, locals := 0 } D (TY g) [.ref m0, .int 5] (fun _ => True) [(m0, .inr (8, [.ref (v 0), .int 0, .ref (v 1), .ref (v 2), .ref (v 3), .ref (v 4), .int 0, .ref (v 5), .ref (v 6), .ref (v 7), .int 0, .int 0, .int 0, .int 0, .int 0, .ref (v 8), .ref (v 9), .ref (v 10), .ref (v 11), .ref (v 12), .ref (v 13)])), ((v 2), .inl (g 0, 29, .inl f))] (fun f : Nat → Int32 => ∀ k, k < 29 → f k = fr k) (fun f => [(m0, .inr (8, [.ref (v 0), .int 0, .ref (v 1), .ref (v 2), .ref (v 3), .ref (v 4), .int 0, .ref (v 5), .ref (v 6), .ref (v 7), .int 0, .int 0, .int 0, .int 0, .int 0, .ref (v 8), .ref (v 9), .ref (v 10), .ref (v 11), .ref (v 12), .ref (v 13)])), ((v 2), .inl (g 0, 29, .inl f))]) := by
  refine CtV.intro (cc := cX8_forgets) (maxL := 3) (ret := none) rfl (by decide +kernel) (Nat.le_of_ble_eq_true rfl) ?_
  intro p e s m below meth c A ls C hmn hX hAe hT hl
  have hx := C.1.1
  have hb := C.1.2.1
  have hl : lv_has ls 3 [(0, .ref m0), (1, .int 5)] := hl
  have hin8 : ∀ w ∈ u_ws RX8 TX8 21, w ∈ wsX8_forgets := by decide +kernel
  refine lv_iconst (v := 0) hx hb dX8_forgets_0 (by decide +kernel) ?_
  refine lv_istore_n (lv' := [(2, .int 0), (0, .ref m0), (1, .int 5)]) hx hb dX8_forgets_1 rfl hl (by decide +kernel) rfl (fun ls hl => ?_)
  refine z_loop (α := Nat → Int32) (N := 29) (fun i a => ∀ k, k < i → a k = 0) (fun i a => [(m0, .inr (8, [.ref (v 0), .int 0, .ref (v 1), .ref (v 2), .ref (v 3), .ref (v 4), .int 0, .ref (v 5), .ref (v 6), .ref (v 7), .int 0, .int 0, .int 0, .int 0, .int 0, .ref (v 8), .ref (v 9), .ref (v 10), .ref (v 11), .ref (v 12), .ref (v 13)])), ((v 2), .inl (g 0, 29, .inl a))]) (fun i a => [(2, .int (nI i)), (0, .ref m0), (1, .int 5)]) ?_ ?_ 0 f (Nat.zero_le _) (fun k h => absurd h (Nat.not_lt_zero k)) _ _ _ hT (lv_sub hl [0, 1, 2] rfl)
  · intro i a H locs ls hi hI hT hl ih
    have hT : Sit D (TY g) A s [(m0, .inr (8, [.ref (v 0), .int 0, .ref (v 1), .ref (v 2), .ref (v 3), .ref (v 4), .int 0, .ref (v 5), .ref (v 6), .ref (v 7), .int 0, .int 0, .int 0, .int 0, .int 0, .ref (v 8), .ref (v 9), .ref (v 10), .ref (v 11), .ref (v 12), .ref (v 13)])), ((v 2), .inl (g 0, 29, .inl a))] H locs := hT
    have hl : lv_has ls _ [(2, .int (nI i)), (0, .ref m0), (1, .int 5)] := hl
    refine lv_iload_n hx hb dX8_forgets_2 rfl (lv_at hl 0 rfl) ?_
    refine lv_bipush (v := 29) hx hb dX8_forgets_3 (by decide +kernel) ?_
    refine lv_icmp_ge (tgt := 21) hx hb dX8_forgets_5 (by decide +kernel) (fun c9 => absurd c9 (lp_no (by decide +kernel) hi (by decide +kernel))) (fun _ => ?_)
    refine lv_aload_n hx hb dX8_forgets_8 rfl (lv_at hl 1 rfl) ?_
    refine z_get C (ci := 8) (N := 21) rfl hin8 hT 0 3 rfl rfl (by decide +kernel) (by decide +kernel) dX8_forgets_9 ?_
    refine lv_iload_n hx hb dX8_forgets_12 rfl (lv_at hl 0 rfl) ?_
    refine lv_iconst (v := 0) hx hb dX8_forgets_13 (by decide +kernel) ?_
    refine z_iast C hT 1 0 rfl rfl (vp_in_nI (by omega) (by decide +kernel)) dX8_forgets_14 (upd a i 0) (by rw [nI_clamp (by omega)]) [(m0, .inr (8, [.ref (v 0), .int 0, .ref (v 1), .ref (v 2), .ref (v 3), .ref (v 4), .int 0, .ref (v 5), .ref (v 6), .ref (v 7), .int 0, .int 0, .int 0, .int 0, .int 0, .ref (v 8), .ref (v 9), .ref (v 10), .ref (v 11), .ref (v 12), .ref (v 13)])), ((v 2), .inl (g 0, 29, .inl (upd a i 0)))] rfl (fun H locs hT => ?_)
    refine lv_iinc (v := nI (i + 1)) (lv' := [(2, .int (nI (i + 1))), (0, .ref m0), (1, .int 5)]) hx hb dX8_forgets_15 hl (k := 0) rfl (inc1 _) (by decide +kernel) rfl (fun ls hl => ?_)
    refine lv_goto (tgt := 2) hx hb dX8_forgets_18 (by decide +kernel) ?_
    exact ih (upd a i 0) _ _ _ (upd_lt (F := fun _ => 0) hI rfl) hT (lv_sub hl [0, 1, 2] rfl)
  · intro a H locs ls hI hT hl
    have hT : Sit D (TY g) A s [(m0, .inr (8, [.ref (v 0), .int 0, .ref (v 1), .ref (v 2), .ref (v 3), .ref (v 4), .int 0, .ref (v 5), .ref (v 6), .ref (v 7), .int 0, .int 0, .int 0, .int 0, .int 0, .ref (v 8), .ref (v 9), .ref (v 10), .ref (v 11), .ref (v 12), .ref (v 13)])), ((v 2), .inl (g 0, 29, .inl a))] H locs := hT
    have hl : lv_has ls _ [(2, .int (nI 29)), (0, .ref m0), (1, .int 5)] := hl
    refine lv_iload_n hx hb dX8_forgets_2 rfl (lv_at hl 0 rfl) ?_
    refine lv_bipush (v := 29) hx hb dX8_forgets_3 (by decide +kernel) ?_
    refine lv_icmp_ge (tgt := 21) hx hb dX8_forgets_5 (by decide +kernel) (fun _ => ?_) (fun c9 => absurd (by decide +kernel) c9)
    refine lv_aload_n hx hb dX8_forgets_21 rfl (lv_at hl 1 rfl) ?_
    refine z_get C (ci := 8) (N := 21) rfl hin8 hT 0 3 rfl rfl (by decide +kernel) (by decide +kernel) dX8_forgets_22 ?_
    refine lv_iconst (v := 0) hx hb dX8_forgets_25 (by decide +kernel) ?_
    refine lv_iload_n hx hb dX8_forgets_26 rfl (lv_at hl 2 rfl) ?_
    refine z_iast C hT 1 0 rfl rfl (vin rfl) dX8_forgets_27 (upd a 0 5) rfl [(m0, .inr (8, [.ref (v 0), .int 0, .ref (v 1), .ref (v 2), .ref (v 3), .ref (v 4), .int 0, .ref (v 5), .ref (v 6), .ref (v 7), .int 0, .int 0, .int 0, .int 0, .int 0, .ref (v 8), .ref (v 9), .ref (v 10), .ref (v 11), .ref (v 12), .ref (v 13)])), ((v 2), .inl (g 0, 29, .inl (upd a 0 5)))] rfl (fun H locs hT => ?_)
    refine lv_aload_n hx hb dX8_forgets_28 rfl (lv_at hl 1 rfl) ?_
    refine z_get C (ci := 8) (N := 21) rfl hin8 hT 0 3 rfl rfl (by decide +kernel) (by decide +kernel) dX8_forgets_29 ?_
    refine lv_iconst (v := 1) hx hb dX8_forgets_32 (by decide +kernel) ?_
    refine lv_bipush (v := 40) hx hb dX8_forgets_33 (by decide +kernel) ?_
    refine z_iast C hT 1 0 rfl rfl (vin rfl) dX8_forgets_35 (upd (upd a 0 5) 1 40) rfl [(m0, .inr (8, [.ref (v 0), .int 0, .ref (v 1), .ref (v 2), .ref (v 3), .ref (v 4), .int 0, .ref (v 5), .ref (v 6), .ref (v 7), .int 0, .int 0, .int 0, .int 0, .int 0, .ref (v 8), .ref (v 9), .ref (v 10), .ref (v 11), .ref (v 12), .ref (v 13)])), ((v 2), .inl (g 0, 29, .inl (upd (upd a 0 5) 1 40)))] rfl (fun H locs hT => ?_)
    refine lv_aload_n hx hb dX8_forgets_36 rfl (lv_at hl 1 rfl) ?_
    refine z_get C (ci := 8) (N := 21) rfl hin8 hT 0 3 rfl rfl (by decide +kernel) (by decide +kernel) dX8_forgets_37 ?_
    refine lv_iconst (v := 2) hx hb dX8_forgets_40 (by decide +kernel) ?_
    refine lv_bipush (v := 8) hx hb dX8_forgets_41 (by decide +kernel) ?_
    refine z_iast C hT 1 0 rfl rfl (vin rfl) dX8_forgets_43 (upd (upd (upd a 0 5) 1 40) 2 8) rfl [(m0, .inr (8, [.ref (v 0), .int 0, .ref (v 1), .ref (v 2), .ref (v 3), .ref (v 4), .int 0, .ref (v 5), .ref (v 6), .ref (v 7), .int 0, .int 0, .int 0, .int 0, .int 0, .ref (v 8), .ref (v 9), .ref (v 10), .ref (v 11), .ref (v 12), .ref (v 13)])), ((v 2), .inl (g 0, 29, .inl (upd (upd (upd a 0 5) 1 40) 2 8)))] rfl (fun H locs hT => ?_)
    exact z_vret C rfl hT (upd (upd (upd a 0 5) 1 40) 2 8) (fr_of hI) [0, 1] rfl rfl (Nat.le_of_ble_eq_true rfl) (Nat.le_of_ble_eq_true rfl) dX8_forgets_44

set_option maxHeartbeats 4000000 in
set_option maxRecDepth 100000 in
/-- lays(): the first state -/
theorem c_M_lays (l : Launch) (D : va_G) (g : Nat → ClassId) (m0 : Nat) (v : Nat → Nat) (ft f : Nat → Int32) (hF : ∀ k, k < 29 → ft k = fr k) : CtV l yX8_lays wsX8_lays { frames := 1, cells := 0, slots := 0, locals := 30 } D (TY g) [.ref m0] (fun _ => True) [(m0, .inr (8, [.ref (v 0), .int 0, .ref (v 1), .ref (v 2), .ref (v 3), .ref (v 4), .int 0, .ref (v 5), .ref (v 6), .ref (v 7), .int 0, .int 0, .int 0, .int 0, .int 0, .ref (v 8), .ref (v 9), .ref (v 10), .ref (v 11), .ref (v 12), .ref (v 13)])), ((v 1), .inl (g 0, 29, .inl ft)), ((v 3), .inl (g 0, 33, .inl f)), ((v 6), .inl (g 1, 2, .inl (fun _ => 0)))] (fun f : Nat → Int32 => ∀ k, k < 33 → f k = fs0 k) (fun f => [(m0, .inr (8, [.ref (v 0), .int 0, .ref (v 1), .ref (v 2), .ref (v 3), .ref (v 4), .int 0, .ref (v 5), .ref (v 6), .ref (v 7), .int 0, .int 0, .int 0, .int 0, .int 0, .ref (v 8), .ref (v 9), .ref (v 10), .ref (v 11), .ref (v 12), .ref (v 13)])), ((v 1), .inl (g 0, 29, .inl ft)), ((v 3), .inl (g 0, 33, .inl f)), ((v 6), .inl (g 1, 2, .inl (fun _ => 0)))]) := by
  refine CtV.intro (cc := cX8_lays) (maxL := 2) (ret := none) rfl (by decide +kernel) (Nat.le_of_ble_eq_true rfl) ?_
  intro p e s m below meth c A ls C hmn hX hAe hT hl
  have hx := C.1.1
  have hb := C.1.2.1
  have hl : lv_has ls 2 [(0, .ref m0)] := hl
  have hin8 : ∀ w ∈ u_ws RX8 TX8 21, w ∈ wsX8_lays := by decide +kernel
  refine lv_iconst (v := 0) hx hb dX8_lays_0 (by decide +kernel) ?_
  refine lv_istore_n (lv' := [(1, .int 0), (0, .ref m0)]) hx hb dX8_lays_1 rfl hl (by decide +kernel) rfl (fun ls hl => ?_)
  refine z_loop (α := Nat → Int32) (N := 33) (fun i a => ∀ k, k < i → a k = fl k) (fun i a => [(m0, .inr (8, [.ref (v 0), .int 0, .ref (v 1), .ref (v 2), .ref (v 3), .ref (v 4), .int 0, .ref (v 5), .ref (v 6), .ref (v 7), .int 0, .int 0, .int 0, .int 0, .int 0, .ref (v 8), .ref (v 9), .ref (v 10), .ref (v 11), .ref (v 12), .ref (v 13)])), ((v 1), .inl (g 0, 29, .inl ft)), ((v 3), .inl (g 0, 33, .inl a)), ((v 6), .inl (g 1, 2, .inl (fun _ => 0)))]) (fun i a => [(1, .int (nI i)), (0, .ref m0)]) ?_ ?_ 0 f (Nat.zero_le _) (fun k h => absurd h (Nat.not_lt_zero k)) _ _ _ hT (lv_sub hl [0, 1] rfl)
  · intro i a H locs ls hi hI hT hl ih
    have hT : Sit D (TY g) A s [(m0, .inr (8, [.ref (v 0), .int 0, .ref (v 1), .ref (v 2), .ref (v 3), .ref (v 4), .int 0, .ref (v 5), .ref (v 6), .ref (v 7), .int 0, .int 0, .int 0, .int 0, .int 0, .ref (v 8), .ref (v 9), .ref (v 10), .ref (v 11), .ref (v 12), .ref (v 13)])), ((v 1), .inl (g 0, 29, .inl ft)), ((v 3), .inl (g 0, 33, .inl a)), ((v 6), .inl (g 1, 2, .inl (fun _ => 0)))] H locs := hT
    have hl : lv_has ls _ [(1, .int (nI i)), (0, .ref m0)] := hl
    refine lv_iload_n hx hb dX8_lays_2 rfl (lv_at hl 0 rfl) ?_
    refine lv_bipush (v := 33) hx hb dX8_lays_3 (by decide +kernel) ?_
    refine lv_icmp_ge (tgt := 54) hx hb dX8_lays_5 (by decide +kernel) (fun c9 => absurd c9 (lp_no (by decide +kernel) hi (by decide +kernel))) (fun _ => ?_)
    refine lv_aload_n hx hb dX8_lays_8 rfl (lv_at hl 1 rfl) ?_
    refine z_get C (ci := 8) (N := 21) rfl hin8 hT 0 4 rfl rfl (by decide +kernel) (by decide +kernel) dX8_lays_9 ?_
    refine lv_iload_n hx hb dX8_lays_12 rfl (lv_at hl 0 rfl) ?_
    refine lv_iload_n hx hb dX8_lays_13 rfl (lv_at hl 0 rfl) ?_
    refine lv_bipush (v := 6) hx hb dX8_lays_14 (by decide +kernel) ?_
    refine lv_icmp_ge (tgt := 31) hx hb dX8_lays_16 (by decide +kernel) (fun c_16 => ?_) (fun c_16 => ?_)
    · have h6 : 6 ≤ i := by
        rcases Nat.lt_or_ge i 6 with q | q
        · exact absurd c_16 (lp_no (by decide +kernel) q (by decide +kernel))
        · exact q
      refine lv_iload_n hx hb dX8_lays_31 rfl (lv_at hl 0 rfl) ?_
      refine lv_bipush (v := 18) hx hb dX8_lays_32 (by decide +kernel) ?_
      refine lv_bipush (v := 23) hx hb dX8_lays_34 (by decide +kernel) ?_
      refine z_callSI (wr := [(m0, .inr (8, [.ref (v 0), .int 0, .ref (v 1), .ref (v 2), .ref (v 3), .ref (v 4), .int 0, .ref (v 5), .ref (v 6), .ref (v 7), .int 0, .int 0, .int 0, .int 0, .int 0, .ref (v 8), .ref (v 9), .ref (v 10), .ref (v 11), .ref (v 12), .ref (v 13)])), ((v 1), .inl (g 0, 29, .inl ft)), ((v 3), .inl (g 0, 33, .inl a)), ((v 6), .inl (g 1, 2, .inl (fun _ => 0)))]) (n := 3) (As := [.int (nI i), .int 18, .int 23]) C (c_M_in l D g (nI i) 18 23) gX8_lays_X8_in rfl (by decide +kernel) ⟨Nat.le_of_ble_eq_true rfl, Nat.le_of_ble_eq_true rfl⟩ ⟨Nat.le_of_ble_eq_true rfl, Nat.le_of_ble_eq_true rfl⟩ blind_T (fun _ _ _ => trivial) hT [] [0, 1, 2, 3] rfl rfl rfl rfl rfl rfl hl.1 rfl (Nat.le_of_ble_eq_true rfl) dX8_lays_36 (fun r_3 u_1 H locs hp_2 hT => ?_)
      have hT : Sit D (TY g) A s [(m0, .inr (8, [.ref (v 0), .int 0, .ref (v 1), .ref (v 2), .ref (v 3), .ref (v 4), .int 0, .ref (v 5), .ref (v 6), .ref (v 7), .int 0, .int 0, .int 0, .int 0, .int 0, .ref (v 8), .ref (v 9), .ref (v 10), .ref (v 11), .ref (v 12), .ref (v 13)])), ((v 1), .inl (g 0, 29, .inl ft)), ((v 3), .inl (g 0, 33, .inl a)), ((v 6), .inl (g 1, 2, .inl (fun _ => 0)))] H _ := hT
      have hr := hp_2.trans (in_N (i := i) (a := 18) (b := 23) rfl rfl (by omega) (by decide) (by decide))
      refine lv_if_eq (tgt := 46) hx hb dX8_lays_39 (by decide +kernel) (fun c_39 => ?_) (fun c_39 => ?_)
      · have h9 : ¬ (18 ≤ i ∧ i < 24) := fun q => by rw [if_pos (by omega)] at hr; rw [hr] at c_39; exact absurd c_39 (by decide)
        refine lv_iconst (v := 0) hx hb dX8_lays_46 (by decide +kernel) ?_
        refine z_iast C hT 2 0 rfl rfl (vp_in_nI (by omega) (by decide +kernel)) dX8_lays_47 (upd a i 0) (by rw [nI_clamp (by omega)]) [(m0, .inr (8, [.ref (v 0), .int 0, .ref (v 1), .ref (v 2), .ref (v 3), .ref (v 4), .int 0, .ref (v 5), .ref (v 6), .ref (v 7), .int 0, .int 0, .int 0, .int 0, .int 0, .ref (v 8), .ref (v 9), .ref (v 10), .ref (v 11), .ref (v 12), .ref (v 13)])), ((v 1), .inl (g 0, 29, .inl ft)), ((v 3), .inl (g 0, 33, .inl (upd a i 0))), ((v 6), .inl (g 1, 2, .inl (fun _ => 0)))] rfl (fun H locs hT => ?_)
        refine lv_iinc (v := nI (i + 1)) (lv' := [(1, .int (nI (i + 1))), (0, .ref m0)]) hx hb dX8_lays_48 hl (k := 0) rfl (inc1 _) (by decide +kernel) rfl (fun ls hl => ?_)
        refine lv_goto (tgt := 2) hx hb dX8_lays_51 (by decide +kernel) ?_
        exact ih (upd a i 0) _ _ _ (upd_lt (F := fl) hI (by simp only [fl]; first | rw [if_pos h9] | rw [if_neg h9] | rw [if_neg (by omega)])) hT (lv_sub hl [0, 1] rfl)
      · have h9 : 18 ≤ i ∧ i < 24 := Classical.byContradiction (fun q => by rw [if_neg (by omega)] at hr; exact c_39 hr)
        refine lv_iconst (v := (-1)) hx hb dX8_lays_42 (by decide +kernel) ?_
        refine lv_goto (tgt := 47) hx hb dX8_lays_43 (by decide +kernel) ?_
        refine z_iast C hT 2 0 rfl rfl (vp_in_nI (by omega) (by decide +kernel)) dX8_lays_47 (upd a i (-1)) (by rw [nI_clamp (by omega)]) [(m0, .inr (8, [.ref (v 0), .int 0, .ref (v 1), .ref (v 2), .ref (v 3), .ref (v 4), .int 0, .ref (v 5), .ref (v 6), .ref (v 7), .int 0, .int 0, .int 0, .int 0, .int 0, .ref (v 8), .ref (v 9), .ref (v 10), .ref (v 11), .ref (v 12), .ref (v 13)])), ((v 1), .inl (g 0, 29, .inl ft)), ((v 3), .inl (g 0, 33, .inl (upd a i (-1)))), ((v 6), .inl (g 1, 2, .inl (fun _ => 0)))] rfl (fun H locs hT => ?_)
        refine lv_iinc (v := nI (i + 1)) (lv' := [(1, .int (nI (i + 1))), (0, .ref m0)]) hx hb dX8_lays_48 hl (k := 0) rfl (inc1 _) (by decide +kernel) rfl (fun ls hl => ?_)
        refine lv_goto (tgt := 2) hx hb dX8_lays_51 (by decide +kernel) ?_
        exact ih (upd a i (-1)) _ _ _ (upd_lt (F := fl) hI (by simp only [fl]; first | rw [if_pos h9] | rw [if_neg h9] | rw [if_neg (by omega)])) hT (lv_sub hl [0, 1] rfl)
    · have h6 : i < 6 := by
        rcases Nat.lt_or_ge i 6 with q | q
        · exact q
        · exact absurd (by rw [show (6 : Int32) = nI 6 from rfl]; exact nI_le q (by omega)) c_16
      refine lv_aload_n hx hb dX8_lays_19 rfl (lv_at hl 1 rfl) ?_
      refine z_get C (ci := 8) (N := 21) rfl hin8 hT 0 2 rfl rfl (by decide +kernel) (by decide +kernel) dX8_lays_20 ?_
      refine lv_bipush (v := 11) hx hb dX8_lays_23 (by decide +kernel) ?_
      refine lv_iload_n hx hb dX8_lays_25 rfl (lv_at hl 0 rfl) ?_
      refine lv_iadd hx hb dX8_lays_26 ?_
      refine z_iald C hT 1 0 rfl rfl (by rw [show (11 : Int32) = nI 11 from rfl, nI_add]; exact vp_in_nI (by omega) (by decide +kernel)) (v := 0) (by rw [show (11 : Int32) = nI 11 from rfl, nI_add, nI_clamp (by omega), hF _ (by omega)]; simp only [fr]; rw [if_neg (by omega), if_neg (by omega), if_neg (by omega)]) dX8_lays_27 ?_
      refine lv_goto (tgt := 47) hx hb dX8_lays_28 (by decide +kernel) ?_
      refine z_iast C hT 2 0 rfl rfl (vp_in_nI (by omega) (by decide +kernel)) dX8_lays_47 (upd a i 0) (by rw [nI_clamp (by omega)]) [(m0, .inr (8, [.ref (v 0), .int 0, .ref (v 1), .ref (v 2), .ref (v 3), .ref (v 4), .int 0, .ref (v 5), .ref (v 6), .ref (v 7), .int 0, .int 0, .int 0, .int 0, .int 0, .ref (v 8), .ref (v 9), .ref (v 10), .ref (v 11), .ref (v 12), .ref (v 13)])), ((v 1), .inl (g 0, 29, .inl ft)), ((v 3), .inl (g 0, 33, .inl (upd a i 0))), ((v 6), .inl (g 1, 2, .inl (fun _ => 0)))] rfl (fun H locs hT => ?_)
      refine lv_iinc (v := nI (i + 1)) (lv' := [(1, .int (nI (i + 1))), (0, .ref m0)]) hx hb dX8_lays_48 hl (k := 0) rfl (inc1 _) (by decide +kernel) rfl (fun ls hl => ?_)
      refine lv_goto (tgt := 2) hx hb dX8_lays_51 (by decide +kernel) ?_
      exact ih (upd a i 0) _ _ _ (upd_lt (F := fl) hI (by simp only [fl]; first | rw [if_pos h9] | rw [if_neg h9] | rw [if_neg (by omega)])) hT (lv_sub hl [0, 1] rfl)
  · intro a H locs ls hI hT hl
    have hT : Sit D (TY g) A s [(m0, .inr (8, [.ref (v 0), .int 0, .ref (v 1), .ref (v 2), .ref (v 3), .ref (v 4), .int 0, .ref (v 5), .ref (v 6), .ref (v 7), .int 0, .int 0, .int 0, .int 0, .int 0, .ref (v 8), .ref (v 9), .ref (v 10), .ref (v 11), .ref (v 12), .ref (v 13)])), ((v 1), .inl (g 0, 29, .inl ft)), ((v 3), .inl (g 0, 33, .inl a)), ((v 6), .inl (g 1, 2, .inl (fun _ => 0)))] H locs := hT
    have hl : lv_has ls _ [(1, .int (nI 33)), (0, .ref m0)] := hl
    refine lv_iload_n hx hb dX8_lays_2 rfl (lv_at hl 0 rfl) ?_
    refine lv_bipush (v := 33) hx hb dX8_lays_3 (by decide +kernel) ?_
    refine lv_icmp_ge (tgt := 54) hx hb dX8_lays_5 (by decide +kernel) (fun _ => ?_) (fun c9 => absurd (by decide +kernel) c9)
    refine lv_aload_n hx hb dX8_lays_54 rfl (lv_at hl 1 rfl) ?_
    refine z_get C (ci := 8) (N := 21) rfl hin8 hT 0 4 rfl rfl (by decide +kernel) (by decide +kernel) dX8_lays_55 ?_
    refine lv_bipush (v := 30) hx hb dX8_lays_58 (by decide +kernel) ?_
    refine lv_aload_n hx hb dX8_lays_60 rfl (lv_at hl 1 rfl) ?_
    refine z_get C (ci := 8) (N := 21) rfl hin8 hT 0 2 rfl rfl (by decide +kernel) (by decide +kernel) dX8_lays_61 ?_
    refine lv_iconst (v := 1) hx hb dX8_lays_64 (by decide +kernel) ?_
    refine z_iald C hT 1 0 rfl rfl (vin rfl) (v := 40) ((hF 1 (by decide)).trans rfl) dX8_lays_65 ?_
    refine z_iast C hT 2 0 rfl rfl (vin rfl) dX8_lays_66 (upd a 30 40) rfl [(m0, .inr (8, [.ref (v 0), .int 0, .ref (v 1), .ref (v 2), .ref (v 3), .ref (v 4), .int 0, .ref (v 5), .ref (v 6), .ref (v 7), .int 0, .int 0, .int 0, .int 0, .int 0, .ref (v 8), .ref (v 9), .ref (v 10), .ref (v 11), .ref (v 12), .ref (v 13)])), ((v 1), .inl (g 0, 29, .inl ft)), ((v 3), .inl (g 0, 33, .inl (upd a 30 40))), ((v 6), .inl (g 1, 2, .inl (fun _ => 0)))] rfl (fun H locs hT => ?_)
    refine lv_aload_n hx hb dX8_lays_67 rfl (lv_at hl 1 rfl) ?_
    refine z_get C (ci := 8) (N := 21) rfl hin8 hT 0 4 rfl rfl (by decide +kernel) (by decide +kernel) dX8_lays_68 ?_
    refine lv_bipush (v := 31) hx hb dX8_lays_71 (by decide +kernel) ?_
    refine lv_aload_n hx hb dX8_lays_73 rfl (lv_at hl 1 rfl) ?_
    refine z_get C (ci := 8) (N := 21) rfl hin8 hT 0 2 rfl rfl (by decide +kernel) (by decide +kernel) dX8_lays_74 ?_
    refine lv_iconst (v := 2) hx hb dX8_lays_77 (by decide +kernel) ?_
    refine z_iald C hT 1 0 rfl rfl (vin rfl) (v := 8) ((hF 2 (by decide)).trans rfl) dX8_lays_78 ?_
    refine z_iast C hT 2 0 rfl rfl (vin rfl) dX8_lays_79 (upd (upd a 30 40) 31 8) rfl [(m0, .inr (8, [.ref (v 0), .int 0, .ref (v 1), .ref (v 2), .ref (v 3), .ref (v 4), .int 0, .ref (v 5), .ref (v 6), .ref (v 7), .int 0, .int 0, .int 0, .int 0, .int 0, .ref (v 8), .ref (v 9), .ref (v 10), .ref (v 11), .ref (v 12), .ref (v 13)])), ((v 1), .inl (g 0, 29, .inl ft)), ((v 3), .inl (g 0, 33, .inl (upd (upd a 30 40) 31 8))), ((v 6), .inl (g 1, 2, .inl (fun _ => 0)))] rfl (fun H locs hT => ?_)
    refine lv_aload_n hx hb dX8_lays_80 rfl (lv_at hl 1 rfl) ?_
    refine lv_iconst (v := 0) hx hb dX8_lays_81 (by decide +kernel) ?_
    refine z_put C (ci := 8) (N := 21) rfl hin8 tyX8_ok nmX8 hT 0 6 rfl (Nat.le_of_ble_eq_true rfl) (by decide +kernel) (by decide +kernel) rfl rfl rfl dX8_lays_82 [(m0, .inr (8, [.ref (v 0), .int 0, .ref (v 1), .ref (v 2), .ref (v 3), .ref (v 4), .int 0, .ref (v 5), .ref (v 6), .ref (v 7), .int 0, .int 0, .int 0, .int 0, .int 0, .ref (v 8), .ref (v 9), .ref (v 10), .ref (v 11), .ref (v 12), .ref (v 13)])), ((v 1), .inl (g 0, 29, .inl ft)), ((v 3), .inl (g 0, 33, .inl (upd (upd a 30 40) 31 8))), ((v 6), .inl (g 1, 2, .inl (fun _ => 0)))] rfl (fun H locs hT => ?_)
    refine lv_aload_n hx hb dX8_lays_85 rfl (lv_at hl 1 rfl) ?_
    refine lv_iconst (v := 0) hx hb dX8_lays_86 (by decide +kernel) ?_
    refine z_put C (ci := 8) (N := 21) rfl hin8 tyX8_ok nmX8 hT 0 10 rfl (Nat.le_of_ble_eq_true rfl) (by decide +kernel) (by decide +kernel) rfl rfl rfl dX8_lays_87 [(m0, .inr (8, [.ref (v 0), .int 0, .ref (v 1), .ref (v 2), .ref (v 3), .ref (v 4), .int 0, .ref (v 5), .ref (v 6), .ref (v 7), .int 0, .int 0, .int 0, .int 0, .int 0, .ref (v 8), .ref (v 9), .ref (v 10), .ref (v 11), .ref (v 12), .ref (v 13)])), ((v 1), .inl (g 0, 29, .inl ft)), ((v 3), .inl (g 0, 33, .inl (upd (upd a 30 40) 31 8))), ((v 6), .inl (g 1, 2, .inl (fun _ => 0)))] rfl (fun H locs hT => ?_)
    refine lv_aload_n hx hb dX8_lays_90 rfl (lv_at hl 1 rfl) ?_
    refine z_get C (ci := 8) (N := 21) rfl hin8 hT 0 8 rfl rfl (by decide +kernel) (by decide +kernel) dX8_lays_91 ?_
    refine lv_iconst (v := 0) hx hb dX8_lays_94 (by decide +kernel) ?_
    refine lv_iconst (v := 0) hx hb dX8_lays_95 (by decide +kernel) ?_
    refine z_zast C hT 3 1 rfl rfl (vin rfl) dX8_lays_96 (fun _ => 0) (upd_z 0) [(m0, .inr (8, [.ref (v 0), .int 0, .ref (v 1), .ref (v 2), .ref (v 3), .ref (v 4), .int 0, .ref (v 5), .ref (v 6), .ref (v 7), .int 0, .int 0, .int 0, .int 0, .int 0, .ref (v 8), .ref (v 9), .ref (v 10), .ref (v 11), .ref (v 12), .ref (v 13)])), ((v 1), .inl (g 0, 29, .inl ft)), ((v 3), .inl (g 0, 33, .inl (upd (upd a 30 40) 31 8))), ((v 6), .inl (g 1, 2, .inl (fun _ => 0)))] rfl (fun H locs hT => ?_)
    refine lv_aload_n hx hb dX8_lays_97 rfl (lv_at hl 1 rfl) ?_
    refine z_get C (ci := 8) (N := 21) rfl hin8 hT 0 8 rfl rfl (by decide +kernel) (by decide +kernel) dX8_lays_98 ?_
    refine lv_iconst (v := 1) hx hb dX8_lays_101 (by decide +kernel) ?_
    refine lv_iconst (v := 0) hx hb dX8_lays_102 (by decide +kernel) ?_
    refine z_zast C hT 3 1 rfl rfl (vin rfl) dX8_lays_103 (fun _ => 0) (upd_z 1) [(m0, .inr (8, [.ref (v 0), .int 0, .ref (v 1), .ref (v 2), .ref (v 3), .ref (v 4), .int 0, .ref (v 5), .ref (v 6), .ref (v 7), .int 0, .int 0, .int 0, .int 0, .int 0, .ref (v 8), .ref (v 9), .ref (v 10), .ref (v 11), .ref (v 12), .ref (v 13)])), ((v 1), .inl (g 0, 29, .inl ft)), ((v 3), .inl (g 0, 33, .inl (upd (upd a 30 40) 31 8))), ((v 6), .inl (g 1, 2, .inl (fun _ => 0)))] rfl (fun H locs hT => ?_)
    exact z_vret C rfl hT (upd (upd a 30 40) 31 8) (fs0_of hI) [0, 1, 2, 3] rfl rfl (Nat.le_of_ble_eq_true rfl) (Nat.le_of_ble_eq_true rfl) dX8_lays_104

/-- a new model's told cells -/
def modF (ft fs : Nat → Int32) : Prop := (∀ k, k < 29 → ft k = fr k) ∧ ∀ k, k < 33 → fs k = fs0 k
abbrev modW (g : Nat → ClassId) (m : Nat) (v : Nat → Nat) (ft fd fs : Nat → Int32) : va_W := [(m, .inr (8, [.ref (v 0), .int 0, .ref (v 1), .ref (v 2), .ref (v 3), .ref (v 4), .int 0, .ref (v 5), .ref (v 6), .ref (v 7), .int 0, .int 0, .int 0, .int 0, .int 0, .ref (v 8), .ref (v 9), .ref (v 10), .ref (v 11), .ref (v 12), .ref (v 13)])), ((v 0), .inl (g 0, 160, .inl (fun _ => 0))), ((v 1), .inl (g 0, 29, .inl ft)), ((v 2), .inl (g 0, 29, .inl fd)), ((v 3), .inl (g 0, 33, .inl fs)), ((v 4), .inl (g 0, 264, .inl (fun _ => 0))), ((v 5), .inl (g 0, 66, .inl (fun _ => 0))), ((v 6), .inl (g 1, 2, .inl (fun _ => 0))), ((v 7), .inl (g 0, 6, .inl (fun _ => 0))), ((v 11), .inl (g 0, 100, .inl (fun _ => 0))), ((v 12), .inl (g 0, 10, .inl (fun _ => 0)))]
set_option maxHeartbeats 4000000 in
set_option maxRecDepth 100000 in
/-- CowardsPotModel() -/
theorem c_M_init (l : Launch) (D : va_G) (g : Nat → ClassId) (m0 : Nat) : CtV l yX8_init wsX8_init { frames := 2, cells := 14, slots := 744, locals := 60 } D (TY g) [.ref m0] (fun _ => True) [(m0, .inr (8, [.null, .int 0, .null, .null, .null, .null, .int 0, .null, .null, .null, .int 0, .int 0, .int 0, .int 0, .int 0, .null, .null, .null, .null, .null, .null]))] (fun z : (Nat → Nat) × (Nat → Int32) × (Nat → Int32) × (Nat → Int32) => modF z.2.1 z.2.2.2) (fun z : (Nat → Nat) × (Nat → Int32) × (Nat → Int32) × (Nat → Int32) => modW g m0 z.1 z.2.1 z.2.2.1 z.2.2.2) := by
  refine CtV.intro (cc := cX8_init) (maxL := 2) (ret := none) rfl (by decide +kernel) (Nat.le_of_ble_eq_true rfl) ?_
  intro p e s m below meth c A ls C hmn hX hAe hT hl
  have hx := C.1.1
  have hb := C.1.2.1
  have hl : lv_has ls 2 [(0, .ref m0)] := hl
  have hin8 : ∀ w ∈ u_ws RX8 TX8 21, w ∈ wsX8_init := by decide +kernel
  refine lv_aload_n hx hb dX8_init_0 rfl (lv_at hl 0 rfl) ?_
  refine z_objInit C (by decide +kernel) (by decide +kernel) (by decide +kernel) hl.1 dX8_init_1 (Nat.le_of_ble_eq_true rfl) (Nat.le_of_ble_eq_true rfl) ?_
  refine lv_aload_n hx hb dX8_init_4 rfl (lv_at hl 0 rfl) ?_
  refine lv_sipush (v := 160) hx hb dX8_init_5 (by decide +kernel) ?_
  refine z_new0 C hT 0 160 (by decide +kernel) rfl (by decide +kernel) (by decide +kernel) (by decide +kernel) (Nat.le_of_ble_eq_true rfl) (Nat.le_of_ble_eq_true rfl) dX8_init_8 (fun q_1 H hT => ?_)
  have hT : Sit D (TY g) A s [(m0, .inr (8, [.null, .int 0, .null, .null, .null, .null, .int 0, .null, .null, .null, .int 0, .int 0, .int 0, .int 0, .int 0, .null, .null, .null, .null, .null, .null])), (q_1, .inl (g 0, 160, .inl (fun _ => 0)))] H _ := hT
  refine z_putF C (ci := 8) (N := 21) rfl hin8 tyX8_ok nmX8 hT 0 0 rfl (Nat.le_of_ble_eq_true rfl) (by decide +kernel) (by decide +kernel) rfl hmn rfl rfl rfl dX8_init_10 [(m0, .inr (8, [.ref q_1, .int 0, .null, .null, .null, .null, .int 0, .null, .null, .null, .int 0, .int 0, .int 0, .int 0, .int 0, .null, .null, .null, .null, .null, .null])), (q_1, .inl (g 0, 160, .inl (fun _ => 0)))] rfl (fun H locs hT => ?_)
  refine lv_aload_n hx hb dX8_init_13 rfl (lv_at hl 0 rfl) ?_
  refine lv_bipush (v := 29) hx hb dX8_init_14 (by decide +kernel) ?_
  refine z_new0 C hT 0 29 (by decide +kernel) rfl (by decide +kernel) (by decide +kernel) (by decide +kernel) (Nat.le_of_ble_eq_true rfl) (Nat.le_of_ble_eq_true rfl) dX8_init_16 (fun q_2 H hT => ?_)
  have hT : Sit D (TY g) A s [(m0, .inr (8, [.ref q_1, .int 0, .null, .null, .null, .null, .int 0, .null, .null, .null, .int 0, .int 0, .int 0, .int 0, .int 0, .null, .null, .null, .null, .null, .null])), (q_1, .inl (g 0, 160, .inl (fun _ => 0))), (q_2, .inl (g 0, 29, .inl (fun _ => 0)))] H _ := hT
  refine z_putF C (ci := 8) (N := 21) rfl hin8 tyX8_ok nmX8 hT 0 2 rfl (Nat.le_of_ble_eq_true rfl) (by decide +kernel) (by decide +kernel) rfl hmn rfl rfl rfl dX8_init_18 [(m0, .inr (8, [.ref q_1, .int 0, .ref q_2, .null, .null, .null, .int 0, .null, .null, .null, .int 0, .int 0, .int 0, .int 0, .int 0, .null, .null, .null, .null, .null, .null])), (q_1, .inl (g 0, 160, .inl (fun _ => 0))), (q_2, .inl (g 0, 29, .inl (fun _ => 0)))] rfl (fun H locs hT => ?_)
  refine lv_aload_n hx hb dX8_init_21 rfl (lv_at hl 0 rfl) ?_
  refine lv_bipush (v := 29) hx hb dX8_init_22 (by decide +kernel) ?_
  refine z_new0 C hT 0 29 (by decide +kernel) rfl (by decide +kernel) (by decide +kernel) (by decide +kernel) (Nat.le_of_ble_eq_true rfl) (Nat.le_of_ble_eq_true rfl) dX8_init_24 (fun q_3 H hT => ?_)
  have hT : Sit D (TY g) A s [(m0, .inr (8, [.ref q_1, .int 0, .ref q_2, .null, .null, .null, .int 0, .null, .null, .null, .int 0, .int 0, .int 0, .int 0, .int 0, .null, .null, .null, .null, .null, .null])), (q_1, .inl (g 0, 160, .inl (fun _ => 0))), (q_2, .inl (g 0, 29, .inl (fun _ => 0))), (q_3, .inl (g 0, 29, .inl (fun _ => 0)))] H _ := hT
  refine z_putF C (ci := 8) (N := 21) rfl hin8 tyX8_ok nmX8 hT 0 3 rfl (Nat.le_of_ble_eq_true rfl) (by decide +kernel) (by decide +kernel) rfl hmn rfl rfl rfl dX8_init_26 [(m0, .inr (8, [.ref q_1, .int 0, .ref q_2, .ref q_3, .null, .null, .int 0, .null, .null, .null, .int 0, .int 0, .int 0, .int 0, .int 0, .null, .null, .null, .null, .null, .null])), (q_1, .inl (g 0, 160, .inl (fun _ => 0))), (q_2, .inl (g 0, 29, .inl (fun _ => 0))), (q_3, .inl (g 0, 29, .inl (fun _ => 0)))] rfl (fun H locs hT => ?_)
  refine lv_aload_n hx hb dX8_init_29 rfl (lv_at hl 0 rfl) ?_
  refine lv_bipush (v := 33) hx hb dX8_init_30 (by decide +kernel) ?_
  refine z_new0 C hT 0 33 (by decide +kernel) rfl (by decide +kernel) (by decide +kernel) (by decide +kernel) (Nat.le_of_ble_eq_true rfl) (Nat.le_of_ble_eq_true rfl) dX8_init_32 (fun q_4 H hT => ?_)
  have hT : Sit D (TY g) A s [(m0, .inr (8, [.ref q_1, .int 0, .ref q_2, .ref q_3, .null, .null, .int 0, .null, .null, .null, .int 0, .int 0, .int 0, .int 0, .int 0, .null, .null, .null, .null, .null, .null])), (q_1, .inl (g 0, 160, .inl (fun _ => 0))), (q_2, .inl (g 0, 29, .inl (fun _ => 0))), (q_3, .inl (g 0, 29, .inl (fun _ => 0))), (q_4, .inl (g 0, 33, .inl (fun _ => 0)))] H _ := hT
  refine z_putF C (ci := 8) (N := 21) rfl hin8 tyX8_ok nmX8 hT 0 4 rfl (Nat.le_of_ble_eq_true rfl) (by decide +kernel) (by decide +kernel) rfl hmn rfl rfl rfl dX8_init_34 [(m0, .inr (8, [.ref q_1, .int 0, .ref q_2, .ref q_3, .ref q_4, .null, .int 0, .null, .null, .null, .int 0, .int 0, .int 0, .int 0, .int 0, .null, .null, .null, .null, .null, .null])), (q_1, .inl (g 0, 160, .inl (fun _ => 0))), (q_2, .inl (g 0, 29, .inl (fun _ => 0))), (q_3, .inl (g 0, 29, .inl (fun _ => 0))), (q_4, .inl (g 0, 33, .inl (fun _ => 0)))] rfl (fun H locs hT => ?_)
  refine lv_aload_n hx hb dX8_init_37 rfl (lv_at hl 0 rfl) ?_
  refine lv_sipush (v := 264) hx hb dX8_init_38 (by decide +kernel) ?_
  refine z_new0 C hT 0 264 (by decide +kernel) rfl (by decide +kernel) (by decide +kernel) (by decide +kernel) (Nat.le_of_ble_eq_true rfl) (Nat.le_of_ble_eq_true rfl) dX8_init_41 (fun q_5 H hT => ?_)
  have hT : Sit D (TY g) A s [(m0, .inr (8, [.ref q_1, .int 0, .ref q_2, .ref q_3, .ref q_4, .null, .int 0, .null, .null, .null, .int 0, .int 0, .int 0, .int 0, .int 0, .null, .null, .null, .null, .null, .null])), (q_1, .inl (g 0, 160, .inl (fun _ => 0))), (q_2, .inl (g 0, 29, .inl (fun _ => 0))), (q_3, .inl (g 0, 29, .inl (fun _ => 0))), (q_4, .inl (g 0, 33, .inl (fun _ => 0))), (q_5, .inl (g 0, 264, .inl (fun _ => 0)))] H _ := hT
  refine z_putF C (ci := 8) (N := 21) rfl hin8 tyX8_ok nmX8 hT 0 5 rfl (Nat.le_of_ble_eq_true rfl) (by decide +kernel) (by decide +kernel) rfl hmn rfl rfl rfl dX8_init_43 [(m0, .inr (8, [.ref q_1, .int 0, .ref q_2, .ref q_3, .ref q_4, .ref q_5, .int 0, .null, .null, .null, .int 0, .int 0, .int 0, .int 0, .int 0, .null, .null, .null, .null, .null, .null])), (q_1, .inl (g 0, 160, .inl (fun _ => 0))), (q_2, .inl (g 0, 29, .inl (fun _ => 0))), (q_3, .inl (g 0, 29, .inl (fun _ => 0))), (q_4, .inl (g 0, 33, .inl (fun _ => 0))), (q_5, .inl (g 0, 264, .inl (fun _ => 0)))] rfl (fun H locs hT => ?_)
  refine lv_aload_n hx hb dX8_init_46 rfl (lv_at hl 0 rfl) ?_
  refine lv_bipush (v := 66) hx hb dX8_init_47 (by decide +kernel) ?_
  refine z_new0 C hT 0 66 (by decide +kernel) rfl (by decide +kernel) (by decide +kernel) (by decide +kernel) (Nat.le_of_ble_eq_true rfl) (Nat.le_of_ble_eq_true rfl) dX8_init_49 (fun q_6 H hT => ?_)
  have hT : Sit D (TY g) A s [(m0, .inr (8, [.ref q_1, .int 0, .ref q_2, .ref q_3, .ref q_4, .ref q_5, .int 0, .null, .null, .null, .int 0, .int 0, .int 0, .int 0, .int 0, .null, .null, .null, .null, .null, .null])), (q_1, .inl (g 0, 160, .inl (fun _ => 0))), (q_2, .inl (g 0, 29, .inl (fun _ => 0))), (q_3, .inl (g 0, 29, .inl (fun _ => 0))), (q_4, .inl (g 0, 33, .inl (fun _ => 0))), (q_5, .inl (g 0, 264, .inl (fun _ => 0))), (q_6, .inl (g 0, 66, .inl (fun _ => 0)))] H _ := hT
  refine z_putF C (ci := 8) (N := 21) rfl hin8 tyX8_ok nmX8 hT 0 7 rfl (Nat.le_of_ble_eq_true rfl) (by decide +kernel) (by decide +kernel) rfl hmn rfl rfl rfl dX8_init_51 [(m0, .inr (8, [.ref q_1, .int 0, .ref q_2, .ref q_3, .ref q_4, .ref q_5, .int 0, .ref q_6, .null, .null, .int 0, .int 0, .int 0, .int 0, .int 0, .null, .null, .null, .null, .null, .null])), (q_1, .inl (g 0, 160, .inl (fun _ => 0))), (q_2, .inl (g 0, 29, .inl (fun _ => 0))), (q_3, .inl (g 0, 29, .inl (fun _ => 0))), (q_4, .inl (g 0, 33, .inl (fun _ => 0))), (q_5, .inl (g 0, 264, .inl (fun _ => 0))), (q_6, .inl (g 0, 66, .inl (fun _ => 0)))] rfl (fun H locs hT => ?_)
  refine lv_aload_n hx hb dX8_init_54 rfl (lv_at hl 0 rfl) ?_
  refine lv_iconst (v := 2) hx hb dX8_init_55 (by decide +kernel) ?_
  refine z_new1 C hT 1 2 (by decide +kernel) rfl (by decide +kernel) (by decide +kernel) (by decide +kernel) (Nat.le_of_ble_eq_true rfl) (Nat.le_of_ble_eq_true rfl) dX8_init_56 (fun q_7 H hT => ?_)
  have hT : Sit D (TY g) A s [(m0, .inr (8, [.ref q_1, .int 0, .ref q_2, .ref q_3, .ref q_4, .ref q_5, .int 0, .ref q_6, .null, .null, .int 0, .int 0, .int 0, .int 0, .int 0, .null, .null, .null, .null, .null, .null])), (q_1, .inl (g 0, 160, .inl (fun _ => 0))), (q_2, .inl (g 0, 29, .inl (fun _ => 0))), (q_3, .inl (g 0, 29, .inl (fun _ => 0))), (q_4, .inl (g 0, 33, .inl (fun _ => 0))), (q_5, .inl (g 0, 264, .inl (fun _ => 0))), (q_6, .inl (g 0, 66, .inl (fun _ => 0))), (q_7, .inl (g 1, 2, .inl (fun _ => 0)))] H _ := hT
  refine z_putF C (ci := 8) (N := 21) rfl hin8 tyX8_ok nmX8 hT 0 8 rfl (Nat.le_of_ble_eq_true rfl) (by decide +kernel) (by decide +kernel) rfl hmn rfl rfl rfl dX8_init_58 [(m0, .inr (8, [.ref q_1, .int 0, .ref q_2, .ref q_3, .ref q_4, .ref q_5, .int 0, .ref q_6, .ref q_7, .null, .int 0, .int 0, .int 0, .int 0, .int 0, .null, .null, .null, .null, .null, .null])), (q_1, .inl (g 0, 160, .inl (fun _ => 0))), (q_2, .inl (g 0, 29, .inl (fun _ => 0))), (q_3, .inl (g 0, 29, .inl (fun _ => 0))), (q_4, .inl (g 0, 33, .inl (fun _ => 0))), (q_5, .inl (g 0, 264, .inl (fun _ => 0))), (q_6, .inl (g 0, 66, .inl (fun _ => 0))), (q_7, .inl (g 1, 2, .inl (fun _ => 0)))] rfl (fun H locs hT => ?_)
  refine lv_aload_n hx hb dX8_init_61 rfl (lv_at hl 0 rfl) ?_
  refine lv_bipush (v := 6) hx hb dX8_init_62 (by decide +kernel) ?_
  refine z_new0 C hT 0 6 (by decide +kernel) rfl (by decide +kernel) (by decide +kernel) (by decide +kernel) (Nat.le_of_ble_eq_true rfl) (Nat.le_of_ble_eq_true rfl) dX8_init_64 (fun q_8 H hT => ?_)
  have hT : Sit D (TY g) A s [(m0, .inr (8, [.ref q_1, .int 0, .ref q_2, .ref q_3, .ref q_4, .ref q_5, .int 0, .ref q_6, .ref q_7, .null, .int 0, .int 0, .int 0, .int 0, .int 0, .null, .null, .null, .null, .null, .null])), (q_1, .inl (g 0, 160, .inl (fun _ => 0))), (q_2, .inl (g 0, 29, .inl (fun _ => 0))), (q_3, .inl (g 0, 29, .inl (fun _ => 0))), (q_4, .inl (g 0, 33, .inl (fun _ => 0))), (q_5, .inl (g 0, 264, .inl (fun _ => 0))), (q_6, .inl (g 0, 66, .inl (fun _ => 0))), (q_7, .inl (g 1, 2, .inl (fun _ => 0))), (q_8, .inl (g 0, 6, .inl (fun _ => 0)))] H _ := hT
  refine z_putF C (ci := 8) (N := 21) rfl hin8 tyX8_ok nmX8 hT 0 9 rfl (Nat.le_of_ble_eq_true rfl) (by decide +kernel) (by decide +kernel) rfl hmn rfl rfl rfl dX8_init_66 [(m0, .inr (8, [.ref q_1, .int 0, .ref q_2, .ref q_3, .ref q_4, .ref q_5, .int 0, .ref q_6, .ref q_7, .ref q_8, .int 0, .int 0, .int 0, .int 0, .int 0, .null, .null, .null, .null, .null, .null])), (q_1, .inl (g 0, 160, .inl (fun _ => 0))), (q_2, .inl (g 0, 29, .inl (fun _ => 0))), (q_3, .inl (g 0, 29, .inl (fun _ => 0))), (q_4, .inl (g 0, 33, .inl (fun _ => 0))), (q_5, .inl (g 0, 264, .inl (fun _ => 0))), (q_6, .inl (g 0, 66, .inl (fun _ => 0))), (q_7, .inl (g 1, 2, .inl (fun _ => 0))), (q_8, .inl (g 0, 6, .inl (fun _ => 0)))] rfl (fun H locs hT => ?_)
  refine lv_aload_n hx hb dX8_init_69 rfl (lv_at hl 0 rfl) ?_
  refine lv_bipush (v := 6) hx hb dX8_init_70 (by decide +kernel) ?_
  refine z_new0 C hT 0 6 (by decide +kernel) rfl (by decide +kernel) (by decide +kernel) (by decide +kernel) (Nat.le_of_ble_eq_true rfl) (Nat.le_of_ble_eq_true rfl) dX8_init_72 (fun q_9 H hT => ?_)
  have hT : Sit D (TY g) A s [(m0, .inr (8, [.ref q_1, .int 0, .ref q_2, .ref q_3, .ref q_4, .ref q_5, .int 0, .ref q_6, .ref q_7, .ref q_8, .int 0, .int 0, .int 0, .int 0, .int 0, .null, .null, .null, .null, .null, .null])), (q_1, .inl (g 0, 160, .inl (fun _ => 0))), (q_2, .inl (g 0, 29, .inl (fun _ => 0))), (q_3, .inl (g 0, 29, .inl (fun _ => 0))), (q_4, .inl (g 0, 33, .inl (fun _ => 0))), (q_5, .inl (g 0, 264, .inl (fun _ => 0))), (q_6, .inl (g 0, 66, .inl (fun _ => 0))), (q_7, .inl (g 1, 2, .inl (fun _ => 0))), (q_8, .inl (g 0, 6, .inl (fun _ => 0))), (q_9, .inl (g 0, 6, .inl (fun _ => 0)))] H _ := hT
  refine z_putF C (ci := 8) (N := 21) rfl hin8 tyX8_ok nmX8 hT 0 15 rfl (Nat.le_of_ble_eq_true rfl) (by decide +kernel) (by decide +kernel) rfl hmn rfl rfl rfl dX8_init_74 [(m0, .inr (8, [.ref q_1, .int 0, .ref q_2, .ref q_3, .ref q_4, .ref q_5, .int 0, .ref q_6, .ref q_7, .ref q_8, .int 0, .int 0, .int 0, .int 0, .int 0, .ref q_9, .null, .null, .null, .null, .null])), (q_1, .inl (g 0, 160, .inl (fun _ => 0))), (q_2, .inl (g 0, 29, .inl (fun _ => 0))), (q_3, .inl (g 0, 29, .inl (fun _ => 0))), (q_4, .inl (g 0, 33, .inl (fun _ => 0))), (q_5, .inl (g 0, 264, .inl (fun _ => 0))), (q_6, .inl (g 0, 66, .inl (fun _ => 0))), (q_7, .inl (g 1, 2, .inl (fun _ => 0))), (q_8, .inl (g 0, 6, .inl (fun _ => 0))), (q_9, .inl (g 0, 6, .inl (fun _ => 0)))] rfl (fun H locs hT => ?_)
  refine lv_aload_n hx hb dX8_init_77 rfl (lv_at hl 0 rfl) ?_
  refine lv_iconst (v := 3) hx hb dX8_init_78 (by decide +kernel) ?_
  refine z_new0 C hT 0 3 (by decide +kernel) rfl (by decide +kernel) (by decide +kernel) (by decide +kernel) (Nat.le_of_ble_eq_true rfl) (Nat.le_of_ble_eq_true rfl) dX8_init_79 (fun q_10 H hT => ?_)
  have hT : Sit D (TY g) A s [(m0, .inr (8, [.ref q_1, .int 0, .ref q_2, .ref q_3, .ref q_4, .ref q_5, .int 0, .ref q_6, .ref q_7, .ref q_8, .int 0, .int 0, .int 0, .int 0, .int 0, .ref q_9, .null, .null, .null, .null, .null])), (q_1, .inl (g 0, 160, .inl (fun _ => 0))), (q_2, .inl (g 0, 29, .inl (fun _ => 0))), (q_3, .inl (g 0, 29, .inl (fun _ => 0))), (q_4, .inl (g 0, 33, .inl (fun _ => 0))), (q_5, .inl (g 0, 264, .inl (fun _ => 0))), (q_6, .inl (g 0, 66, .inl (fun _ => 0))), (q_7, .inl (g 1, 2, .inl (fun _ => 0))), (q_8, .inl (g 0, 6, .inl (fun _ => 0))), (q_9, .inl (g 0, 6, .inl (fun _ => 0))), (q_10, .inl (g 0, 3, .inl (fun _ => 0)))] H _ := hT
  refine z_putF C (ci := 8) (N := 21) rfl hin8 tyX8_ok nmX8 hT 0 16 rfl (Nat.le_of_ble_eq_true rfl) (by decide +kernel) (by decide +kernel) rfl hmn rfl rfl rfl dX8_init_81 [(m0, .inr (8, [.ref q_1, .int 0, .ref q_2, .ref q_3, .ref q_4, .ref q_5, .int 0, .ref q_6, .ref q_7, .ref q_8, .int 0, .int 0, .int 0, .int 0, .int 0, .ref q_9, .ref q_10, .null, .null, .null, .null])), (q_1, .inl (g 0, 160, .inl (fun _ => 0))), (q_2, .inl (g 0, 29, .inl (fun _ => 0))), (q_3, .inl (g 0, 29, .inl (fun _ => 0))), (q_4, .inl (g 0, 33, .inl (fun _ => 0))), (q_5, .inl (g 0, 264, .inl (fun _ => 0))), (q_6, .inl (g 0, 66, .inl (fun _ => 0))), (q_7, .inl (g 1, 2, .inl (fun _ => 0))), (q_8, .inl (g 0, 6, .inl (fun _ => 0))), (q_9, .inl (g 0, 6, .inl (fun _ => 0))), (q_10, .inl (g 0, 3, .inl (fun _ => 0)))] rfl (fun H locs hT => ?_)
  refine lv_aload_n hx hb dX8_init_84 rfl (lv_at hl 0 rfl) ?_
  refine lv_iconst (v := 3) hx hb dX8_init_85 (by decide +kernel) ?_
  refine z_new0 C hT 0 3 (by decide +kernel) rfl (by decide +kernel) (by decide +kernel) (by decide +kernel) (Nat.le_of_ble_eq_true rfl) (Nat.le_of_ble_eq_true rfl) dX8_init_86 (fun q_11 H hT => ?_)
  have hT : Sit D (TY g) A s [(m0, .inr (8, [.ref q_1, .int 0, .ref q_2, .ref q_3, .ref q_4, .ref q_5, .int 0, .ref q_6, .ref q_7, .ref q_8, .int 0, .int 0, .int 0, .int 0, .int 0, .ref q_9, .ref q_10, .null, .null, .null, .null])), (q_1, .inl (g 0, 160, .inl (fun _ => 0))), (q_2, .inl (g 0, 29, .inl (fun _ => 0))), (q_3, .inl (g 0, 29, .inl (fun _ => 0))), (q_4, .inl (g 0, 33, .inl (fun _ => 0))), (q_5, .inl (g 0, 264, .inl (fun _ => 0))), (q_6, .inl (g 0, 66, .inl (fun _ => 0))), (q_7, .inl (g 1, 2, .inl (fun _ => 0))), (q_8, .inl (g 0, 6, .inl (fun _ => 0))), (q_9, .inl (g 0, 6, .inl (fun _ => 0))), (q_10, .inl (g 0, 3, .inl (fun _ => 0))), (q_11, .inl (g 0, 3, .inl (fun _ => 0)))] H _ := hT
  refine z_putF C (ci := 8) (N := 21) rfl hin8 tyX8_ok nmX8 hT 0 17 rfl (Nat.le_of_ble_eq_true rfl) (by decide +kernel) (by decide +kernel) rfl hmn rfl rfl rfl dX8_init_88 [(m0, .inr (8, [.ref q_1, .int 0, .ref q_2, .ref q_3, .ref q_4, .ref q_5, .int 0, .ref q_6, .ref q_7, .ref q_8, .int 0, .int 0, .int 0, .int 0, .int 0, .ref q_9, .ref q_10, .ref q_11, .null, .null, .null])), (q_1, .inl (g 0, 160, .inl (fun _ => 0))), (q_2, .inl (g 0, 29, .inl (fun _ => 0))), (q_3, .inl (g 0, 29, .inl (fun _ => 0))), (q_4, .inl (g 0, 33, .inl (fun _ => 0))), (q_5, .inl (g 0, 264, .inl (fun _ => 0))), (q_6, .inl (g 0, 66, .inl (fun _ => 0))), (q_7, .inl (g 1, 2, .inl (fun _ => 0))), (q_8, .inl (g 0, 6, .inl (fun _ => 0))), (q_9, .inl (g 0, 6, .inl (fun _ => 0))), (q_10, .inl (g 0, 3, .inl (fun _ => 0))), (q_11, .inl (g 0, 3, .inl (fun _ => 0)))] rfl (fun H locs hT => ?_)
  refine lv_aload_n hx hb dX8_init_91 rfl (lv_at hl 0 rfl) ?_
  refine lv_bipush (v := 100) hx hb dX8_init_92 (by decide +kernel) ?_
  refine z_new0 C hT 0 100 (by decide +kernel) rfl (by decide +kernel) (by decide +kernel) (by decide +kernel) (Nat.le_of_ble_eq_true rfl) (Nat.le_of_ble_eq_true rfl) dX8_init_94 (fun q_12 H hT => ?_)
  have hT : Sit D (TY g) A s [(m0, .inr (8, [.ref q_1, .int 0, .ref q_2, .ref q_3, .ref q_4, .ref q_5, .int 0, .ref q_6, .ref q_7, .ref q_8, .int 0, .int 0, .int 0, .int 0, .int 0, .ref q_9, .ref q_10, .ref q_11, .null, .null, .null])), (q_1, .inl (g 0, 160, .inl (fun _ => 0))), (q_2, .inl (g 0, 29, .inl (fun _ => 0))), (q_3, .inl (g 0, 29, .inl (fun _ => 0))), (q_4, .inl (g 0, 33, .inl (fun _ => 0))), (q_5, .inl (g 0, 264, .inl (fun _ => 0))), (q_6, .inl (g 0, 66, .inl (fun _ => 0))), (q_7, .inl (g 1, 2, .inl (fun _ => 0))), (q_8, .inl (g 0, 6, .inl (fun _ => 0))), (q_9, .inl (g 0, 6, .inl (fun _ => 0))), (q_10, .inl (g 0, 3, .inl (fun _ => 0))), (q_11, .inl (g 0, 3, .inl (fun _ => 0))), (q_12, .inl (g 0, 100, .inl (fun _ => 0)))] H _ := hT
  refine z_putF C (ci := 8) (N := 21) rfl hin8 tyX8_ok nmX8 hT 0 18 rfl (Nat.le_of_ble_eq_true rfl) (by decide +kernel) (by decide +kernel) rfl hmn rfl rfl rfl dX8_init_96 [(m0, .inr (8, [.ref q_1, .int 0, .ref q_2, .ref q_3, .ref q_4, .ref q_5, .int 0, .ref q_6, .ref q_7, .ref q_8, .int 0, .int 0, .int 0, .int 0, .int 0, .ref q_9, .ref q_10, .ref q_11, .ref q_12, .null, .null])), (q_1, .inl (g 0, 160, .inl (fun _ => 0))), (q_2, .inl (g 0, 29, .inl (fun _ => 0))), (q_3, .inl (g 0, 29, .inl (fun _ => 0))), (q_4, .inl (g 0, 33, .inl (fun _ => 0))), (q_5, .inl (g 0, 264, .inl (fun _ => 0))), (q_6, .inl (g 0, 66, .inl (fun _ => 0))), (q_7, .inl (g 1, 2, .inl (fun _ => 0))), (q_8, .inl (g 0, 6, .inl (fun _ => 0))), (q_9, .inl (g 0, 6, .inl (fun _ => 0))), (q_10, .inl (g 0, 3, .inl (fun _ => 0))), (q_11, .inl (g 0, 3, .inl (fun _ => 0))), (q_12, .inl (g 0, 100, .inl (fun _ => 0)))] rfl (fun H locs hT => ?_)
  refine lv_aload_n hx hb dX8_init_99 rfl (lv_at hl 0 rfl) ?_
  refine lv_bipush (v := 10) hx hb dX8_init_100 (by decide +kernel) ?_
  refine z_new0 C hT 0 10 (by decide +kernel) rfl (by decide +kernel) (by decide +kernel) (by decide +kernel) (Nat.le_of_ble_eq_true rfl) (Nat.le_of_ble_eq_true rfl) dX8_init_102 (fun q_13 H hT => ?_)
  have hT : Sit D (TY g) A s [(m0, .inr (8, [.ref q_1, .int 0, .ref q_2, .ref q_3, .ref q_4, .ref q_5, .int 0, .ref q_6, .ref q_7, .ref q_8, .int 0, .int 0, .int 0, .int 0, .int 0, .ref q_9, .ref q_10, .ref q_11, .ref q_12, .null, .null])), (q_1, .inl (g 0, 160, .inl (fun _ => 0))), (q_2, .inl (g 0, 29, .inl (fun _ => 0))), (q_3, .inl (g 0, 29, .inl (fun _ => 0))), (q_4, .inl (g 0, 33, .inl (fun _ => 0))), (q_5, .inl (g 0, 264, .inl (fun _ => 0))), (q_6, .inl (g 0, 66, .inl (fun _ => 0))), (q_7, .inl (g 1, 2, .inl (fun _ => 0))), (q_8, .inl (g 0, 6, .inl (fun _ => 0))), (q_9, .inl (g 0, 6, .inl (fun _ => 0))), (q_10, .inl (g 0, 3, .inl (fun _ => 0))), (q_11, .inl (g 0, 3, .inl (fun _ => 0))), (q_12, .inl (g 0, 100, .inl (fun _ => 0))), (q_13, .inl (g 0, 10, .inl (fun _ => 0)))] H _ := hT
  refine z_putF C (ci := 8) (N := 21) rfl hin8 tyX8_ok nmX8 hT 0 19 rfl (Nat.le_of_ble_eq_true rfl) (by decide +kernel) (by decide +kernel) rfl hmn rfl rfl rfl dX8_init_104 [(m0, .inr (8, [.ref q_1, .int 0, .ref q_2, .ref q_3, .ref q_4, .ref q_5, .int 0, .ref q_6, .ref q_7, .ref q_8, .int 0, .int 0, .int 0, .int 0, .int 0, .ref q_9, .ref q_10, .ref q_11, .ref q_12, .ref q_13, .null])), (q_1, .inl (g 0, 160, .inl (fun _ => 0))), (q_2, .inl (g 0, 29, .inl (fun _ => 0))), (q_3, .inl (g 0, 29, .inl (fun _ => 0))), (q_4, .inl (g 0, 33, .inl (fun _ => 0))), (q_5, .inl (g 0, 264, .inl (fun _ => 0))), (q_6, .inl (g 0, 66, .inl (fun _ => 0))), (q_7, .inl (g 1, 2, .inl (fun _ => 0))), (q_8, .inl (g 0, 6, .inl (fun _ => 0))), (q_9, .inl (g 0, 6, .inl (fun _ => 0))), (q_10, .inl (g 0, 3, .inl (fun _ => 0))), (q_11, .inl (g 0, 3, .inl (fun _ => 0))), (q_12, .inl (g 0, 100, .inl (fun _ => 0))), (q_13, .inl (g 0, 10, .inl (fun _ => 0)))] rfl (fun H locs hT => ?_)
  refine lv_aload_n hx hb dX8_init_107 rfl (lv_at hl 0 rfl) ?_
  refine lv_bipush (v := 33) hx hb dX8_init_108 (by decide +kernel) ?_
  refine z_new0 C hT 0 33 (by decide +kernel) rfl (by decide +kernel) (by decide +kernel) (by decide +kernel) (Nat.le_of_ble_eq_true rfl) (Nat.le_of_ble_eq_true rfl) dX8_init_110 (fun q_14 H hT => ?_)
  have hT : Sit D (TY g) A s [(m0, .inr (8, [.ref q_1, .int 0, .ref q_2, .ref q_3, .ref q_4, .ref q_5, .int 0, .ref q_6, .ref q_7, .ref q_8, .int 0, .int 0, .int 0, .int 0, .int 0, .ref q_9, .ref q_10, .ref q_11, .ref q_12, .ref q_13, .null])), (q_1, .inl (g 0, 160, .inl (fun _ => 0))), (q_2, .inl (g 0, 29, .inl (fun _ => 0))), (q_3, .inl (g 0, 29, .inl (fun _ => 0))), (q_4, .inl (g 0, 33, .inl (fun _ => 0))), (q_5, .inl (g 0, 264, .inl (fun _ => 0))), (q_6, .inl (g 0, 66, .inl (fun _ => 0))), (q_7, .inl (g 1, 2, .inl (fun _ => 0))), (q_8, .inl (g 0, 6, .inl (fun _ => 0))), (q_9, .inl (g 0, 6, .inl (fun _ => 0))), (q_10, .inl (g 0, 3, .inl (fun _ => 0))), (q_11, .inl (g 0, 3, .inl (fun _ => 0))), (q_12, .inl (g 0, 100, .inl (fun _ => 0))), (q_13, .inl (g 0, 10, .inl (fun _ => 0))), (q_14, .inl (g 0, 33, .inl (fun _ => 0)))] H _ := hT
  refine z_putF C (ci := 8) (N := 21) rfl hin8 tyX8_ok nmX8 hT 0 20 rfl (Nat.le_of_ble_eq_true rfl) (by decide +kernel) (by decide +kernel) rfl hmn rfl rfl rfl dX8_init_112 [(m0, .inr (8, [.ref q_1, .int 0, .ref q_2, .ref q_3, .ref q_4, .ref q_5, .int 0, .ref q_6, .ref q_7, .ref q_8, .int 0, .int 0, .int 0, .int 0, .int 0, .ref q_9, .ref q_10, .ref q_11, .ref q_12, .ref q_13, .ref q_14])), (q_1, .inl (g 0, 160, .inl (fun _ => 0))), (q_2, .inl (g 0, 29, .inl (fun _ => 0))), (q_3, .inl (g 0, 29, .inl (fun _ => 0))), (q_4, .inl (g 0, 33, .inl (fun _ => 0))), (q_5, .inl (g 0, 264, .inl (fun _ => 0))), (q_6, .inl (g 0, 66, .inl (fun _ => 0))), (q_7, .inl (g 1, 2, .inl (fun _ => 0))), (q_8, .inl (g 0, 6, .inl (fun _ => 0))), (q_9, .inl (g 0, 6, .inl (fun _ => 0))), (q_10, .inl (g 0, 3, .inl (fun _ => 0))), (q_11, .inl (g 0, 3, .inl (fun _ => 0))), (q_12, .inl (g 0, 100, .inl (fun _ => 0))), (q_13, .inl (g 0, 10, .inl (fun _ => 0))), (q_14, .inl (g 0, 33, .inl (fun _ => 0)))] rfl (fun H locs hT => ?_)
  refine lv_aload_n hx hb dX8_init_115 rfl (lv_at hl 0 rfl) ?_
  refine lv_iconst (v := 5) hx hb dX8_init_116 (by decide +kernel) ?_
  refine z_callVV (wr := [(q_1, .inl (g 0, 160, .inl (fun _ => 0))), (q_2, .inl (g 0, 29, .inl (fun _ => 0))), (q_4, .inl (g 0, 33, .inl (fun _ => 0))), (q_5, .inl (g 0, 264, .inl (fun _ => 0))), (q_6, .inl (g 0, 66, .inl (fun _ => 0))), (q_7, .inl (g 1, 2, .inl (fun _ => 0))), (q_8, .inl (g 0, 6, .inl (fun _ => 0))), (q_9, .inl (g 0, 6, .inl (fun _ => 0))), (q_10, .inl (g 0, 3, .inl (fun _ => 0))), (q_11, .inl (g 0, 3, .inl (fun _ => 0))), (q_12, .inl (g 0, 100, .inl (fun _ => 0))), (q_13, .inl (g 0, 10, .inl (fun _ => 0))), (q_14, .inl (g 0, 33, .inl (fun _ => 0)))]) (n := 1) C (c_M_forgets l D g m0 (fun k => ([q_1, q_2, q_3, q_4, q_5, q_6, q_7, q_8, q_9, q_10, q_11, q_12, q_13, q_14] : List Nat).getD k 0) (fun _ => 0)) gX8_init_X8_forgets rfl (by decide +kernel) ⟨Nat.le_of_ble_eq_true rfl, Nat.le_of_ble_eq_true rfl⟩ ⟨Nat.le_of_ble_eq_true rfl, Nat.le_of_ble_eq_true rfl⟩ blind_T (fun _ _ _ => trivial) hT [0, 3] [1, 2, 4, 5, 6, 7, 8, 9, 10, 11, 12, 13, 14] rfl rfl rfl rfl rfl 0 rfl rfl rfl rfl hl.1 rfl (Nat.le_of_ble_eq_true rfl) dX8_init_117 (fun u_15 H locs hp_16 hT => ?_)
  have hT : Sit D (TY g) A s [(q_1, .inl (g 0, 160, .inl (fun _ => 0))), (q_2, .inl (g 0, 29, .inl (fun _ => 0))), (q_4, .inl (g 0, 33, .inl (fun _ => 0))), (q_5, .inl (g 0, 264, .inl (fun _ => 0))), (q_6, .inl (g 0, 66, .inl (fun _ => 0))), (q_7, .inl (g 1, 2, .inl (fun _ => 0))), (q_8, .inl (g 0, 6, .inl (fun _ => 0))), (q_9, .inl (g 0, 6, .inl (fun _ => 0))), (q_10, .inl (g 0, 3, .inl (fun _ => 0))), (q_11, .inl (g 0, 3, .inl (fun _ => 0))), (q_12, .inl (g 0, 100, .inl (fun _ => 0))), (q_13, .inl (g 0, 10, .inl (fun _ => 0))), (q_14, .inl (g 0, 33, .inl (fun _ => 0))), (m0, .inr (8, [.ref q_1, .int 0, .ref q_2, .ref q_3, .ref q_4, .ref q_5, .int 0, .ref q_6, .ref q_7, .ref q_8, .int 0, .int 0, .int 0, .int 0, .int 0, .ref q_9, .ref q_10, .ref q_11, .ref q_12, .ref q_13, .ref q_14])), (q_3, .inl (g 0, 29, .inl u_15))] H _ := hT
  refine lv_iconst (v := 0) hx hb dX8_init_120 (by decide +kernel) ?_
  refine lv_istore_n (lv' := [(1, .int 0), (0, .ref m0)]) hx hb dX8_init_121 rfl hl (by decide +kernel) rfl (fun ls hl => ?_)
  refine z_loop (α := Nat → Int32) (N := 29) (fun i a => ∀ k, k < i → a k = fr k) (fun i a => [(q_1, .inl (g 0, 160, .inl (fun _ => 0))), (q_2, .inl (g 0, 29, .inl a)), (q_4, .inl (g 0, 33, .inl (fun _ => 0))), (q_5, .inl (g 0, 264, .inl (fun _ => 0))), (q_6, .inl (g 0, 66, .inl (fun _ => 0))), (q_7, .inl (g 1, 2, .inl (fun _ => 0))), (q_8, .inl (g 0, 6, .inl (fun _ => 0))), (q_9, .inl (g 0, 6, .inl (fun _ => 0))), (q_10, .inl (g 0, 3, .inl (fun _ => 0))), (q_11, .inl (g 0, 3, .inl (fun _ => 0))), (q_12, .inl (g 0, 100, .inl (fun _ => 0))), (q_13, .inl (g 0, 10, .inl (fun _ => 0))), (q_14, .inl (g 0, 33, .inl (fun _ => 0))), (m0, .inr (8, [.ref q_1, .int 0, .ref q_2, .ref q_3, .ref q_4, .ref q_5, .int 0, .ref q_6, .ref q_7, .ref q_8, .int 0, .int 0, .int 0, .int 0, .int 0, .ref q_9, .ref q_10, .ref q_11, .ref q_12, .ref q_13, .ref q_14])), (q_3, .inl (g 0, 29, .inl u_15))]) (fun i a => [(1, .int (nI i)), (0, .ref m0)]) ?_ ?_ 0 (fun _ => 0) (Nat.zero_le _) (fun k h => absurd h (Nat.not_lt_zero k)) _ _ _ hT (lv_sub hl [0, 1] rfl)
  · intro i a H locs ls hi hI hT hl ih
    have hT : Sit D (TY g) A s [(q_1, .inl (g 0, 160, .inl (fun _ => 0))), (q_2, .inl (g 0, 29, .inl a)), (q_4, .inl (g 0, 33, .inl (fun _ => 0))), (q_5, .inl (g 0, 264, .inl (fun _ => 0))), (q_6, .inl (g 0, 66, .inl (fun _ => 0))), (q_7, .inl (g 1, 2, .inl (fun _ => 0))), (q_8, .inl (g 0, 6, .inl (fun _ => 0))), (q_9, .inl (g 0, 6, .inl (fun _ => 0))), (q_10, .inl (g 0, 3, .inl (fun _ => 0))), (q_11, .inl (g 0, 3, .inl (fun _ => 0))), (q_12, .inl (g 0, 100, .inl (fun _ => 0))), (q_13, .inl (g 0, 10, .inl (fun _ => 0))), (q_14, .inl (g 0, 33, .inl (fun _ => 0))), (m0, .inr (8, [.ref q_1, .int 0, .ref q_2, .ref q_3, .ref q_4, .ref q_5, .int 0, .ref q_6, .ref q_7, .ref q_8, .int 0, .int 0, .int 0, .int 0, .int 0, .ref q_9, .ref q_10, .ref q_11, .ref q_12, .ref q_13, .ref q_14])), (q_3, .inl (g 0, 29, .inl u_15))] H locs := hT
    have hl : lv_has ls _ [(1, .int (nI i)), (0, .ref m0)] := hl
    refine lv_iload_n hx hb dX8_init_122 rfl (lv_at hl 0 rfl) ?_
    refine lv_bipush (v := 29) hx hb dX8_init_123 (by decide +kernel) ?_
    refine lv_icmp_ge (tgt := 146) hx hb dX8_init_125 (by decide +kernel) (fun c9 => absurd c9 (lp_no (by decide +kernel) hi (by decide +kernel))) (fun _ => ?_)
    refine lv_aload_n hx hb dX8_init_128 rfl (lv_at hl 1 rfl) ?_
    refine z_get C (ci := 8) (N := 21) rfl hin8 hT 13 2 rfl rfl (by decide +kernel) (by decide +kernel) dX8_init_129 ?_
    refine lv_iload_n hx hb dX8_init_132 rfl (lv_at hl 0 rfl) ?_
    refine lv_aload_n hx hb dX8_init_133 rfl (lv_at hl 1 rfl) ?_
    refine z_get C (ci := 8) (N := 21) rfl hin8 hT 13 3 rfl rfl (by decide +kernel) (by decide +kernel) dX8_init_134 ?_
    refine lv_iload_n hx hb dX8_init_137 rfl (lv_at hl 0 rfl) ?_
    refine z_iald C hT 14 0 rfl rfl (vp_in_nI (by omega) (by decide +kernel)) (v := u_15 i) (congrArg _ (nI_clamp (by omega))) dX8_init_138 ?_
    refine z_iast C hT 1 0 rfl rfl (vp_in_nI (by omega) (by decide +kernel)) dX8_init_139 (upd a i (u_15 i)) (by rw [nI_clamp (by omega)]) [(q_1, .inl (g 0, 160, .inl (fun _ => 0))), (q_2, .inl (g 0, 29, .inl (upd a i (u_15 i)))), (q_4, .inl (g 0, 33, .inl (fun _ => 0))), (q_5, .inl (g 0, 264, .inl (fun _ => 0))), (q_6, .inl (g 0, 66, .inl (fun _ => 0))), (q_7, .inl (g 1, 2, .inl (fun _ => 0))), (q_8, .inl (g 0, 6, .inl (fun _ => 0))), (q_9, .inl (g 0, 6, .inl (fun _ => 0))), (q_10, .inl (g 0, 3, .inl (fun _ => 0))), (q_11, .inl (g 0, 3, .inl (fun _ => 0))), (q_12, .inl (g 0, 100, .inl (fun _ => 0))), (q_13, .inl (g 0, 10, .inl (fun _ => 0))), (q_14, .inl (g 0, 33, .inl (fun _ => 0))), (m0, .inr (8, [.ref q_1, .int 0, .ref q_2, .ref q_3, .ref q_4, .ref q_5, .int 0, .ref q_6, .ref q_7, .ref q_8, .int 0, .int 0, .int 0, .int 0, .int 0, .ref q_9, .ref q_10, .ref q_11, .ref q_12, .ref q_13, .ref q_14])), (q_3, .inl (g 0, 29, .inl u_15))] rfl (fun H locs hT => ?_)
    refine lv_iinc (v := nI (i + 1)) (lv' := [(1, .int (nI (i + 1))), (0, .ref m0)]) hx hb dX8_init_140 hl (k := 0) rfl (inc1 _) (by decide +kernel) rfl (fun ls hl => ?_)
    refine lv_goto (tgt := 122) hx hb dX8_init_143 (by decide +kernel) ?_
    exact ih (upd a i (u_15 i)) _ _ _ (upd_lt (F := fr) hI (hp_16 i (by omega))) hT (lv_sub hl [0, 1] rfl)
  · intro a H locs ls hI hT hl
    have hT : Sit D (TY g) A s [(q_1, .inl (g 0, 160, .inl (fun _ => 0))), (q_2, .inl (g 0, 29, .inl a)), (q_4, .inl (g 0, 33, .inl (fun _ => 0))), (q_5, .inl (g 0, 264, .inl (fun _ => 0))), (q_6, .inl (g 0, 66, .inl (fun _ => 0))), (q_7, .inl (g 1, 2, .inl (fun _ => 0))), (q_8, .inl (g 0, 6, .inl (fun _ => 0))), (q_9, .inl (g 0, 6, .inl (fun _ => 0))), (q_10, .inl (g 0, 3, .inl (fun _ => 0))), (q_11, .inl (g 0, 3, .inl (fun _ => 0))), (q_12, .inl (g 0, 100, .inl (fun _ => 0))), (q_13, .inl (g 0, 10, .inl (fun _ => 0))), (q_14, .inl (g 0, 33, .inl (fun _ => 0))), (m0, .inr (8, [.ref q_1, .int 0, .ref q_2, .ref q_3, .ref q_4, .ref q_5, .int 0, .ref q_6, .ref q_7, .ref q_8, .int 0, .int 0, .int 0, .int 0, .int 0, .ref q_9, .ref q_10, .ref q_11, .ref q_12, .ref q_13, .ref q_14])), (q_3, .inl (g 0, 29, .inl u_15))] H locs := hT
    have hl : lv_has ls _ [(1, .int (nI 29)), (0, .ref m0)] := hl
    refine lv_iload_n hx hb dX8_init_122 rfl (lv_at hl 0 rfl) ?_
    refine lv_bipush (v := 29) hx hb dX8_init_123 (by decide +kernel) ?_
    refine lv_icmp_ge (tgt := 146) hx hb dX8_init_125 (by decide +kernel) (fun _ => ?_) (fun c9 => absurd (by decide +kernel) c9)
    refine lv_aload_n hx hb dX8_init_146 rfl (lv_at hl 1 rfl) ?_
    refine z_callVV (wr := [(q_1, .inl (g 0, 160, .inl (fun _ => 0))), (q_5, .inl (g 0, 264, .inl (fun _ => 0))), (q_6, .inl (g 0, 66, .inl (fun _ => 0))), (q_8, .inl (g 0, 6, .inl (fun _ => 0))), (q_9, .inl (g 0, 6, .inl (fun _ => 0))), (q_10, .inl (g 0, 3, .inl (fun _ => 0))), (q_11, .inl (g 0, 3, .inl (fun _ => 0))), (q_12, .inl (g 0, 100, .inl (fun _ => 0))), (q_13, .inl (g 0, 10, .inl (fun _ => 0))), (q_14, .inl (g 0, 33, .inl (fun _ => 0))), (q_3, .inl (g 0, 29, .inl u_15))]) (n := 0) C (c_M_lays l D g m0 (fun k => ([q_1, q_2, q_3, q_4, q_5, q_6, q_7, q_8, q_9, q_10, q_11, q_12, q_13, q_14] : List Nat).getD k 0) a (fun _ => 0) hI) gX8_init_X8_lays rfl (by decide +kernel) ⟨Nat.le_of_ble_eq_true rfl, Nat.le_of_ble_eq_true rfl⟩ ⟨Nat.le_of_ble_eq_true rfl, Nat.le_of_ble_eq_true rfl⟩ blind_T (fun _ _ _ => trivial) hT [13, 1, 2, 5] [0, 3, 4, 6, 7, 8, 9, 10, 11, 12, 14] rfl rfl rfl rfl rfl 13 rfl rfl rfl rfl hl.1 rfl (Nat.le_of_ble_eq_true rfl) dX8_init_147 (fun u_17 H locs hp_18 hT => ?_)
    have hT : Sit D (TY g) A s [(q_1, .inl (g 0, 160, .inl (fun _ => 0))), (q_5, .inl (g 0, 264, .inl (fun _ => 0))), (q_6, .inl (g 0, 66, .inl (fun _ => 0))), (q_8, .inl (g 0, 6, .inl (fun _ => 0))), (q_9, .inl (g 0, 6, .inl (fun _ => 0))), (q_10, .inl (g 0, 3, .inl (fun _ => 0))), (q_11, .inl (g 0, 3, .inl (fun _ => 0))), (q_12, .inl (g 0, 100, .inl (fun _ => 0))), (q_13, .inl (g 0, 10, .inl (fun _ => 0))), (q_14, .inl (g 0, 33, .inl (fun _ => 0))), (q_3, .inl (g 0, 29, .inl u_15)), (m0, .inr (8, [.ref q_1, .int 0, .ref q_2, .ref q_3, .ref q_4, .ref q_5, .int 0, .ref q_6, .ref q_7, .ref q_8, .int 0, .int 0, .int 0, .int 0, .int 0, .ref q_9, .ref q_10, .ref q_11, .ref q_12, .ref q_13, .ref q_14])), (q_2, .inl (g 0, 29, .inl a)), (q_4, .inl (g 0, 33, .inl u_17)), (q_7, .inl (g 1, 2, .inl (fun _ => 0)))] H _ := hT
    exact z_vret C rfl hT ((fun k => ([q_1, q_2, q_3, q_4, q_5, q_6, q_7, q_8, q_9, q_10, q_11, q_12, q_13, q_14] : List Nat).getD k 0), a, u_15, u_17) ⟨hI, hp_18⟩ [11, 0, 12, 10, 13, 1, 2, 14, 3, 7, 8] rfl rfl (Nat.le_of_ble_eq_true rfl) (Nat.le_of_ble_eq_true rfl) dX8_init_150

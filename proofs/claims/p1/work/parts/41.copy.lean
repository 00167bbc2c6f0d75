theorem dX1_copyFrom_0 : decode cX1_copyFrom 0 = .ok (.aload_n 0, 1) := by decide +kernel
theorem dX1_copyFrom_1 : decode cX1_copyFrom 1 = .ok (.aload_n 1, 1) := by decide +kernel
theorem dX1_copyFrom_2 : decode cX1_copyFrom 2 = .ok (.getfield 9, 3) := by decide +kernel
theorem dX1_copyFrom_5 : decode cX1_copyFrom 5 = .ok (.putfield 9, 3) := by decide +kernel
theorem dX1_copyFrom_8 : decode cX1_copyFrom 8 = .ok (.aload_n 0, 1) := by decide +kernel
theorem dX1_copyFrom_9 : decode cX1_copyFrom 9 = .ok (.aload_n 1, 1) := by decide +kernel
theorem dX1_copyFrom_10 : decode cX1_copyFrom 10 = .ok (.getfield 15, 3) := by decide +kernel
theorem dX1_copyFrom_13 : decode cX1_copyFrom 13 = .ok (.putfield 15, 3) := by decide +kernel
theorem dX1_copyFrom_16 : decode cX1_copyFrom 16 = .ok (.aload_n 0, 1) := by decide +kernel
theorem dX1_copyFrom_17 : decode cX1_copyFrom 17 = .ok (.aload_n 1, 1) := by decide +kernel
theorem dX1_copyFrom_18 : decode cX1_copyFrom 18 = .ok (.getfield 18, 3) := by decide +kernel
theorem dX1_copyFrom_21 : decode cX1_copyFrom 21 = .ok (.putfield 18, 3) := by decide +kernel
theorem dX1_copyFrom_24 : decode cX1_copyFrom 24 = .ok (.aload_n 0, 1) := by decide +kernel
theorem dX1_copyFrom_25 : decode cX1_copyFrom 25 = .ok (.aload_n 1, 1) := by decide +kernel
theorem dX1_copyFrom_26 : decode cX1_copyFrom 26 = .ok (.getfield 21, 3) := by decide +kernel
theorem dX1_copyFrom_29 : decode cX1_copyFrom 29 = .ok (.putfield 21, 3) := by decide +kernel
theorem dX1_copyFrom_32 : decode cX1_copyFrom 32 = .ok (.aload_n 0, 1) := by decide +kernel
theorem dX1_copyFrom_33 : decode cX1_copyFrom 33 = .ok (.aload_n 1, 1) := by decide +kernel
theorem dX1_copyFrom_34 : decode cX1_copyFrom 34 = .ok (.getfield 24, 3) := by decide +kernel
theorem dX1_copyFrom_37 : decode cX1_copyFrom 37 = .ok (.putfield 24, 3) := by decide +kernel
theorem dX1_copyFrom_40 : decode cX1_copyFrom 40 = .ok (.aload_n 0, 1) := by decide +kernel
theorem dX1_copyFrom_41 : decode cX1_copyFrom 41 = .ok (.aload_n 1, 1) := by decide +kernel
theorem dX1_copyFrom_42 : decode cX1_copyFrom 42 = .ok (.getfield 27, 3) := by decide +kernel
theorem dX1_copyFrom_45 : decode cX1_copyFrom 45 = .ok (.putfield 27, 3) := by decide +kernel
theorem dX1_copyFrom_48 : decode cX1_copyFrom 48 = .ok (.iconst 0, 1) := by decide +kernel
theorem dX1_copyFrom_49 : decode cX1_copyFrom 49 = .ok (.istore_n 2, 1) := by decide +kernel
theorem dX1_copyFrom_50 : decode cX1_copyFrom 50 = .ok (.iload_n 2, 1) := by decide +kernel
theorem dX1_copyFrom_51 : decode cX1_copyFrom 51 = .ok (.bipush 6, 2) := by decide +kernel
theorem dX1_copyFrom_53 : decode cX1_copyFrom 53 = .ok (.if_icmp .ge 93, 3) := by decide +kernel
theorem dX1_copyFrom_56 : decode cX1_copyFrom 56 = .ok (.aload_n 0, 1) := by decide +kernel
theorem dX1_copyFrom_57 : decode cX1_copyFrom 57 = .ok (.getfield 30, 3) := by decide +kernel
theorem dX1_copyFrom_60 : decode cX1_copyFrom 60 = .ok (.iload_n 2, 1) := by decide +kernel
theorem dX1_copyFrom_61 : decode cX1_copyFrom 61 = .ok (.aload_n 1, 1) := by decide +kernel
theorem dX1_copyFrom_62 : decode cX1_copyFrom 62 = .ok (.getfield 30, 3) := by decide +kernel
theorem dX1_copyFrom_65 : decode cX1_copyFrom 65 = .ok (.iload_n 2, 1) := by decide +kernel
theorem dX1_copyFrom_66 : decode cX1_copyFrom 66 = .ok (.iaload, 1) := by decide +kernel
theorem dX1_copyFrom_67 : decode cX1_copyFrom 67 = .ok (.iastore, 1) := by decide +kernel
theorem dX1_copyFrom_68 : decode cX1_copyFrom 68 = .ok (.aload_n 0, 1) := by decide +kernel
theorem dX1_copyFrom_69 : decode cX1_copyFrom 69 = .ok (.getfield 34, 3) := by decide +kernel
theorem dX1_copyFrom_72 : decode cX1_copyFrom 72 = .ok (.iload_n 2, 1) := by decide +kernel
theorem dX1_copyFrom_73 : decode cX1_copyFrom 73 = .ok (.aload_n 1, 1) := by decide +kernel
theorem dX1_copyFrom_74 : decode cX1_copyFrom 74 = .ok (.getfield 34, 3) := by decide +kernel
theorem dX1_copyFrom_77 : decode cX1_copyFrom 77 = .ok (.iload_n 2, 1) := by decide +kernel
theorem dX1_copyFrom_78 : decode cX1_copyFrom 78 = .ok (.iaload, 1) := by decide +kernel
theorem dX1_copyFrom_79 : decode cX1_copyFrom 79 = .ok (.iastore, 1) := by decide +kernel
theorem dX1_copyFrom_80 : decode cX1_copyFrom 80 = .ok (.aload_n 0, 1) := by decide +kernel
theorem dX1_copyFrom_81 : decode cX1_copyFrom 81 = .ok (.getfield 37, 3) := by decide +kernel
theorem dX1_copyFrom_84 : decode cX1_copyFrom 84 = .ok (.iload_n 2, 1) := by decide +kernel
theorem dX1_copyFrom_85 : decode cX1_copyFrom 85 = .ok (.aload_n 1, 1) := by decide +kernel
theorem dX1_copyFrom_86 : decode cX1_copyFrom 86 = .ok (.getfield 37, 3) := by decide +kernel
theorem dX1_copyFrom_89 : decode cX1_copyFrom 89 = .ok (.iload_n 2, 1) := by decide +kernel
theorem dX1_copyFrom_90 : decode cX1_copyFrom 90 = .ok (.iaload, 1) := by decide +kernel
theorem dX1_copyFrom_91 : decode cX1_copyFrom 91 = .ok (.iastore, 1) := by decide +kernel
theorem dX1_copyFrom_92 : decode cX1_copyFrom 92 = .ok (.aload_n 0, 1) := by decide +kernel
theorem dX1_copyFrom_93 : decode cX1_copyFrom 93 = .ok (.getfield 40, 3) := by decide +kernel
theorem dX1_copyFrom_96 : decode cX1_copyFrom 96 = .ok (.iload_n 2, 1) := by decide +kernel
theorem dX1_copyFrom_97 : decode cX1_copyFrom 97 = .ok (.aload_n 1, 1) := by decide +kernel
theorem dX1_copyFrom_98 : decode cX1_copyFrom 98 = .ok (.getfield 40, 3) := by decide +kernel
theorem dX1_copyFrom_101 : decode cX1_copyFrom 101 = .ok (.iload_n 2, 1) := by decide +kernel
theorem dX1_copyFrom_102 : decode cX1_copyFrom 102 = .ok (.iaload, 1) := by decide +kernel
theorem dX1_copyFrom_103 : decode cX1_copyFrom 103 = .ok (.iastore, 1) := by decide +kernel
theorem dX1_copyFrom_104 : decode cX1_copyFrom 104 = .ok (.aload_n 0, 1) := by decide +kernel
theorem dX1_copyFrom_105 : decode cX1_copyFrom 105 = .ok (.getfield 43, 3) := by decide +kernel
theorem dX1_copyFrom_108 : decode cX1_copyFrom 108 = .ok (.iload_n 2, 1) := by decide +kernel
theorem dX1_copyFrom_109 : decode cX1_copyFrom 109 = .ok (.aload_n 1, 1) := by decide +kernel
theorem dX1_copyFrom_110 : decode cX1_copyFrom 110 = .ok (.getfield 43, 3) := by decide +kernel
theorem dX1_copyFrom_113 : decode cX1_copyFrom 113 = .ok (.iload_n 2, 1) := by decide +kernel
theorem dX1_copyFrom_114 : decode cX1_copyFrom 114 = .ok (.iaload, 1) := by decide +kernel
theorem dX1_copyFrom_115 : decode cX1_copyFrom 115 = .ok (.iastore, 1) := by decide +kernel
theorem dX1_copyFrom_116 : decode cX1_copyFrom 116 = .ok (.aload_n 0, 1) := by decide +kernel
theorem dX1_copyFrom_117 : decode cX1_copyFrom 117 = .ok (.getfield 46, 3) := by decide +kernel
theorem dX1_copyFrom_120 : decode cX1_copyFrom 120 = .ok (.iload_n 2, 1) := by decide +kernel
theorem dX1_copyFrom_121 : decode cX1_copyFrom 121 = .ok (.aload_n 1, 1) := by decide +kernel
theorem dX1_copyFrom_122 : decode cX1_copyFrom 122 = .ok (.getfield 46, 3) := by decide +kernel
theorem dX1_copyFrom_125 : decode cX1_copyFrom 125 = .ok (.iload_n 2, 1) := by decide +kernel
theorem dX1_copyFrom_126 : decode cX1_copyFrom 126 = .ok (.iaload, 1) := by decide +kernel
theorem dX1_copyFrom_127 : decode cX1_copyFrom 127 = .ok (.iastore, 1) := by decide +kernel
theorem dX1_copyFrom_128 : decode cX1_copyFrom 128 = .ok (.aload_n 0, 1) := by decide +kernel
theorem dX1_copyFrom_129 : decode cX1_copyFrom 129 = .ok (.getfield 49, 3) := by decide +kernel
theorem dX1_copyFrom_132 : decode cX1_copyFrom 132 = .ok (.iload_n 2, 1) := by decide +kernel
theorem dX1_copyFrom_133 : decode cX1_copyFrom 133 = .ok (.aload_n 1, 1) := by decide +kernel
theorem dX1_copyFrom_134 : decode cX1_copyFrom 134 = .ok (.getfield 49, 3) := by decide +kernel
theorem dX1_copyFrom_137 : decode cX1_copyFrom 137 = .ok (.iload_n 2, 1) := by decide +kernel
theorem dX1_copyFrom_138 : decode cX1_copyFrom 138 = .ok (.iaload, 1) := by decide +kernel
theorem dX1_copyFrom_139 : decode cX1_copyFrom 139 = .ok (.iastore, 1) := by decide +kernel
theorem dX1_copyFrom_140 : decode cX1_copyFrom 140 = .ok (.iinc 2 1, 3) := by decide +kernel
theorem dX1_copyFrom_143 : decode cX1_copyFrom 143 = .ok (.goto (-93), 3) := by decide +kernel
theorem dX1_copyFrom_146 : decode cX1_copyFrom 146 = .ok (.iconst 0, 1) := by decide +kernel
theorem dX1_copyFrom_147 : decode cX1_copyFrom 147 = .ok (.istore_n 2, 1) := by decide +kernel
theorem dX1_copyFrom_148 : decode cX1_copyFrom 148 = .ok (.iload_n 2, 1) := by decide +kernel
theorem dX1_copyFrom_149 : decode cX1_copyFrom 149 = .ok (.bipush 6, 2) := by decide +kernel
theorem dX1_copyFrom_151 : decode cX1_copyFrom 151 = .ok (.if_icmp .ge 33, 3) := by decide +kernel
theorem dX1_copyFrom_154 : decode cX1_copyFrom 154 = .ok (.aload_n 0, 1) := by decide +kernel
theorem dX1_copyFrom_155 : decode cX1_copyFrom 155 = .ok (.getfield 52, 3) := by decide +kernel
theorem dX1_copyFrom_158 : decode cX1_copyFrom 158 = .ok (.iload_n 2, 1) := by decide +kernel
theorem dX1_copyFrom_159 : decode cX1_copyFrom 159 = .ok (.aload_n 1, 1) := by decide +kernel
theorem dX1_copyFrom_160 : decode cX1_copyFrom 160 = .ok (.getfield 52, 3) := by decide +kernel
theorem dX1_copyFrom_163 : decode cX1_copyFrom 163 = .ok (.iload_n 2, 1) := by decide +kernel
theorem dX1_copyFrom_164 : decode cX1_copyFrom 164 = .ok (.iaload, 1) := by decide +kernel
theorem dX1_copyFrom_165 : decode cX1_copyFrom 165 = .ok (.iastore, 1) := by decide +kernel
theorem dX1_copyFrom_166 : decode cX1_copyFrom 166 = .ok (.aload_n 0, 1) := by decide +kernel
theorem dX1_copyFrom_167 : decode cX1_copyFrom 167 = .ok (.getfield 55, 3) := by decide +kernel
theorem dX1_copyFrom_170 : decode cX1_copyFrom 170 = .ok (.iload_n 2, 1) := by decide +kernel
theorem dX1_copyFrom_171 : decode cX1_copyFrom 171 = .ok (.aload_n 1, 1) := by decide +kernel
theorem dX1_copyFrom_172 : decode cX1_copyFrom 172 = .ok (.getfield 55, 3) := by decide +kernel
theorem dX1_copyFrom_175 : decode cX1_copyFrom 175 = .ok (.iload_n 2, 1) := by decide +kernel
theorem dX1_copyFrom_176 : decode cX1_copyFrom 176 = .ok (.iaload, 1) := by decide +kernel
theorem dX1_copyFrom_177 : decode cX1_copyFrom 177 = .ok (.iastore, 1) := by decide +kernel
theorem dX1_copyFrom_178 : decode cX1_copyFrom 178 = .ok (.iinc 2 1, 3) := by decide +kernel
theorem dX1_copyFrom_181 : decode cX1_copyFrom 181 = .ok (.goto (-33), 3) := by decide +kernel
theorem dX1_copyFrom_184 : decode cX1_copyFrom 184 = .ok (.return_, 1) := by decide +kernel
set_option maxHeartbeats 4000000 in
set_option maxRecDepth 100000 in
/-- Hall.copyFrom, of halls as at first: the other one stays -/
theorem c_Hall_copy (l : Launch) (D : va_G) (g : Nat → ClassId) (h o : Nat) (a b : Nat → Nat) : CtV l yX1_copyFrom wsX1_copyFrom { frames := 0, cells := 0, slots := 0, locals := 0 } D (TY g) [.ref h, .ref o] (fun _ => True) [(h, .inr (1, [.int 5, .int 40, .int 8, .int 0, .int 0, .int 0, .ref (a 0), .ref (a 1), .ref (a 2), .ref (a 3), .ref (a 4), .ref (a 5), .ref (a 6), .ref (a 7), .ref (a 8), .ref (a 9)])), ((a 0), .inl (g 0, 6, .inl (fun _ => 0))), ((a 1), .inl (g 0, 6, .inl (fun _ => 0))), ((a 2), .inl (g 0, 6, .inl (fun _ => 0))), ((a 3), .inl (g 0, 6, .inl (fun _ => 0))), ((a 4), .inl (g 0, 6, .inl (fun _ => 0))), ((a 5), .inl (g 0, 6, .inl (fun _ => 0))), ((a 6), .inl (g 0, 6, .inl (fun _ => 0))), ((a 7), .inl (g 0, 6, .inl (fun _ => 0))), ((a 8), .inl (g 0, 6, .inl (fun _ => 0))), (o, .inr (1, [.int 5, .int 40, .int 8, .int 0, .int 0, .int 0, .ref (b 0), .ref (b 1), .ref (b 2), .ref (b 3), .ref (b 4), .ref (b 5), .ref (b 6), .ref (b 7), .ref (b 8), .ref (b 9)])), ((b 0), .inl (g 0, 6, .inl (fun _ => 0))), ((b 1), .inl (g 0, 6, .inl (fun _ => 0))), ((b 2), .inl (g 0, 6, .inl (fun _ => 0))), ((b 3), .inl (g 0, 6, .inl (fun _ => 0))), ((b 4), .inl (g 0, 6, .inl (fun _ => 0))), ((b 5), .inl (g 0, 6, .inl (fun _ => 0))), ((b 6), .inl (g 0, 6, .inl (fun _ => 0))), ((b 7), .inl (g 0, 6, .inl (fun _ => 0))), ((b 8), .inl (g 0, 6, .inl (fun _ => 0)))] (fun _ : Unit => True) (fun _ => [(o, .inr (1, [.int 5, .int 40, .int 8, .int 0, .int 0, .int 0, .ref (b 0), .ref (b 1), .ref (b 2), .ref (b 3), .ref (b 4), .ref (b 5), .ref (b 6), .ref (b 7), .ref (b 8), .ref (b 9)])), ((b 0), .inl (g 0, 6, .inl (fun _ => 0))), ((b 1), .inl (g 0, 6, .inl (fun _ => 0))), ((b 2), .inl (g 0, 6, .inl (fun _ => 0))), ((b 3), .inl (g 0, 6, .inl (fun _ => 0))), ((b 4), .inl (g 0, 6, .inl (fun _ => 0))), ((b 5), .inl (g 0, 6, .inl (fun _ => 0))), ((b 6), .inl (g 0, 6, .inl (fun _ => 0))), ((b 7), .inl (g 0, 6, .inl (fun _ => 0))), ((b 8), .inl (g 0, 6, .inl (fun _ => 0)))]) := by
  refine CtV.intro (cc := cX1_copyFrom) (maxL := 3) (ret := none) rfl (by decide +kernel) (Nat.le_of_ble_eq_true rfl) ?_
  intro p e s m below meth c A ls C hmn hX hAe hT hl
  have hx := C.1.1
  have hb := C.1.2.1
  have hl : lv_has ls 3 [(0, .ref h), (1, .ref o)] := hl
  have hin1 : ∀ w ∈ u_ws RX1 TX1 16, w ∈ wsX1_copyFrom := by decide +kernel
  refine lv_aload_n hx hb dX1_copyFrom_0 rfl (lv_at hl 0 rfl) ?_
  refine lv_aload_n hx hb dX1_copyFrom_1 rfl (lv_at hl 1 rfl) ?_
  refine z_get C (ci := 1) (N := 16) rfl hin1 hT 10 0 rfl rfl (by decide +kernel) (by decide +kernel) dX1_copyFrom_2 ?_
  refine z_put C (ci := 1) (N := 16) rfl hin1 tyX1_ok nmX1 hT 0 0 rfl (Nat.le_of_ble_eq_true rfl) (by decide +kernel) (by decide +kernel) rfl rfl rfl dX1_copyFrom_5 [(h, .inr (1, [.int 5, .int 40, .int 8, .int 0, .int 0, .int 0, .ref (a 0), .ref (a 1), .ref (a 2), .ref (a 3), .ref (a 4), .ref (a 5), .ref (a 6), .ref (a 7), .ref (a 8), .ref (a 9)])), ((a 0), .inl (g 0, 6, .inl (fun _ => 0))), ((a 1), .inl (g 0, 6, .inl (fun _ => 0))), ((a 2), .inl (g 0, 6, .inl (fun _ => 0))), ((a 3), .inl (g 0, 6, .inl (fun _ => 0))), ((a 4), .inl (g 0, 6, .inl (fun _ => 0))), ((a 5), .inl (g 0, 6, .inl (fun _ => 0))), ((a 6), .inl (g 0, 6, .inl (fun _ => 0))), ((a 7), .inl (g 0, 6, .inl (fun _ => 0))), ((a 8), .inl (g 0, 6, .inl (fun _ => 0))), (o, .inr (1, [.int 5, .int 40, .int 8, .int 0, .int 0, .int 0, .ref (b 0), .ref (b 1), .ref (b 2), .ref (b 3), .ref (b 4), .ref (b 5), .ref (b 6), .ref (b 7), .ref (b 8), .ref (b 9)])), ((b 0), .inl (g 0, 6, .inl (fun _ => 0))), ((b 1), .inl (g 0, 6, .inl (fun _ => 0))), ((b 2), .inl (g 0, 6, .inl (fun _ => 0))), ((b 3), .inl (g 0, 6, .inl (fun _ => 0))), ((b 4), .inl (g 0, 6, .inl (fun _ => 0))), ((b 5), .inl (g 0, 6, .inl (fun _ => 0))), ((b 6), .inl (g 0, 6, .inl (fun _ => 0))), ((b 7), .inl (g 0, 6, .inl (fun _ => 0))), ((b 8), .inl (g 0, 6, .inl (fun _ => 0)))] rfl (fun H locs hT => ?_)
  refine lv_aload_n hx hb dX1_copyFrom_8 rfl (lv_at hl 0 rfl) ?_
  refine lv_aload_n hx hb dX1_copyFrom_9 rfl (lv_at hl 1 rfl) ?_
  refine z_get C (ci := 1) (N := 16) rfl hin1 hT 10 1 rfl rfl (by decide +kernel) (by decide +kernel) dX1_copyFrom_10 ?_
  refine z_put C (ci := 1) (N := 16) rfl hin1 tyX1_ok nmX1 hT 0 1 rfl (Nat.le_of_ble_eq_true rfl) (by decide +kernel) (by decide +kernel) rfl rfl rfl dX1_copyFrom_13 [(h, .inr (1, [.int 5, .int 40, .int 8, .int 0, .int 0, .int 0, .ref (a 0), .ref (a 1), .ref (a 2), .ref (a 3), .ref (a 4), .ref (a 5), .ref (a 6), .ref (a 7), .ref (a 8), .ref (a 9)])), ((a 0), .inl (g 0, 6, .inl (fun _ => 0))), ((a 1), .inl (g 0, 6, .inl (fun _ => 0))), ((a 2), .inl (g 0, 6, .inl (fun _ => 0))), ((a 3), .inl (g 0, 6, .inl (fun _ => 0))), ((a 4), .inl (g 0, 6, .inl (fun _ => 0))), ((a 5), .inl (g 0, 6, .inl (fun _ => 0))), ((a 6), .inl (g 0, 6, .inl (fun _ => 0))), ((a 7), .inl (g 0, 6, .inl (fun _ => 0))), ((a 8), .inl (g 0, 6, .inl (fun _ => 0))), (o, .inr (1, [.int 5, .int 40, .int 8, .int 0, .int 0, .int 0, .ref (b 0), .ref (b 1), .ref (b 2), .ref (b 3), .ref (b 4), .ref (b 5), .ref (b 6), .ref (b 7), .ref (b 8), .ref (b 9)])), ((b 0), .inl (g 0, 6, .inl (fun _ => 0))), ((b 1), .inl (g 0, 6, .inl (fun _ => 0))), ((b 2), .inl (g 0, 6, .inl (fun _ => 0))), ((b 3), .inl (g 0, 6, .inl (fun _ => 0))), ((b 4), .inl (g 0, 6, .inl (fun _ => 0))), ((b 5), .inl (g 0, 6, .inl (fun _ => 0))), ((b 6), .inl (g 0, 6, .inl (fun _ => 0))), ((b 7), .inl (g 0, 6, .inl (fun _ => 0))), ((b 8), .inl (g 0, 6, .inl (fun _ => 0)))] rfl (fun H locs hT => ?_)
  refine lv_aload_n hx hb dX1_copyFrom_16 rfl (lv_at hl 0 rfl) ?_
  refine lv_aload_n hx hb dX1_copyFrom_17 rfl (lv_at hl 1 rfl) ?_
  refine z_get C (ci := 1) (N := 16) rfl hin1 hT 10 2 rfl rfl (by decide +kernel) (by decide +kernel) dX1_copyFrom_18 ?_
  refine z_put C (ci := 1) (N := 16) rfl hin1 tyX1_ok nmX1 hT 0 2 rfl (Nat.le_of_ble_eq_true rfl) (by decide +kernel) (by decide +kernel) rfl rfl rfl dX1_copyFrom_21 [(h, .inr (1, [.int 5, .int 40, .int 8, .int 0, .int 0, .int 0, .ref (a 0), .ref (a 1), .ref (a 2), .ref (a 3), .ref (a 4), .ref (a 5), .ref (a 6), .ref (a 7), .ref (a 8), .ref (a 9)])), ((a 0), .inl (g 0, 6, .inl (fun _ => 0))), ((a 1), .inl (g 0, 6, .inl (fun _ => 0))), ((a 2), .inl (g 0, 6, .inl (fun _ => 0))), ((a 3), .inl (g 0, 6, .inl (fun _ => 0))), ((a 4), .inl (g 0, 6, .inl (fun _ => 0))), ((a 5), .inl (g 0, 6, .inl (fun _ => 0))), ((a 6), .inl (g 0, 6, .inl (fun _ => 0))), ((a 7), .inl (g 0, 6, .inl (fun _ => 0))), ((a 8), .inl (g 0, 6, .inl (fun _ => 0))), (o, .inr (1, [.int 5, .int 40, .int 8, .int 0, .int 0, .int 0, .ref (b 0), .ref (b 1), .ref (b 2), .ref (b 3), .ref (b 4), .ref (b 5), .ref (b 6), .ref (b 7), .ref (b 8), .ref (b 9)])), ((b 0), .inl (g 0, 6, .inl (fun _ => 0))), ((b 1), .inl (g 0, 6, .inl (fun _ => 0))), ((b 2), .inl (g 0, 6, .inl (fun _ => 0))), ((b 3), .inl (g 0, 6, .inl (fun _ => 0))), ((b 4), .inl (g 0, 6, .inl (fun _ => 0))), ((b 5), .inl (g 0, 6, .inl (fun _ => 0))), ((b 6), .inl (g 0, 6, .inl (fun _ => 0))), ((b 7), .inl (g 0, 6, .inl (fun _ => 0))), ((b 8), .inl (g 0, 6, .inl (fun _ => 0)))] rfl (fun H locs hT => ?_)
  refine lv_aload_n hx hb dX1_copyFrom_24 rfl (lv_at hl 0 rfl) ?_
  refine lv_aload_n hx hb dX1_copyFrom_25 rfl (lv_at hl 1 rfl) ?_
  refine z_get C (ci := 1) (N := 16) rfl hin1 hT 10 3 rfl rfl (by decide +kernel) (by decide +kernel) dX1_copyFrom_26 ?_
  refine z_put C (ci := 1) (N := 16) rfl hin1 tyX1_ok nmX1 hT 0 3 rfl (Nat.le_of_ble_eq_true rfl) (by decide +kernel) (by decide +kernel) rfl rfl rfl dX1_copyFrom_29 [(h, .inr (1, [.int 5, .int 40, .int 8, .int 0, .int 0, .int 0, .ref (a 0), .ref (a 1), .ref (a 2), .ref (a 3), .ref (a 4), .ref (a 5), .ref (a 6), .ref (a 7), .ref (a 8), .ref (a 9)])), ((a 0), .inl (g 0, 6, .inl (fun _ => 0))), ((a 1), .inl (g 0, 6, .inl (fun _ => 0))), ((a 2), .inl (g 0, 6, .inl (fun _ => 0))), ((a 3), .inl (g 0, 6, .inl (fun _ => 0))), ((a 4), .inl (g 0, 6, .inl (fun _ => 0))), ((a 5), .inl (g 0, 6, .inl (fun _ => 0))), ((a 6), .inl (g 0, 6, .inl (fun _ => 0))), ((a 7), .inl (g 0, 6, .inl (fun _ => 0))), ((a 8), .inl (g 0, 6, .inl (fun _ => 0))), (o, .inr (1, [.int 5, .int 40, .int 8, .int 0, .int 0, .int 0, .ref (b 0), .ref (b 1), .ref (b 2), .ref (b 3), .ref (b 4), .ref (b 5), .ref (b 6), .ref (b 7), .ref (b 8), .ref (b 9)])), ((b 0), .inl (g 0, 6, .inl (fun _ => 0))), ((b 1), .inl (g 0, 6, .inl (fun _ => 0))), ((b 2), .inl (g 0, 6, .inl (fun _ => 0))), ((b 3), .inl (g 0, 6, .inl (fun _ => 0))), ((b 4), .inl (g 0, 6, .inl (fun _ => 0))), ((b 5), .inl (g 0, 6, .inl (fun _ => 0))), ((b 6), .inl (g 0, 6, .inl (fun _ => 0))), ((b 7), .inl (g 0, 6, .inl (fun _ => 0))), ((b 8), .inl (g 0, 6, .inl (fun _ => 0)))] rfl (fun H locs hT => ?_)
  refine lv_aload_n hx hb dX1_copyFrom_32 rfl (lv_at hl 0 rfl) ?_
  refine lv_aload_n hx hb dX1_copyFrom_33 rfl (lv_at hl 1 rfl) ?_
  refine z_get C (ci := 1) (N := 16) rfl hin1 hT 10 4 rfl rfl (by decide +kernel) (by decide +kernel) dX1_copyFrom_34 ?_
  refine z_put C (ci := 1) (N := 16) rfl hin1 tyX1_ok nmX1 hT 0 4 rfl (Nat.le_of_ble_eq_true rfl) (by decide +kernel) (by decide +kernel) rfl rfl rfl dX1_copyFrom_37 [(h, .inr (1, [.int 5, .int 40, .int 8, .int 0, .int 0, .int 0, .ref (a 0), .ref (a 1), .ref (a 2), .ref (a 3), .ref (a 4), .ref (a 5), .ref (a 6), .ref (a 7), .ref (a 8), .ref (a 9)])), ((a 0), .inl (g 0, 6, .inl (fun _ => 0))), ((a 1), .inl (g 0, 6, .inl (fun _ => 0))), ((a 2), .inl (g 0, 6, .inl (fun _ => 0))), ((a 3), .inl (g 0, 6, .inl (fun _ => 0))), ((a 4), .inl (g 0, 6, .inl (fun _ => 0))), ((a 5), .inl (g 0, 6, .inl (fun _ => 0))), ((a 6), .inl (g 0, 6, .inl (fun _ => 0))), ((a 7), .inl (g 0, 6, .inl (fun _ => 0))), ((a 8), .inl (g 0, 6, .inl (fun _ => 0))), (o, .inr (1, [.int 5, .int 40, .int 8, .int 0, .int 0, .int 0, .ref (b 0), .ref (b 1), .ref (b 2), .ref (b 3), .ref (b 4), .ref (b 5), .ref (b 6), .ref (b 7), .ref (b 8), .ref (b 9)])), ((b 0), .inl (g 0, 6, .inl (fun _ => 0))), ((b 1), .inl (g 0, 6, .inl (fun _ => 0))), ((b 2), .inl (g 0, 6, .inl (fun _ => 0))), ((b 3), .inl (g 0, 6, .inl (fun _ => 0))), ((b 4), .inl (g 0, 6, .inl (fun _ => 0))), ((b 5), .inl (g 0, 6, .inl (fun _ => 0))), ((b 6), .inl (g 0, 6, .inl (fun _ => 0))), ((b 7), .inl (g 0, 6, .inl (fun _ => 0))), ((b 8), .inl (g 0, 6, .inl (fun _ => 0)))] rfl (fun H locs hT => ?_)
  refine lv_aload_n hx hb dX1_copyFrom_40 rfl (lv_at hl 0 rfl) ?_
  refine lv_aload_n hx hb dX1_copyFrom_41 rfl (lv_at hl 1 rfl) ?_
  refine z_get C (ci := 1) (N := 16) rfl hin1 hT 10 5 rfl rfl (by decide +kernel) (by decide +kernel) dX1_copyFrom_42 ?_
  refine z_put C (ci := 1) (N := 16) rfl hin1 tyX1_ok nmX1 hT 0 5 rfl (Nat.le_of_ble_eq_true rfl) (by decide +kernel) (by decide +kernel) rfl rfl rfl dX1_copyFrom_45 [(h, .inr (1, [.int 5, .int 40, .int 8, .int 0, .int 0, .int 0, .ref (a 0), .ref (a 1), .ref (a 2), .ref (a 3), .ref (a 4), .ref (a 5), .ref (a 6), .ref (a 7), .ref (a 8), .ref (a 9)])), ((a 0), .inl (g 0, 6, .inl (fun _ => 0))), ((a 1), .inl (g 0, 6, .inl (fun _ => 0))), ((a 2), .inl (g 0, 6, .inl (fun _ => 0))), ((a 3), .inl (g 0, 6, .inl (fun _ => 0))), ((a 4), .inl (g 0, 6, .inl (fun _ => 0))), ((a 5), .inl (g 0, 6, .inl (fun _ => 0))), ((a 6), .inl (g 0, 6, .inl (fun _ => 0))), ((a 7), .inl (g 0, 6, .inl (fun _ => 0))), ((a 8), .inl (g 0, 6, .inl (fun _ => 0))), (o, .inr (1, [.int 5, .int 40, .int 8, .int 0, .int 0, .int 0, .ref (b 0), .ref (b 1), .ref (b 2), .ref (b 3), .ref (b 4), .ref (b 5), .ref (b 6), .ref (b 7), .ref (b 8), .ref (b 9)])), ((b 0), .inl (g 0, 6, .inl (fun _ => 0))), ((b 1), .inl (g 0, 6, .inl (fun _ => 0))), ((b 2), .inl (g 0, 6, .inl (fun _ => 0))), ((b 3), .inl (g 0, 6, .inl (fun _ => 0))), ((b 4), .inl (g 0, 6, .inl (fun _ => 0))), ((b 5), .inl (g 0, 6, .inl (fun _ => 0))), ((b 6), .inl (g 0, 6, .inl (fun _ => 0))), ((b 7), .inl (g 0, 6, .inl (fun _ => 0))), ((b 8), .inl (g 0, 6, .inl (fun _ => 0)))] rfl (fun H locs hT => ?_)
  refine lv_iconst (v := 0) hx hb dX1_copyFrom_48 (by decide +kernel) ?_
  refine lv_istore_n (lv' := [(2, .int 0), (0, .ref h), (1, .ref o)]) hx hb dX1_copyFrom_49 rfl hl (by decide +kernel) rfl (fun ls hl => ?_)
  refine z_loop (α := Nat → Nat → Int32) (N := 6) (fun i y => True) (fun i y => [(h, .inr (1, [.int 5, .int 40, .int 8, .int 0, .int 0, .int 0, .ref (a 0), .ref (a 1), .ref (a 2), .ref (a 3), .ref (a 4), .ref (a 5), .ref (a 6), .ref (a 7), .ref (a 8), .ref (a 9)])), ((a 0), .inl (g 0, 6, .inl (y 0))), ((a 1), .inl (g 0, 6, .inl (y 1))), ((a 2), .inl (g 0, 6, .inl (y 2))), ((a 3), .inl (g 0, 6, .inl (y 3))), ((a 4), .inl (g 0, 6, .inl (y 4))), ((a 5), .inl (g 0, 6, .inl (y 5))), ((a 6), .inl (g 0, 6, .inl (y 6))), ((a 7), .inl (g 0, 6, .inl (y 7))), ((a 8), .inl (g 0, 6, .inl (y 8))), (o, .inr (1, [.int 5, .int 40, .int 8, .int 0, .int 0, .int 0, .ref (b 0), .ref (b 1), .ref (b 2), .ref (b 3), .ref (b 4), .ref (b 5), .ref (b 6), .ref (b 7), .ref (b 8), .ref (b 9)])), ((b 0), .inl (g 0, 6, .inl (fun _ => 0))), ((b 1), .inl (g 0, 6, .inl (fun _ => 0))), ((b 2), .inl (g 0, 6, .inl (fun _ => 0))), ((b 3), .inl (g 0, 6, .inl (fun _ => 0))), ((b 4), .inl (g 0, 6, .inl (fun _ => 0))), ((b 5), .inl (g 0, 6, .inl (fun _ => 0))), ((b 6), .inl (g 0, 6, .inl (fun _ => 0))), ((b 7), .inl (g 0, 6, .inl (fun _ => 0))), ((b 8), .inl (g 0, 6, .inl (fun _ => 0)))]) (fun i y => [(2, .int (nI i)), (0, .ref h), (1, .ref o)]) ?_ ?_ 0 (fun _ _ => 0) (Nat.zero_le _) trivial _ _ _ hT (lv_sub hl [0, 1, 2] rfl)
  · intro i y H locs ls hi hI hT hl ih
    have hT : Sit D (TY g) A s [(h, .inr (1, [.int 5, .int 40, .int 8, .int 0, .int 0, .int 0, .ref (a 0), .ref (a 1), .ref (a 2), .ref (a 3), .ref (a 4), .ref (a 5), .ref (a 6), .ref (a 7), .ref (a 8), .ref (a 9)])), ((a 0), .inl (g 0, 6, .inl (y 0))), ((a 1), .inl (g 0, 6, .inl (y 1))), ((a 2), .inl (g 0, 6, .inl (y 2))), ((a 3), .inl (g 0, 6, .inl (y 3))), ((a 4), .inl (g 0, 6, .inl (y 4))), ((a 5), .inl (g 0, 6, .inl (y 5))), ((a 6), .inl (g 0, 6, .inl (y 6))), ((a 7), .inl (g 0, 6, .inl (y 7))), ((a 8), .inl (g 0, 6, .inl (y 8))), (o, .inr (1, [.int 5, .int 40, .int 8, .int 0, .int 0, .int 0, .ref (b 0), .ref (b 1), .ref (b 2), .ref (b 3), .ref (b 4), .ref (b 5), .ref (b 6), .ref (b 7), .ref (b 8), .ref (b 9)])), ((b 0), .inl (g 0, 6, .inl (fun _ => 0))), ((b 1), .inl (g 0, 6, .inl (fun _ => 0))), ((b 2), .inl (g 0, 6, .inl (fun _ => 0))), ((b 3), .inl (g 0, 6, .inl (fun _ => 0))), ((b 4), .inl (g 0, 6, .inl (fun _ => 0))), ((b 5), .inl (g 0, 6, .inl (fun _ => 0))), ((b 6), .inl (g 0, 6, .inl (fun _ => 0))), ((b 7), .inl (g 0, 6, .inl (fun _ => 0))), ((b 8), .inl (g 0, 6, .inl (fun _ => 0)))] H locs := hT
    have hl : lv_has ls _ [(2, .int (nI i)), (0, .ref h), (1, .ref o)] := hl
    refine lv_iload_n hx hb dX1_copyFrom_50 rfl (lv_at hl 0 rfl) ?_
    refine lv_bipush (v := 6) hx hb dX1_copyFrom_51 (by decide +kernel) ?_
    refine lv_icmp_ge (tgt := 146) hx hb dX1_copyFrom_53 (by decide +kernel) (fun c9 => absurd c9 (lp_no (by decide +kernel) hi (by decide +kernel))) (fun _ => ?_)
    refine lv_aload_n hx hb dX1_copyFrom_56 rfl (lv_at hl 1 rfl) ?_
    refine z_get C (ci := 1) (N := 16) rfl hin1 hT 0 6 rfl rfl (by decide +kernel) (by decide +kernel) dX1_copyFrom_57 ?_
    refine lv_iload_n hx hb dX1_copyFrom_60 rfl (lv_at hl 0 rfl) ?_
    refine lv_aload_n hx hb dX1_copyFrom_61 rfl (lv_at hl 2 rfl) ?_
    refine z_get C (ci := 1) (N := 16) rfl hin1 hT 10 6 rfl rfl (by decide +kernel) (by decide +kernel) dX1_copyFrom_62 ?_
    refine lv_iload_n hx hb dX1_copyFrom_65 rfl (lv_at hl 0 rfl) ?_
    refine z_iald C hT 11 0 rfl rfl (vp_in_nI (by omega) (by decide +kernel)) (v := 0) rfl dX1_copyFrom_66 ?_
    refine z_iast C hT 1 0 rfl rfl (vp_in_nI (by omega) (by decide +kernel)) dX1_copyFrom_67 (upd (y 0) i 0) (by rw [nI_clamp (by omega)]) [(h, .inr (1, [.int 5, .int 40, .int 8, .int 0, .int 0, .int 0, .ref (a 0), .ref (a 1), .ref (a 2), .ref (a 3), .ref (a 4), .ref (a 5), .ref (a 6), .ref (a 7), .ref (a 8), .ref (a 9)])), ((a 0), .inl (g 0, 6, .inl (upd (y 0) i 0))), ((a 1), .inl (g 0, 6, .inl (y 1))), ((a 2), .inl (g 0, 6, .inl (y 2))), ((a 3), .inl (g 0, 6, .inl (y 3))), ((a 4), .inl (g 0, 6, .inl (y 4))), ((a 5), .inl (g 0, 6, .inl (y 5))), ((a 6), .inl (g 0, 6, .inl (y 6))), ((a 7), .inl (g 0, 6, .inl (y 7))), ((a 8), .inl (g 0, 6, .inl (y 8))), (o, .inr (1, [.int 5, .int 40, .int 8, .int 0, .int 0, .int 0, .ref (b 0), .ref (b 1), .ref (b 2), .ref (b 3), .ref (b 4), .ref (b 5), .ref (b 6), .ref (b 7), .ref (b 8), .ref (b 9)])), ((b 0), .inl (g 0, 6, .inl (fun _ => 0))), ((b 1), .inl (g 0, 6, .inl (fun _ => 0))), ((b 2), .inl (g 0, 6, .inl (fun _ => 0))), ((b 3), .inl (g 0, 6, .inl (fun _ => 0))), ((b 4), .inl (g 0, 6, .inl (fun _ => 0))), ((b 5), .inl (g 0, 6, .inl (fun _ => 0))), ((b 6), .inl (g 0, 6, .inl (fun _ => 0))), ((b 7), .inl (g 0, 6, .inl (fun _ => 0))), ((b 8), .inl (g 0, 6, .inl (fun _ => 0)))] rfl (fun H locs hT => ?_)
    refine lv_aload_n hx hb dX1_copyFrom_68 rfl (lv_at hl 1 rfl) ?_
    refine z_get C (ci := 1) (N := 16) rfl hin1 hT 0 7 rfl rfl (by decide +kernel) (by decide +kernel) dX1_copyFrom_69 ?_
    refine lv_iload_n hx hb dX1_copyFrom_72 rfl (lv_at hl 0 rfl) ?_
    refine lv_aload_n hx hb dX1_copyFrom_73 rfl (lv_at hl 2 rfl) ?_
    refine z_get C (ci := 1) (N := 16) rfl hin1 hT 10 7 rfl rfl (by decide +kernel) (by decide +kernel) dX1_copyFrom_74 ?_
    refine lv_iload_n hx hb dX1_copyFrom_77 rfl (lv_at hl 0 rfl) ?_
    refine z_iald C hT 12 0 rfl rfl (vp_in_nI (by omega) (by decide +kernel)) (v := 0) rfl dX1_copyFrom_78 ?_
    refine z_iast C hT 2 0 rfl rfl (vp_in_nI (by omega) (by decide +kernel)) dX1_copyFrom_79 (upd (y 1) i 0) (by rw [nI_clamp (by omega)]) [(h, .inr (1, [.int 5, .int 40, .int 8, .int 0, .int 0, .int 0, .ref (a 0), .ref (a 1), .ref (a 2), .ref (a 3), .ref (a 4), .ref (a 5), .ref (a 6), .ref (a 7), .ref (a 8), .ref (a 9)])), ((a 0), .inl (g 0, 6, .inl (upd (y 0) i 0))), ((a 1), .inl (g 0, 6, .inl (upd (y 1) i 0))), ((a 2), .inl (g 0, 6, .inl (y 2))), ((a 3), .inl (g 0, 6, .inl (y 3))), ((a 4), .inl (g 0, 6, .inl (y 4))), ((a 5), .inl (g 0, 6, .inl (y 5))), ((a 6), .inl (g 0, 6, .inl (y 6))), ((a 7), .inl (g 0, 6, .inl (y 7))), ((a 8), .inl (g 0, 6, .inl (y 8))), (o, .inr (1, [.int 5, .int 40, .int 8, .int 0, .int 0, .int 0, .ref (b 0), .ref (b 1), .ref (b 2), .ref (b 3), .ref (b 4), .ref (b 5), .ref (b 6), .ref (b 7), .ref (b 8), .ref (b 9)])), ((b 0), .inl (g 0, 6, .inl (fun _ => 0))), ((b 1), .inl (g 0, 6, .inl (fun _ => 0))), ((b 2), .inl (g 0, 6, .inl (fun _ => 0))), ((b 3), .inl (g 0, 6, .inl (fun _ => 0))), ((b 4), .inl (g 0, 6, .inl (fun _ => 0))), ((b 5), .inl (g 0, 6, .inl (fun _ => 0))), ((b 6), .inl (g 0, 6, .inl (fun _ => 0))), ((b 7), .inl (g 0, 6, .inl (fun _ => 0))), ((b 8), .inl (g 0, 6, .inl (fun _ => 0)))] rfl (fun H locs hT => ?_)
    refine lv_aload_n hx hb dX1_copyFrom_80 rfl (lv_at hl 1 rfl) ?_
    refine z_get C (ci := 1) (N := 16) rfl hin1 hT 0 8 rfl rfl (by decide +kernel) (by decide +kernel) dX1_copyFrom_81 ?_
    refine lv_iload_n hx hb dX1_copyFrom_84 rfl (lv_at hl 0 rfl) ?_
    refine lv_aload_n hx hb dX1_copyFrom_85 rfl (lv_at hl 2 rfl) ?_
    refine z_get C (ci := 1) (N := 16) rfl hin1 hT 10 8 rfl rfl (by decide +kernel) (by decide +kernel) dX1_copyFrom_86 ?_
    refine lv_iload_n hx hb dX1_copyFrom_89 rfl (lv_at hl 0 rfl) ?_
    refine z_iald C hT 13 0 rfl rfl (vp_in_nI (by omega) (by decide +kernel)) (v := 0) rfl dX1_copyFrom_90 ?_
    refine z_iast C hT 3 0 rfl rfl (vp_in_nI (by omega) (by decide +kernel)) dX1_copyFrom_91 (upd (y 2) i 0) (by rw [nI_clamp (by omega)]) [(h, .inr (1, [.int 5, .int 40, .int 8, .int 0, .int 0, .int 0, .ref (a 0), .ref (a 1), .ref (a 2), .ref (a 3), .ref (a 4), .ref (a 5), .ref (a 6), .ref (a 7), .ref (a 8), .ref (a 9)])), ((a 0), .inl (g 0, 6, .inl (upd (y 0) i 0))), ((a 1), .inl (g 0, 6, .inl (upd (y 1) i 0))), ((a 2), .inl (g 0, 6, .inl (upd (y 2) i 0))), ((a 3), .inl (g 0, 6, .inl (y 3))), ((a 4), .inl (g 0, 6, .inl (y 4))), ((a 5), .inl (g 0, 6, .inl (y 5))), ((a 6), .inl (g 0, 6, .inl (y 6))), ((a 7), .inl (g 0, 6, .inl (y 7))), ((a 8), .inl (g 0, 6, .inl (y 8))), (o, .inr (1, [.int 5, .int 40, .int 8, .int 0, .int 0, .int 0, .ref (b 0), .ref (b 1), .ref (b 2), .ref (b 3), .ref (b 4), .ref (b 5), .ref (b 6), .ref (b 7), .ref (b 8), .ref (b 9)])), ((b 0), .inl (g 0, 6, .inl (fun _ => 0))), ((b 1), .inl (g 0, 6, .inl (fun _ => 0))), ((b 2), .inl (g 0, 6, .inl (fun _ => 0))), ((b 3), .inl (g 0, 6, .inl (fun _ => 0))), ((b 4), .inl (g 0, 6, .inl (fun _ => 0))), ((b 5), .inl (g 0, 6, .inl (fun _ => 0))), ((b 6), .inl (g 0, 6, .inl (fun _ => 0))), ((b 7), .inl (g 0, 6, .inl (fun _ => 0))), ((b 8), .inl (g 0, 6, .inl (fun _ => 0)))] rfl (fun H locs hT => ?_)
    refine lv_aload_n hx hb dX1_copyFrom_92 rfl (lv_at hl 1 rfl) ?_
    refine z_get C (ci := 1) (N := 16) rfl hin1 hT 0 9 rfl rfl (by decide +kernel) (by decide +kernel) dX1_copyFrom_93 ?_
    refine lv_iload_n hx hb dX1_copyFrom_96 rfl (lv_at hl 0 rfl) ?_
    refine lv_aload_n hx hb dX1_copyFrom_97 rfl (lv_at hl 2 rfl) ?_
    refine z_get C (ci := 1) (N := 16) rfl hin1 hT 10 9 rfl rfl (by decide +kernel) (by decide +kernel) dX1_copyFrom_98 ?_
    refine lv_iload_n hx hb dX1_copyFrom_101 rfl (lv_at hl 0 rfl) ?_
    refine z_iald C hT 14 0 rfl rfl (vp_in_nI (by omega) (by decide +kernel)) (v := 0) rfl dX1_copyFrom_102 ?_
    refine z_iast C hT 4 0 rfl rfl (vp_in_nI (by omega) (by decide +kernel)) dX1_copyFrom_103 (upd (y 3) i 0) (by rw [nI_clamp (by omega)]) [(h, .inr (1, [.int 5, .int 40, .int 8, .int 0, .int 0, .int 0, .ref (a 0), .ref (a 1), .ref (a 2), .ref (a 3), .ref (a 4), .ref (a 5), .ref (a 6), .ref (a 7), .ref (a 8), .ref (a 9)])), ((a 0), .inl (g 0, 6, .inl (upd (y 0) i 0))), ((a 1), .inl (g 0, 6, .inl (upd (y 1) i 0))), ((a 2), .inl (g 0, 6, .inl (upd (y 2) i 0))), ((a 3), .inl (g 0, 6, .inl (upd (y 3) i 0))), ((a 4), .inl (g 0, 6, .inl (y 4))), ((a 5), .inl (g 0, 6, .inl (y 5))), ((a 6), .inl (g 0, 6, .inl (y 6))), ((a 7), .inl (g 0, 6, .inl (y 7))), ((a 8), .inl (g 0, 6, .inl (y 8))), (o, .inr (1, [.int 5, .int 40, .int 8, .int 0, .int 0, .int 0, .ref (b 0), .ref (b 1), .ref (b 2), .ref (b 3), .ref (b 4), .ref (b 5), .ref (b 6), .ref (b 7), .ref (b 8), .ref (b 9)])), ((b 0), .inl (g 0, 6, .inl (fun _ => 0))), ((b 1), .inl (g 0, 6, .inl (fun _ => 0))), ((b 2), .inl (g 0, 6, .inl (fun _ => 0))), ((b 3), .inl (g 0, 6, .inl (fun _ => 0))), ((b 4), .inl (g 0, 6, .inl (fun _ => 0))), ((b 5), .inl (g 0, 6, .inl (fun _ => 0))), ((b 6), .inl (g 0, 6, .inl (fun _ => 0))), ((b 7), .inl (g 0, 6, .inl (fun _ => 0))), ((b 8), .inl (g 0, 6, .inl (fun _ => 0)))] rfl (fun H locs hT => ?_)
    refine lv_aload_n hx hb dX1_copyFrom_104 rfl (lv_at hl 1 rfl) ?_
    refine z_get C (ci := 1) (N := 16) rfl hin1 hT 0 10 rfl rfl (by decide +kernel) (by decide +kernel) dX1_copyFrom_105 ?_
    refine lv_iload_n hx hb dX1_copyFrom_108 rfl (lv_at hl 0 rfl) ?_
    refine lv_aload_n hx hb dX1_copyFrom_109 rfl (lv_at hl 2 rfl) ?_
    refine z_get C (ci := 1) (N := 16) rfl hin1 hT 10 10 rfl rfl (by decide +kernel) (by decide +kernel) dX1_copyFrom_110 ?_
    refine lv_iload_n hx hb dX1_copyFrom_113 rfl (lv_at hl 0 rfl) ?_
    refine z_iald C hT 15 0 rfl rfl (vp_in_nI (by omega) (by decide +kernel)) (v := 0) rfl dX1_copyFrom_114 ?_
    refine z_iast C hT 5 0 rfl rfl (vp_in_nI (by omega) (by decide +kernel)) dX1_copyFrom_115 (upd (y 4) i 0) (by rw [nI_clamp (by omega)]) [(h, .inr (1, [.int 5, .int 40, .int 8, .int 0, .int 0, .int 0, .ref (a 0), .ref (a 1), .ref (a 2), .ref (a 3), .ref (a 4), .ref (a 5), .ref (a 6), .ref (a 7), .ref (a 8), .ref (a 9)])), ((a 0), .inl (g 0, 6, .inl (upd (y 0) i 0))), ((a 1), .inl (g 0, 6, .inl (upd (y 1) i 0))), ((a 2), .inl (g 0, 6, .inl (upd (y 2) i 0))), ((a 3), .inl (g 0, 6, .inl (upd (y 3) i 0))), ((a 4), .inl (g 0, 6, .inl (upd (y 4) i 0))), ((a 5), .inl (g 0, 6, .inl (y 5))), ((a 6), .inl (g 0, 6, .inl (y 6))), ((a 7), .inl (g 0, 6, .inl (y 7))), ((a 8), .inl (g 0, 6, .inl (y 8))), (o, .inr (1, [.int 5, .int 40, .int 8, .int 0, .int 0, .int 0, .ref (b 0), .ref (b 1), .ref (b 2), .ref (b 3), .ref (b 4), .ref (b 5), .ref (b 6), .ref (b 7), .ref (b 8), .ref (b 9)])), ((b 0), .inl (g 0, 6, .inl (fun _ => 0))), ((b 1), .inl (g 0, 6, .inl (fun _ => 0))), ((b 2), .inl (g 0, 6, .inl (fun _ => 0))), ((b 3), .inl (g 0, 6, .inl (fun _ => 0))), ((b 4), .inl (g 0, 6, .inl (fun _ => 0))), ((b 5), .inl (g 0, 6, .inl (fun _ => 0))), ((b 6), .inl (g 0, 6, .inl (fun _ => 0))), ((b 7), .inl (g 0, 6, .inl (fun _ => 0))), ((b 8), .inl (g 0, 6, .inl (fun _ => 0)))] rfl (fun H locs hT => ?_)
    refine lv_aload_n hx hb dX1_copyFrom_116 rfl (lv_at hl 1 rfl) ?_
    refine z_get C (ci := 1) (N := 16) rfl hin1 hT 0 11 rfl rfl (by decide +kernel) (by decide +kernel) dX1_copyFrom_117 ?_
    refine lv_iload_n hx hb dX1_copyFrom_120 rfl (lv_at hl 0 rfl) ?_
    refine lv_aload_n hx hb dX1_copyFrom_121 rfl (lv_at hl 2 rfl) ?_
    refine z_get C (ci := 1) (N := 16) rfl hin1 hT 10 11 rfl rfl (by decide +kernel) (by decide +kernel) dX1_copyFrom_122 ?_
    refine lv_iload_n hx hb dX1_copyFrom_125 rfl (lv_at hl 0 rfl) ?_
    refine z_iald C hT 16 0 rfl rfl (vp_in_nI (by omega) (by decide +kernel)) (v := 0) rfl dX1_copyFrom_126 ?_
    refine z_iast C hT 6 0 rfl rfl (vp_in_nI (by omega) (by decide +kernel)) dX1_copyFrom_127 (upd (y 5) i 0) (by rw [nI_clamp (by omega)]) [(h, .inr (1, [.int 5, .int 40, .int 8, .int 0, .int 0, .int 0, .ref (a 0), .ref (a 1), .ref (a 2), .ref (a 3), .ref (a 4), .ref (a 5), .ref (a 6), .ref (a 7), .ref (a 8), .ref (a 9)])), ((a 0), .inl (g 0, 6, .inl (upd (y 0) i 0))), ((a 1), .inl (g 0, 6, .inl (upd (y 1) i 0))), ((a 2), .inl (g 0, 6, .inl (upd (y 2) i 0))), ((a 3), .inl (g 0, 6, .inl (upd (y 3) i 0))), ((a 4), .inl (g 0, 6, .inl (upd (y 4) i 0))), ((a 5), .inl (g 0, 6, .inl (upd (y 5) i 0))), ((a 6), .inl (g 0, 6, .inl (y 6))), ((a 7), .inl (g 0, 6, .inl (y 7))), ((a 8), .inl (g 0, 6, .inl (y 8))), (o, .inr (1, [.int 5, .int 40, .int 8, .int 0, .int 0, .int 0, .ref (b 0), .ref (b 1), .ref (b 2), .ref (b 3), .ref (b 4), .ref (b 5), .ref (b 6), .ref (b 7), .ref (b 8), .ref (b 9)])), ((b 0), .inl (g 0, 6, .inl (fun _ => 0))), ((b 1), .inl (g 0, 6, .inl (fun _ => 0))), ((b 2), .inl (g 0, 6, .inl (fun _ => 0))), ((b 3), .inl (g 0, 6, .inl (fun _ => 0))), ((b 4), .inl (g 0, 6, .inl (fun _ => 0))), ((b 5), .inl (g 0, 6, .inl (fun _ => 0))), ((b 6), .inl (g 0, 6, .inl (fun _ => 0))), ((b 7), .inl (g 0, 6, .inl (fun _ => 0))), ((b 8), .inl (g 0, 6, .inl (fun _ => 0)))] rfl (fun H locs hT => ?_)
    refine lv_aload_n hx hb dX1_copyFrom_128 rfl (lv_at hl 1 rfl) ?_
    refine z_get C (ci := 1) (N := 16) rfl hin1 hT 0 12 rfl rfl (by decide +kernel) (by decide +kernel) dX1_copyFrom_129 ?_
    refine lv_iload_n hx hb dX1_copyFrom_132 rfl (lv_at hl 0 rfl) ?_
    refine lv_aload_n hx hb dX1_copyFrom_133 rfl (lv_at hl 2 rfl) ?_
    refine z_get C (ci := 1) (N := 16) rfl hin1 hT 10 12 rfl rfl (by decide +kernel) (by decide +kernel) dX1_copyFrom_134 ?_
    refine lv_iload_n hx hb dX1_copyFrom_137 rfl (lv_at hl 0 rfl) ?_
    refine z_iald C hT 17 0 rfl rfl (vp_in_nI (by omega) (by decide +kernel)) (v := 0) rfl dX1_copyFrom_138 ?_
    refine z_iast C hT 7 0 rfl rfl (vp_in_nI (by omega) (by decide +kernel)) dX1_copyFrom_139 (upd (y 6) i 0) (by rw [nI_clamp (by omega)]) [(h, .inr (1, [.int 5, .int 40, .int 8, .int 0, .int 0, .int 0, .ref (a 0), .ref (a 1), .ref (a 2), .ref (a 3), .ref (a 4), .ref (a 5), .ref (a 6), .ref (a 7), .ref (a 8), .ref (a 9)])), ((a 0), .inl (g 0, 6, .inl (upd (y 0) i 0))), ((a 1), .inl (g 0, 6, .inl (upd (y 1) i 0))), ((a 2), .inl (g 0, 6, .inl (upd (y 2) i 0))), ((a 3), .inl (g 0, 6, .inl (upd (y 3) i 0))), ((a 4), .inl (g 0, 6, .inl (upd (y 4) i 0))), ((a 5), .inl (g 0, 6, .inl (upd (y 5) i 0))), ((a 6), .inl (g 0, 6, .inl (upd (y 6) i 0))), ((a 7), .inl (g 0, 6, .inl (y 7))), ((a 8), .inl (g 0, 6, .inl (y 8))), (o, .inr (1, [.int 5, .int 40, .int 8, .int 0, .int 0, .int 0, .ref (b 0), .ref (b 1), .ref (b 2), .ref (b 3), .ref (b 4), .ref (b 5), .ref (b 6), .ref (b 7), .ref (b 8), .ref (b 9)])), ((b 0), .inl (g 0, 6, .inl (fun _ => 0))), ((b 1), .inl (g 0, 6, .inl (fun _ => 0))), ((b 2), .inl (g 0, 6, .inl (fun _ => 0))), ((b 3), .inl (g 0, 6, .inl (fun _ => 0))), ((b 4), .inl (g 0, 6, .inl (fun _ => 0))), ((b 5), .inl (g 0, 6, .inl (fun _ => 0))), ((b 6), .inl (g 0, 6, .inl (fun _ => 0))), ((b 7), .inl (g 0, 6, .inl (fun _ => 0))), ((b 8), .inl (g 0, 6, .inl (fun _ => 0)))] rfl (fun H locs hT => ?_)
    refine lv_iinc (v := nI (i + 1)) (lv' := [(2, .int (nI (i + 1))), (0, .ref h), (1, .ref o)]) hx hb dX1_copyFrom_140 hl (k := 0) rfl (inc1 _) (by decide +kernel) rfl (fun ls hl => ?_)
    refine lv_goto (tgt := 50) hx hb dX1_copyFrom_143 (by decide +kernel) ?_
    exact ih (fun z => ([upd (y 0) i 0, upd (y 1) i 0, upd (y 2) i 0, upd (y 3) i 0, upd (y 4) i 0, upd (y 5) i 0, upd (y 6) i 0, (y 7), (y 8)] : List (Nat → Int32)).getD z (fun _ => 0)) _ _ _ trivial hT (lv_sub hl [0, 1, 2] rfl)
  · intro y H locs ls hI hT hl
    have hT : Sit D (TY g) A s [(h, .inr (1, [.int 5, .int 40, .int 8, .int 0, .int 0, .int 0, .ref (a 0), .ref (a 1), .ref (a 2), .ref (a 3), .ref (a 4), .ref (a 5), .ref (a 6), .ref (a 7), .ref (a 8), .ref (a 9)])), ((a 0), .inl (g 0, 6, .inl (y 0))), ((a 1), .inl (g 0, 6, .inl (y 1))), ((a 2), .inl (g 0, 6, .inl (y 2))), ((a 3), .inl (g 0, 6, .inl (y 3))), ((a 4), .inl (g 0, 6, .inl (y 4))), ((a 5), .inl (g 0, 6, .inl (y 5))), ((a 6), .inl (g 0, 6, .inl (y 6))), ((a 7), .inl (g 0, 6, .inl (y 7))), ((a 8), .inl (g 0, 6, .inl (y 8))), (o, .inr (1, [.int 5, .int 40, .int 8, .int 0, .int 0, .int 0, .ref (b 0), .ref (b 1), .ref (b 2), .ref (b 3), .ref (b 4), .ref (b 5), .ref (b 6), .ref (b 7), .ref (b 8), .ref (b 9)])), ((b 0), .inl (g 0, 6, .inl (fun _ => 0))), ((b 1), .inl (g 0, 6, .inl (fun _ => 0))), ((b 2), .inl (g 0, 6, .inl (fun _ => 0))), ((b 3), .inl (g 0, 6, .inl (fun _ => 0))), ((b 4), .inl (g 0, 6, .inl (fun _ => 0))), ((b 5), .inl (g 0, 6, .inl (fun _ => 0))), ((b 6), .inl (g 0, 6, .inl (fun _ => 0))), ((b 7), .inl (g 0, 6, .inl (fun _ => 0))), ((b 8), .inl (g 0, 6, .inl (fun _ => 0)))] H locs := hT
    have hl : lv_has ls _ [(2, .int (nI 6)), (0, .ref h), (1, .ref o)] := hl
    refine lv_iload_n hx hb dX1_copyFrom_50 rfl (lv_at hl 0 rfl) ?_
    refine lv_bipush (v := 6) hx hb dX1_copyFrom_51 (by decide +kernel) ?_
    refine lv_icmp_ge (tgt := 146) hx hb dX1_copyFrom_53 (by decide +kernel) (fun _ => ?_) (fun c9 => absurd (by decide +kernel) c9)
    refine lv_iconst (v := 0) hx hb dX1_copyFrom_146 (by decide +kernel) ?_
    refine lv_istore_n (lv' := [(2, .int 0), (0, .ref h), (1, .ref o)]) hx hb dX1_copyFrom_147 rfl hl (by decide +kernel) rfl (fun ls hl => ?_)
    refine z_loop (α := Nat → Nat → Int32) (N := 6) (fun j y => True) (fun j y => [(h, .inr (1, [.int 5, .int 40, .int 8, .int 0, .int 0, .int 0, .ref (a 0), .ref (a 1), .ref (a 2), .ref (a 3), .ref (a 4), .ref (a 5), .ref (a 6), .ref (a 7), .ref (a 8), .ref (a 9)])), ((a 0), .inl (g 0, 6, .inl (y 0))), ((a 1), .inl (g 0, 6, .inl (y 1))), ((a 2), .inl (g 0, 6, .inl (y 2))), ((a 3), .inl (g 0, 6, .inl (y 3))), ((a 4), .inl (g 0, 6, .inl (y 4))), ((a 5), .inl (g 0, 6, .inl (y 5))), ((a 6), .inl (g 0, 6, .inl (y 6))), ((a 7), .inl (g 0, 6, .inl (y 7))), ((a 8), .inl (g 0, 6, .inl (y 8))), (o, .inr (1, [.int 5, .int 40, .int 8, .int 0, .int 0, .int 0, .ref (b 0), .ref (b 1), .ref (b 2), .ref (b 3), .ref (b 4), .ref (b 5), .ref (b 6), .ref (b 7), .ref (b 8), .ref (b 9)])), ((b 0), .inl (g 0, 6, .inl (fun _ => 0))), ((b 1), .inl (g 0, 6, .inl (fun _ => 0))), ((b 2), .inl (g 0, 6, .inl (fun _ => 0))), ((b 3), .inl (g 0, 6, .inl (fun _ => 0))), ((b 4), .inl (g 0, 6, .inl (fun _ => 0))), ((b 5), .inl (g 0, 6, .inl (fun _ => 0))), ((b 6), .inl (g 0, 6, .inl (fun _ => 0))), ((b 7), .inl (g 0, 6, .inl (fun _ => 0))), ((b 8), .inl (g 0, 6, .inl (fun _ => 0)))]) (fun j y => [(2, .int (nI j)), (0, .ref h), (1, .ref o)]) ?_ ?_ 0 y (Nat.zero_le _) trivial _ _ _ hT (lv_sub hl [0, 1, 2] rfl)
    · intro j y H locs ls hj hI hT hl ih
      have hT : Sit D (TY g) A s [(h, .inr (1, [.int 5, .int 40, .int 8, .int 0, .int 0, .int 0, .ref (a 0), .ref (a 1), .ref (a 2), .ref (a 3), .ref (a 4), .ref (a 5), .ref (a 6), .ref (a 7), .ref (a 8), .ref (a 9)])), ((a 0), .inl (g 0, 6, .inl (y 0))), ((a 1), .inl (g 0, 6, .inl (y 1))), ((a 2), .inl (g 0, 6, .inl (y 2))), ((a 3), .inl (g 0, 6, .inl (y 3))), ((a 4), .inl (g 0, 6, .inl (y 4))), ((a 5), .inl (g 0, 6, .inl (y 5))), ((a 6), .inl (g 0, 6, .inl (y 6))), ((a 7), .inl (g 0, 6, .inl (y 7))), ((a 8), .inl (g 0, 6, .inl (y 8))), (o, .inr (1, [.int 5, .int 40, .int 8, .int 0, .int 0, .int 0, .ref (b 0), .ref (b 1), .ref (b 2), .ref (b 3), .ref (b 4), .ref (b 5), .ref (b 6), .ref (b 7), .ref (b 8), .ref (b 9)])), ((b 0), .inl (g 0, 6, .inl (fun _ => 0))), ((b 1), .inl (g 0, 6, .inl (fun _ => 0))), ((b 2), .inl (g 0, 6, .inl (fun _ => 0))), ((b 3), .inl (g 0, 6, .inl (fun _ => 0))), ((b 4), .inl (g 0, 6, .inl (fun _ => 0))), ((b 5), .inl (g 0, 6, .inl (fun _ => 0))), ((b 6), .inl (g 0, 6, .inl (fun _ => 0))), ((b 7), .inl (g 0, 6, .inl (fun _ => 0))), ((b 8), .inl (g 0, 6, .inl (fun _ => 0)))] H locs := hT
      have hl : lv_has ls _ [(2, .int (nI j)), (0, .ref h), (1, .ref o)] := hl
      refine lv_iload_n hx hb dX1_copyFrom_148 rfl (lv_at hl 0 rfl) ?_
      refine lv_bipush (v := 6) hx hb dX1_copyFrom_149 (by decide +kernel) ?_
      refine lv_icmp_ge (tgt := 184) hx hb dX1_copyFrom_151 (by decide +kernel) (fun c9 => absurd c9 (lp_no (by decide +kernel) hj (by decide +kernel))) (fun _ => ?_)
      refine lv_aload_n hx hb dX1_copyFrom_154 rfl (lv_at hl 1 rfl) ?_
      refine z_get C (ci := 1) (N := 16) rfl hin1 hT 0 13 rfl rfl (by decide +kernel) (by decide +kernel) dX1_copyFrom_155 ?_
      refine lv_iload_n hx hb dX1_copyFrom_158 rfl (lv_at hl 0 rfl) ?_
      refine lv_aload_n hx hb dX1_copyFrom_159 rfl (lv_at hl 2 rfl) ?_
      refine z_get C (ci := 1) (N := 16) rfl hin1 hT 10 13 rfl rfl (by decide +kernel) (by decide +kernel) dX1_copyFrom_160 ?_
      refine lv_iload_n hx hb dX1_copyFrom_163 rfl (lv_at hl 0 rfl) ?_
      refine z_iald C hT 18 0 rfl rfl (vp_in_nI (by omega) (by decide +kernel)) (v := 0) rfl dX1_copyFrom_164 ?_
      refine z_iast C hT 8 0 rfl rfl (vp_in_nI (by omega) (by decide +kernel)) dX1_copyFrom_165 (upd (y 7) j 0) (by rw [nI_clamp (by omega)]) [(h, .inr (1, [.int 5, .int 40, .int 8, .int 0, .int 0, .int 0, .ref (a 0), .ref (a 1), .ref (a 2), .ref (a 3), .ref (a 4), .ref (a 5), .ref (a 6), .ref (a 7), .ref (a 8), .ref (a 9)])), ((a 0), .inl (g 0, 6, .inl (y 0))), ((a 1), .inl (g 0, 6, .inl (y 1))), ((a 2), .inl (g 0, 6, .inl (y 2))), ((a 3), .inl (g 0, 6, .inl (y 3))), ((a 4), .inl (g 0, 6, .inl (y 4))), ((a 5), .inl (g 0, 6, .inl (y 5))), ((a 6), .inl (g 0, 6, .inl (y 6))), ((a 7), .inl (g 0, 6, .inl (upd (y 7) j 0))), ((a 8), .inl (g 0, 6, .inl (y 8))), (o, .inr (1, [.int 5, .int 40, .int 8, .int 0, .int 0, .int 0, .ref (b 0), .ref (b 1), .ref (b 2), .ref (b 3), .ref (b 4), .ref (b 5), .ref (b 6), .ref (b 7), .ref (b 8), .ref (b 9)])), ((b 0), .inl (g 0, 6, .inl (fun _ => 0))), ((b 1), .inl (g 0, 6, .inl (fun _ => 0))), ((b 2), .inl (g 0, 6, .inl (fun _ => 0))), ((b 3), .inl (g 0, 6, .inl (fun _ => 0))), ((b 4), .inl (g 0, 6, .inl (fun _ => 0))), ((b 5), .inl (g 0, 6, .inl (fun _ => 0))), ((b 6), .inl (g 0, 6, .inl (fun _ => 0))), ((b 7), .inl (g 0, 6, .inl (fun _ => 0))), ((b 8), .inl (g 0, 6, .inl (fun _ => 0)))] rfl (fun H locs hT => ?_)
      refine lv_aload_n hx hb dX1_copyFrom_166 rfl (lv_at hl 1 rfl) ?_
      refine z_get C (ci := 1) (N := 16) rfl hin1 hT 0 14 rfl rfl (by decide +kernel) (by decide +kernel) dX1_copyFrom_167 ?_
      refine lv_iload_n hx hb dX1_copyFrom_170 rfl (lv_at hl 0 rfl) ?_
      refine lv_aload_n hx hb dX1_copyFrom_171 rfl (lv_at hl 2 rfl) ?_
      refine z_get C (ci := 1) (N := 16) rfl hin1 hT 10 14 rfl rfl (by decide +kernel) (by decide +kernel) dX1_copyFrom_172 ?_
      refine lv_iload_n hx hb dX1_copyFrom_175 rfl (lv_at hl 0 rfl) ?_
      refine z_iald C hT 19 0 rfl rfl (vp_in_nI (by omega) (by decide +kernel)) (v := 0) rfl dX1_copyFrom_176 ?_
      refine z_iast C hT 9 0 rfl rfl (vp_in_nI (by omega) (by decide +kernel)) dX1_copyFrom_177 (upd (y 8) j 0) (by rw [nI_clamp (by omega)]) [(h, .inr (1, [.int 5, .int 40, .int 8, .int 0, .int 0, .int 0, .ref (a 0), .ref (a 1), .ref (a 2), .ref (a 3), .ref (a 4), .ref (a 5), .ref (a 6), .ref (a 7), .ref (a 8), .ref (a 9)])), ((a 0), .inl (g 0, 6, .inl (y 0))), ((a 1), .inl (g 0, 6, .inl (y 1))), ((a 2), .inl (g 0, 6, .inl (y 2))), ((a 3), .inl (g 0, 6, .inl (y 3))), ((a 4), .inl (g 0, 6, .inl (y 4))), ((a 5), .inl (g 0, 6, .inl (y 5))), ((a 6), .inl (g 0, 6, .inl (y 6))), ((a 7), .inl (g 0, 6, .inl (upd (y 7) j 0))), ((a 8), .inl (g 0, 6, .inl (upd (y 8) j 0))), (o, .inr (1, [.int 5, .int 40, .int 8, .int 0, .int 0, .int 0, .ref (b 0), .ref (b 1), .ref (b 2), .ref (b 3), .ref (b 4), .ref (b 5), .ref (b 6), .ref (b 7), .ref (b 8), .ref (b 9)])), ((b 0), .inl (g 0, 6, .inl (fun _ => 0))), ((b 1), .inl (g 0, 6, .inl (fun _ => 0))), ((b 2), .inl (g 0, 6, .inl (fun _ => 0))), ((b 3), .inl (g 0, 6, .inl (fun _ => 0))), ((b 4), .inl (g 0, 6, .inl (fun _ => 0))), ((b 5), .inl (g 0, 6, .inl (fun _ => 0))), ((b 6), .inl (g 0, 6, .inl (fun _ => 0))), ((b 7), .inl (g 0, 6, .inl (fun _ => 0))), ((b 8), .inl (g 0, 6, .inl (fun _ => 0)))] rfl (fun H locs hT => ?_)
      refine lv_iinc (v := nI (j + 1)) (lv' := [(2, .int (nI (j + 1))), (0, .ref h), (1, .ref o)]) hx hb dX1_copyFrom_178 hl (k := 0) rfl (inc1 _) (by decide +kernel) rfl (fun ls hl => ?_)
      refine lv_goto (tgt := 148) hx hb dX1_copyFrom_181 (by decide +kernel) ?_
      exact ih (fun z => ([(y 0), (y 1), (y 2), (y 3), (y 4), (y 5), (y 6), upd (y 7) j 0, upd (y 8) j 0] : List (Nat → Int32)).getD z (fun _ => 0)) _ _ _ trivial hT (lv_sub hl [0, 1, 2] rfl)
    · intro y H locs ls hI hT hl
      have hT : Sit D (TY g) A s [(h, .inr (1, [.int 5, .int 40, .int 8, .int 0, .int 0, .int 0, .ref (a 0), .ref (a 1), .ref (a 2), .ref (a 3), .ref (a 4), .ref (a 5), .ref (a 6), .ref (a 7), .ref (a 8), .ref (a 9)])), ((a 0), .inl (g 0, 6, .inl (y 0))), ((a 1), .inl (g 0, 6, .inl (y 1))), ((a 2), .inl (g 0, 6, .inl (y 2))), ((a 3), .inl (g 0, 6, .inl (y 3))), ((a 4), .inl (g 0, 6, .inl (y 4))), ((a 5), .inl (g 0, 6, .inl (y 5))), ((a 6), .inl (g 0, 6, .inl (y 6))), ((a 7), .inl (g 0, 6, .inl (y 7))), ((a 8), .inl (g 0, 6, .inl (y 8))), (o, .inr (1, [.int 5, .int 40, .int 8, .int 0, .int 0, .int 0, .ref (b 0), .ref (b 1), .ref (b 2), .ref (b 3), .ref (b 4), .ref (b 5), .ref (b 6), .ref (b 7), .ref (b 8), .ref (b 9)])), ((b 0), .inl (g 0, 6, .inl (fun _ => 0))), ((b 1), .inl (g 0, 6, .inl (fun _ => 0))), ((b 2), .inl (g 0, 6, .inl (fun _ => 0))), ((b 3), .inl (g 0, 6, .inl (fun _ => 0))), ((b 4), .inl (g 0, 6, .inl (fun _ => 0))), ((b 5), .inl (g 0, 6, .inl (fun _ => 0))), ((b 6), .inl (g 0, 6, .inl (fun _ => 0))), ((b 7), .inl (g 0, 6, .inl (fun _ => 0))), ((b 8), .inl (g 0, 6, .inl (fun _ => 0)))] H locs := hT
      have hl : lv_has ls _ [(2, .int (nI 6)), (0, .ref h), (1, .ref o)] := hl
      refine lv_iload_n hx hb dX1_copyFrom_148 rfl (lv_at hl 0 rfl) ?_
      refine lv_bipush (v := 6) hx hb dX1_copyFrom_149 (by decide +kernel) ?_
      refine lv_icmp_ge (tgt := 184) hx hb dX1_copyFrom_151 (by decide +kernel) (fun _ => ?_) (fun c9 => absurd (by decide +kernel) c9)
      exact z_vret C rfl hT () trivial [10, 11, 12, 13, 14, 15, 16, 17, 18, 19] rfl rfl (Nat.le_of_ble_eq_true rfl) (Nat.le_of_ble_eq_true rfl) dX1_copyFrom_184

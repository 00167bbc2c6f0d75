set_option maxHeartbeats 8000000 in
set_option maxRecDepth 100000 in
/-- THE LAW, from its entry -/
theorem whole_start {p : Program} {e : Env} {s : State} {m : MethodId} {below : List Frame} {meth : Method} {c : Code} (l : Launch) {b L : Nat} {xs : Nat → Int32} (hL : L ≤ 6) (C0 : lw_At p s m meth c b L xs) : W p l e room_1 s m #[Value.ref b] below meth c s.heap [] 0 0 (lw_Z below #[Value.ref b] s) (entryFrame m ([Value.ref b] : List Value).toArray 4) := by
  obtain ⟨hx, hb, hr, hml, hown, hts, hXs, hbl, hlocks, hgv⟩ := C0
  have htw : ∀ w ∈ wsL_law, w.before #[Value.ref b] s = true := fun w h => hts w (wsL_law_in w h)
  have C : Cx p s m #[.ref b] meth c code 4 wsL_law yL_law ret := ⟨⟨hx, hb, hml, hown, htw⟩, hr, hlocks⟩
  have hbA : ¬ (fun q : Nat => s.heap.size ≤ q) b := Nat.not_le.mpr hbl
  obtain ⟨D, g, hK⟩ := st_K hts
  have hEv := st_Ev hts
  obtain ⟨adK, adV, hXS⟩ := st_X hts hgv
  have hT : Sit D (TY g) (fun q => s.heap.size ≤ q) s [] s.heap [] := ⟨hK, fun k q h => by simp at h, ⟨fun i j p q h => by simp at h, fun k q h => by simp at h⟩, va_S.rf, fun _ h => h⟩
  have hl := lv_entry ([.ref b]) (n := 4) (Nat.le_of_ble_eq_true rfl)
  rw [lg_entry_eq]
  generalize (lg_sl ([.ref b]) ++ List.replicate (4 - (lg_sl ([.ref b])).length) Slot.unset).toArray = ls at hl ⊢
  have hl : lv_has ls 4 [(0, .ref b)] := hl
  refine z_new C (ci := 7) (N := 7) rfl inlX7 tyX7_ok hT [.null, .null, .null, .null, .null, .null, .null] (by decide +kernel) (by decide +kernel) (by decide +kernel) (by decide +kernel) (Nat.le_of_ble_eq_true rfl) (Nat.le_of_ble_eq_true rfl) dL_law_0 (fun q0 H hT => ?_)
  have hT : Sit D (TY g) (fun q => s.heap.size ≤ q) s [(q0, .inr (7, [.null, .null, .null, .null, .null, .null, .null]))] H _ := hT
  refine lv_dup hx hb dL_law_3 rfl ?_
  refine z_callI (wr := []) (n := 0) C (c_Pot_init l D g q0) gL_law_X7_init rfl (by decide +kernel) (by decide +kernel) (by decide +kernel) rfl (by decide +kernel) ⟨Nat.le_of_ble_eq_true rfl, Nat.le_of_ble_eq_true rfl⟩ ⟨Nat.le_of_ble_eq_true rfl, Nat.le_of_ble_eq_true rfl⟩ Ev.blind (fun U hU hW => hEv.warm hW) hT [0] [] rfl rfl rfl rfl rfl rfl hl.1 rfl (Nat.le_of_ble_eq_true rfl) dL_law_4 (fun z H locs hpF hT => ?_)
  obtain ⟨u, pf, kf, bf⟩ := z
  have hpF : potF u pf kf bf := hpF
  have hT : Sit D (TY g) (fun q => s.heap.size ≤ q) s (potW g q0 u pf kf bf) H locs := hT
  refine lv_astore_n (lv' := [(1, .ref q0), (0, .ref b)]) hx hb dL_law_7 rfl hl (by decide +kernel) rfl (fun ls hl => ?_)
  refine z_new C (ci := 8) (N := 21) rfl inlX8 tyX8_ok hT [.null, .int 0, .null, .null, .null, .null, .int 0, .null, .null, .null, .int 0, .int 0, .int 0, .int 0, .int 0, .null, .null, .null, .null, .null, .null] (by decide +kernel) (by decide +kernel) (by decide +kernel) (by decide +kernel) (Nat.le_of_ble_eq_true rfl) (Nat.le_of_ble_eq_true rfl) dL_law_8 (fun q1 H hT => ?_)
  refine lv_dup hx hb dL_law_11 rfl ?_
  refine z_callI (wr := potW g q0 u pf kf bf) (n := 0) C (c_M_init l D g q1) gL_law_X8_init rfl (by decide +kernel) (by decide +kernel) (by decide +kernel) rfl (by decide +kernel) ⟨Nat.le_of_ble_eq_true rfl, Nat.le_of_ble_eq_true rfl⟩ ⟨Nat.le_of_ble_eq_true rfl, Nat.le_of_ble_eq_true rfl⟩ blind_T (fun _ _ _ => trivial) hT [77] [0, 1, 2, 3, 4, 5, 6, 7, 8, 9, 10, 11, 12, 13, 14, 15, 16, 17, 18, 19, 20, 21, 22, 23, 24, 25, 26, 27, 28, 29, 30, 31, 32, 33, 34, 35, 36, 37, 38, 39, 40, 41, 42, 43, 44, 45, 46, 47, 48, 49, 50, 51, 52, 53, 54, 55, 56, 57, 58, 59, 60, 61, 62, 63, 64, 65, 66, 67, 68, 69, 70, 71, 72, 73, 74, 75, 76] rfl rfl rfl rfl rfl rfl hl.1 rfl (Nat.le_of_ble_eq_true rfl) dL_law_12 (fun z H locs hmF hT => ?_)
  obtain ⟨v, ft, fd, fs⟩ := z
  have hmF : modF ft fs := hmF
  have hT : Sit D (TY g) (fun q => s.heap.size ≤ q) s (potW g q0 u pf kf bf ++ modW g q1 v ft fd fs) H locs := hT
  refine lv_astore_n (lv' := [(2, .ref q1), (1, .ref q0), (0, .ref b)]) hx hb dL_law_15 rfl hl (by decide +kernel) rfl (fun ls hl => ?_)
  refine lv_iconst (v := 0) hx hb dL_law_16 (by decide +kernel) ?_
  refine lv_istore_n (lv' := [(3, .int 0), (2, .ref q1), (1, .ref q0), (0, .ref b)]) hx hb dL_law_17 rfl hl (by decide +kernel) rfl (fun ls hl => ?_)
  refine W.widen (k := 1000) (n := 20000) (Nat.le_of_ble_eq_true rfl) (Nat.le_of_ble_eq_true rfl) ?_
  refine lv_iload_n hx hb dL_law_18 rfl (lv_at hl 0 rfl) ?_
  refine lv_aload_n hx hb dL_law_19 rfl (lv_at hl 3 rfl) ?_
  refine va_slen hx hb hXs hbl hbA hT.2.2.2.1 dL_law_20 ?_
  refine lv_bipush (v := 6) hx hb dL_law_21 (by decide +kernel) ?_
  refine lv_isub hx hb dL_law_23 ?_
  by_cases hL6 : L = 6
  · subst hL6
    refine lv_icmp_gt (tgt := 725) hx hb dL_law_24 (by decide +kernel) (fun c9 => absurd c9 (by decide +kernel)) (fun _ => ?_)
    · refine lv_aload_n hx hb dL_law_27 rfl (lv_at hl 3 rfl) ?_
      refine lv_iload_n hx hb dL_law_28 rfl (lv_at hl 0 rfl) ?_
      refine va_sld hx hb hXs hbl hbA hT.2.2.2.1 (vin rfl) dL_law_29 ?_
      refine z_eq (y := xs 0) rfl ?_
      refine lv_bipush (v := 31) hx hb dL_law_30 (by decide +kernel) ?_
      refine lv_iand hx hb dL_law_32 ?_
      obtain ⟨N, hN⟩ : ∃ N : Nat, N = 100 := ⟨100, rfl⟩
      by_cases c_0 : (xs 0 &&& 31) = 0
      · refine lv_tableIn (off := 107) (tgt := 140) hx hb dL_law_33 (by rw [c_0]; decide +kernel) (by rw [c_0]; decide +kernel) (by rw [c_0]; rfl) (by decide +kernel) ?_
        exact law_write C hXs hbl hT hpF hmF hXS hl
      by_cases c_1 : (xs 0 &&& 31) = 1
      · refine lv_tableIn (off := 130) (tgt := 163) hx hb dL_law_33 (by rw [c_1]; decide +kernel) (by rw [c_1]; decide +kernel) (by rw [c_1]; rfl) (by decide +kernel) ?_
        exact law_erase C hXs hbl hT hpF hmF hXS hl
      by_cases c_2 : (xs 0 &&& 31) = 2
      · refine lv_tableIn (off := 143) (tgt := 176) hx hb dL_law_33 (by rw [c_2]; decide +kernel) (by rw [c_2]; decide +kernel) (by rw [c_2]; rfl) (by decide +kernel) ?_
        exact law_fault C hXs hbl hT hpF hmF hXS hl
      by_cases c_3 : (xs 0 &&& 31) = 3
      · refine lv_tableIn (off := 156) (tgt := 189) hx hb dL_law_33 (by rw [c_3]; decide +kernel) (by rw [c_3]; decide +kernel) (by rw [c_3]; rfl) (by decide +kernel) ?_
        exact law_hall C hXs hbl hT hpF hmF hXS hl
      by_cases c_4 : (xs 0 &&& 31) = 4
      · refine lv_tableIn (off := 169) (tgt := 202) hx hb dL_law_33 (by rw [c_4]; decide +kernel) (by rw [c_4]; decide +kernel) (by rw [c_4]; rfl) (by decide +kernel) ?_
        exact law_person C hXs hbl hT hpF hmF hXS hl
      by_cases c_5 : (xs 0 &&& 31) = 5
      · refine lv_tableIn (off := 202) (tgt := 235) hx hb dL_law_33 (by rw [c_5]; decide +kernel) (by rw [c_5]; decide +kernel) (by rw [c_5]; rfl) (by decide +kernel) ?_
        exact law_sort C hXs hbl hT hpF hmF hXS hl
      by_cases c_6 : (xs 0 &&& 31) = 6
      · refine lv_tableIn (off := 235) (tgt := 268) hx hb dL_law_33 (by rw [c_6]; decide +kernel) (by rw [c_6]; decide +kernel) (by rw [c_6]; rfl) (by decide +kernel) ?_
        exact law_as C hXs hbl hT hpF hmF hXS hl
      by_cases c_7 : (xs 0 &&& 31) = 7
      · refine lv_tableIn (off := 268) (tgt := 301) hx hb dL_law_33 (by rw [c_7]; decide +kernel) (by rw [c_7]; decide +kernel) (by rw [c_7]; rfl) (by decide +kernel) ?_
        exact law_deed C hXs hbl hT hpF hmF hXS hl
      by_cases c_8 : (xs 0 &&& 31) = 8
      · refine lv_tableIn (off := 301) (tgt := 334) hx hb dL_law_33 (by rw [c_8]; decide +kernel) (by rw [c_8]; decide +kernel) (by rw [c_8]; rfl) (by decide +kernel) ?_
        exact law_feast C hXs hbl hT hpF hmF hXS hl
      by_cases c_9 : (xs 0 &&& 31) = 9
      · refine lv_tableIn (off := 314) (tgt := 347) hx hb dL_law_33 (by rw [c_9]; decide +kernel) (by rw [c_9]; decide +kernel) (by rw [c_9]; rfl) (by decide +kernel) ?_
        exact law_year C hXs hbl hT hpF hmF hXS hl
      by_cases c_10 : (xs 0 &&& 31) = 10
      · refine lv_tableIn (off := 327) (tgt := 360) hx hb dL_law_33 (by rw [c_10]; decide +kernel) (by rw [c_10]; decide +kernel) (by rw [c_10]; rfl) (by decide +kernel) ?_
        exact law_scale C hXs hbl hT hpF hmF hXS hl
      by_cases c_11 : (xs 0 &&& 31) = 11
      · refine lv_tableIn (off := 360) (tgt := 393) hx hb dL_law_33 (by rw [c_11]; decide +kernel) (by rw [c_11]; decide +kernel) (by rw [c_11]; rfl) (by decide +kernel) ?_
        exact law_undo C hXs hbl hT hpF hmF hXS hl
      by_cases c_12 : (xs 0 &&& 31) = 12
      · refine lv_tableIn (off := 373) (tgt := 406) hx hb dL_law_33 (by rw [c_12]; decide +kernel) (by rw [c_12]; decide +kernel) (by rw [c_12]; rfl) (by decide +kernel) ?_
        exact law_keep C hXs hbl hT hpF hmF hXS hl
      by_cases c_13 : (xs 0 &&& 31) = 13
      · refine lv_tableIn (off := 396) (tgt := 429) hx hb dL_law_33 (by rw [c_13]; decide +kernel) (by rw [c_13]; decide +kernel) (by rw [c_13]; rfl) (by decide +kernel) ?_
        exact law_back C hXs hbl hT hpF hmF hXS hl
      by_cases c_14 : (xs 0 &&& 31) = 14
      · refine lv_tableIn (off := 419) (tgt := 452) hx hb dL_law_33 (by rw [c_14]; decide +kernel) (by rw [c_14]; decide +kernel) (by rw [c_14]; rfl) (by decide +kernel) ?_
        exact law_gets C hXs hbl hT hpF hmF hXS hl
      by_cases c_15 : (xs 0 &&& 31) = 15
      · refine lv_tableIn (off := 442) (tgt := 475) hx hb dL_law_33 (by rw [c_15]; decide +kernel) (by rw [c_15]; decide +kernel) (by rw [c_15]; rfl) (by decide +kernel) ?_
        exact law_need C hXs hbl hT hpF hmF hXS hl
      by_cases c_16 : (xs 0 &&& 31) = 16
      · refine lv_tableIn (off := 475) (tgt := 508) hx hb dL_law_33 (by rw [c_16]; decide +kernel) (by rw [c_16]; decide +kernel) (by rw [c_16]; rfl) (by decide +kernel) ?_
        exact law_deeds C hXs hbl hT hpF hmF hXS hl
      by_cases c_17 : (xs 0 &&& 31) = 17
      · refine lv_tableIn (off := 518) (tgt := 551) hx hb dL_law_33 (by rw [c_17]; decide +kernel) (by rw [c_17]; decide +kernel) (by rw [c_17]; rfl) (by decide +kernel) ?_
        exact law_seen C hXs hbl hT hpF hmF hXS hl
      by_cases c_18 : (xs 0 &&& 31) = 18
      · refine lv_tableIn (off := 551) (tgt := 584) hx hb dL_law_33 (by rw [c_18]; decide +kernel) (by rw [c_18]; decide +kernel) (by rw [c_18]; rfl) (by decide +kernel) ?_
        exact law_forget C hXs hbl hT hpF hmF hXS hl
      by_cases c_19 : (xs 0 &&& 31) = 19
      · refine lv_tableIn (off := 564) (tgt := 597) hx hb dL_law_33 (by rw [c_19]; decide +kernel) (by rw [c_19]; decide +kernel) (by rw [c_19]; rfl) (by decide +kernel) ?_
        exact law_scales C hXs hbl hT hpF hmF hXS hl
      by_cases c_20 : (xs 0 &&& 31) = 20
      · refine lv_tableIn (off := 587) (tgt := 620) hx hb dL_law_33 (by rw [c_20]; decide +kernel) (by rw [c_20]; decide +kernel) (by rw [c_20]; rfl) (by decide +kernel) ?_
        exact law_tells C hXs hbl hT hpF hmF hXS hl N hN
      by_cases c_21 : (xs 0 &&& 31) = 21
      · refine lv_tableIn (off := 600) (tgt := 633) hx hb dL_law_33 (by rw [c_21]; decide +kernel) (by rw [c_21]; decide +kernel) (by rw [c_21]; rfl) (by decide +kernel) ?_
        exact law_chance C hXs hbl hT hpF hmF hXS hl
      by_cases c_22 : (xs 0 &&& 31) = 22
      · refine lv_tableIn (off := 663) (tgt := 696) hx hb dL_law_33 (by rw [c_22]; decide +kernel) (by rw [c_22]; decide +kernel) (by rw [c_22]; rfl) (by decide +kernel) ?_
        exact law_count C hXs hbl hT hpF hmF hXS hl
      refine lv_tableOut (tgt := 719) hx hb dL_law_33 (sw_out (x := xs 0 &&& 31) 22 (fun k hk => match k, hk with | 0, _ => c_0 | 1, _ => c_1 | 2, _ => c_2 | 3, _ => c_3 | 4, _ => c_4 | 5, _ => c_5 | 6, _ => c_6 | 7, _ => c_7 | 8, _ => c_8 | 9, _ => c_9 | 10, _ => c_10 | 11, _ => c_11 | 12, _ => c_12 | 13, _ => c_13 | 14, _ => c_14 | 15, _ => c_15 | 16, _ => c_16 | 17, _ => c_17 | 18, _ => c_18 | 19, _ => c_19 | 20, _ => c_20 | 21, _ => c_21 | 22, _ => c_22 | k + 23, hk => absurd hk (by omega)) (by decide +kernel)) (by decide +kernel) ?_
      exact law_tail C hXs hbl hT hl
  · refine lv_icmp_gt (tgt := 725) hx hb dL_law_24 (by decide +kernel) (fun _ => ?_) (fun c9 => absurd (pk_sneg (a := L) (b := 6) (by decide) (by omega)) c9)
    refine lv_iconst (v := 1) hx hb dL_law_725 (by decide +kernel) ?_
    refine va_forget (fun q hq => hT.2.2.2.1.2.2 q hq) ?_
    refine W.widen (k := 600000) (n := 7302250) (Nat.le_of_ble_eq_true rfl) (Nat.le_of_ble_eq_true rfl) ?_
    exact lw_ret hx hb hr hlocks dL_law_726

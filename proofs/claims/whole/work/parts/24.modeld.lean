def s_M_list_out (th : Int32) (z : Nat → Nat) (a : Nat → Nat → Int32) (x : Int32) (who : Int32) (days : Int32) : MS := (-1, 0, z, a)
set_option maxHeartbeats 4000000 in
set_option maxRecDepth 100000 in
theorem c_M_list_out (l : Launch) (D : va_G) (cs : Nat → ClassId) (bk : Nat → Nat) (sz : Nat) (th : Int32) (z : Nat → Nat) (a : Nat → Nat → Int32) (hz : z 0 ≤ 200) (x : Int32) (ho : ¬ (0 ≤ x ∧ x < nI (z 0))) (who days : Int32) : Met l y_M_list w_M_list ({ frames := 2, cells := 0, slots := 0, locals := 43 }) (va_Pc [.ref (bk (0)), .int (x), .int (who), .int (days)] (PB D classes (TY cs) 28 bk (MW cs th z a bk) sz)) (va_Qi (Mr cs bk (s_M_list_out th z a x who days)) (Wd D classes (TY cs) (AA 28 bk sz)) (AA 28 bk sz)) 0 0 (AA 28 bk sz) := by
  refine pw_entry (cc := b_M_list) (maxL := 4) (ret := (some .int)) (by decide +kernel) rfl (Nat.le_of_ble_eq_true rfl) ?_
  intro p_ e_ s m below_ meth_ c_ ls hx hb hr hml hts hown hlocks hin hsz hP hK hD hS hA hN hl
  have hw : ∀ w ∈ WA, w.before _ s = true := fun w h => hts w (List.mem_cons_of_mem _ h)
  have hown : s.vm.findClass "IssueRowsModel" = some m.cls := hown
  have hl : lv_has ls 4 [(0, .ref (bk (0))), (1, .int (x)), (2, .int (who)), (3, .int (days))] := hl
  refine lv_aload_n hx hb d_M_list_0 rfl (lv_at hl 0 rfl) ?_
  refine lv_iconst (v := 0) hx hb d_M_list_1 (by decide) ?_
  refine pw_put (ci := 7) (v := .int (0)) (ty := .int) (fs' := [.int (0), .ref (bk (1)), .ref (bk (2)), .ref (bk (3)), .int (nI (z 0)), .ref (bk (4)), .ref (bk (5)), .ref (bk (6)), .ref (bk (7)), .ref (bk (8)), .ref (bk (9)), .ref (bk (10)), .ref (bk (11)), .ref (bk (12)), .ref (bk (13)), .ref (bk (14)), .ref (bk (15)), .ref (bk (16)), .ref (bk (17)), .ref (bk (18)), .ref (bk (19)), .ref (bk (20)), .int (nI (z 1)), .ref (bk (21)), .ref (bk (22)), .int (nI (z 2)), .int (nI (z 3)), .ref (bk (23)), .ref (bk (24)), .ref (bk (25)), .int (nI (z 4)), .ref (bk (26)), .ref (bk (27))]) hx hb hw i_M t_M t_M_ok n_M hown hK hP hD hS (0) (by decide) rfl rfl 0 (by decide) (hw _ kF_M_92) rfl (t_M_ok 0 (by decide)) rfl rfl (Nat.le_of_ble_eq_true rfl) rfl d_M_list_2 (fun cw_1 H locs ecw_1 hP hD hS => ?_)
  obtain rfl : cw_1 = MW cs 0 z a bk := by rw [ecw_1]; exact MW_obj 0 z
  refine lv_aload_n hx hb d_M_list_5 rfl (lv_at hl 0 rfl) ?_
  refine lv_iload_n hx hb d_M_list_6 rfl (lv_at hl 1 rfl) ?_
  refine pw_callSi (va_runV (As := [.int (x)]) (rest := []) ⟨hx, hb, hml, hown, hw⟩ (c_M_isIssue l D cs bk H.size 0 z a hz x) (cw_V 1 hw kM_M_115 kI_M_isIssue kV_M_isIssue kZ_M kC_M_isIssue rfl rfl ⟨rfl, by decide, by decide, by decide +kernel⟩ ⟨Nat.le_of_ble_eq_true rfl, Nat.le_of_ble_eq_true rfl⟩) (pw_preV hN hK hP hD (0) (by decide) rfl rfl) rfl rfl hl.1 rfl (lv_room (Nat.le_of_ble_eq_true rfl)) d_M_list_7 ⟨Nat.le_of_ble_eq_true rfl, Nat.le_of_ble_eq_true rfl⟩) (fun r_2 hr_2 => ?_)
  have hr_2 : r_2 = bI (0 ≤ x ∧ x < nI (z 0)) := hr_2
  subst hr_2
  refine pw_ifne (tgt := 15) hx hb d_M_list_10 (by decide) (fun c_3 => ?_) (fun c_3 => ?_)
  · have c_3 : 0 ≤ x ∧ x < nI (z 0) := c_3
    exact absurd c_3 ho
  · have c_3 : ¬ (0 ≤ x ∧ x < nI (z 0)) := c_3
    refine lv_iconst (v := -1) hx hb d_M_list_13 (by decide) ?_
    exact W.iret (v := -1) hx hb hr (fun t ht hW => ⟨⟨-1, (28, bk, MW cs 0 z a bk), rfl, Mr_of (by rw [s_M_list_out]), by rw [ht]; exact hP, va_K.moved hW.alike hK, hD⟩, hS.F ht⟩) hS.2.2 d_M_list_14
def s_M_list (th : Int32) (z : Nat → Nat) (a : Nat → Nat → Int32) (j : Nat) (who : Int32) (days : Int32) : MS := (if 0 ≤ who ∧ who ≤ 999 then (if 1 ≤ days ∧ days ≤ 100 then (if ((a 6) (j)) = 3 then (if ((a 19) (j)) < 0 then (if ((a 16) (j)) = 8 then (-4, 0, z, a) else ((upd (a 16) (j) (((a 16) (j)) + 1)) (j), 0, z, va_up (va_up (va_up a 17 (upd (a 17) (8 * j + ((a 16) (j)).toNatClampNeg) (who))) 18 (upd (a 18) (8 * j + ((a 16) (j)).toNatClampNeg) (days))) 16 (upd (a 16) (j) (((a 16) (j)) + 1)))) else (-3, 0, z, a)) else (-3, 0, z, a)) else (-2, 0, z, a)) else (-2, 0, z, a))
set_option maxHeartbeats 4000000 in
set_option maxRecDepth 100000 in
theorem c_M_list (l : Launch) (D : va_G) (cs : Nat → ClassId) (bk : Nat → Nat) (sz : Nat) (th : Int32) (z : Nat → Nat) (a : Nat → Nat → Int32) (hz : z 0 ≤ 200) (j : Nat) (hj : j < z 0) (hrs : 0 ≤ a 16 j ∧ a 16 j ≤ 8) (who days : Int32) : Met l y_M_list w_M_list ({ frames := 2, cells := 0, slots := 0, locals := 43 }) (va_Pc [.ref (bk (0)), .int (nI j), .int (who), .int (days)] (PB D classes (TY cs) 28 bk (MW cs th z a bk) sz)) (va_Qi (Mr cs bk (s_M_list th z a j who days)) (Wd D classes (TY cs) (AA 28 bk sz)) (AA 28 bk sz)) 0 0 (AA 28 bk sz) := by
  refine pw_entry (cc := b_M_list) (maxL := 4) (ret := (some .int)) (by decide +kernel) rfl (Nat.le_of_ble_eq_true rfl) ?_
  intro p_ e_ s m below_ meth_ c_ ls hx hb hr hml hts hown hlocks hin hsz hP hK hD hS hA hN hl
  have hw : ∀ w ∈ WA, w.before _ s = true := fun w h => hts w (List.mem_cons_of_mem _ h)
  have hown : s.vm.findClass "IssueRowsModel" = some m.cls := hown
  have hl : lv_has ls 4 [(0, .ref (bk (0))), (1, .int (nI j)), (2, .int (who)), (3, .int (days))] := hl
  refine lv_aload_n hx hb d_M_list_0 rfl (lv_at hl 0 rfl) ?_
  refine lv_iconst (v := 0) hx hb d_M_list_1 (by decide) ?_
  refine pw_put (ci := 7) (v := .int (0)) (ty := .int) (fs' := [.int (0), .ref (bk (1)), .ref (bk (2)), .ref (bk (3)), .int (nI (z 0)), .ref (bk (4)), .ref (bk (5)), .ref (bk (6)), .ref (bk (7)), .ref (bk (8)), .ref (bk (9)), .ref (bk (10)), .ref (bk (11)), .ref (bk (12)), .ref (bk (13)), .ref (bk (14)), .ref (bk (15)), .ref (bk (16)), .ref (bk (17)), .ref (bk (18)), .ref (bk (19)), .ref (bk (20)), .int (nI (z 1)), .ref (bk (21)), .ref (bk (22)), .int (nI (z 2)), .int (nI (z 3)), .ref (bk (23)), .ref (bk (24)), .ref (bk (25)), .int (nI (z 4)), .ref (bk (26)), .ref (bk (27))]) hx hb hw i_M t_M t_M_ok n_M hown hK hP hD hS (0) (by decide) rfl rfl 0 (by decide) (hw _ kF_M_92) rfl (t_M_ok 0 (by decide)) rfl rfl (Nat.le_of_ble_eq_true rfl) rfl d_M_list_2 (fun cw_1 H locs ecw_1 hP hD hS => ?_)
  obtain rfl : cw_1 = MW cs 0 z a bk := by rw [ecw_1]; exact MW_obj 0 z
  refine lv_aload_n hx hb d_M_list_5 rfl (lv_at hl 0 rfl) ?_
  refine lv_iload_n hx hb d_M_list_6 rfl (lv_at hl 1 rfl) ?_
  refine pw_callSi (va_runV (As := [.int (nI j)]) (rest := []) ⟨hx, hb, hml, hown, hw⟩ (c_M_isIssue l D cs bk H.size 0 z a hz (nI j)) (cw_V 1 hw kM_M_115 kI_M_isIssue kV_M_isIssue kZ_M kC_M_isIssue rfl rfl ⟨rfl, by decide, by decide, by decide +kernel⟩ ⟨Nat.le_of_ble_eq_true rfl, Nat.le_of_ble_eq_true rfl⟩) (pw_preV hN hK hP hD (0) (by decide) rfl rfl) rfl rfl hl.1 rfl (lv_room (Nat.le_of_ble_eq_true rfl)) d_M_list_7 ⟨Nat.le_of_ble_eq_true rfl, Nat.le_of_ble_eq_true rfl⟩) (fun r_2 hr_2 => ?_)
  have hr_2 : r_2 = bI (0 ≤ (nI j) ∧ (nI j) < nI (z 0)) := hr_2
  subst hr_2
  refine pw_ifne (tgt := 15) hx hb d_M_list_10 (by decide) (fun c_3 => ?_) (fun c_3 => ?_)
  · have c_3 : 0 ≤ (nI j) ∧ (nI j) < nI (z 0) := c_3
    refine lv_iload_n hx hb d_M_list_15 rfl (lv_at hl 2 rfl) ?_
    refine lv_iconst (v := 0) hx hb d_M_list_16 (by decide) ?_
    refine lv_sipush (v := 999) hx hb d_M_list_17 (by decide) ?_
    refine pw_callSi (va_runS (As := [.int (who), .int (0), .int (999)]) (rest := []) ⟨hx, hb, hml, hown, hw⟩ (c_M_in l D cs bk H.size 0 z a who 0 999) (cw_S 3 hw kM_M_97 kS_M_in kZ_M kC_M_in rfl rfl ⟨rfl, by decide, by decide, by decide +kernel⟩ ⟨Nat.le_of_ble_eq_true rfl, Nat.le_of_ble_eq_true rfl⟩) (pw_preS hN hK hP hD) rfl rfl hl.1 rfl (lv_room (Nat.le_of_ble_eq_true rfl)) d_M_list_20 ⟨Nat.le_of_ble_eq_true rfl, Nat.le_of_ble_eq_true rfl⟩) (fun r_4 hr_4 => ?_)
    have hr_4 : r_4 = bI (0 ≤ who ∧ who ≤ 999) := hr_4
    subst hr_4
    refine pw_ifeq (tgt := 36) hx hb d_M_list_23 (by decide) (fun c_5 => ?_) (fun c_5 => ?_)
    · have c_5 : ¬ (0 ≤ who ∧ who ≤ 999) := c_5
      refine lv_bipush (v := -2) hx hb d_M_list_36 (by decide) ?_
      exact W.iret (v := -2) hx hb hr (fun t ht hW => ⟨⟨-2, (28, bk, MW cs 0 z a bk), rfl, Mr_of (by rw [s_M_list, if_neg c_5]), by rw [ht]; exact hP, va_K.moved hW.alike hK, hD⟩, hS.F ht⟩) hS.2.2 d_M_list_38
    · have c_5 : 0 ≤ who ∧ who ≤ 999 := c_5
      refine lv_iload_n hx hb d_M_list_26 rfl (lv_at hl 3 rfl) ?_
      refine lv_iconst (v := 1) hx hb d_M_list_27 (by decide) ?_
      refine lv_bipush (v := 100) hx hb d_M_list_28 (by decide) ?_
      refine pw_callSi (va_runS (As := [.int (days), .int (1), .int (100)]) (rest := []) ⟨hx, hb, hml, hown, hw⟩ (c_M_in l D cs bk H.size 0 z a days 1 100) (cw_S 3 hw kM_M_97 kS_M_in kZ_M kC_M_in rfl rfl ⟨rfl, by decide, by decide, by decide +kernel⟩ ⟨Nat.le_of_ble_eq_true rfl, Nat.le_of_ble_eq_true rfl⟩) (pw_preS hN hK hP hD) rfl rfl hl.1 rfl (lv_room (Nat.le_of_ble_eq_true rfl)) d_M_list_30 ⟨Nat.le_of_ble_eq_true rfl, Nat.le_of_ble_eq_true rfl⟩) (fun r_6 hr_6 => ?_)
      have hr_6 : r_6 = bI (1 ≤ days ∧ days ≤ 100) := hr_6
      subst hr_6
      refine pw_ifne (tgt := 39) hx hb d_M_list_33 (by decide) (fun c_7 => ?_) (fun c_7 => ?_)
      · have c_7 : 1 ≤ days ∧ days ≤ 100 := c_7
        refine lv_aload_n hx hb d_M_list_39 rfl (lv_at hl 0 rfl) ?_
        refine pw_get (ci := 7) (v := .ref (bk (6))) hx hb hw i_M hown hK hP (0) (by decide) rfl rfl 7 (by decide) (hw _ kF_M_25) rfl d_M_list_40 ?_
        refine lv_iload_n hx hb d_M_list_43 rfl (lv_at hl 1 rfl) ?_
        refine pw_iald (n := 200) (f := (a 6)) hx hb hK hP 0 (6) (by decide) rfl rfl (j) rfl (by omega) (by decide) d_M_list_44 ?_
        refine lv_iconst (v := 3) hx hb d_M_list_45 (by decide) ?_
        refine lv_icmp_ne (tgt := 58) hx hb d_M_list_46 (by decide) (fun c_8 => ?_) (fun c_8 => ?_)
        · have c_8 : ¬ ((a 6) (j)) = 3 := c_8
          refine lv_bipush (v := -3) hx hb d_M_list_58 (by decide) ?_
          exact W.iret (v := -3) hx hb hr (fun t ht hW => ⟨⟨-3, (28, bk, MW cs 0 z a bk), rfl, Mr_of (by rw [s_M_list, if_pos c_5, if_pos c_7, if_neg c_8]), by rw [ht]; exact hP, va_K.moved hW.alike hK, hD⟩, hS.F ht⟩) hS.2.2 d_M_list_60
        · have c_8 : ((a 6) (j)) = 3 := c_8
          refine lv_aload_n hx hb d_M_list_49 rfl (lv_at hl 0 rfl) ?_
          refine pw_get (ci := 7) (v := .ref (bk (19))) hx hb hw i_M hown hK hP (0) (by decide) rfl rfl 20 (by decide) (hw _ kF_M_65) rfl d_M_list_50 ?_
          refine lv_iload_n hx hb d_M_list_53 rfl (lv_at hl 1 rfl) ?_
          refine pw_iald (n := 200) (f := (a 19)) hx hb hK hP 0 (19) (by decide) rfl rfl (j) rfl (by omega) (by decide) d_M_list_54 ?_
          refine lv_if_lt (tgt := 61) hx hb d_M_list_55 (by decide) (fun c_9 => ?_) (fun c_9 => ?_)
          · have c_9 : ((a 19) (j)) < 0 := c_9
            refine lv_aload_n hx hb d_M_list_61 rfl (lv_at hl 0 rfl) ?_
            refine pw_get (ci := 7) (v := .ref (bk (16))) hx hb hw i_M hown hK hP (0) (by decide) rfl rfl 17 (by decide) (hw _ kF_M_56) rfl d_M_list_62 ?_
            refine lv_iload_n hx hb d_M_list_65 rfl (lv_at hl 1 rfl) ?_
            refine pw_iald (n := 200) (f := (a 16)) hx hb hK hP 0 (16) (by decide) rfl rfl (j) rfl (by omega) (by decide) d_M_list_66 ?_
            refine lv_bipush (v := 8) hx hb d_M_list_67 (by decide) ?_
            refine lv_icmp_ne (tgt := 75) hx hb d_M_list_69 (by decide) (fun c_10 => ?_) (fun c_10 => ?_)
            · have c_10 : ¬ ((a 16) (j)) = 8 := c_10
              refine lv_aload_n hx hb d_M_list_75 rfl (lv_at hl 0 rfl) ?_
              refine pw_get (ci := 7) (v := .ref (bk (17))) hx hb hw i_M hown hK hP (0) (by decide) rfl rfl 18 (by decide) (hw _ kF_M_59) rfl d_M_list_76 ?_
              refine lv_bipush (v := 8) hx hb d_M_list_79 (by decide) ?_
              refine lv_iload_n hx hb d_M_list_81 rfl (lv_at hl 1 rfl) ?_
              refine lv_imul hx hb d_M_list_82 ?_
              refine lv_aload_n hx hb d_M_list_83 rfl (lv_at hl 0 rfl) ?_
              refine pw_get (ci := 7) (v := .ref (bk (16))) hx hb hw i_M hown hK hP (0) (by decide) rfl rfl 17 (by decide) (hw _ kF_M_56) rfl d_M_list_84 ?_
              refine lv_iload_n hx hb d_M_list_87 rfl (lv_at hl 1 rfl) ?_
              refine pw_iald (n := 200) (f := (a 16)) hx hb hK hP 0 (16) (by decide) rfl rfl (j) rfl (by omega) (by decide) d_M_list_88 ?_
              refine lv_iadd hx hb d_M_list_89 ?_
              rw [show (8 * (nI j)) + ((a 16) (j)) = nI (8 * j + ((a 16) (j)).toNatClampNeg) from px_eq hrs.1]
              refine lv_iload_n hx hb d_M_list_90 rfl (lv_at hl 2 rfl) ?_
              refine pw_iast (n := 1600) (f := (a 17)) hx hb hK hP hD hS 0 (17) (by decide) rfl rfl (8 * j + ((a 16) (j)).toNatClampNeg) rfl (by have h5 := px_lt (n := 8) (y := 8) hrs.1 (by have h6 := c_10; have h7 := hrs; simp only [Int32.lt_iff_toInt_lt, Int32.le_iff_toInt_le, ← Int32.toInt_inj, T0, T1, T2, T3, T4, T5, T6, T7, T8, T9, T10, T40, T50, T99, T100, T200, T999, T1000, T9999, T1000000, T10000000, T1000000000, Tm1] at h6 h7 ⊢; omega) (by decide) (by decide); omega) (by decide) d_M_list_91 (fun cw_11 H locs ecw_11 hP hD hS => ?_)
              obtain rfl : cw_11 = MW cs 0 z (va_up a 17 (upd (a 17) (8 * j + ((a 16) (j)).toNatClampNeg) (who))) bk := by rw [ecw_11]; exact MW_arr 17 (by decide) (upd (a 17) (8 * j + ((a 16) (j)).toNatClampNeg) (who))
              refine lv_aload_n hx hb d_M_list_92 rfl (lv_at hl 0 rfl) ?_
              refine pw_get (ci := 7) (v := .ref (bk (18))) hx hb hw i_M hown hK hP (0) (by decide) rfl rfl 19 (by decide) (hw _ kF_M_62) rfl d_M_list_93 ?_
              refine lv_bipush (v := 8) hx hb d_M_list_96 (by decide) ?_
              refine lv_iload_n hx hb d_M_list_98 rfl (lv_at hl 1 rfl) ?_
              refine lv_imul hx hb d_M_list_99 ?_
              refine lv_aload_n hx hb d_M_list_100 rfl (lv_at hl 0 rfl) ?_
              refine pw_get (ci := 7) (v := .ref (bk (16))) hx hb hw i_M hown hK hP (0) (by decide) rfl rfl 17 (by decide) (hw _ kF_M_56) rfl d_M_list_101 ?_
              refine lv_iload_n hx hb d_M_list_104 rfl (lv_at hl 1 rfl) ?_
              refine pw_iald (n := 200) (f := (a 16)) hx hb hK hP 0 (16) (by decide) rfl rfl (j) rfl (by omega) (by decide) d_M_list_105 ?_
              refine lv_iadd hx hb d_M_list_106 ?_
              rw [show (8 * (nI j)) + ((a 16) (j)) = nI (8 * j + ((a 16) (j)).toNatClampNeg) from px_eq hrs.1]
              refine lv_iload_n hx hb d_M_list_107 rfl (lv_at hl 3 rfl) ?_
              refine pw_iast (n := 1600) (f := (a 18)) hx hb hK hP hD hS 0 (18) (by decide) rfl rfl (8 * j + ((a 16) (j)).toNatClampNeg) rfl (by have h5 := px_lt (n := 8) (y := 8) hrs.1 (by have h6 := c_10; have h7 := hrs; simp only [Int32.lt_iff_toInt_lt, Int32.le_iff_toInt_le, ← Int32.toInt_inj, T0, T1, T2, T3, T4, T5, T6, T7, T8, T9, T10, T40, T50, T99, T100, T200, T999, T1000, T9999, T1000000, T10000000, T1000000000, Tm1] at h6 h7 ⊢; omega) (by decide) (by decide); omega) (by decide) d_M_list_108 (fun cw_12 H locs ecw_12 hP hD hS => ?_)
              obtain rfl : cw_12 = MW cs 0 z (va_up (va_up a 17 (upd (a 17) (8 * j + ((a 16) (j)).toNatClampNeg) (who))) 18 (upd (a 18) (8 * j + ((a 16) (j)).toNatClampNeg) (days))) bk := by rw [ecw_12]; exact MW_arr 18 (by decide) (upd (a 18) (8 * j + ((a 16) (j)).toNatClampNeg) (days))
              refine lv_aload_n hx hb d_M_list_109 rfl (lv_at hl 0 rfl) ?_
              refine pw_get (ci := 7) (v := .ref (bk (16))) hx hb hw i_M hown hK hP (0) (by decide) rfl rfl 17 (by decide) (hw _ kF_M_56) rfl d_M_list_110 ?_
              refine lv_iload_n hx hb d_M_list_113 rfl (lv_at hl 1 rfl) ?_
              refine lv_dup2_11 hx hb d_M_list_114 rfl rfl ?_
              refine pw_iald (n := 200) (f := (a 16)) hx hb hK hP 0 (16) (by decide) rfl rfl (j) rfl (by omega) (by decide) d_M_list_115 ?_
              refine lv_iconst (v := 1) hx hb d_M_list_116 (by decide) ?_
              refine lv_iadd hx hb d_M_list_117 ?_
              refine pw_iast (n := 200) (f := (a 16)) hx hb hK hP hD hS 0 (16) (by decide) rfl rfl (j) rfl (by omega) (by decide) d_M_list_118 (fun cw_13 H locs ecw_13 hP hD hS => ?_)
              obtain rfl : cw_13 = MW cs 0 z (va_up (va_up (va_up a 17 (upd (a 17) (8 * j + ((a 16) (j)).toNatClampNeg) (who))) 18 (upd (a 18) (8 * j + ((a 16) (j)).toNatClampNeg) (days))) 16 (upd (a 16) (j) (((a 16) (j)) + 1))) bk := by rw [ecw_13]; exact MW_arr 16 (by decide) (upd (a 16) (j) (((a 16) (j)) + 1))
              refine lv_aload_n hx hb d_M_list_119 rfl (lv_at hl 0 rfl) ?_
              refine pw_get (ci := 7) (v := .ref (bk (16))) hx hb hw i_M hown hK hP (0) (by decide) rfl rfl 17 (by decide) (hw _ kF_M_56) rfl d_M_list_120 ?_
              refine lv_iload_n hx hb d_M_list_123 rfl (lv_at hl 1 rfl) ?_
              refine pw_iald (n := 200) (f := (upd (a 16) (j) (((a 16) (j)) + 1))) hx hb hK hP 0 (16) (by decide) rfl rfl (j) rfl (by omega) (by decide) d_M_list_124 ?_
              exact W.iret (v := (upd (a 16) (j) (((a 16) (j)) + 1)) (j)) hx hb hr (fun t ht hW => ⟨⟨(upd (a 16) (j) (((a 16) (j)) + 1)) (j), (28, bk, MW cs 0 z (va_up (va_up (va_up a 17 (upd (a 17) (8 * j + ((a 16) (j)).toNatClampNeg) (who))) 18 (upd (a 18) (8 * j + ((a 16) (j)).toNatClampNeg) (days))) 16 (upd (a 16) (j) (((a 16) (j)) + 1))) bk), rfl, Mr_of (by rw [s_M_list, if_pos c_5, if_pos c_7, if_pos c_8, if_pos c_9, if_neg c_10]), by rw [ht]; exact hP, va_K.moved hW.alike hK, hD⟩, hS.F ht⟩) hS.2.2 d_M_list_125
            · have c_10 : ((a 16) (j)) = 8 := c_10
              refine lv_bipush (v := -4) hx hb d_M_list_72 (by decide) ?_
              exact W.iret (v := -4) hx hb hr (fun t ht hW => ⟨⟨-4, (28, bk, MW cs 0 z a bk), rfl, Mr_of (by rw [s_M_list, if_pos c_5, if_pos c_7, if_pos c_8, if_pos c_9, if_pos c_10]), by rw [ht]; exact hP, va_K.moved hW.alike hK, hD⟩, hS.F ht⟩) hS.2.2 d_M_list_74
          · have c_9 : ¬ ((a 19) (j)) < 0 := c_9
            refine lv_bipush (v := -3) hx hb d_M_list_58 (by decide) ?_
            exact W.iret (v := -3) hx hb hr (fun t ht hW => ⟨⟨-3, (28, bk, MW cs 0 z a bk), rfl, Mr_of (by rw [s_M_list, if_pos c_5, if_pos c_7, if_pos c_8, if_neg c_9]), by rw [ht]; exact hP, va_K.moved hW.alike hK, hD⟩, hS.F ht⟩) hS.2.2 d_M_list_60
      · have c_7 : ¬ (1 ≤ days ∧ days ≤ 100) := c_7
        refine lv_bipush (v := -2) hx hb d_M_list_36 (by decide) ?_
        exact W.iret (v := -2) hx hb hr (fun t ht hW => ⟨⟨-2, (28, bk, MW cs 0 z a bk), rfl, Mr_of (by rw [s_M_list, if_pos c_5, if_neg c_7]), by rw [ht]; exact hP, va_K.moved hW.alike hK, hD⟩, hS.F ht⟩) hS.2.2 d_M_list_38
  · have c_3 : ¬ (0 ≤ (nI j) ∧ (nI j) < nI (z 0)) := c_3
    exact absurd ⟨nI_pos' (by omega), (nI_ltI (by omega) (by omega)).mpr hj⟩ c_3
def s_M_route_out (th : Int32) (z : Nat → Nat) (a : Nat → Nat → Int32) (x : Int32) (day : Int32) : MS := (-1, 0, z, a)
set_option maxHeartbeats 4000000 in
set_option maxRecDepth 100000 in
theorem c_M_route_out (l : Launch) (D : va_G) (cs : Nat → ClassId) (bk : Nat → Nat) (sz : Nat) (th : Int32) (z : Nat → Nat) (a : Nat → Nat → Int32) (hz : z 0 ≤ 200) (x : Int32) (ho : ¬ (0 ≤ x ∧ x < nI (z 0))) (day : Int32) : Met l y_M_route w_M_route ({ frames := 2, cells := 0, slots := 0, locals := 43 }) (va_Pc [.ref (bk (0)), .int (x), .int (day)] (PB D classes (TY cs) 28 bk (MW cs th z a bk) sz)) (va_Qi (Mr cs bk (s_M_route_out th z a x day)) (Wd D classes (TY cs) (AA 28 bk sz)) (AA 28 bk sz)) 0 0 (AA 28 bk sz) := by
  refine pw_entry (cc := b_M_route) (maxL := 3) (ret := (some .int)) (by decide +kernel) rfl (Nat.le_of_ble_eq_true rfl) ?_
  intro p_ e_ s m below_ meth_ c_ ls hx hb hr hml hts hown hlocks hin hsz hP hK hD hS hA hN hl
  have hw : ∀ w ∈ WA, w.before _ s = true := fun w h => hts w (List.mem_cons_of_mem _ h)
  have hown : s.vm.findClass "IssueRowsModel" = some m.cls := hown
  have hl : lv_has ls 3 [(0, .ref (bk (0))), (1, .int (x)), (2, .int (day))] := hl
  refine lv_aload_n hx hb d_M_route_0 rfl (lv_at hl 0 rfl) ?_
  refine lv_iconst (v := 0) hx hb d_M_route_1 (by decide) ?_
  refine pw_put (ci := 7) (v := .int (0)) (ty := .int) (fs' := [.int (0), .ref (bk (1)), .ref (bk (2)), .ref (bk (3)), .int (nI (z 0)), .ref (bk (4)), .ref (bk (5)), .ref (bk (6)), .ref (bk (7)), .ref (bk (8)), .ref (bk (9)), .ref (bk (10)), .ref (bk (11)), .ref (bk (12)), .ref (bk (13)), .ref (bk (14)), .ref (bk (15)), .ref (bk (16)), .ref (bk (17)), .ref (bk (18)), .ref (bk (19)), .ref (bk (20)), .int (nI (z 1)), .ref (bk (21)), .ref (bk (22)), .int (nI (z 2)), .int (nI (z 3)), .ref (bk (23)), .ref (bk (24)), .ref (bk (25)), .int (nI (z 4)), .ref (bk (26)), .ref (bk (27))]) hx hb hw i_M t_M t_M_ok n_M hown hK hP hD hS (0) (by decide) rfl rfl 0 (by decide) (hw _ kF_M_92) rfl (t_M_ok 0 (by decide)) rfl rfl (Nat.le_of_ble_eq_true rfl) rfl d_M_route_2 (fun cw_1 H locs ecw_1 hP hD hS => ?_)
  obtain rfl : cw_1 = MW cs 0 z a bk := by rw [ecw_1]; exact MW_obj 0 z
  refine lv_aload_n hx hb d_M_route_5 rfl (lv_at hl 0 rfl) ?_
  refine lv_iload_n hx hb d_M_route_6 rfl (lv_at hl 1 rfl) ?_
  refine pw_callSi (va_runV (As := [.int (x)]) (rest := []) ⟨hx, hb, hml, hown, hw⟩ (c_M_isIssue l D cs bk H.size 0 z a hz x) (cw_V 1 hw kM_M_115 kI_M_isIssue kV_M_isIssue kZ_M kC_M_isIssue rfl rfl ⟨rfl, by decide, by decide, by decide +kernel⟩ ⟨Nat.le_of_ble_eq_true rfl, Nat.le_of_ble_eq_true rfl⟩) (pw_preV hN hK hP hD (0) (by decide) rfl rfl) rfl rfl hl.1 rfl (lv_room (Nat.le_of_ble_eq_true rfl)) d_M_route_7 ⟨Nat.le_of_ble_eq_true rfl, Nat.le_of_ble_eq_true rfl⟩) (fun r_2 hr_2 => ?_)
  have hr_2 : r_2 = bI (0 ≤ x ∧ x < nI (z 0)) := hr_2
  subst hr_2
  refine pw_ifne (tgt := 15) hx hb d_M_route_10 (by decide) (fun c_3 => ?_) (fun c_3 => ?_)
  · have c_3 : 0 ≤ x ∧ x < nI (z 0) := c_3
    exact absurd c_3 ho
  · have c_3 : ¬ (0 ≤ x ∧ x < nI (z 0)) := c_3
    refine lv_iconst (v := -1) hx hb d_M_route_13 (by decide) ?_
    exact W.iret (v := -1) hx hb hr (fun t ht hW => ⟨⟨-1, (28, bk, MW cs 0 z a bk), rfl, Mr_of (by rw [s_M_route_out]), by rw [ht]; exact hP, va_K.moved hW.alike hK, hD⟩, hS.F ht⟩) hS.2.2 d_M_route_14
def s_M_route (th : Int32) (z : Nat → Nat) (a : Nat → Nat → Int32) (j : Nat) (day : Int32) : MS := (if 0 ≤ day ∧ day ≤ 1000000 then (if ((a 6) (j)) = 3 then (if 0 ≤ ((a 19) (j)) then (-3, 0, z, a) else (if ((a 16) (j)) = 0 then (-3, 0, z, a) else ((a 17) (8 * j), 0, z, va_up (va_up a 19 (upd (a 19) (j) (0))) 20 (upd (a 20) (j) (day))))) else (-3, 0, z, a)) else (-2, 0, z, a))
set_option maxHeartbeats 4000000 in
set_option maxRecDepth 100000 in
theorem c_M_route (l : Launch) (D : va_G) (cs : Nat → ClassId) (bk : Nat → Nat) (sz : Nat) (th : Int32) (z : Nat → Nat) (a : Nat → Nat → Int32) (hz : z 0 ≤ 200) (j : Nat) (hj : j < z 0) (day : Int32) : Met l y_M_route w_M_route ({ frames := 2, cells := 0, slots := 0, locals := 43 }) (va_Pc [.ref (bk (0)), .int (nI j), .int (day)] (PB D classes (TY cs) 28 bk (MW cs th z a bk) sz)) (va_Qi (Mr cs bk (s_M_route th z a j day)) (Wd D classes (TY cs) (AA 28 bk sz)) (AA 28 bk sz)) 0 0 (AA 28 bk sz) := by
  refine pw_entry (cc := b_M_route) (maxL := 3) (ret := (some .int)) (by decide +kernel) rfl (Nat.le_of_ble_eq_true rfl) ?_
  intro p_ e_ s m below_ meth_ c_ ls hx hb hr hml hts hown hlocks hin hsz hP hK hD hS hA hN hl
  have hw : ∀ w ∈ WA, w.before _ s = true := fun w h => hts w (List.mem_cons_of_mem _ h)
  have hown : s.vm.findClass "IssueRowsModel" = some m.cls := hown
  have hl : lv_has ls 3 [(0, .ref (bk (0))), (1, .int (nI j)), (2, .int (day))] := hl
  refine lv_aload_n hx hb d_M_route_0 rfl (lv_at hl 0 rfl) ?_
  refine lv_iconst (v := 0) hx hb d_M_route_1 (by decide) ?_
  refine pw_put (ci := 7) (v := .int (0)) (ty := .int) (fs' := [.int (0), .ref (bk (1)), .ref (bk (2)), .ref (bk (3)), .int (nI (z 0)), .ref (bk (4)), .ref (bk (5)), .ref (bk (6)), .ref (bk (7)), .ref (bk (8)), .ref (bk (9)), .ref (bk (10)), .ref (bk (11)), .ref (bk (12)), .ref (bk (13)), .ref (bk (14)), .ref (bk (15)), .ref (bk (16)), .ref (bk (17)), .ref (bk (18)), .ref (bk (19)), .ref (bk (20)), .int (nI (z 1)), .ref (bk (21)), .ref (bk (22)), .int (nI (z 2)), .int (nI (z 3)), .ref (bk (23)), .ref (bk (24)), .ref (bk (25)), .int (nI (z 4)), .ref (bk (26)), .ref (bk (27))]) hx hb hw i_M t_M t_M_ok n_M hown hK hP hD hS (0) (by decide) rfl rfl 0 (by decide) (hw _ kF_M_92) rfl (t_M_ok 0 (by decide)) rfl rfl (Nat.le_of_ble_eq_true rfl) rfl d_M_route_2 (fun cw_1 H locs ecw_1 hP hD hS => ?_)
  obtain rfl : cw_1 = MW cs 0 z a bk := by rw [ecw_1]; exact MW_obj 0 z
  refine lv_aload_n hx hb d_M_route_5 rfl (lv_at hl 0 rfl) ?_
  refine lv_iload_n hx hb d_M_route_6 rfl (lv_at hl 1 rfl) ?_
  refine pw_callSi (va_runV (As := [.int (nI j)]) (rest := []) ⟨hx, hb, hml, hown, hw⟩ (c_M_isIssue l D cs bk H.size 0 z a hz (nI j)) (cw_V 1 hw kM_M_115 kI_M_isIssue kV_M_isIssue kZ_M kC_M_isIssue rfl rfl ⟨rfl, by decide, by decide, by decide +kernel⟩ ⟨Nat.le_of_ble_eq_true rfl, Nat.le_of_ble_eq_true rfl⟩) (pw_preV hN hK hP hD (0) (by decide) rfl rfl) rfl rfl hl.1 rfl (lv_room (Nat.le_of_ble_eq_true rfl)) d_M_route_7 ⟨Nat.le_of_ble_eq_true rfl, Nat.le_of_ble_eq_true rfl⟩) (fun r_2 hr_2 => ?_)
  have hr_2 : r_2 = bI (0 ≤ (nI j) ∧ (nI j) < nI (z 0)) := hr_2
  subst hr_2
  refine pw_ifne (tgt := 15) hx hb d_M_route_10 (by decide) (fun c_3 => ?_) (fun c_3 => ?_)
  · have c_3 : 0 ≤ (nI j) ∧ (nI j) < nI (z 0) := c_3
    refine lv_iload_n hx hb d_M_route_15 rfl (lv_at hl 2 rfl) ?_
    refine pw_callSi (va_runS (As := [.int (day)]) (rest := []) ⟨hx, hb, hml, hown, hw⟩ (c_M_isDay l D cs bk H.size 0 z a day) (cw_S 1 hw kM_M_107 kS_M_isDay kZ_M kC_M_isDay rfl rfl ⟨rfl, by decide, by decide, by decide +kernel⟩ ⟨Nat.le_of_ble_eq_true rfl, Nat.le_of_ble_eq_true rfl⟩) (pw_preS hN hK hP hD) rfl rfl hl.1 rfl (lv_room (Nat.le_of_ble_eq_true rfl)) d_M_route_16 ⟨Nat.le_of_ble_eq_true rfl, Nat.le_of_ble_eq_true rfl⟩) (fun r_4 hr_4 => ?_)
    have hr_4 : r_4 = bI (0 ≤ day ∧ day ≤ 1000000) := hr_4
    subst hr_4
    refine pw_ifne (tgt := 25) hx hb d_M_route_19 (by decide) (fun c_5 => ?_) (fun c_5 => ?_)
    · have c_5 : 0 ≤ day ∧ day ≤ 1000000 := c_5
      refine lv_aload_n hx hb d_M_route_25 rfl (lv_at hl 0 rfl) ?_
      refine pw_get (ci := 7) (v := .ref (bk (6))) hx hb hw i_M hown hK hP (0) (by decide) rfl rfl 7 (by decide) (hw _ kF_M_25) rfl d_M_route_26 ?_
      refine lv_iload_n hx hb d_M_route_29 rfl (lv_at hl 1 rfl) ?_
      refine pw_iald (n := 200) (f := (a 6)) hx hb hK hP 0 (6) (by decide) rfl rfl (j) rfl (by omega) (by decide) d_M_route_30 ?_
      refine lv_iconst (v := 3) hx hb d_M_route_31 (by decide) ?_
      refine lv_icmp_ne (tgt := 53) hx hb d_M_route_32 (by decide) (fun c_6 => ?_) (fun c_6 => ?_)
      · have c_6 : ¬ ((a 6) (j)) = 3 := c_6
        refine lv_bipush (v := -3) hx hb d_M_route_53 (by decide) ?_
        exact W.iret (v := -3) hx hb hr (fun t ht hW => ⟨⟨-3, (28, bk, MW cs 0 z a bk), rfl, Mr_of (by rw [s_M_route, if_pos c_5, if_neg c_6]), by rw [ht]; exact hP, va_K.moved hW.alike hK, hD⟩, hS.F ht⟩) hS.2.2 d_M_route_55
      · have c_6 : ((a 6) (j)) = 3 := c_6
        refine lv_aload_n hx hb d_M_route_35 rfl (lv_at hl 0 rfl) ?_
        refine pw_get (ci := 7) (v := .ref (bk (19))) hx hb hw i_M hown hK hP (0) (by decide) rfl rfl 20 (by decide) (hw _ kF_M_65) rfl d_M_route_36 ?_
        refine lv_iload_n hx hb d_M_route_39 rfl (lv_at hl 1 rfl) ?_
        refine pw_iald (n := 200) (f := (a 19)) hx hb hK hP 0 (19) (by decide) rfl rfl (j) rfl (by omega) (by decide) d_M_route_40 ?_
        refine lv_if_ge (tgt := 53) hx hb d_M_route_41 (by decide) (fun c_7 => ?_) (fun c_7 => ?_)
        · have c_7 : 0 ≤ ((a 19) (j)) := c_7
          refine lv_bipush (v := -3) hx hb d_M_route_53 (by decide) ?_
          exact W.iret (v := -3) hx hb hr (fun t ht hW => ⟨⟨-3, (28, bk, MW cs 0 z a bk), rfl, Mr_of (by rw [s_M_route, if_pos c_5, if_pos c_6, if_pos c_7]), by rw [ht]; exact hP, va_K.moved hW.alike hK, hD⟩, hS.F ht⟩) hS.2.2 d_M_route_55
        · have c_7 : ¬ 0 ≤ ((a 19) (j)) := c_7
          refine lv_aload_n hx hb d_M_route_44 rfl (lv_at hl 0 rfl) ?_
          refine pw_get (ci := 7) (v := .ref (bk (16))) hx hb hw i_M hown hK hP (0) (by decide) rfl rfl 17 (by decide) (hw _ kF_M_56) rfl d_M_route_45 ?_
          refine lv_iload_n hx hb d_M_route_48 rfl (lv_at hl 1 rfl) ?_
          refine pw_iald (n := 200) (f := (a 16)) hx hb hK hP 0 (16) (by decide) rfl rfl (j) rfl (by omega) (by decide) d_M_route_49 ?_
          refine lv_if_ne (tgt := 56) hx hb d_M_route_50 (by decide) (fun c_8 => ?_) (fun c_8 => ?_)
          · have c_8 : ¬ ((a 16) (j)) = 0 := c_8
            refine lv_aload_n hx hb d_M_route_56 rfl (lv_at hl 0 rfl) ?_
            refine pw_get (ci := 7) (v := .ref (bk (19))) hx hb hw i_M hown hK hP (0) (by decide) rfl rfl 20 (by decide) (hw _ kF_M_65) rfl d_M_route_57 ?_
            refine lv_iload_n hx hb d_M_route_60 rfl (lv_at hl 1 rfl) ?_
            refine lv_iconst (v := 0) hx hb d_M_route_61 (by decide) ?_
            refine pw_iast (n := 200) (f := (a 19)) hx hb hK hP hD hS 0 (19) (by decide) rfl rfl (j) rfl (by omega) (by decide) d_M_route_62 (fun cw_9 H locs ecw_9 hP hD hS => ?_)
            obtain rfl : cw_9 = MW cs 0 z (va_up a 19 (upd (a 19) (j) (0))) bk := by rw [ecw_9]; exact MW_arr 19 (by decide) (upd (a 19) (j) (0))
            refine lv_aload_n hx hb d_M_route_63 rfl (lv_at hl 0 rfl) ?_
            refine pw_get (ci := 7) (v := .ref (bk (20))) hx hb hw i_M hown hK hP (0) (by decide) rfl rfl 21 (by decide) (hw _ kF_M_68) rfl d_M_route_64 ?_
            refine lv_iload_n hx hb d_M_route_67 rfl (lv_at hl 1 rfl) ?_
            refine lv_iload_n hx hb d_M_route_68 rfl (lv_at hl 2 rfl) ?_
            refine pw_iast (n := 200) (f := (a 20)) hx hb hK hP hD hS 0 (20) (by decide) rfl rfl (j) rfl (by omega) (by decide) d_M_route_69 (fun cw_10 H locs ecw_10 hP hD hS => ?_)
            obtain rfl : cw_10 = MW cs 0 z (va_up (va_up a 19 (upd (a 19) (j) (0))) 20 (upd (a 20) (j) (day))) bk := by rw [ecw_10]; exact MW_arr 20 (by decide) (upd (a 20) (j) (day))
            refine lv_aload_n hx hb d_M_route_70 rfl (lv_at hl 0 rfl) ?_
            refine pw_get (ci := 7) (v := .ref (bk (17))) hx hb hw i_M hown hK hP (0) (by decide) rfl rfl 18 (by decide) (hw _ kF_M_59) rfl d_M_route_71 ?_
            refine lv_bipush (v := 8) hx hb d_M_route_74 (by decide) ?_
            refine lv_iload_n hx hb d_M_route_76 rfl (lv_at hl 1 rfl) ?_
            refine lv_imul hx hb d_M_route_77 ?_
            rw [show 8 * (nI j) = nI (8 * j) from pk_mul 8 j]
            refine pw_iald (n := 1600) (f := (a 17)) hx hb hK hP 0 (17) (by decide) rfl rfl (8 * j) rfl (by omega) (by decide) d_M_route_78 ?_
            exact W.iret (v := (a 17) (8 * j)) hx hb hr (fun t ht hW => ⟨⟨(a 17) (8 * j), (28, bk, MW cs 0 z (va_up (va_up a 19 (upd (a 19) (j) (0))) 20 (upd (a 20) (j) (day))) bk), rfl, Mr_of (by rw [s_M_route, if_pos c_5, if_pos c_6, if_neg c_7, if_neg c_8]), by rw [ht]; exact hP, va_K.moved hW.alike hK, hD⟩, hS.F ht⟩) hS.2.2 d_M_route_79
          · have c_8 : ((a 16) (j)) = 0 := c_8
            refine lv_bipush (v := -3) hx hb d_M_route_53 (by decide) ?_
            exact W.iret (v := -3) hx hb hr (fun t ht hW => ⟨⟨-3, (28, bk, MW cs 0 z a bk), rfl, Mr_of (by rw [s_M_route, if_pos c_5, if_pos c_6, if_neg c_7, if_pos c_8]), by rw [ht]; exact hP, va_K.moved hW.alike hK, hD⟩, hS.F ht⟩) hS.2.2 d_M_route_55
    · have c_5 : ¬ (0 ≤ day ∧ day ≤ 1000000) := c_5
      refine lv_bipush (v := -2) hx hb d_M_route_22 (by decide) ?_
      exact W.iret (v := -2) hx hb hr (fun t ht hW => ⟨⟨-2, (28, bk, MW cs 0 z a bk), rfl, Mr_of (by rw [s_M_route, if_neg c_5]), by rw [ht]; exact hP, va_K.moved hW.alike hK, hD⟩, hS.F ht⟩) hS.2.2 d_M_route_24
  · have c_3 : ¬ (0 ≤ (nI j) ∧ (nI j) < nI (z 0)) := c_3
    exact absurd ⟨nI_pos' (by omega), (nI_ltI (by omega) (by omega)).mpr hj⟩ c_3
def s_M_returned_out (th : Int32) (z : Nat → Nat) (a : Nat → Nat → Int32) (x : Int32) (day : Int32) : MS := (-1, 0, z, a)
set_option maxHeartbeats 4000000 in
set_option maxRecDepth 100000 in
theorem c_M_returned_out (l : Launch) (D : va_G) (cs : Nat → ClassId) (bk : Nat → Nat) (sz : Nat) (th : Int32) (z : Nat → Nat) (a : Nat → Nat → Int32) (hz : z 0 ≤ 200) (x : Int32) (ho : ¬ (0 ≤ x ∧ x < nI (z 0))) (day : Int32) : Met l y_M_returned w_M_returned ({ frames := 2, cells := 0, slots := 0, locals := 43 }) (va_Pc [.ref (bk (0)), .int (x), .int (day)] (PB D classes (TY cs) 28 bk (MW cs th z a bk) sz)) (va_Qi (Mr cs bk (s_M_returned_out th z a x day)) (Wd D classes (TY cs) (AA 28 bk sz)) (AA 28 bk sz)) 0 0 (AA 28 bk sz) := by
  refine pw_entry (cc := b_M_returned) (maxL := 4) (ret := (some .int)) (by decide +kernel) rfl (Nat.le_of_ble_eq_true rfl) ?_
  intro p_ e_ s m below_ meth_ c_ ls hx hb hr hml hts hown hlocks hin hsz hP hK hD hS hA hN hl
  have hw : ∀ w ∈ WA, w.before _ s = true := fun w h => hts w (List.mem_cons_of_mem _ h)
  have hown : s.vm.findClass "IssueRowsModel" = some m.cls := hown
  have hl : lv_has ls 4 [(0, .ref (bk (0))), (1, .int (x)), (2, .int (day))] := hl
  refine lv_aload_n hx hb d_M_returned_0 rfl (lv_at hl 0 rfl) ?_
  refine lv_iconst (v := 0) hx hb d_M_returned_1 (by decide) ?_
  refine pw_put (ci := 7) (v := .int (0)) (ty := .int) (fs' := [.int (0), .ref (bk (1)), .ref (bk (2)), .ref (bk (3)), .int (nI (z 0)), .ref (bk (4)), .ref (bk (5)), .ref (bk (6)), .ref (bk (7)), .ref (bk (8)), .ref (bk (9)), .ref (bk (10)), .ref (bk (11)), .ref (bk (12)), .ref (bk (13)), .ref (bk (14)), .ref (bk (15)), .ref (bk (16)), .ref (bk (17)), .ref (bk (18)), .ref (bk (19)), .ref (bk (20)), .int (nI (z 1)), .ref (bk (21)), .ref (bk (22)), .int (nI (z 2)), .int (nI (z 3)), .ref (bk (23)), .ref (bk (24)), .ref (bk (25)), .int (nI (z 4)), .ref (bk (26)), .ref (bk (27))]) hx hb hw i_M t_M t_M_ok n_M hown hK hP hD hS (0) (by decide) rfl rfl 0 (by decide) (hw _ kF_M_92) rfl (t_M_ok 0 (by decide)) rfl rfl (Nat.le_of_ble_eq_true rfl) rfl d_M_returned_2 (fun cw_1 H locs ecw_1 hP hD hS => ?_)
  obtain rfl : cw_1 = MW cs 0 z a bk := by rw [ecw_1]; exact MW_obj 0 z
  refine lv_aload_n hx hb d_M_returned_5 rfl (lv_at hl 0 rfl) ?_
  refine lv_iload_n hx hb d_M_returned_6 rfl (lv_at hl 1 rfl) ?_
  refine pw_callSi (va_runV (As := [.int (x)]) (rest := []) ⟨hx, hb, hml, hown, hw⟩ (c_M_isIssue l D cs bk H.size 0 z a hz x) (cw_V 1 hw kM_M_115 kI_M_isIssue kV_M_isIssue kZ_M kC_M_isIssue rfl rfl ⟨rfl, by decide, by decide, by decide +kernel⟩ ⟨Nat.le_of_ble_eq_true rfl, Nat.le_of_ble_eq_true rfl⟩) (pw_preV hN hK hP hD (0) (by decide) rfl rfl) rfl rfl hl.1 rfl (lv_room (Nat.le_of_ble_eq_true rfl)) d_M_returned_7 ⟨Nat.le_of_ble_eq_true rfl, Nat.le_of_ble_eq_true rfl⟩) (fun r_2 hr_2 => ?_)
  have hr_2 : r_2 = bI (0 ≤ x ∧ x < nI (z 0)) := hr_2
  subst hr_2
  refine pw_ifne (tgt := 15) hx hb d_M_returned_10 (by decide) (fun c_3 => ?_) (fun c_3 => ?_)
  · have c_3 : 0 ≤ x ∧ x < nI (z 0) := c_3
    exact absurd c_3 ho
  · have c_3 : ¬ (0 ≤ x ∧ x < nI (z 0)) := c_3
    refine lv_iconst (v := -1) hx hb d_M_returned_13 (by decide) ?_
    exact W.iret (v := -1) hx hb hr (fun t ht hW => ⟨⟨-1, (28, bk, MW cs 0 z a bk), rfl, Mr_of (by rw [s_M_returned_out]), by rw [ht]; exact hP, va_K.moved hW.alike hK, hD⟩, hS.F ht⟩) hS.2.2 d_M_returned_14
def s_M_returned (th : Int32) (z : Nat → Nat) (a : Nat → Nat → Int32) (j : Nat) (day : Int32) : MS := (if 0 ≤ day ∧ day ≤ 1000000 then (if 0 ≤ a 19 j ∧ a 19 j < a 16 j then (if ((a 20) (j)) ≤ day then (if (day - ((a 20) (j))) ≤ ((a 18) (8 * j + ((a 19) (j)).toNatClampNeg)) then (if 0 ≤ (upd (a 19) (j) (((a 19) (j)) + 1)) j ∧ (upd (a 19) (j) (((a 19) (j)) + 1)) j < a 16 j then ((a 17) ((8 * j + ((a 19) (j)).toNatClampNeg) + 1), 0, z, va_up (va_up a 19 (upd (a 19) (j) (((a 19) (j)) + 1))) 20 (upd (a 20) (j) (day))) else (1000, 0, z, va_up (va_up a 19 (upd (a 19) (j) (((a 19) (j)) + 1))) 20 (upd (a 20) (j) (day)))) else (if 0 ≤ (upd (a 19) (j) (((a 19) (j)) + 1)) j ∧ (upd (a 19) (j) (((a 19) (j)) + 1)) j < a 16 j then ((a 17) ((8 * j + ((a 19) (j)).toNatClampNeg) + 1), 0, va_up z 4 (tlz z), va_up (va_up (va_up (va_up a 26 (tla z (a 26) 4)) 27 (tla z (a 27) (nI j))) 19 (upd (a 19) (j) (((a 19) (j)) + 1))) 20 (upd (a 20) (j) (day))) else (1000, 0, va_up z 4 (tlz z), va_up (va_up (va_up (va_up a 26 (tla z (a 26) 4)) 27 (tla z (a 27) (nI j))) 19 (upd (a 19) (j) (((a 19) (j)) + 1))) 20 (upd (a 20) (j) (day))))) else (-2, 0, z, a)) else (-3, 0, z, a)) else (-2, 0, z, a))
set_option maxHeartbeats 4000000 in
set_option maxRecDepth 100000 in
theorem c_M_returned (l : Launch) (D : va_G) (cs : Nat → ClassId) (bk : Nat → Nat) (sz : Nat) (th : Int32) (z : Nat → Nat) (a : Nat → Nat → Int32) (hz : z 0 ≤ 200) (j : Nat) (hj : j < z 0) (hz4 : z 4 ≤ 100) (hrs : 0 ≤ a 16 j ∧ a 16 j ≤ 8) (day : Int32) : Met l y_M_returned w_M_returned ({ frames := 2, cells := 0, slots := 0, locals := 43 }) (va_Pc [.ref (bk (0)), .int (nI j), .int (day)] (PB D classes (TY cs) 28 bk (MW cs th z a bk) sz)) (va_Qi (Mr cs bk (s_M_returned th z a j day)) (Wd D classes (TY cs) (AA 28 bk sz)) (AA 28 bk sz)) 0 0 (AA 28 bk sz) := by
  refine pw_entry (cc := b_M_returned) (maxL := 4) (ret := (some .int)) (by decide +kernel) rfl (Nat.le_of_ble_eq_true rfl) ?_
  intro p_ e_ s m below_ meth_ c_ ls hx hb hr hml hts hown hlocks hin hsz hP hK hD hS hA hN hl
  have hw : ∀ w ∈ WA, w.before _ s = true := fun w h => hts w (List.mem_cons_of_mem _ h)
  have hown : s.vm.findClass "IssueRowsModel" = some m.cls := hown
  have hl : lv_has ls 4 [(0, .ref (bk (0))), (1, .int (nI j)), (2, .int (day))] := hl
  refine lv_aload_n hx hb d_M_returned_0 rfl (lv_at hl 0 rfl) ?_
  refine lv_iconst (v := 0) hx hb d_M_returned_1 (by decide) ?_
  refine pw_put (ci := 7) (v := .int (0)) (ty := .int) (fs' := [.int (0), .ref (bk (1)), .ref (bk (2)), .ref (bk (3)), .int (nI (z 0)), .ref (bk (4)), .ref (bk (5)), .ref (bk (6)), .ref (bk (7)), .ref (bk (8)), .ref (bk (9)), .ref (bk (10)), .ref (bk (11)), .ref (bk (12)), .ref (bk (13)), .ref (bk (14)), .ref (bk (15)), .ref (bk (16)), .ref (bk (17)), .ref (bk (18)), .ref (bk (19)), .ref (bk (20)), .int (nI (z 1)), .ref (bk (21)), .ref (bk (22)), .int (nI (z 2)), .int (nI (z 3)), .ref (bk (23)), .ref (bk (24)), .ref (bk (25)), .int (nI (z 4)), .ref (bk (26)), .ref (bk (27))]) hx hb hw i_M t_M t_M_ok n_M hown hK hP hD hS (0) (by decide) rfl rfl 0 (by decide) (hw _ kF_M_92) rfl (t_M_ok 0 (by decide)) rfl rfl (Nat.le_of_ble_eq_true rfl) rfl d_M_returned_2 (fun cw_1 H locs ecw_1 hP hD hS => ?_)
  obtain rfl : cw_1 = MW cs 0 z a bk := by rw [ecw_1]; exact MW_obj 0 z
  refine lv_aload_n hx hb d_M_returned_5 rfl (lv_at hl 0 rfl) ?_
  refine lv_iload_n hx hb d_M_returned_6 rfl (lv_at hl 1 rfl) ?_
  refine pw_callSi (va_runV (As := [.int (nI j)]) (rest := []) ⟨hx, hb, hml, hown, hw⟩ (c_M_isIssue l D cs bk H.size 0 z a hz (nI j)) (cw_V 1 hw kM_M_115 kI_M_isIssue kV_M_isIssue kZ_M kC_M_isIssue rfl rfl ⟨rfl, by decide, by decide, by decide +kernel⟩ ⟨Nat.le_of_ble_eq_true rfl, Nat.le_of_ble_eq_true rfl⟩) (pw_preV hN hK hP hD (0) (by decide) rfl rfl) rfl rfl hl.1 rfl (lv_room (Nat.le_of_ble_eq_true rfl)) d_M_returned_7 ⟨Nat.le_of_ble_eq_true rfl, Nat.le_of_ble_eq_true rfl⟩) (fun r_2 hr_2 => ?_)
  have hr_2 : r_2 = bI (0 ≤ (nI j) ∧ (nI j) < nI (z 0)) := hr_2
  subst hr_2
  refine pw_ifne (tgt := 15) hx hb d_M_returned_10 (by decide) (fun c_3 => ?_) (fun c_3 => ?_)
  · have c_3 : 0 ≤ (nI j) ∧ (nI j) < nI (z 0) := c_3
    refine lv_iload_n hx hb d_M_returned_15 rfl (lv_at hl 2 rfl) ?_
    refine pw_callSi (va_runS (As := [.int (day)]) (rest := []) ⟨hx, hb, hml, hown, hw⟩ (c_M_isDay l D cs bk H.size 0 z a day) (cw_S 1 hw kM_M_107 kS_M_isDay kZ_M kC_M_isDay rfl rfl ⟨rfl, by decide, by decide, by decide +kernel⟩ ⟨Nat.le_of_ble_eq_true rfl, Nat.le_of_ble_eq_true rfl⟩) (pw_preS hN hK hP hD) rfl rfl hl.1 rfl (lv_room (Nat.le_of_ble_eq_true rfl)) d_M_returned_16 ⟨Nat.le_of_ble_eq_true rfl, Nat.le_of_ble_eq_true rfl⟩) (fun r_4 hr_4 => ?_)
    have hr_4 : r_4 = bI (0 ≤ day ∧ day ≤ 1000000) := hr_4
    subst hr_4
    refine pw_ifeq (tgt := 40) hx hb d_M_returned_19 (by decide) (fun c_5 => ?_) (fun c_5 => ?_)
    · have c_5 : ¬ (0 ≤ day ∧ day ≤ 1000000) := c_5
      refine lv_bipush (v := -2) hx hb d_M_returned_40 (by decide) ?_
      exact W.iret (v := -2) hx hb hr (fun t ht hW => ⟨⟨-2, (28, bk, MW cs 0 z a bk), rfl, Mr_of (by rw [s_M_returned, if_neg c_5]), by rw [ht]; exact hP, va_K.moved hW.alike hK, hD⟩, hS.F ht⟩) hS.2.2 d_M_returned_42
    · have c_5 : 0 ≤ day ∧ day ≤ 1000000 := c_5
      refine lv_aload_n hx hb d_M_returned_22 rfl (lv_at hl 0 rfl) ?_
      refine lv_iload_n hx hb d_M_returned_23 rfl (lv_at hl 1 rfl) ?_
      refine pw_callSi (va_runV (As := [.int (nI j)]) (rest := []) ⟨hx, hb, hml, hown, hw⟩ (c_M_isHeld l D cs bk H.size 0 z a j (by omega)) (cw_V 1 hw kM_M_128 kI_M_isHeld kV_M_isHeld kZ_M kC_M_isHeld rfl rfl ⟨rfl, by decide, by decide, by decide +kernel⟩ ⟨Nat.le_of_ble_eq_true rfl, Nat.le_of_ble_eq_true rfl⟩) (pw_preV hN hK hP hD (0) (by decide) rfl rfl) rfl rfl hl.1 rfl (lv_room (Nat.le_of_ble_eq_true rfl)) d_M_returned_24 ⟨Nat.le_of_ble_eq_true rfl, Nat.le_of_ble_eq_true rfl⟩) (fun r_6 hr_6 => ?_)
      have hr_6 : r_6 = bI (0 ≤ a 19 j ∧ a 19 j < a 16 j) := hr_6
      subst hr_6
      refine pw_ifeq (tgt := 43) hx hb d_M_returned_27 (by decide) (fun c_7 => ?_) (fun c_7 => ?_)
      · have c_7 : ¬ (0 ≤ a 19 j ∧ a 19 j < a 16 j) := c_7
        refine lv_aload_n hx hb d_M_returned_43 rfl (lv_at hl 0 rfl) ?_
        refine lv_iload_n hx hb d_M_returned_44 rfl (lv_at hl 1 rfl) ?_
        refine pw_callSi (va_runV (As := [.int (nI j)]) (rest := []) ⟨hx, hb, hml, hown, hw⟩ (c_M_isHeld l D cs bk H.size 0 z a j (by omega)) (cw_V 1 hw kM_M_128 kI_M_isHeld kV_M_isHeld kZ_M kC_M_isHeld rfl rfl ⟨rfl, by decide, by decide, by decide +kernel⟩ ⟨Nat.le_of_ble_eq_true rfl, Nat.le_of_ble_eq_true rfl⟩) (pw_preV hN hK hP hD (0) (by decide) rfl rfl) rfl rfl hl.1 rfl (lv_room (Nat.le_of_ble_eq_true rfl)) d_M_returned_45 ⟨Nat.le_of_ble_eq_true rfl, Nat.le_of_ble_eq_true rfl⟩) (fun r_8 hr_8 => ?_)
        have hr_8 : r_8 = bI (0 ≤ a 19 j ∧ a 19 j < a 16 j) := hr_8
        subst hr_8
        refine pw_ifne (tgt := 54) hx hb d_M_returned_48 (by decide) (fun c_9 => ?_) (fun c_9 => ?_)
        · have c_9 : 0 ≤ a 19 j ∧ a 19 j < a 16 j := c_9
          exact absurd c_9 c_7
        · have c_9 : ¬ (0 ≤ a 19 j ∧ a 19 j < a 16 j) := c_9
          refine lv_bipush (v := -3) hx hb d_M_returned_51 (by decide) ?_
          exact W.iret (v := -3) hx hb hr (fun t ht hW => ⟨⟨-3, (28, bk, MW cs 0 z a bk), rfl, Mr_of (by rw [s_M_returned, if_pos c_5, if_neg c_7]), by rw [ht]; exact hP, va_K.moved hW.alike hK, hD⟩, hS.F ht⟩) hS.2.2 d_M_returned_53
      · have c_7 : 0 ≤ a 19 j ∧ a 19 j < a 16 j := c_7
        refine lv_iload_n hx hb d_M_returned_30 rfl (lv_at hl 2 rfl) ?_
        refine lv_aload_n hx hb d_M_returned_31 rfl (lv_at hl 0 rfl) ?_
        refine pw_get (ci := 7) (v := .ref (bk (20))) hx hb hw i_M hown hK hP (0) (by decide) rfl rfl 21 (by decide) (hw _ kF_M_68) rfl d_M_returned_32 ?_
        refine lv_iload_n hx hb d_M_returned_35 rfl (lv_at hl 1 rfl) ?_
        refine pw_iald (n := 200) (f := (a 20)) hx hb hK hP 0 (20) (by decide) rfl rfl (j) rfl (by omega) (by decide) d_M_returned_36 ?_
        refine lv_icmp_ge (tgt := 43) hx hb d_M_returned_37 (by decide) (fun c_10 => ?_) (fun c_10 => ?_)
        · have c_10 : ((a 20) (j)) ≤ day := c_10
          refine lv_aload_n hx hb d_M_returned_43 rfl (lv_at hl 0 rfl) ?_
          refine lv_iload_n hx hb d_M_returned_44 rfl (lv_at hl 1 rfl) ?_
          refine pw_callSi (va_runV (As := [.int (nI j)]) (rest := []) ⟨hx, hb, hml, hown, hw⟩ (c_M_isHeld l D cs bk H.size 0 z a j (by omega)) (cw_V 1 hw kM_M_128 kI_M_isHeld kV_M_isHeld kZ_M kC_M_isHeld rfl rfl ⟨rfl, by decide, by decide, by decide +kernel⟩ ⟨Nat.le_of_ble_eq_true rfl, Nat.le_of_ble_eq_true rfl⟩) (pw_preV hN hK hP hD (0) (by decide) rfl rfl) rfl rfl hl.1 rfl (lv_room (Nat.le_of_ble_eq_true rfl)) d_M_returned_45 ⟨Nat.le_of_ble_eq_true rfl, Nat.le_of_ble_eq_true rfl⟩) (fun r_11 hr_11 => ?_)
          have hr_11 : r_11 = bI (0 ≤ a 19 j ∧ a 19 j < a 16 j) := hr_11
          subst hr_11
          refine pw_ifne (tgt := 54) hx hb d_M_returned_48 (by decide) (fun c_12 => ?_) (fun c_12 => ?_)
          · have c_12 : 0 ≤ a 19 j ∧ a 19 j < a 16 j := c_12
            refine lv_bipush (v := 8) hx hb d_M_returned_54 (by decide) ?_
            refine lv_iload_n hx hb d_M_returned_56 rfl (lv_at hl 1 rfl) ?_
            refine lv_imul hx hb d_M_returned_57 ?_
            refine lv_aload_n hx hb d_M_returned_58 rfl (lv_at hl 0 rfl) ?_
            refine pw_get (ci := 7) (v := .ref (bk (19))) hx hb hw i_M hown hK hP (0) (by decide) rfl rfl 20 (by decide) (hw _ kF_M_65) rfl d_M_returned_59 ?_
            refine lv_iload_n hx hb d_M_returned_62 rfl (lv_at hl 1 rfl) ?_
            refine pw_iald (n := 200) (f := (a 19)) hx hb hK hP 0 (19) (by decide) rfl rfl (j) rfl (by omega) (by decide) d_M_returned_63 ?_
            refine lv_iadd hx hb d_M_returned_64 ?_
            rw [show (8 * (nI j)) + ((a 19) (j)) = nI (8 * j + ((a 19) (j)).toNatClampNeg) from px_eq c_7.1]
            refine lv_istore_n (lv' := [(3, .int (nI (8 * j + ((a 19) (j)).toNatClampNeg))), (0, .ref (bk (0))), (1, .int (nI j)), (2, .int (day))]) hx hb d_M_returned_65 rfl hl (by decide) rfl (fun ls hl => ?_)
            refine lv_iload_n hx hb d_M_returned_66 rfl (lv_at hl 3 rfl) ?_
            refine lv_aload_n hx hb d_M_returned_67 rfl (lv_at hl 1 rfl) ?_
            refine pw_get (ci := 7) (v := .ref (bk (20))) hx hb hw i_M hown hK hP (0) (by decide) rfl rfl 21 (by decide) (hw _ kF_M_68) rfl d_M_returned_68 ?_
            refine lv_iload_n hx hb d_M_returned_71 rfl (lv_at hl 2 rfl) ?_
            refine pw_iald (n := 200) (f := (a 20)) hx hb hK hP 0 (20) (by decide) rfl rfl (j) rfl (by omega) (by decide) d_M_returned_72 ?_
            refine lv_isub hx hb d_M_returned_73 ?_
            refine lv_aload_n hx hb d_M_returned_74 rfl (lv_at hl 1 rfl) ?_
            refine pw_get (ci := 7) (v := .ref (bk (18))) hx hb hw i_M hown hK hP (0) (by decide) rfl rfl 19 (by decide) (hw _ kF_M_62) rfl d_M_returned_75 ?_
            refine lv_iload_n hx hb d_M_returned_78 rfl (lv_at hl 0 rfl) ?_
            refine pw_iald (n := 1600) (f := (a 18)) hx hb hK hP 0 (18) (by decide) rfl rfl (8 * j + ((a 19) (j)).toNatClampNeg) rfl (by have h5 := px_lt (n := 8) c_7.1 c_7.2 hrs.2 (by decide); omega) (by decide) d_M_returned_79 ?_
            refine lv_icmp_le (tgt := 89) hx hb d_M_returned_80 (by decide) (fun c_13 => ?_) (fun c_13 => ?_)
            · have c_13 : (day - ((a 20) (j))) ≤ ((a 18) (8 * j + ((a 19) (j)).toNatClampNeg)) := c_13
              refine lv_aload_n hx hb d_M_returned_89 rfl (lv_at hl 1 rfl) ?_
              refine pw_get (ci := 7) (v := .ref (bk (19))) hx hb hw i_M hown hK hP (0) (by decide) rfl rfl 20 (by decide) (hw _ kF_M_65) rfl d_M_returned_90 ?_
              refine lv_iload_n hx hb d_M_returned_93 rfl (lv_at hl 2 rfl) ?_
              refine lv_dup2_11 hx hb d_M_returned_94 rfl rfl ?_
              refine pw_iald (n := 200) (f := (a 19)) hx hb hK hP 0 (19) (by decide) rfl rfl (j) rfl (by omega) (by decide) d_M_returned_95 ?_
              refine lv_iconst (v := 1) hx hb d_M_returned_96 (by decide) ?_
              refine lv_iadd hx hb d_M_returned_97 ?_
              refine pw_iast (n := 200) (f := (a 19)) hx hb hK hP hD hS 0 (19) (by decide) rfl rfl (j) rfl (by omega) (by decide) d_M_returned_98 (fun cw_14 H locs ecw_14 hP hD hS => ?_)
              obtain rfl : cw_14 = MW cs 0 z (va_up a 19 (upd (a 19) (j) (((a 19) (j)) + 1))) bk := by rw [ecw_14]; exact MW_arr 19 (by decide) (upd (a 19) (j) (((a 19) (j)) + 1))
              refine lv_aload_n hx hb d_M_returned_99 rfl (lv_at hl 1 rfl) ?_
              refine pw_get (ci := 7) (v := .ref (bk (20))) hx hb hw i_M hown hK hP (0) (by decide) rfl rfl 21 (by decide) (hw _ kF_M_68) rfl d_M_returned_100 ?_
              refine lv_iload_n hx hb d_M_returned_103 rfl (lv_at hl 2 rfl) ?_
              refine lv_iload_n hx hb d_M_returned_104 rfl (lv_at hl 3 rfl) ?_
              refine pw_iast (n := 200) (f := (a 20)) hx hb hK hP hD hS 0 (20) (by decide) rfl rfl (j) rfl (by omega) (by decide) d_M_returned_105 (fun cw_15 H locs ecw_15 hP hD hS => ?_)
              obtain rfl : cw_15 = MW cs 0 z (va_up (va_up a 19 (upd (a 19) (j) (((a 19) (j)) + 1))) 20 (upd (a 20) (j) (day))) bk := by rw [ecw_15]; exact MW_arr 20 (by decide) (upd (a 20) (j) (day))
              refine lv_aload_n hx hb d_M_returned_106 rfl (lv_at hl 1 rfl) ?_
              refine lv_iload_n hx hb d_M_returned_107 rfl (lv_at hl 2 rfl) ?_
              refine pw_callSi (va_runV (As := [.int (nI j)]) (rest := []) ⟨hx, hb, hml, hown, hw⟩ (c_M_isHeld l D cs bk H.size 0 z (va_up (va_up a 19 (upd (a 19) (j) (((a 19) (j)) + 1))) 20 (upd (a 20) (j) (day))) j (by omega)) (cw_V 1 hw kM_M_128 kI_M_isHeld kV_M_isHeld kZ_M kC_M_isHeld rfl rfl ⟨rfl, by decide, by decide, by decide +kernel⟩ ⟨Nat.le_of_ble_eq_true rfl, Nat.le_of_ble_eq_true rfl⟩) (pw_preV hN hK hP hD (0) (by decide) rfl rfl) rfl rfl hl.1 rfl (lv_room (Nat.le_of_ble_eq_true rfl)) d_M_returned_108 ⟨Nat.le_of_ble_eq_true rfl, Nat.le_of_ble_eq_true rfl⟩) (fun r_16 hr_16 => ?_)
              have hr_16 : r_16 = bI (0 ≤ (upd (a 19) (j) (((a 19) (j)) + 1)) j ∧ (upd (a 19) (j) (((a 19) (j)) + 1)) j < a 16 j) := hr_16
              subst hr_16
              refine pw_ifeq (tgt := 125) hx hb d_M_returned_111 (by decide) (fun c_17 => ?_) (fun c_17 => ?_)
              · have c_17 : ¬ (0 ≤ (upd (a 19) (j) (((a 19) (j)) + 1)) j ∧ (upd (a 19) (j) (((a 19) (j)) + 1)) j < a 16 j) := c_17
                refine lv_sipush (v := 1000) hx hb d_M_returned_125 (by decide) ?_
                exact W.iret (v := 1000) hx hb hr (fun t ht hW => ⟨⟨1000, (28, bk, MW cs 0 z (va_up (va_up a 19 (upd (a 19) (j) (((a 19) (j)) + 1))) 20 (upd (a 20) (j) (day))) bk), rfl, Mr_of (by rw [s_M_returned, if_pos c_5, if_pos c_7, if_pos c_10, if_pos c_13, if_neg c_17]), by rw [ht]; exact hP, va_K.moved hW.alike hK, hD⟩, hS.F ht⟩) hS.2.2 d_M_returned_128
              · have c_17 : 0 ≤ (upd (a 19) (j) (((a 19) (j)) + 1)) j ∧ (upd (a 19) (j) (((a 19) (j)) + 1)) j < a 16 j := c_17
                refine lv_aload_n hx hb d_M_returned_114 rfl (lv_at hl 1 rfl) ?_
                refine pw_get (ci := 7) (v := .ref (bk (17))) hx hb hw i_M hown hK hP (0) (by decide) rfl rfl 18 (by decide) (hw _ kF_M_59) rfl d_M_returned_115 ?_
                refine lv_iload_n hx hb d_M_returned_118 rfl (lv_at hl 0 rfl) ?_
                refine lv_iconst (v := 1) hx hb d_M_returned_119 (by decide) ?_
                refine lv_iadd hx hb d_M_returned_120 ?_
                rw [show (nI (8 * j + ((a 19) (j)).toNatClampNeg)) + 1 = nI ((8 * j + ((a 19) (j)).toNatClampNeg) + 1) from nI_1 _]
                refine pw_iald (n := 1600) (f := (a 17)) hx hb hK hP 0 (17) (by decide) rfl rfl ((8 * j + ((a 19) (j)).toNatClampNeg) + 1) rfl (by have h4 := c_17; simp only [pk_us] at h4; have h5 := px_lt (n := 8) h4.1 h4.2 hrs.2 (by decide); rw [px_s c_7.1 (Int32.lt_of_lt_of_le c_7.2 hrs.2)] at h5; omega) (by decide) d_M_returned_121 ?_
                refine lv_goto (tgt := 128) hx hb d_M_returned_122 (by decide) ?_
                exact W.iret (v := (a 17) ((8 * j + ((a 19) (j)).toNatClampNeg) + 1)) hx hb hr (fun t ht hW => ⟨⟨(a 17) ((8 * j + ((a 19) (j)).toNatClampNeg) + 1), (28, bk, MW cs 0 z (va_up (va_up a 19 (upd (a 19) (j) (((a 19) (j)) + 1))) 20 (upd (a 20) (j) (day))) bk), rfl, Mr_of (by rw [s_M_returned, if_pos c_5, if_pos c_7, if_pos c_10, if_pos c_13, if_pos c_17]), by rw [ht]; exact hP, va_K.moved hW.alike hK, hD⟩, hS.F ht⟩) hS.2.2 d_M_returned_128
            · have c_13 : ¬ (day - ((a 20) (j))) ≤ ((a 18) (8 * j + ((a 19) (j)).toNatClampNeg)) := c_13
              refine lv_aload_n hx hb d_M_returned_83 rfl (lv_at hl 1 rfl) ?_
              refine lv_iconst (v := 4) hx hb d_M_returned_84 (by decide) ?_
              refine lv_iload_n hx hb d_M_returned_85 rfl (lv_at hl 2 rfl) ?_
              refine pm_callv (va_runV (As := [.int (4), .int (nI j)]) (rest := []) ⟨hx, hb, hml, hown, hw⟩ (c_M_tell l D cs bk H.size 0 z a hz4 4 (nI j)) (cw_V 2 hw kM_M_118 kI_M_tell kV_M_tell kZ_M kC_M_tell rfl rfl ⟨rfl, by decide, by decide, by decide +kernel⟩ ⟨Nat.le_of_ble_eq_true rfl, Nat.le_of_ble_eq_true rfl⟩) (pw_preV hN hK hP hD (0) (by decide) rfl rfl) rfl rfl hl.1 rfl (lv_room (Nat.le_of_ble_eq_true rfl)) d_M_returned_86 ⟨Nat.le_of_ble_eq_true rfl, Nat.le_of_ble_eq_true rfl⟩) hS (wl_free hD hS hA) (fun H locs hP hD hS => ?_)
              rw [tell_eq] at hP hD
              have hP : va_P D classes (wl 28 bk (MW cs 0 (va_up z 4 (tlz z)) (va_up (va_up a 26 (tla z (a 26) 4)) 27 (tla z (a 27) (nI j))) bk)) H := hP
              have hD : va_D (AA 28 bk sz) (wl 28 bk (MW cs 0 (va_up z 4 (tlz z)) (va_up (va_up a 26 (tla z (a 26) 4)) 27 (tla z (a 27) (nI j))) bk)) := hD
              refine lv_aload_n hx hb d_M_returned_89 rfl (lv_at hl 1 rfl) ?_
              refine pw_get (ci := 7) (v := .ref (bk (19))) hx hb hw i_M hown hK hP (0) (by decide) rfl rfl 20 (by decide) (hw _ kF_M_65) rfl d_M_returned_90 ?_
              refine lv_iload_n hx hb d_M_returned_93 rfl (lv_at hl 2 rfl) ?_
              refine lv_dup2_11 hx hb d_M_returned_94 rfl rfl ?_
              refine pw_iald (n := 200) (f := (a 19)) hx hb hK hP 0 (19) (by decide) rfl rfl (j) rfl (by omega) (by decide) d_M_returned_95 ?_
              refine lv_iconst (v := 1) hx hb d_M_returned_96 (by decide) ?_
              refine lv_iadd hx hb d_M_returned_97 ?_
              refine pw_iast (n := 200) (f := (a 19)) hx hb hK hP hD hS 0 (19) (by decide) rfl rfl (j) rfl (by omega) (by decide) d_M_returned_98 (fun cw_18 H locs ecw_18 hP hD hS => ?_)
              obtain rfl : cw_18 = MW cs 0 (va_up z 4 (tlz z)) (va_up (va_up (va_up a 26 (tla z (a 26) 4)) 27 (tla z (a 27) (nI j))) 19 (upd (a 19) (j) (((a 19) (j)) + 1))) bk := by rw [ecw_18]; exact MW_arr 19 (by decide) (upd (a 19) (j) (((a 19) (j)) + 1))
              refine lv_aload_n hx hb d_M_returned_99 rfl (lv_at hl 1 rfl) ?_
              refine pw_get (ci := 7) (v := .ref (bk (20))) hx hb hw i_M hown hK hP (0) (by decide) rfl rfl 21 (by decide) (hw _ kF_M_68) rfl d_M_returned_100 ?_
              refine lv_iload_n hx hb d_M_returned_103 rfl (lv_at hl 2 rfl) ?_
              refine lv_iload_n hx hb d_M_returned_104 rfl (lv_at hl 3 rfl) ?_
              refine pw_iast (n := 200) (f := (a 20)) hx hb hK hP hD hS 0 (20) (by decide) rfl rfl (j) rfl (by omega) (by decide) d_M_returned_105 (fun cw_19 H locs ecw_19 hP hD hS => ?_)
              obtain rfl : cw_19 = MW cs 0 (va_up z 4 (tlz z)) (va_up (va_up (va_up (va_up a 26 (tla z (a 26) 4)) 27 (tla z (a 27) (nI j))) 19 (upd (a 19) (j) (((a 19) (j)) + 1))) 20 (upd (a 20) (j) (day))) bk := by rw [ecw_19]; exact MW_arr 20 (by decide) (upd (a 20) (j) (day))
              refine lv_aload_n hx hb d_M_returned_106 rfl (lv_at hl 1 rfl) ?_
              refine lv_iload_n hx hb d_M_returned_107 rfl (lv_at hl 2 rfl) ?_
              refine pw_callSi (va_runV (As := [.int (nI j)]) (rest := []) ⟨hx, hb, hml, hown, hw⟩ (c_M_isHeld l D cs bk H.size 0 (va_up z 4 (tlz z)) (va_up (va_up (va_up (va_up a 26 (tla z (a 26) 4)) 27 (tla z (a 27) (nI j))) 19 (upd (a 19) (j) (((a 19) (j)) + 1))) 20 (upd (a 20) (j) (day))) j (by omega)) (cw_V 1 hw kM_M_128 kI_M_isHeld kV_M_isHeld kZ_M kC_M_isHeld rfl rfl ⟨rfl, by decide, by decide, by decide +kernel⟩ ⟨Nat.le_of_ble_eq_true rfl, Nat.le_of_ble_eq_true rfl⟩) (pw_preV hN hK hP hD (0) (by decide) rfl rfl) rfl rfl hl.1 rfl (lv_room (Nat.le_of_ble_eq_true rfl)) d_M_returned_108 ⟨Nat.le_of_ble_eq_true rfl, Nat.le_of_ble_eq_true rfl⟩) (fun r_20 hr_20 => ?_)
              have hr_20 : r_20 = bI (0 ≤ (upd (a 19) (j) (((a 19) (j)) + 1)) j ∧ (upd (a 19) (j) (((a 19) (j)) + 1)) j < a 16 j) := hr_20
              subst hr_20
              refine pw_ifeq (tgt := 125) hx hb d_M_returned_111 (by decide) (fun c_21 => ?_) (fun c_21 => ?_)
              · have c_21 : ¬ (0 ≤ (upd (a 19) (j) (((a 19) (j)) + 1)) j ∧ (upd (a 19) (j) (((a 19) (j)) + 1)) j < a 16 j) := c_21
                refine lv_sipush (v := 1000) hx hb d_M_returned_125 (by decide) ?_
                exact W.iret (v := 1000) hx hb hr (fun t ht hW => ⟨⟨1000, (28, bk, MW cs 0 (va_up z 4 (tlz z)) (va_up (va_up (va_up (va_up a 26 (tla z (a 26) 4)) 27 (tla z (a 27) (nI j))) 19 (upd (a 19) (j) (((a 19) (j)) + 1))) 20 (upd (a 20) (j) (day))) bk), rfl, Mr_of (by rw [s_M_returned, if_pos c_5, if_pos c_7, if_pos c_10, if_neg c_13, if_neg c_21]), by rw [ht]; exact hP, va_K.moved hW.alike hK, hD⟩, hS.F ht⟩) hS.2.2 d_M_returned_128
              · have c_21 : 0 ≤ (upd (a 19) (j) (((a 19) (j)) + 1)) j ∧ (upd (a 19) (j) (((a 19) (j)) + 1)) j < a 16 j := c_21
                refine lv_aload_n hx hb d_M_returned_114 rfl (lv_at hl 1 rfl) ?_
                refine pw_get (ci := 7) (v := .ref (bk (17))) hx hb hw i_M hown hK hP (0) (by decide) rfl rfl 18 (by decide) (hw _ kF_M_59) rfl d_M_returned_115 ?_
                refine lv_iload_n hx hb d_M_returned_118 rfl (lv_at hl 0 rfl) ?_
                refine lv_iconst (v := 1) hx hb d_M_returned_119 (by decide) ?_
                refine lv_iadd hx hb d_M_returned_120 ?_
                rw [show (nI (8 * j + ((a 19) (j)).toNatClampNeg)) + 1 = nI ((8 * j + ((a 19) (j)).toNatClampNeg) + 1) from nI_1 _]
                refine pw_iald (n := 1600) (f := (a 17)) hx hb hK hP 0 (17) (by decide) rfl rfl ((8 * j + ((a 19) (j)).toNatClampNeg) + 1) rfl (by have h4 := c_21; simp only [pk_us] at h4; have h5 := px_lt (n := 8) h4.1 h4.2 hrs.2 (by decide); rw [px_s c_7.1 (Int32.lt_of_lt_of_le c_7.2 hrs.2)] at h5; omega) (by decide) d_M_returned_121 ?_
                refine lv_goto (tgt := 128) hx hb d_M_returned_122 (by decide) ?_
                exact W.iret (v := (a 17) ((8 * j + ((a 19) (j)).toNatClampNeg) + 1)) hx hb hr (fun t ht hW => ⟨⟨(a 17) ((8 * j + ((a 19) (j)).toNatClampNeg) + 1), (28, bk, MW cs 0 (va_up z 4 (tlz z)) (va_up (va_up (va_up (va_up a 26 (tla z (a 26) 4)) 27 (tla z (a 27) (nI j))) 19 (upd (a 19) (j) (((a 19) (j)) + 1))) 20 (upd (a 20) (j) (day))) bk), rfl, Mr_of (by rw [s_M_returned, if_pos c_5, if_pos c_7, if_pos c_10, if_neg c_13, if_pos c_21]), by rw [ht]; exact hP, va_K.moved hW.alike hK, hD⟩, hS.F ht⟩) hS.2.2 d_M_returned_128
          · have c_12 : ¬ (0 ≤ a 19 j ∧ a 19 j < a 16 j) := c_12
            exact absurd c_7 c_12
        · have c_10 : ¬ ((a 20) (j)) ≤ day := c_10
          refine lv_bipush (v := -2) hx hb d_M_returned_40 (by decide) ?_
          exact W.iret (v := -2) hx hb hr (fun t ht hW => ⟨⟨-2, (28, bk, MW cs 0 z a bk), rfl, Mr_of (by rw [s_M_returned, if_pos c_5, if_pos c_7, if_neg c_10]), by rw [ht]; exact hP, va_K.moved hW.alike hK, hD⟩, hS.F ht⟩) hS.2.2 d_M_returned_42
  · have c_3 : ¬ (0 ≤ (nI j) ∧ (nI j) < nI (z 0)) := c_3
    exact absurd ⟨nI_pos' (by omega), (nI_ltI (by omega) (by omega)).mpr hj⟩ c_3
def s_M_about_out (th : Int32) (z : Nat → Nat) (a : Nat → Nat → Int32) (x : Int32) (what : Int32) : MS := (-1, 0, z, a)
set_option maxHeartbeats 4000000 in
set_option maxRecDepth 100000 in
theorem c_M_about_out (l : Launch) (D : va_G) (cs : Nat → ClassId) (bk : Nat → Nat) (sz : Nat) (th : Int32) (z : Nat → Nat) (a : Nat → Nat → Int32) (hz : z 0 ≤ 200) (x : Int32) (ho : ¬ (0 ≤ x ∧ x < nI (z 0))) (what : Int32) : Met l y_M_about w_M_about ({ frames := 2, cells := 0, slots := 0, locals := 43 }) (va_Pc [.ref (bk (0)), .int (x), .int (what)] (PB D classes (TY cs) 28 bk (MW cs th z a bk) sz)) (va_Qi (Mr cs bk (s_M_about_out th z a x what)) (Wd D classes (TY cs) (AA 28 bk sz)) (AA 28 bk sz)) 0 0 (AA 28 bk sz) := by
  refine pw_entry (cc := b_M_about) (maxL := 3) (ret := (some .int)) (by decide +kernel) rfl (Nat.le_of_ble_eq_true rfl) ?_
  intro p_ e_ s m below_ meth_ c_ ls hx hb hr hml hts hown hlocks hin hsz hP hK hD hS hA hN hl
  have hw : ∀ w ∈ WA, w.before _ s = true := fun w h => hts w (List.mem_cons_of_mem _ h)
  have hown : s.vm.findClass "IssueRowsModel" = some m.cls := hown
  have hl : lv_has ls 3 [(0, .ref (bk (0))), (1, .int (x)), (2, .int (what))] := hl
  refine lv_aload_n hx hb d_M_about_0 rfl (lv_at hl 0 rfl) ?_
  refine lv_iconst (v := 0) hx hb d_M_about_1 (by decide) ?_
  refine pw_put (ci := 7) (v := .int (0)) (ty := .int) (fs' := [.int (0), .ref (bk (1)), .ref (bk (2)), .ref (bk (3)), .int (nI (z 0)), .ref (bk (4)), .ref (bk (5)), .ref (bk (6)), .ref (bk (7)), .ref (bk (8)), .ref (bk (9)), .ref (bk (10)), .ref (bk (11)), .ref (bk (12)), .ref (bk (13)), .ref (bk (14)), .ref (bk (15)), .ref (bk (16)), .ref (bk (17)), .ref (bk (18)), .ref (bk (19)), .ref (bk (20)), .int (nI (z 1)), .ref (bk (21)), .ref (bk (22)), .int (nI (z 2)), .int (nI (z 3)), .ref (bk (23)), .ref (bk (24)), .ref (bk (25)), .int (nI (z 4)), .ref (bk (26)), .ref (bk (27))]) hx hb hw i_M t_M t_M_ok n_M hown hK hP hD hS (0) (by decide) rfl rfl 0 (by decide) (hw _ kF_M_92) rfl (t_M_ok 0 (by decide)) rfl rfl (Nat.le_of_ble_eq_true rfl) rfl d_M_about_2 (fun cw_1 H locs ecw_1 hP hD hS => ?_)
  obtain rfl : cw_1 = MW cs 0 z a bk := by rw [ecw_1]; exact MW_obj 0 z
  refine lv_aload_n hx hb d_M_about_5 rfl (lv_at hl 0 rfl) ?_
  refine lv_iload_n hx hb d_M_about_6 rfl (lv_at hl 1 rfl) ?_
  refine pw_callSi (va_runV (As := [.int (x)]) (rest := []) ⟨hx, hb, hml, hown, hw⟩ (c_M_isIssue l D cs bk H.size 0 z a hz x) (cw_V 1 hw kM_M_115 kI_M_isIssue kV_M_isIssue kZ_M kC_M_isIssue rfl rfl ⟨rfl, by decide, by decide, by decide +kernel⟩ ⟨Nat.le_of_ble_eq_true rfl, Nat.le_of_ble_eq_true rfl⟩) (pw_preV hN hK hP hD (0) (by decide) rfl rfl) rfl rfl hl.1 rfl (lv_room (Nat.le_of_ble_eq_true rfl)) d_M_about_7 ⟨Nat.le_of_ble_eq_true rfl, Nat.le_of_ble_eq_true rfl⟩) (fun r_2 hr_2 => ?_)
  have hr_2 : r_2 = bI (0 ≤ x ∧ x < nI (z 0)) := hr_2
  subst hr_2
  refine pw_ifne (tgt := 15) hx hb d_M_about_10 (by decide) (fun c_3 => ?_) (fun c_3 => ?_)
  · have c_3 : 0 ≤ x ∧ x < nI (z 0) := c_3
    exact absurd c_3 ho
  · have c_3 : ¬ (0 ≤ x ∧ x < nI (z 0)) := c_3
    refine lv_iconst (v := -1) hx hb d_M_about_13 (by decide) ?_
    exact W.iret (v := -1) hx hb hr (fun t ht hW => ⟨⟨-1, (28, bk, MW cs 0 z a bk), rfl, Mr_of (by rw [s_M_about_out]), by rw [ht]; exact hP, va_K.moved hW.alike hK, hD⟩, hS.F ht⟩) hS.2.2 d_M_about_14
def s_M_about (th : Int32) (z : Nat → Nat) (a : Nat → Nat → Int32) (j : Nat) (what : Int32) : MS := (if what = 0 then ((a 4) (j), 0, z, a) else if what = 1 then ((a 5) (j), 0, z, a) else if what = 2 then ((a 6) (j), 0, z, a) else if what = 3 then ((a 7) (j), 0, z, a) else if what = 4 then ((a 8) (j), 0, z, a) else if what = 5 then ((a 10) (j), 0, z, a) else if what = 6 then ((a 11) (j), 0, z, a) else if what = 7 then (if 0 ≤ a 19 j ∧ a 19 j < a 16 j then ((a 17) (8 * j + ((a 19) (j)).toNatClampNeg), 0, z, a) else (-1, 0, z, a)) else if what = 8 then ((a 12) (j), 0, z, a) else if what = 9 then ((a 13) (j), 0, z, a) else if what = 10 then ((a 14) (j), 0, z, a) else (-1, 0, z, a))
set_option maxHeartbeats 4000000 in
set_option maxRecDepth 100000 in
theorem c_M_about (l : Launch) (D : va_G) (cs : Nat → ClassId) (bk : Nat → Nat) (sz : Nat) (th : Int32) (z : Nat → Nat) (a : Nat → Nat → Int32) (hz : z 0 ≤ 200) (j : Nat) (hj : j < z 0) (hrs : 0 ≤ a 16 j ∧ a 16 j ≤ 8) (what : Int32) : Met l y_M_about w_M_about ({ frames := 2, cells := 0, slots := 0, locals := 43 }) (va_Pc [.ref (bk (0)), .int (nI j), .int (what)] (PB D classes (TY cs) 28 bk (MW cs th z a bk) sz)) (va_Qi (Mr cs bk (s_M_about th z a j what)) (Wd D classes (TY cs) (AA 28 bk sz)) (AA 28 bk sz)) 0 0 (AA 28 bk sz) := by
  refine pw_entry (cc := b_M_about) (maxL := 3) (ret := (some .int)) (by decide +kernel) rfl (Nat.le_of_ble_eq_true rfl) ?_
  intro p_ e_ s m below_ meth_ c_ ls hx hb hr hml hts hown hlocks hin hsz hP hK hD hS hA hN hl
  have hw : ∀ w ∈ WA, w.before _ s = true := fun w h => hts w (List.mem_cons_of_mem _ h)
  have hown : s.vm.findClass "IssueRowsModel" = some m.cls := hown
  have hl : lv_has ls 3 [(0, .ref (bk (0))), (1, .int (nI j)), (2, .int (what))] := hl
  refine lv_aload_n hx hb d_M_about_0 rfl (lv_at hl 0 rfl) ?_
  refine lv_iconst (v := 0) hx hb d_M_about_1 (by decide) ?_
  refine pw_put (ci := 7) (v := .int (0)) (ty := .int) (fs' := [.int (0), .ref (bk (1)), .ref (bk (2)), .ref (bk (3)), .int (nI (z 0)), .ref (bk (4)), .ref (bk (5)), .ref (bk (6)), .ref (bk (7)), .ref (bk (8)), .ref (bk (9)), .ref (bk (10)), .ref (bk (11)), .ref (bk (12)), .ref (bk (13)), .ref (bk (14)), .ref (bk (15)), .ref (bk (16)), .ref (bk (17)), .ref (bk (18)), .ref (bk (19)), .ref (bk (20)), .int (nI (z 1)), .ref (bk (21)), .ref (bk (22)), .int (nI (z 2)), .int (nI (z 3)), .ref (bk (23)), .ref (bk (24)), .ref (bk (25)), .int (nI (z 4)), .ref (bk (26)), .ref (bk (27))]) hx hb hw i_M t_M t_M_ok n_M hown hK hP hD hS (0) (by decide) rfl rfl 0 (by decide) (hw _ kF_M_92) rfl (t_M_ok 0 (by decide)) rfl rfl (Nat.le_of_ble_eq_true rfl) rfl d_M_about_2 (fun cw_1 H locs ecw_1 hP hD hS => ?_)
  obtain rfl : cw_1 = MW cs 0 z a bk := by rw [ecw_1]; exact MW_obj 0 z
  refine lv_aload_n hx hb d_M_about_5 rfl (lv_at hl 0 rfl) ?_
  refine lv_iload_n hx hb d_M_about_6 rfl (lv_at hl 1 rfl) ?_
  refine pw_callSi (va_runV (As := [.int (nI j)]) (rest := []) ⟨hx, hb, hml, hown, hw⟩ (c_M_isIssue l D cs bk H.size 0 z a hz (nI j)) (cw_V 1 hw kM_M_115 kI_M_isIssue kV_M_isIssue kZ_M kC_M_isIssue rfl rfl ⟨rfl, by decide, by decide, by decide +kernel⟩ ⟨Nat.le_of_ble_eq_true rfl, Nat.le_of_ble_eq_true rfl⟩) (pw_preV hN hK hP hD (0) (by decide) rfl rfl) rfl rfl hl.1 rfl (lv_room (Nat.le_of_ble_eq_true rfl)) d_M_about_7 ⟨Nat.le_of_ble_eq_true rfl, Nat.le_of_ble_eq_true rfl⟩) (fun r_2 hr_2 => ?_)
  have hr_2 : r_2 = bI (0 ≤ (nI j) ∧ (nI j) < nI (z 0)) := hr_2
  subst hr_2
  refine pw_ifne (tgt := 15) hx hb d_M_about_10 (by decide) (fun c_3 => ?_) (fun c_3 => ?_)
  · have c_3 : 0 ≤ (nI j) ∧ (nI j) < nI (z 0) := c_3
    refine lv_iload_n hx hb d_M_about_15 rfl (lv_at hl 2 rfl) ?_
    by_cases c_4 : what = 0
    · refine lv_tableIn (off := 60) (tgt := 76) hx hb d_M_about_16 (by rw [c_4]; decide) (by rw [c_4]; decide) (by rw [c_4]; rfl) (by decide) ?_
      refine lv_aload_n hx hb d_M_about_76 rfl (lv_at hl 0 rfl) ?_
      refine pw_get (ci := 7) (v := .ref (bk (4))) hx hb hw i_M hown hK hP (0) (by decide) rfl rfl 5 (by decide) (hw _ kF_M_19) rfl d_M_about_77 ?_
      refine lv_iload_n hx hb d_M_about_80 rfl (lv_at hl 1 rfl) ?_
      refine pw_iald (n := 200) (f := (a 4)) hx hb hK hP 0 (4) (by decide) rfl rfl (j) rfl (by omega) (by decide) d_M_about_81 ?_
      exact W.iret (v := (a 4) (j)) hx hb hr (fun t ht hW => ⟨⟨(a 4) (j), (28, bk, MW cs 0 z a bk), rfl, Mr_of (by rw [s_M_about, if_pos c_4]), by rw [ht]; exact hP, va_K.moved hW.alike hK, hD⟩, hS.F ht⟩) hS.2.2 d_M_about_82
    by_cases c_5 : what = 1
    · refine lv_tableIn (off := 67) (tgt := 83) hx hb d_M_about_16 (by rw [c_5]; decide) (by rw [c_5]; decide) (by rw [c_5]; rfl) (by decide) ?_
      refine lv_aload_n hx hb d_M_about_83 rfl (lv_at hl 0 rfl) ?_
      refine pw_get (ci := 7) (v := .ref (bk (5))) hx hb hw i_M hown hK hP (0) (by decide) rfl rfl 6 (by decide) (hw _ kF_M_22) rfl d_M_about_84 ?_
      refine lv_iload_n hx hb d_M_about_87 rfl (lv_at hl 1 rfl) ?_
      refine pw_iald (n := 200) (f := (a 5)) hx hb hK hP 0 (5) (by decide) rfl rfl (j) rfl (by omega) (by decide) d_M_about_88 ?_
      exact W.iret (v := (a 5) (j)) hx hb hr (fun t ht hW => ⟨⟨(a 5) (j), (28, bk, MW cs 0 z a bk), rfl, Mr_of (by rw [s_M_about, if_neg c_4, if_pos c_5]), by rw [ht]; exact hP, va_K.moved hW.alike hK, hD⟩, hS.F ht⟩) hS.2.2 d_M_about_89
    by_cases c_6 : what = 2
    · refine lv_tableIn (off := 74) (tgt := 90) hx hb d_M_about_16 (by rw [c_6]; decide) (by rw [c_6]; decide) (by rw [c_6]; rfl) (by decide) ?_
      refine lv_aload_n hx hb d_M_about_90 rfl (lv_at hl 0 rfl) ?_
      refine pw_get (ci := 7) (v := .ref (bk (6))) hx hb hw i_M hown hK hP (0) (by decide) rfl rfl 7 (by decide) (hw _ kF_M_25) rfl d_M_about_91 ?_
      refine lv_iload_n hx hb d_M_about_94 rfl (lv_at hl 1 rfl) ?_
      refine pw_iald (n := 200) (f := (a 6)) hx hb hK hP 0 (6) (by decide) rfl rfl (j) rfl (by omega) (by decide) d_M_about_95 ?_
      exact W.iret (v := (a 6) (j)) hx hb hr (fun t ht hW => ⟨⟨(a 6) (j), (28, bk, MW cs 0 z a bk), rfl, Mr_of (by rw [s_M_about, if_neg c_4, if_neg c_5, if_pos c_6]), by rw [ht]; exact hP, va_K.moved hW.alike hK, hD⟩, hS.F ht⟩) hS.2.2 d_M_about_96
    by_cases c_7 : what = 3
    · refine lv_tableIn (off := 81) (tgt := 97) hx hb d_M_about_16 (by rw [c_7]; decide) (by rw [c_7]; decide) (by rw [c_7]; rfl) (by decide) ?_
      refine lv_aload_n hx hb d_M_about_97 rfl (lv_at hl 0 rfl) ?_
      refine pw_get (ci := 7) (v := .ref (bk (7))) hx hb hw i_M hown hK hP (0) (by decide) rfl rfl 8 (by decide) (hw _ kF_M_28) rfl d_M_about_98 ?_
      refine lv_iload_n hx hb d_M_about_101 rfl (lv_at hl 1 rfl) ?_
      refine pw_iald (n := 200) (f := (a 7)) hx hb hK hP 0 (7) (by decide) rfl rfl (j) rfl (by omega) (by decide) d_M_about_102 ?_
      exact W.iret (v := (a 7) (j)) hx hb hr (fun t ht hW => ⟨⟨(a 7) (j), (28, bk, MW cs 0 z a bk), rfl, Mr_of (by rw [s_M_about, if_neg c_4, if_neg c_5, if_neg c_6, if_pos c_7]), by rw [ht]; exact hP, va_K.moved hW.alike hK, hD⟩, hS.F ht⟩) hS.2.2 d_M_about_103
    by_cases c_8 : what = 4
    · refine lv_tableIn (off := 88) (tgt := 104) hx hb d_M_about_16 (by rw [c_8]; decide) (by rw [c_8]; decide) (by rw [c_8]; rfl) (by decide) ?_
      refine lv_aload_n hx hb d_M_about_104 rfl (lv_at hl 0 rfl) ?_
      refine pw_get (ci := 7) (v := .ref (bk (8))) hx hb hw i_M hown hK hP (0) (by decide) rfl rfl 9 (by decide) (hw _ kF_M_31) rfl d_M_about_105 ?_
      refine lv_iload_n hx hb d_M_about_108 rfl (lv_at hl 1 rfl) ?_
      refine pw_iald (n := 200) (f := (a 8)) hx hb hK hP 0 (8) (by decide) rfl rfl (j) rfl (by omega) (by decide) d_M_about_109 ?_
      exact W.iret (v := (a 8) (j)) hx hb hr (fun t ht hW => ⟨⟨(a 8) (j), (28, bk, MW cs 0 z a bk), rfl, Mr_of (by rw [s_M_about, if_neg c_4, if_neg c_5, if_neg c_6, if_neg c_7, if_pos c_8]), by rw [ht]; exact hP, va_K.moved hW.alike hK, hD⟩, hS.F ht⟩) hS.2.2 d_M_about_110
    by_cases c_9 : what = 5
    · refine lv_tableIn (off := 95) (tgt := 111) hx hb d_M_about_16 (by rw [c_9]; decide) (by rw [c_9]; decide) (by rw [c_9]; rfl) (by decide) ?_
      refine lv_aload_n hx hb d_M_about_111 rfl (lv_at hl 0 rfl) ?_
      refine pw_get (ci := 7) (v := .ref (bk (10))) hx hb hw i_M hown hK hP (0) (by decide) rfl rfl 11 (by decide) (hw _ kF_M_37) rfl d_M_about_112 ?_
      refine lv_iload_n hx hb d_M_about_115 rfl (lv_at hl 1 rfl) ?_
      refine pw_iald (n := 200) (f := (a 10)) hx hb hK hP 0 (10) (by decide) rfl rfl (j) rfl (by omega) (by decide) d_M_about_116 ?_
      exact W.iret (v := (a 10) (j)) hx hb hr (fun t ht hW => ⟨⟨(a 10) (j), (28, bk, MW cs 0 z a bk), rfl, Mr_of (by rw [s_M_about, if_neg c_4, if_neg c_5, if_neg c_6, if_neg c_7, if_neg c_8, if_pos c_9]), by rw [ht]; exact hP, va_K.moved hW.alike hK, hD⟩, hS.F ht⟩) hS.2.2 d_M_about_117
    by_cases c_10 : what = 6
    · refine lv_tableIn (off := 102) (tgt := 118) hx hb d_M_about_16 (by rw [c_10]; decide) (by rw [c_10]; decide) (by rw [c_10]; rfl) (by decide) ?_
      refine lv_aload_n hx hb d_M_about_118 rfl (lv_at hl 0 rfl) ?_
      refine pw_get (ci := 7) (v := .ref (bk (11))) hx hb hw i_M hown hK hP (0) (by decide) rfl rfl 12 (by decide) (hw _ kF_M_40) rfl d_M_about_119 ?_
      refine lv_iload_n hx hb d_M_about_122 rfl (lv_at hl 1 rfl) ?_
      refine pw_iald (n := 200) (f := (a 11)) hx hb hK hP 0 (11) (by decide) rfl rfl (j) rfl (by omega) (by decide) d_M_about_123 ?_
      exact W.iret (v := (a 11) (j)) hx hb hr (fun t ht hW => ⟨⟨(a 11) (j), (28, bk, MW cs 0 z a bk), rfl, Mr_of (by rw [s_M_about, if_neg c_4, if_neg c_5, if_neg c_6, if_neg c_7, if_neg c_8, if_neg c_9, if_pos c_10]), by rw [ht]; exact hP, va_K.moved hW.alike hK, hD⟩, hS.F ht⟩) hS.2.2 d_M_about_124
    by_cases c_11 : what = 7
    · refine lv_tableIn (off := 109) (tgt := 125) hx hb d_M_about_16 (by rw [c_11]; decide) (by rw [c_11]; decide) (by rw [c_11]; rfl) (by decide) ?_
      refine lv_aload_n hx hb d_M_about_125 rfl (lv_at hl 0 rfl) ?_
      refine lv_iload_n hx hb d_M_about_126 rfl (lv_at hl 1 rfl) ?_
      refine pw_callSi (va_runV (As := [.int (nI j)]) (rest := []) ⟨hx, hb, hml, hown, hw⟩ (c_M_isHeld l D cs bk H.size 0 z a j (by omega)) (cw_V 1 hw kM_M_128 kI_M_isHeld kV_M_isHeld kZ_M kC_M_isHeld rfl rfl ⟨rfl, by decide, by decide, by decide +kernel⟩ ⟨Nat.le_of_ble_eq_true rfl, Nat.le_of_ble_eq_true rfl⟩) (pw_preV hN hK hP hD (0) (by decide) rfl rfl) rfl rfl hl.1 rfl (lv_room (Nat.le_of_ble_eq_true rfl)) d_M_about_127 ⟨Nat.le_of_ble_eq_true rfl, Nat.le_of_ble_eq_true rfl⟩) (fun r_12 hr_12 => ?_)
      have hr_12 : r_12 = bI (0 ≤ a 19 j ∧ a 19 j < a 16 j) := hr_12
      subst hr_12
      refine pw_ifeq (tgt := 152) hx hb d_M_about_130 (by decide) (fun c_13 => ?_) (fun c_13 => ?_)
      · have c_13 : ¬ (0 ≤ a 19 j ∧ a 19 j < a 16 j) := c_13
        refine lv_iconst (v := -1) hx hb d_M_about_152 (by decide) ?_
        exact W.iret (v := -1) hx hb hr (fun t ht hW => ⟨⟨-1, (28, bk, MW cs 0 z a bk), rfl, Mr_of (by rw [s_M_about, if_neg c_4, if_neg c_5, if_neg c_6, if_neg c_7, if_neg c_8, if_neg c_9, if_neg c_10, if_pos c_11, if_neg c_13]), by rw [ht]; exact hP, va_K.moved hW.alike hK, hD⟩, hS.F ht⟩) hS.2.2 d_M_about_153
      · have c_13 : 0 ≤ a 19 j ∧ a 19 j < a 16 j := c_13
        refine lv_aload_n hx hb d_M_about_133 rfl (lv_at hl 0 rfl) ?_
        refine pw_get (ci := 7) (v := .ref (bk (17))) hx hb hw i_M hown hK hP (0) (by decide) rfl rfl 18 (by decide) (hw _ kF_M_59) rfl d_M_about_134 ?_
        refine lv_bipush (v := 8) hx hb d_M_about_137 (by decide) ?_
        refine lv_iload_n hx hb d_M_about_139 rfl (lv_at hl 1 rfl) ?_
        refine lv_imul hx hb d_M_about_140 ?_
        refine lv_aload_n hx hb d_M_about_141 rfl (lv_at hl 0 rfl) ?_
        refine pw_get (ci := 7) (v := .ref (bk (19))) hx hb hw i_M hown hK hP (0) (by decide) rfl rfl 20 (by decide) (hw _ kF_M_65) rfl d_M_about_142 ?_
        refine lv_iload_n hx hb d_M_about_145 rfl (lv_at hl 1 rfl) ?_
        refine pw_iald (n := 200) (f := (a 19)) hx hb hK hP 0 (19) (by decide) rfl rfl (j) rfl (by omega) (by decide) d_M_about_146 ?_
        refine lv_iadd hx hb d_M_about_147 ?_
        rw [show (8 * (nI j)) + ((a 19) (j)) = nI (8 * j + ((a 19) (j)).toNatClampNeg) from px_eq c_13.1]
        refine pw_iald (n := 1600) (f := (a 17)) hx hb hK hP 0 (17) (by decide) rfl rfl (8 * j + ((a 19) (j)).toNatClampNeg) rfl (by have h5 := px_lt (n := 8) c_13.1 c_13.2 hrs.2 (by decide); omega) (by decide) d_M_about_148 ?_
        refine lv_goto (tgt := 153) hx hb d_M_about_149 (by decide) ?_
        exact W.iret (v := (a 17) (8 * j + ((a 19) (j)).toNatClampNeg)) hx hb hr (fun t ht hW => ⟨⟨(a 17) (8 * j + ((a 19) (j)).toNatClampNeg), (28, bk, MW cs 0 z a bk), rfl, Mr_of (by rw [s_M_about, if_neg c_4, if_neg c_5, if_neg c_6, if_neg c_7, if_neg c_8, if_neg c_9, if_neg c_10, if_pos c_11, if_pos c_13]), by rw [ht]; exact hP, va_K.moved hW.alike hK, hD⟩, hS.F ht⟩) hS.2.2 d_M_about_153
    by_cases c_14 : what = 8
    · refine lv_tableIn (off := 138) (tgt := 154) hx hb d_M_about_16 (by rw [c_14]; decide) (by rw [c_14]; decide) (by rw [c_14]; rfl) (by decide) ?_
      refine lv_aload_n hx hb d_M_about_154 rfl (lv_at hl 0 rfl) ?_
      refine pw_get (ci := 7) (v := .ref (bk (12))) hx hb hw i_M hown hK hP (0) (by decide) rfl rfl 13 (by decide) (hw _ kF_M_43) rfl d_M_about_155 ?_
      refine lv_iload_n hx hb d_M_about_158 rfl (lv_at hl 1 rfl) ?_
      refine pw_iald (n := 200) (f := (a 12)) hx hb hK hP 0 (12) (by decide) rfl rfl (j) rfl (by omega) (by decide) d_M_about_159 ?_
      exact W.iret (v := (a 12) (j)) hx hb hr (fun t ht hW => ⟨⟨(a 12) (j), (28, bk, MW cs 0 z a bk), rfl, Mr_of (by rw [s_M_about, if_neg c_4, if_neg c_5, if_neg c_6, if_neg c_7, if_neg c_8, if_neg c_9, if_neg c_10, if_neg c_11, if_pos c_14]), by rw [ht]; exact hP, va_K.moved hW.alike hK, hD⟩, hS.F ht⟩) hS.2.2 d_M_about_160
    by_cases c_15 : what = 9
    · refine lv_tableIn (off := 145) (tgt := 161) hx hb d_M_about_16 (by rw [c_15]; decide) (by rw [c_15]; decide) (by rw [c_15]; rfl) (by decide) ?_
      refine lv_aload_n hx hb d_M_about_161 rfl (lv_at hl 0 rfl) ?_
      refine pw_get (ci := 7) (v := .ref (bk (13))) hx hb hw i_M hown hK hP (0) (by decide) rfl rfl 14 (by decide) (hw _ kF_M_46) rfl d_M_about_162 ?_
      refine lv_iload_n hx hb d_M_about_165 rfl (lv_at hl 1 rfl) ?_
      refine pw_iald (n := 200) (f := (a 13)) hx hb hK hP 0 (13) (by decide) rfl rfl (j) rfl (by omega) (by decide) d_M_about_166 ?_
      exact W.iret (v := (a 13) (j)) hx hb hr (fun t ht hW => ⟨⟨(a 13) (j), (28, bk, MW cs 0 z a bk), rfl, Mr_of (by rw [s_M_about, if_neg c_4, if_neg c_5, if_neg c_6, if_neg c_7, if_neg c_8, if_neg c_9, if_neg c_10, if_neg c_11, if_neg c_14, if_pos c_15]), by rw [ht]; exact hP, va_K.moved hW.alike hK, hD⟩, hS.F ht⟩) hS.2.2 d_M_about_167
    by_cases c_16 : what = 10
    · refine lv_tableIn (off := 152) (tgt := 168) hx hb d_M_about_16 (by rw [c_16]; decide) (by rw [c_16]; decide) (by rw [c_16]; rfl) (by decide) ?_
      refine lv_aload_n hx hb d_M_about_168 rfl (lv_at hl 0 rfl) ?_
      refine pw_get (ci := 7) (v := .ref (bk (14))) hx hb hw i_M hown hK hP (0) (by decide) rfl rfl 15 (by decide) (hw _ kF_M_49) rfl d_M_about_169 ?_
      refine lv_iload_n hx hb d_M_about_172 rfl (lv_at hl 1 rfl) ?_
      refine pw_iald (n := 200) (f := (a 14)) hx hb hK hP 0 (14) (by decide) rfl rfl (j) rfl (by omega) (by decide) d_M_about_173 ?_
      exact W.iret (v := (a 14) (j)) hx hb hr (fun t ht hW => ⟨⟨(a 14) (j), (28, bk, MW cs 0 z a bk), rfl, Mr_of (by rw [s_M_about, if_neg c_4, if_neg c_5, if_neg c_6, if_neg c_7, if_neg c_8, if_neg c_9, if_neg c_10, if_neg c_11, if_neg c_14, if_neg c_15, if_pos c_16]), by rw [ht]; exact hP, va_K.moved hW.alike hK, hD⟩, hS.F ht⟩) hS.2.2 d_M_about_174
    refine lv_tableOut (tgt := 175) hx hb d_M_about_16 (by simp only [Int32.lt_iff_toInt_lt, Int32.le_iff_toInt_le, ← Int32.toInt_inj, T0, T1, T2, T3, T4, T5, T6, T7, T8, T9, T10, T40, T50, T99, T100, T199, T200, T999, T1000, T9999, T1000000, T10000000, T1000000000, Tm1] at c_4 c_5 c_6 c_7 c_8 c_9 c_10 c_11 c_14 c_15 c_16; omega) (by decide) ?_
    refine lv_iconst (v := -1) hx hb d_M_about_175 (by decide) ?_
    exact W.iret (v := -1) hx hb hr (fun t ht hW => ⟨⟨-1, (28, bk, MW cs 0 z a bk), rfl, Mr_of (by rw [s_M_about, if_neg c_4, if_neg c_5, if_neg c_6, if_neg c_7, if_neg c_8, if_neg c_9, if_neg c_10, if_neg c_11, if_neg c_14, if_neg c_15, if_neg c_16]), by rw [ht]; exact hP, va_K.moved hW.alike hK, hD⟩, hS.F ht⟩) hS.2.2 d_M_about_176
  · have c_3 : ¬ (0 ≤ (nI j) ∧ (nI j) < nI (z 0)) := c_3
    exact absurd ⟨nI_pos' (by omega), (nI_ltI (by omega) (by omega)).mpr hj⟩ c_3
def s_M_cost_out (th : Int32) (z : Nat → Nat) (a : Nat → Nat → Int32) (x : Int32) (more : Int32) : MS := (-1, 0, z, a)
set_option maxHeartbeats 4000000 in
set_option maxRecDepth 100000 in
theorem c_M_cost_out (l : Launch) (D : va_G) (cs : Nat → ClassId) (bk : Nat → Nat) (sz : Nat) (th : Int32) (z : Nat → Nat) (a : Nat → Nat → Int32) (hz : z 0 ≤ 200) (x : Int32) (ho : ¬ (0 ≤ x ∧ x < nI (z 0))) (more : Int32) : Met l y_M_cost w_M_cost ({ frames := 2, cells := 0, slots := 0, locals := 43 }) (va_Pc [.ref (bk (0)), .int (x), .int (more)] (PB D classes (TY cs) 28 bk (MW cs th z a bk) sz)) (va_Qi (Mr cs bk (s_M_cost_out th z a x more)) (Wd D classes (TY cs) (AA 28 bk sz)) (AA 28 bk sz)) 0 0 (AA 28 bk sz) := by
  refine pw_entry (cc := b_M_cost) (maxL := 3) (ret := (some .int)) (by decide +kernel) rfl (Nat.le_of_ble_eq_true rfl) ?_
  intro p_ e_ s m below_ meth_ c_ ls hx hb hr hml hts hown hlocks hin hsz hP hK hD hS hA hN hl
  have hw : ∀ w ∈ WA, w.before _ s = true := fun w h => hts w (List.mem_cons_of_mem _ h)
  have hown : s.vm.findClass "IssueRowsModel" = some m.cls := hown
  have hl : lv_has ls 3 [(0, .ref (bk (0))), (1, .int (x)), (2, .int (more))] := hl
  refine lv_aload_n hx hb d_M_cost_0 rfl (lv_at hl 0 rfl) ?_
  refine lv_iconst (v := 0) hx hb d_M_cost_1 (by decide) ?_
  refine pw_put (ci := 7) (v := .int (0)) (ty := .int) (fs' := [.int (0), .ref (bk (1)), .ref (bk (2)), .ref (bk (3)), .int (nI (z 0)), .ref (bk (4)), .ref (bk (5)), .ref (bk (6)), .ref (bk (7)), .ref (bk (8)), .ref (bk (9)), .ref (bk (10)), .ref (bk (11)), .ref (bk (12)), .ref (bk (13)), .ref (bk (14)), .ref (bk (15)), .ref (bk (16)), .ref (bk (17)), .ref (bk (18)), .ref (bk (19)), .ref (bk (20)), .int (nI (z 1)), .ref (bk (21)), .ref (bk (22)), .int (nI (z 2)), .int (nI (z 3)), .ref (bk (23)), .ref (bk (24)), .ref (bk (25)), .int (nI (z 4)), .ref (bk (26)), .ref (bk (27))]) hx hb hw i_M t_M t_M_ok n_M hown hK hP hD hS (0) (by decide) rfl rfl 0 (by decide) (hw _ kF_M_92) rfl (t_M_ok 0 (by decide)) rfl rfl (Nat.le_of_ble_eq_true rfl) rfl d_M_cost_2 (fun cw_1 H locs ecw_1 hP hD hS => ?_)
  obtain rfl : cw_1 = MW cs 0 z a bk := by rw [ecw_1]; exact MW_obj 0 z
  refine lv_aload_n hx hb d_M_cost_5 rfl (lv_at hl 0 rfl) ?_
  refine lv_iload_n hx hb d_M_cost_6 rfl (lv_at hl 1 rfl) ?_
  refine pw_callSi (va_runV (As := [.int (x)]) (rest := []) ⟨hx, hb, hml, hown, hw⟩ (c_M_isIssue l D cs bk H.size 0 z a hz x) (cw_V 1 hw kM_M_115 kI_M_isIssue kV_M_isIssue kZ_M kC_M_isIssue rfl rfl ⟨rfl, by decide, by decide, by decide +kernel⟩ ⟨Nat.le_of_ble_eq_true rfl, Nat.le_of_ble_eq_true rfl⟩) (pw_preV hN hK hP hD (0) (by decide) rfl rfl) rfl rfl hl.1 rfl (lv_room (Nat.le_of_ble_eq_true rfl)) d_M_cost_7 ⟨Nat.le_of_ble_eq_true rfl, Nat.le_of_ble_eq_true rfl⟩) (fun r_2 hr_2 => ?_)
  have hr_2 : r_2 = bI (0 ≤ x ∧ x < nI (z 0)) := hr_2
  subst hr_2
  refine pw_ifne (tgt := 15) hx hb d_M_cost_10 (by decide) (fun c_3 => ?_) (fun c_3 => ?_)
  · have c_3 : 0 ≤ x ∧ x < nI (z 0) := c_3
    exact absurd c_3 ho
  · have c_3 : ¬ (0 ≤ x ∧ x < nI (z 0)) := c_3
    refine lv_iconst (v := -1) hx hb d_M_cost_13 (by decide) ?_
    exact W.iret (v := -1) hx hb hr (fun t ht hW => ⟨⟨-1, (28, bk, MW cs 0 z a bk), rfl, Mr_of (by rw [s_M_cost_out]), by rw [ht]; exact hP, va_K.moved hW.alike hK, hD⟩, hS.F ht⟩) hS.2.2 d_M_cost_14
def s_M_cost (th : Int32) (z : Nat → Nat) (a : Nat → Nat → Int32) (j : Nat) (more : Int32) : MS := (if 0 ≤ more ∧ more ≤ 10000000 then (if (((a 14) (j)) + more) ≤ 1000000000 then ((upd (a 14) (j) (((a 14) (j)) + more)) (j), 0, z, va_up a 14 (upd (a 14) (j) (((a 14) (j)) + more))) else (-4, 0, z, a)) else (-2, 0, z, a))
set_option maxHeartbeats 4000000 in
set_option maxRecDepth 100000 in
theorem c_M_cost (l : Launch) (D : va_G) (cs : Nat → ClassId) (bk : Nat → Nat) (sz : Nat) (th : Int32) (z : Nat → Nat) (a : Nat → Nat → Int32) (hz : z 0 ≤ 200) (j : Nat) (hj : j < z 0) (more : Int32) : Met l y_M_cost w_M_cost ({ frames := 2, cells := 0, slots := 0, locals := 43 }) (va_Pc [.ref (bk (0)), .int (nI j), .int (more)] (PB D classes (TY cs) 28 bk (MW cs th z a bk) sz)) (va_Qi (Mr cs bk (s_M_cost th z a j more)) (Wd D classes (TY cs) (AA 28 bk sz)) (AA 28 bk sz)) 0 0 (AA 28 bk sz) := by
  refine pw_entry (cc := b_M_cost) (maxL := 3) (ret := (some .int)) (by decide +kernel) rfl (Nat.le_of_ble_eq_true rfl) ?_
  intro p_ e_ s m below_ meth_ c_ ls hx hb hr hml hts hown hlocks hin hsz hP hK hD hS hA hN hl
  have hw : ∀ w ∈ WA, w.before _ s = true := fun w h => hts w (List.mem_cons_of_mem _ h)
  have hown : s.vm.findClass "IssueRowsModel" = some m.cls := hown
  have hl : lv_has ls 3 [(0, .ref (bk (0))), (1, .int (nI j)), (2, .int (more))] := hl
  refine lv_aload_n hx hb d_M_cost_0 rfl (lv_at hl 0 rfl) ?_
  refine lv_iconst (v := 0) hx hb d_M_cost_1 (by decide) ?_
  refine pw_put (ci := 7) (v := .int (0)) (ty := .int) (fs' := [.int (0), .ref (bk (1)), .ref (bk (2)), .ref (bk (3)), .int (nI (z 0)), .ref (bk (4)), .ref (bk (5)), .ref (bk (6)), .ref (bk (7)), .ref (bk (8)), .ref (bk (9)), .ref (bk (10)), .ref (bk (11)), .ref (bk (12)), .ref (bk (13)), .ref (bk (14)), .ref (bk (15)), .ref (bk (16)), .ref (bk (17)), .ref (bk (18)), .ref (bk (19)), .ref (bk (20)), .int (nI (z 1)), .ref (bk (21)), .ref (bk (22)), .int (nI (z 2)), .int (nI (z 3)), .ref (bk (23)), .ref (bk (24)), .ref (bk (25)), .int (nI (z 4)), .ref (bk (26)), .ref (bk (27))]) hx hb hw i_M t_M t_M_ok n_M hown hK hP hD hS (0) (by decide) rfl rfl 0 (by decide) (hw _ kF_M_92) rfl (t_M_ok 0 (by decide)) rfl rfl (Nat.le_of_ble_eq_true rfl) rfl d_M_cost_2 (fun cw_1 H locs ecw_1 hP hD hS => ?_)
  obtain rfl : cw_1 = MW cs 0 z a bk := by rw [ecw_1]; exact MW_obj 0 z
  refine lv_aload_n hx hb d_M_cost_5 rfl (lv_at hl 0 rfl) ?_
  refine lv_iload_n hx hb d_M_cost_6 rfl (lv_at hl 1 rfl) ?_
  refine pw_callSi (va_runV (As := [.int (nI j)]) (rest := []) ⟨hx, hb, hml, hown, hw⟩ (c_M_isIssue l D cs bk H.size 0 z a hz (nI j)) (cw_V 1 hw kM_M_115 kI_M_isIssue kV_M_isIssue kZ_M kC_M_isIssue rfl rfl ⟨rfl, by decide, by decide, by decide +kernel⟩ ⟨Nat.le_of_ble_eq_true rfl, Nat.le_of_ble_eq_true rfl⟩) (pw_preV hN hK hP hD (0) (by decide) rfl rfl) rfl rfl hl.1 rfl (lv_room (Nat.le_of_ble_eq_true rfl)) d_M_cost_7 ⟨Nat.le_of_ble_eq_true rfl, Nat.le_of_ble_eq_true rfl⟩) (fun r_2 hr_2 => ?_)
  have hr_2 : r_2 = bI (0 ≤ (nI j) ∧ (nI j) < nI (z 0)) := hr_2
  subst hr_2
  refine pw_ifne (tgt := 15) hx hb d_M_cost_10 (by decide) (fun c_3 => ?_) (fun c_3 => ?_)
  · have c_3 : 0 ≤ (nI j) ∧ (nI j) < nI (z 0) := c_3
    refine lv_iload_n hx hb d_M_cost_15 rfl (lv_at hl 2 rfl) ?_
    refine lv_iconst (v := 0) hx hb d_M_cost_16 (by decide) ?_
    refine lv_ldc (v := 10000000) hx hb hown (hw _ kK_M_147) d_M_cost_17 ?_
    refine pw_callSi (va_runS (As := [.int (more), .int (0), .int (10000000)]) (rest := []) ⟨hx, hb, hml, hown, hw⟩ (c_M_in l D cs bk H.size 0 z a more 0 10000000) (cw_S 3 hw kM_M_97 kS_M_in kZ_M kC_M_in rfl rfl ⟨rfl, by decide, by decide, by decide +kernel⟩ ⟨Nat.le_of_ble_eq_true rfl, Nat.le_of_ble_eq_true rfl⟩) (pw_preS hN hK hP hD) rfl rfl hl.1 rfl (lv_room (Nat.le_of_ble_eq_true rfl)) d_M_cost_19 ⟨Nat.le_of_ble_eq_true rfl, Nat.le_of_ble_eq_true rfl⟩) (fun r_4 hr_4 => ?_)
    have hr_4 : r_4 = bI (0 ≤ more ∧ more ≤ 10000000) := hr_4
    subst hr_4
    refine pw_ifne (tgt := 28) hx hb d_M_cost_22 (by decide) (fun c_5 => ?_) (fun c_5 => ?_)
    · have c_5 : 0 ≤ more ∧ more ≤ 10000000 := c_5
      refine lv_aload_n hx hb d_M_cost_28 rfl (lv_at hl 0 rfl) ?_
      refine pw_get (ci := 7) (v := .ref (bk (14))) hx hb hw i_M hown hK hP (0) (by decide) rfl rfl 15 (by decide) (hw _ kF_M_49) rfl d_M_cost_29 ?_
      refine lv_iload_n hx hb d_M_cost_32 rfl (lv_at hl 1 rfl) ?_
      refine pw_iald (n := 200) (f := (a 14)) hx hb hK hP 0 (14) (by decide) rfl rfl (j) rfl (by omega) (by decide) d_M_cost_33 ?_
      refine lv_iload_n hx hb d_M_cost_34 rfl (lv_at hl 2 rfl) ?_
      refine lv_iadd hx hb d_M_cost_35 ?_
      refine lv_ldc (v := 1000000000) hx hb hown (hw _ kK_M_148) d_M_cost_36 ?_
      refine lv_icmp_le (tgt := 44) hx hb d_M_cost_38 (by decide) (fun c_6 => ?_) (fun c_6 => ?_)
      · have c_6 : (((a 14) (j)) + more) ≤ 1000000000 := c_6
        refine lv_aload_n hx hb d_M_cost_44 rfl (lv_at hl 0 rfl) ?_
        refine pw_get (ci := 7) (v := .ref (bk (14))) hx hb hw i_M hown hK hP (0) (by decide) rfl rfl 15 (by decide) (hw _ kF_M_49) rfl d_M_cost_45 ?_
        refine lv_iload_n hx hb d_M_cost_48 rfl (lv_at hl 1 rfl) ?_
        refine lv_dup2_11 hx hb d_M_cost_49 rfl rfl ?_
        refine pw_iald (n := 200) (f := (a 14)) hx hb hK hP 0 (14) (by decide) rfl rfl (j) rfl (by omega) (by decide) d_M_cost_50 ?_
        refine lv_iload_n hx hb d_M_cost_51 rfl (lv_at hl 2 rfl) ?_
        refine lv_iadd hx hb d_M_cost_52 ?_
        refine pw_iast (n := 200) (f := (a 14)) hx hb hK hP hD hS 0 (14) (by decide) rfl rfl (j) rfl (by omega) (by decide) d_M_cost_53 (fun cw_7 H locs ecw_7 hP hD hS => ?_)
        obtain rfl : cw_7 = MW cs 0 z (va_up a 14 (upd (a 14) (j) (((a 14) (j)) + more))) bk := by rw [ecw_7]; exact MW_arr 14 (by decide) (upd (a 14) (j) (((a 14) (j)) + more))
        refine lv_aload_n hx hb d_M_cost_54 rfl (lv_at hl 0 rfl) ?_
        refine pw_get (ci := 7) (v := .ref (bk (14))) hx hb hw i_M hown hK hP (0) (by decide) rfl rfl 15 (by decide) (hw _ kF_M_49) rfl d_M_cost_55 ?_
        refine lv_iload_n hx hb d_M_cost_58 rfl (lv_at hl 1 rfl) ?_
        refine pw_iald (n := 200) (f := (upd (a 14) (j) (((a 14) (j)) + more))) hx hb hK hP 0 (14) (by decide) rfl rfl (j) rfl (by omega) (by decide) d_M_cost_59 ?_
        exact W.iret (v := (upd (a 14) (j) (((a 14) (j)) + more)) (j)) hx hb hr (fun t ht hW => ⟨⟨(upd (a 14) (j) (((a 14) (j)) + more)) (j), (28, bk, MW cs 0 z (va_up a 14 (upd (a 14) (j) (((a 14) (j)) + more))) bk), rfl, Mr_of (by rw [s_M_cost, if_pos c_5, if_pos c_6]), by rw [ht]; exact hP, va_K.moved hW.alike hK, hD⟩, hS.F ht⟩) hS.2.2 d_M_cost_60
      · have c_6 : ¬ (((a 14) (j)) + more) ≤ 1000000000 := c_6
        refine lv_bipush (v := -4) hx hb d_M_cost_41 (by decide) ?_
        exact W.iret (v := -4) hx hb hr (fun t ht hW => ⟨⟨-4, (28, bk, MW cs 0 z a bk), rfl, Mr_of (by rw [s_M_cost, if_pos c_5, if_neg c_6]), by rw [ht]; exact hP, va_K.moved hW.alike hK, hD⟩, hS.F ht⟩) hS.2.2 d_M_cost_43
    · have c_5 : ¬ (0 ≤ more ∧ more ≤ 10000000) := c_5
      refine lv_bipush (v := -2) hx hb d_M_cost_25 (by decide) ?_
      exact W.iret (v := -2) hx hb hr (fun t ht hW => ⟨⟨-2, (28, bk, MW cs 0 z a bk), rfl, Mr_of (by rw [s_M_cost, if_neg c_5]), by rw [ht]; exact hP, va_K.moved hW.alike hK, hD⟩, hS.F ht⟩) hS.2.2 d_M_cost_27
  · have c_3 : ¬ (0 ≤ (nI j) ∧ (nI j) < nI (z 0)) := c_3
    exact absurd ⟨nI_pos' (by omega), (nI_ltI (by omega) (by omega)).mpr hj⟩ c_3
set_option maxHeartbeats 4000000 in
set_option maxRecDepth 100000 in
theorem c_M_thrown (l : Launch) (D : va_G) (cs : Nat → ClassId) (bk : Nat → Nat) (sz : Nat) (th : Int32) (z : Nat → Nat) (a : Nat → Nat → Int32)  : Met l y_M_thrown w_M_thrown ({ frames := 0, cells := 0, slots := 0, locals := 0 }) (va_Pc [.ref (bk (0))] (PB D classes (TY cs) 28 bk (MW cs th z a bk) sz)) (vp_Si (fun r => r = th)) 0 0 (fun _ => False) := by
  refine pw_entry (cc := b_M_thrown) (maxL := 1) (ret := (some .int)) (by decide +kernel) rfl (Nat.le_of_ble_eq_true rfl) ?_
  intro p_ e_ s m below_ meth_ c_ ls hx hb hr hml hts hown hlocks hin hsz hP hK hD hS hA hN hl
  have hw : ∀ w ∈ WA, w.before _ s = true := fun w h => hts w (List.mem_cons_of_mem _ h)
  have hown : s.vm.findClass "IssueRowsModel" = some m.cls := hown
  have hl : lv_has ls 1 [(0, .ref (bk (0)))] := hl
  refine lv_aload_n hx hb d_M_thrown_0 rfl (lv_at hl 0 rfl) ?_
  refine pw_get (ci := 7) (v := .int (th)) hx hb hw i_M hown hK hP (0) (by decide) rfl rfl 0 (by decide) (hw _ kF_M_92) rfl d_M_thrown_1 ?_
  exact W.iret (v := th) hx hb hr (fun t ht hW => ⟨th, rfl, rfl, ht⟩) (fun q h => by cases h) d_M_thrown_4

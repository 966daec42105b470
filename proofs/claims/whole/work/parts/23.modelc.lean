def s_M_rule (th : Int32) (z : Nat → Nat) (a : Nat → Nat → Int32) (x : Int32) (f : Int32) (b : Int32) (mo : Int32) : MS := (if 0 ≤ x ∧ x ≤ 9 then (if 1 ≤ f ∧ f ≤ 1000 then (if 1 ≤ b ∧ b ≤ 1000 then (if 0 ≤ mo ∧ mo ≤ 9 then (1, 0, z, va_up (va_up (va_up a 1 (upd (a 1) (x).toNatClampNeg (f))) 2 (upd (a 2) (x).toNatClampNeg (b))) 3 (upd (a 3) (x).toNatClampNeg (mo))) else (-2, 0, z, a)) else (-2, 0, z, a)) else (-2, 0, z, a)) else (-1, 0, z, a))
set_option maxHeartbeats 4000000 in
set_option maxRecDepth 100000 in
theorem c_M_rule (l : Launch) (D : va_G) (cs : Nat → ClassId) (bk : Nat → Nat) (sz : Nat) (th : Int32) (z : Nat → Nat) (a : Nat → Nat → Int32) (x f b mo : Int32) : Met l y_M_rule w_M_rule ({ frames := 1, cells := 0, slots := 0, locals := 22 }) (va_Pc [.ref (bk (0)), .int (x), .int (f), .int (b), .int (mo)] (PB D classes (TY cs) 28 bk (MW cs th z a bk) sz)) (va_Qi (Mr cs bk (s_M_rule th z a x f b mo)) (Wd D classes (TY cs) (AA 28 bk sz)) (AA 28 bk sz)) 0 0 (AA 28 bk sz) := by
  refine pw_entry (cc := b_M_rule) (maxL := 5) (ret := (some .int)) (by decide +kernel) rfl (Nat.le_of_ble_eq_true rfl) ?_
  intro p_ e_ s m below_ meth_ c_ ls hx hb hr hml hts hown hlocks hin hsz hP hK hD hS hA hN hl
  have hw : ∀ w ∈ WA, w.before _ s = true := fun w h => hts w (List.mem_cons_of_mem _ h)
  have hown : s.vm.findClass "IssueRowsModel" = some m.cls := hown
  have hl : lv_has ls 5 [(0, .ref (bk (0))), (1, .int (x)), (2, .int (f)), (3, .int (b)), (4, .int (mo))] := hl
  refine lv_aload_n hx hb d_M_rule_0 rfl (lv_at hl 0 rfl) ?_
  refine lv_iconst (v := 0) hx hb d_M_rule_1 (by decide) ?_
  refine pw_put (ci := 7) (v := .int (0)) (ty := .int) (fs' := [.int (0), .ref (bk (1)), .ref (bk (2)), .ref (bk (3)), .int (nI (z 0)), .ref (bk (4)), .ref (bk (5)), .ref (bk (6)), .ref (bk (7)), .ref (bk (8)), .ref (bk (9)), .ref (bk (10)), .ref (bk (11)), .ref (bk (12)), .ref (bk (13)), .ref (bk (14)), .ref (bk (15)), .ref (bk (16)), .ref (bk (17)), .ref (bk (18)), .ref (bk (19)), .ref (bk (20)), .int (nI (z 1)), .ref (bk (21)), .ref (bk (22)), .int (nI (z 2)), .int (nI (z 3)), .ref (bk (23)), .ref (bk (24)), .ref (bk (25)), .int (nI (z 4)), .ref (bk (26)), .ref (bk (27))]) hx hb hw i_M t_M t_M_ok n_M hown hK hP hD hS (0) (by decide) rfl rfl 0 (by decide) (hw _ kF_M_92) rfl (t_M_ok 0 (by decide)) rfl rfl (Nat.le_of_ble_eq_true rfl) rfl d_M_rule_2 (fun cw_1 H locs ecw_1 hP hD hS => ?_)
  obtain rfl : cw_1 = MW cs 0 z a bk := by rw [ecw_1]; exact MW_obj 0 z
  refine lv_iload_n hx hb d_M_rule_5 rfl (lv_at hl 1 rfl) ?_
  refine lv_iconst (v := 0) hx hb d_M_rule_6 (by decide) ?_
  refine lv_bipush (v := 9) hx hb d_M_rule_7 (by decide) ?_
  refine pw_callSi (va_runS (As := [.int (x), .int (0), .int (9)]) (rest := []) ⟨hx, hb, hml, hown, hw⟩ (c_M_in l D cs bk H.size 0 z a x 0 9) (cw_S 3 hw kM_M_97 kS_M_in kZ_M kC_M_in rfl rfl ⟨rfl, by decide, by decide, by decide +kernel⟩ ⟨Nat.le_of_ble_eq_true rfl, Nat.le_of_ble_eq_true rfl⟩) (pw_preS hN hK hP hD) rfl rfl hl.1 rfl (lv_room (Nat.le_of_ble_eq_true rfl)) d_M_rule_9 ⟨Nat.le_of_ble_eq_true rfl, Nat.le_of_ble_eq_true rfl⟩) (fun r_2 hr_2 => ?_)
  have hr_2 : r_2 = bI (0 ≤ x ∧ x ≤ 9) := hr_2
  subst hr_2
  refine pw_ifne (tgt := 17) hx hb d_M_rule_12 (by decide) (fun c_3 => ?_) (fun c_3 => ?_)
  · have c_3 : 0 ≤ x ∧ x ≤ 9 := c_3
    refine lv_iload_n hx hb d_M_rule_17 rfl (lv_at hl 2 rfl) ?_
    refine lv_iconst (v := 1) hx hb d_M_rule_18 (by decide) ?_
    refine lv_sipush (v := 1000) hx hb d_M_rule_19 (by decide) ?_
    refine pw_callSi (va_runS (As := [.int (f), .int (1), .int (1000)]) (rest := []) ⟨hx, hb, hml, hown, hw⟩ (c_M_in l D cs bk H.size 0 z a f 1 1000) (cw_S 3 hw kM_M_97 kS_M_in kZ_M kC_M_in rfl rfl ⟨rfl, by decide, by decide, by decide +kernel⟩ ⟨Nat.le_of_ble_eq_true rfl, Nat.le_of_ble_eq_true rfl⟩) (pw_preS hN hK hP hD) rfl rfl hl.1 rfl (lv_room (Nat.le_of_ble_eq_true rfl)) d_M_rule_22 ⟨Nat.le_of_ble_eq_true rfl, Nat.le_of_ble_eq_true rfl⟩) (fun r_4 hr_4 => ?_)
    have hr_4 : r_4 = bI (1 ≤ f ∧ f ≤ 1000) := hr_4
    subst hr_4
    refine pw_ifeq (tgt := 50) hx hb d_M_rule_25 (by decide) (fun c_5 => ?_) (fun c_5 => ?_)
    · have c_5 : ¬ (1 ≤ f ∧ f ≤ 1000) := c_5
      refine lv_bipush (v := -2) hx hb d_M_rule_50 (by decide) ?_
      exact W.iret (v := -2) hx hb hr (fun t ht hW => ⟨⟨-2, (28, bk, MW cs 0 z a bk), rfl, Mr_of (by rw [s_M_rule, if_pos c_3, if_neg c_5]), by rw [ht]; exact hP, va_K.moved hW.alike hK, hD⟩, hS.F ht⟩) hS.2.2 d_M_rule_52
    · have c_5 : 1 ≤ f ∧ f ≤ 1000 := c_5
      refine lv_iload_n hx hb d_M_rule_28 rfl (lv_at hl 3 rfl) ?_
      refine lv_iconst (v := 1) hx hb d_M_rule_29 (by decide) ?_
      refine lv_sipush (v := 1000) hx hb d_M_rule_30 (by decide) ?_
      refine pw_callSi (va_runS (As := [.int (b), .int (1), .int (1000)]) (rest := []) ⟨hx, hb, hml, hown, hw⟩ (c_M_in l D cs bk H.size 0 z a b 1 1000) (cw_S 3 hw kM_M_97 kS_M_in kZ_M kC_M_in rfl rfl ⟨rfl, by decide, by decide, by decide +kernel⟩ ⟨Nat.le_of_ble_eq_true rfl, Nat.le_of_ble_eq_true rfl⟩) (pw_preS hN hK hP hD) rfl rfl hl.1 rfl (lv_room (Nat.le_of_ble_eq_true rfl)) d_M_rule_33 ⟨Nat.le_of_ble_eq_true rfl, Nat.le_of_ble_eq_true rfl⟩) (fun r_6 hr_6 => ?_)
      have hr_6 : r_6 = bI (1 ≤ b ∧ b ≤ 1000) := hr_6
      subst hr_6
      refine pw_ifeq (tgt := 50) hx hb d_M_rule_36 (by decide) (fun c_7 => ?_) (fun c_7 => ?_)
      · have c_7 : ¬ (1 ≤ b ∧ b ≤ 1000) := c_7
        refine lv_bipush (v := -2) hx hb d_M_rule_50 (by decide) ?_
        exact W.iret (v := -2) hx hb hr (fun t ht hW => ⟨⟨-2, (28, bk, MW cs 0 z a bk), rfl, Mr_of (by rw [s_M_rule, if_pos c_3, if_pos c_5, if_neg c_7]), by rw [ht]; exact hP, va_K.moved hW.alike hK, hD⟩, hS.F ht⟩) hS.2.2 d_M_rule_52
      · have c_7 : 1 ≤ b ∧ b ≤ 1000 := c_7
        refine lv_iload hx hb d_M_rule_39 (lv_at hl 4 rfl) ?_
        refine lv_iconst (v := 0) hx hb d_M_rule_41 (by decide) ?_
        refine lv_bipush (v := 9) hx hb d_M_rule_42 (by decide) ?_
        refine pw_callSi (va_runS (As := [.int (mo), .int (0), .int (9)]) (rest := []) ⟨hx, hb, hml, hown, hw⟩ (c_M_in l D cs bk H.size 0 z a mo 0 9) (cw_S 3 hw kM_M_97 kS_M_in kZ_M kC_M_in rfl rfl ⟨rfl, by decide, by decide, by decide +kernel⟩ ⟨Nat.le_of_ble_eq_true rfl, Nat.le_of_ble_eq_true rfl⟩) (pw_preS hN hK hP hD) rfl rfl hl.1 rfl (lv_room (Nat.le_of_ble_eq_true rfl)) d_M_rule_44 ⟨Nat.le_of_ble_eq_true rfl, Nat.le_of_ble_eq_true rfl⟩) (fun r_8 hr_8 => ?_)
        have hr_8 : r_8 = bI (0 ≤ mo ∧ mo ≤ 9) := hr_8
        subst hr_8
        refine pw_ifne (tgt := 53) hx hb d_M_rule_47 (by decide) (fun c_9 => ?_) (fun c_9 => ?_)
        · have c_9 : 0 ≤ mo ∧ mo ≤ 9 := c_9
          refine lv_aload_n hx hb d_M_rule_53 rfl (lv_at hl 0 rfl) ?_
          refine pw_get (ci := 7) (v := .ref (bk (1))) hx hb hw i_M hown hK hP (0) (by decide) rfl rfl 1 (by decide) (hw _ kF_M_7) rfl d_M_rule_54 ?_
          refine lv_iload_n hx hb d_M_rule_57 rfl (lv_at hl 1 rfl) ?_
          refine lv_iload_n hx hb d_M_rule_58 rfl (lv_at hl 2 rfl) ?_
          refine pw_iastC (n := 10) (f := (a 1)) hx hb hK hP hD hS 0 (1) (by decide) rfl rfl (vp_in_iff.mpr (by have h7 := c_3; simp only [Int32.lt_iff_toInt_lt, Int32.le_iff_toInt_le, ← Int32.toInt_inj, T0, T1, T2, T3, T4, T5, T6, T7, T8, T9, T10, T40, T50, T99, T100, T200, T999, T1000, T9999, T1000000, T10000000, T1000000000, Tm1] at h7 ⊢; omega)) d_M_rule_59 (fun cw_10 H locs ecw_10 hP hD hS => ?_)
          obtain rfl : cw_10 = MW cs 0 z (va_up a 1 (upd (a 1) (x).toNatClampNeg (f))) bk := by rw [ecw_10]; exact MW_arr 1 (by decide) (upd (a 1) (x).toNatClampNeg (f))
          refine lv_aload_n hx hb d_M_rule_60 rfl (lv_at hl 0 rfl) ?_
          refine pw_get (ci := 7) (v := .ref (bk (2))) hx hb hw i_M hown hK hP (0) (by decide) rfl rfl 2 (by decide) (hw _ kF_M_13) rfl d_M_rule_61 ?_
          refine lv_iload_n hx hb d_M_rule_64 rfl (lv_at hl 1 rfl) ?_
          refine lv_iload_n hx hb d_M_rule_65 rfl (lv_at hl 3 rfl) ?_
          refine pw_iastC (n := 10) (f := (a 2)) hx hb hK hP hD hS 0 (2) (by decide) rfl rfl (vp_in_iff.mpr (by have h7 := c_3; simp only [Int32.lt_iff_toInt_lt, Int32.le_iff_toInt_le, ← Int32.toInt_inj, T0, T1, T2, T3, T4, T5, T6, T7, T8, T9, T10, T40, T50, T99, T100, T200, T999, T1000, T9999, T1000000, T10000000, T1000000000, Tm1] at h7 ⊢; omega)) d_M_rule_66 (fun cw_11 H locs ecw_11 hP hD hS => ?_)
          obtain rfl : cw_11 = MW cs 0 z (va_up (va_up a 1 (upd (a 1) (x).toNatClampNeg (f))) 2 (upd (a 2) (x).toNatClampNeg (b))) bk := by rw [ecw_11]; exact MW_arr 2 (by decide) (upd (a 2) (x).toNatClampNeg (b))
          refine lv_aload_n hx hb d_M_rule_67 rfl (lv_at hl 0 rfl) ?_
          refine pw_get (ci := 7) (v := .ref (bk (3))) hx hb hw i_M hown hK hP (0) (by decide) rfl rfl 3 (by decide) (hw _ kF_M_16) rfl d_M_rule_68 ?_
          refine lv_iload_n hx hb d_M_rule_71 rfl (lv_at hl 1 rfl) ?_
          refine lv_iload hx hb d_M_rule_72 (lv_at hl 4 rfl) ?_
          refine pw_iastC (n := 10) (f := (a 3)) hx hb hK hP hD hS 0 (3) (by decide) rfl rfl (vp_in_iff.mpr (by have h7 := c_3; simp only [Int32.lt_iff_toInt_lt, Int32.le_iff_toInt_le, ← Int32.toInt_inj, T0, T1, T2, T3, T4, T5, T6, T7, T8, T9, T10, T40, T50, T99, T100, T200, T999, T1000, T9999, T1000000, T10000000, T1000000000, Tm1] at h7 ⊢; omega)) d_M_rule_74 (fun cw_12 H locs ecw_12 hP hD hS => ?_)
          obtain rfl : cw_12 = MW cs 0 z (va_up (va_up (va_up a 1 (upd (a 1) (x).toNatClampNeg (f))) 2 (upd (a 2) (x).toNatClampNeg (b))) 3 (upd (a 3) (x).toNatClampNeg (mo))) bk := by rw [ecw_12]; exact MW_arr 3 (by decide) (upd (a 3) (x).toNatClampNeg (mo))
          refine lv_iconst (v := 1) hx hb d_M_rule_75 (by decide) ?_
          exact W.iret (v := 1) hx hb hr (fun t ht hW => ⟨⟨1, (28, bk, MW cs 0 z (va_up (va_up (va_up a 1 (upd (a 1) (x).toNatClampNeg (f))) 2 (upd (a 2) (x).toNatClampNeg (b))) 3 (upd (a 3) (x).toNatClampNeg (mo))) bk), rfl, Mr_of (by rw [s_M_rule, if_pos c_3, if_pos c_5, if_pos c_7, if_pos c_9]), by rw [ht]; exact hP, va_K.moved hW.alike hK, hD⟩, hS.F ht⟩) hS.2.2 d_M_rule_76
        · have c_9 : ¬ (0 ≤ mo ∧ mo ≤ 9) := c_9
          refine lv_bipush (v := -2) hx hb d_M_rule_50 (by decide) ?_
          exact W.iret (v := -2) hx hb hr (fun t ht hW => ⟨⟨-2, (28, bk, MW cs 0 z a bk), rfl, Mr_of (by rw [s_M_rule, if_pos c_3, if_pos c_5, if_pos c_7, if_neg c_9]), by rw [ht]; exact hP, va_K.moved hW.alike hK, hD⟩, hS.F ht⟩) hS.2.2 d_M_rule_52
  · have c_3 : ¬ (0 ≤ x ∧ x ≤ 9) := c_3
    refine lv_iconst (v := -1) hx hb d_M_rule_15 (by decide) ?_
    exact W.iret (v := -1) hx hb hr (fun t ht hW => ⟨⟨-1, (28, bk, MW cs 0 z a bk), rfl, Mr_of (by rw [s_M_rule, if_neg c_3]), by rw [ht]; exact hP, va_K.moved hW.alike hK, hD⟩, hS.F ht⟩) hS.2.2 d_M_rule_16
def s_M_checkIn_out (th : Int32) (z : Nat → Nat) (a : Nat → Nat → Int32) (x : Int32) (many : Int32) (day : Int32) : MS := (-1, 0, z, a)
set_option maxHeartbeats 4000000 in
set_option maxRecDepth 100000 in
theorem c_M_checkIn_out (l : Launch) (D : va_G) (cs : Nat → ClassId) (bk : Nat → Nat) (sz : Nat) (th : Int32) (z : Nat → Nat) (a : Nat → Nat → Int32) (hz : z 0 ≤ 200) (x : Int32) (ho : ¬ (0 ≤ x ∧ x < nI (z 0))) (many day : Int32) : Met l y_M_checkIn w_M_checkIn ({ frames := 2, cells := 0, slots := 0, locals := 43 }) (va_Pc [.ref (bk (0)), .int (x), .int (many), .int (day)] (PB D classes (TY cs) 28 bk (MW cs th z a bk) sz)) (va_Qi (Mr cs bk (s_M_checkIn_out th z a x many day)) (Wd D classes (TY cs) (AA 28 bk sz)) (AA 28 bk sz)) 0 0 (AA 28 bk sz) := by
  refine pw_entry (cc := b_M_checkIn) (maxL := 5) (ret := (some .int)) (by decide +kernel) rfl (Nat.le_of_ble_eq_true rfl) ?_
  intro p_ e_ s m below_ meth_ c_ ls hx hb hr hml hts hown hlocks hin hsz hP hK hD hS hA hN hl
  have hw : ∀ w ∈ WA, w.before _ s = true := fun w h => hts w (List.mem_cons_of_mem _ h)
  have hown : s.vm.findClass "IssueRowsModel" = some m.cls := hown
  have hl : lv_has ls 5 [(0, .ref (bk (0))), (1, .int (x)), (2, .int (many)), (3, .int (day))] := hl
  refine lv_aload_n hx hb d_M_checkIn_0 rfl (lv_at hl 0 rfl) ?_
  refine lv_iconst (v := 0) hx hb d_M_checkIn_1 (by decide) ?_
  refine pw_put (ci := 7) (v := .int (0)) (ty := .int) (fs' := [.int (0), .ref (bk (1)), .ref (bk (2)), .ref (bk (3)), .int (nI (z 0)), .ref (bk (4)), .ref (bk (5)), .ref (bk (6)), .ref (bk (7)), .ref (bk (8)), .ref (bk (9)), .ref (bk (10)), .ref (bk (11)), .ref (bk (12)), .ref (bk (13)), .ref (bk (14)), .ref (bk (15)), .ref (bk (16)), .ref (bk (17)), .ref (bk (18)), .ref (bk (19)), .ref (bk (20)), .int (nI (z 1)), .ref (bk (21)), .ref (bk (22)), .int (nI (z 2)), .int (nI (z 3)), .ref (bk (23)), .ref (bk (24)), .ref (bk (25)), .int (nI (z 4)), .ref (bk (26)), .ref (bk (27))]) hx hb hw i_M t_M t_M_ok n_M hown hK hP hD hS (0) (by decide) rfl rfl 0 (by decide) (hw _ kF_M_92) rfl (t_M_ok 0 (by decide)) rfl rfl (Nat.le_of_ble_eq_true rfl) rfl d_M_checkIn_2 (fun cw_1 H locs ecw_1 hP hD hS => ?_)
  obtain rfl : cw_1 = MW cs 0 z a bk := by rw [ecw_1]; exact MW_obj 0 z
  refine lv_aload_n hx hb d_M_checkIn_5 rfl (lv_at hl 0 rfl) ?_
  refine lv_iload_n hx hb d_M_checkIn_6 rfl (lv_at hl 1 rfl) ?_
  refine pw_callSi (va_runV (As := [.int (x)]) (rest := []) ⟨hx, hb, hml, hown, hw⟩ (c_M_isIssue l D cs bk H.size 0 z a hz x) (cw_V 1 hw kM_M_115 kI_M_isIssue kV_M_isIssue kZ_M kC_M_isIssue rfl rfl ⟨rfl, by decide, by decide, by decide +kernel⟩ ⟨Nat.le_of_ble_eq_true rfl, Nat.le_of_ble_eq_true rfl⟩) (pw_preV hN hK hP hD (0) (by decide) rfl rfl) rfl rfl hl.1 rfl (lv_room (Nat.le_of_ble_eq_true rfl)) d_M_checkIn_7 ⟨Nat.le_of_ble_eq_true rfl, Nat.le_of_ble_eq_true rfl⟩) (fun r_2 hr_2 => ?_)
  have hr_2 : r_2 = bI (0 ≤ x ∧ x < nI (z 0)) := hr_2
  subst hr_2
  refine pw_ifne (tgt := 15) hx hb d_M_checkIn_10 (by decide) (fun c_3 => ?_) (fun c_3 => ?_)
  · have c_3 : 0 ≤ x ∧ x < nI (z 0) := c_3
    exact absurd c_3 ho
  · have c_3 : ¬ (0 ≤ x ∧ x < nI (z 0)) := c_3
    refine lv_iconst (v := -1) hx hb d_M_checkIn_13 (by decide) ?_
    exact W.iret (v := -1) hx hb hr (fun t ht hW => ⟨⟨-1, (28, bk, MW cs 0 z a bk), rfl, Mr_of (by rw [s_M_checkIn_out]), by rw [ht]; exact hP, va_K.moved hW.alike hK, hD⟩, hS.F ht⟩) hS.2.2 d_M_checkIn_14
def s_M_checkIn (th : Int32) (z : Nat → Nat) (a : Nat → Nat → Int32) (j : Nat) (many : Int32) (day : Int32) : MS := (if 1 ≤ many ∧ many ≤ 99 then (if 0 ≤ day ∧ day ≤ 1000000 then (if ((a 6) (j)) = 0 then (if ((a 6) (j)) = 0 then (if ((a 6) (j)) = 0 then (0, 0, va_up z 4 (tlz z), va_up (va_up (va_up (va_up (va_up a 6 (upd (a 6) (j) (3))) 10 (upd (a 10) (j) (many))) 11 (upd (a 11) (j) (day))) 26 (tla z (a 26) 1)) 27 (tla z (a 27) (nI j))) else (1, 0, va_up z 4 (tlz z), va_up (va_up (va_up (va_up (va_up a 6 (upd (a 6) (j) (3))) 10 (upd (a 10) (j) (many))) 11 (upd (a 11) (j) (day))) 26 (tla z (a 26) 1)) 27 (tla z (a 27) (nI j)))) else (if ((a 6) (j)) = 4 then (if ((a 6) (j)) = 0 then (0, 0, va_up z 4 (tlz z), va_up (va_up (va_up (va_up (va_up a 6 (upd (a 6) (j) (3))) 10 (upd (a 10) (j) (many))) 11 (upd (a 11) (j) (day))) 26 (tla z (a 26) 2)) 27 (tla z (a 27) (nI j))) else (1, 0, va_up z 4 (tlz z), va_up (va_up (va_up (va_up (va_up a 6 (upd (a 6) (j) (3))) 10 (upd (a 10) (j) (many))) 11 (upd (a 11) (j) (day))) 26 (tla z (a 26) 2)) 27 (tla z (a 27) (nI j)))) else (if day ≤ ((a 7) (j)) then (if ((a 6) (j)) = 0 then (0, 0, z, va_up (va_up (va_up a 6 (upd (a 6) (j) (3))) 10 (upd (a 10) (j) (many))) 11 (upd (a 11) (j) (day))) else (1, 0, z, va_up (va_up (va_up a 6 (upd (a 6) (j) (3))) 10 (upd (a 10) (j) (many))) 11 (upd (a 11) (j) (day)))) else (if ((a 6) (j)) = 0 then (0, 0, va_up z 4 (tlz z), va_up (va_up (va_up (va_up (va_up a 6 (upd (a 6) (j) (3))) 10 (upd (a 10) (j) (many))) 11 (upd (a 11) (j) (day))) 26 (tla z (a 26) 2)) 27 (tla z (a 27) (nI j))) else (1, 0, va_up z 4 (tlz z), va_up (va_up (va_up (va_up (va_up a 6 (upd (a 6) (j) (3))) 10 (upd (a 10) (j) (many))) 11 (upd (a 11) (j) (day))) 26 (tla z (a 26) 2)) 27 (tla z (a 27) (nI j))))))) else (if ((a 6) (j)) = 1 then (if ((a 6) (j)) = 0 then (if ((a 6) (j)) = 0 then (0, 0, va_up z 4 (tlz z), va_up (va_up (va_up (va_up (va_up a 6 (upd (a 6) (j) (3))) 10 (upd (a 10) (j) (many))) 11 (upd (a 11) (j) (day))) 26 (tla z (a 26) 1)) 27 (tla z (a 27) (nI j))) else (1, 0, va_up z 4 (tlz z), va_up (va_up (va_up (va_up (va_up a 6 (upd (a 6) (j) (3))) 10 (upd (a 10) (j) (many))) 11 (upd (a 11) (j) (day))) 26 (tla z (a 26) 1)) 27 (tla z (a 27) (nI j)))) else (if ((a 6) (j)) = 4 then (if ((a 6) (j)) = 0 then (0, 0, va_up z 4 (tlz z), va_up (va_up (va_up (va_up (va_up a 6 (upd (a 6) (j) (3))) 10 (upd (a 10) (j) (many))) 11 (upd (a 11) (j) (day))) 26 (tla z (a 26) 2)) 27 (tla z (a 27) (nI j))) else (1, 0, va_up z 4 (tlz z), va_up (va_up (va_up (va_up (va_up a 6 (upd (a 6) (j) (3))) 10 (upd (a 10) (j) (many))) 11 (upd (a 11) (j) (day))) 26 (tla z (a 26) 2)) 27 (tla z (a 27) (nI j)))) else (if day ≤ ((a 7) (j)) then (if ((a 6) (j)) = 0 then (0, 0, z, va_up (va_up (va_up a 6 (upd (a 6) (j) (3))) 10 (upd (a 10) (j) (many))) 11 (upd (a 11) (j) (day))) else (1, 0, z, va_up (va_up (va_up a 6 (upd (a 6) (j) (3))) 10 (upd (a 10) (j) (many))) 11 (upd (a 11) (j) (day)))) else (if ((a 6) (j)) = 0 then (0, 0, va_up z 4 (tlz z), va_up (va_up (va_up (va_up (va_up a 6 (upd (a 6) (j) (3))) 10 (upd (a 10) (j) (many))) 11 (upd (a 11) (j) (day))) 26 (tla z (a 26) 2)) 27 (tla z (a 27) (nI j))) else (1, 0, va_up z 4 (tlz z), va_up (va_up (va_up (va_up (va_up a 6 (upd (a 6) (j) (3))) 10 (upd (a 10) (j) (many))) 11 (upd (a 11) (j) (day))) 26 (tla z (a 26) 2)) 27 (tla z (a 27) (nI j))))))) else (if ((a 6) (j)) = 2 then (if ((a 6) (j)) = 0 then (if ((a 6) (j)) = 0 then (0, 0, va_up z 4 (tlz z), va_up (va_up (va_up (va_up (va_up a 6 (upd (a 6) (j) (3))) 10 (upd (a 10) (j) (many))) 11 (upd (a 11) (j) (day))) 26 (tla z (a 26) 1)) 27 (tla z (a 27) (nI j))) else (1, 0, va_up z 4 (tlz z), va_up (va_up (va_up (va_up (va_up a 6 (upd (a 6) (j) (3))) 10 (upd (a 10) (j) (many))) 11 (upd (a 11) (j) (day))) 26 (tla z (a 26) 1)) 27 (tla z (a 27) (nI j)))) else (if ((a 6) (j)) = 4 then (if ((a 6) (j)) = 0 then (0, 0, va_up z 4 (tlz z), va_up (va_up (va_up (va_up (va_up a 6 (upd (a 6) (j) (3))) 10 (upd (a 10) (j) (many))) 11 (upd (a 11) (j) (day))) 26 (tla z (a 26) 2)) 27 (tla z (a 27) (nI j))) else (1, 0, va_up z 4 (tlz z), va_up (va_up (va_up (va_up (va_up a 6 (upd (a 6) (j) (3))) 10 (upd (a 10) (j) (many))) 11 (upd (a 11) (j) (day))) 26 (tla z (a 26) 2)) 27 (tla z (a 27) (nI j)))) else (if day ≤ ((a 7) (j)) then (if ((a 6) (j)) = 0 then (0, 0, z, va_up (va_up (va_up a 6 (upd (a 6) (j) (3))) 10 (upd (a 10) (j) (many))) 11 (upd (a 11) (j) (day))) else (1, 0, z, va_up (va_up (va_up a 6 (upd (a 6) (j) (3))) 10 (upd (a 10) (j) (many))) 11 (upd (a 11) (j) (day)))) else (if ((a 6) (j)) = 0 then (0, 0, va_up z 4 (tlz z), va_up (va_up (va_up (va_up (va_up a 6 (upd (a 6) (j) (3))) 10 (upd (a 10) (j) (many))) 11 (upd (a 11) (j) (day))) 26 (tla z (a 26) 2)) 27 (tla z (a 27) (nI j))) else (1, 0, va_up z 4 (tlz z), va_up (va_up (va_up (va_up (va_up a 6 (upd (a 6) (j) (3))) 10 (upd (a 10) (j) (many))) 11 (upd (a 11) (j) (day))) 26 (tla z (a 26) 2)) 27 (tla z (a 27) (nI j))))))) else (if ((a 6) (j)) = 4 then (if ((a 6) (j)) = 0 then (if ((a 6) (j)) = 0 then (0, 0, va_up z 4 (tlz z), va_up (va_up (va_up (va_up (va_up a 6 (upd (a 6) (j) (3))) 10 (upd (a 10) (j) (many))) 11 (upd (a 11) (j) (day))) 26 (tla z (a 26) 1)) 27 (tla z (a 27) (nI j))) else (1, 0, va_up z 4 (tlz z), va_up (va_up (va_up (va_up (va_up a 6 (upd (a 6) (j) (3))) 10 (upd (a 10) (j) (many))) 11 (upd (a 11) (j) (day))) 26 (tla z (a 26) 1)) 27 (tla z (a 27) (nI j)))) else (if ((a 6) (j)) = 4 then (if ((a 6) (j)) = 0 then (0, 0, va_up z 4 (tlz z), va_up (va_up (va_up (va_up (va_up a 6 (upd (a 6) (j) (3))) 10 (upd (a 10) (j) (many))) 11 (upd (a 11) (j) (day))) 26 (tla z (a 26) 2)) 27 (tla z (a 27) (nI j))) else (1, 0, va_up z 4 (tlz z), va_up (va_up (va_up (va_up (va_up a 6 (upd (a 6) (j) (3))) 10 (upd (a 10) (j) (many))) 11 (upd (a 11) (j) (day))) 26 (tla z (a 26) 2)) 27 (tla z (a 27) (nI j)))) else (if day ≤ ((a 7) (j)) then (if ((a 6) (j)) = 0 then (0, 0, z, va_up (va_up (va_up a 6 (upd (a 6) (j) (3))) 10 (upd (a 10) (j) (many))) 11 (upd (a 11) (j) (day))) else (1, 0, z, va_up (va_up (va_up a 6 (upd (a 6) (j) (3))) 10 (upd (a 10) (j) (many))) 11 (upd (a 11) (j) (day)))) else (if ((a 6) (j)) = 0 then (0, 0, va_up z 4 (tlz z), va_up (va_up (va_up (va_up (va_up a 6 (upd (a 6) (j) (3))) 10 (upd (a 10) (j) (many))) 11 (upd (a 11) (j) (day))) 26 (tla z (a 26) 2)) 27 (tla z (a 27) (nI j))) else (1, 0, va_up z 4 (tlz z), va_up (va_up (va_up (va_up (va_up a 6 (upd (a 6) (j) (3))) 10 (upd (a 10) (j) (many))) 11 (upd (a 11) (j) (day))) 26 (tla z (a 26) 2)) 27 (tla z (a 27) (nI j))))))) else (-3, 0, z, a))))) else (-2, 0, z, a)) else (-2, 0, z, a))
set_option maxHeartbeats 4000000 in
set_option maxRecDepth 100000 in
theorem c_M_checkIn (l : Launch) (D : va_G) (cs : Nat → ClassId) (bk : Nat → Nat) (sz : Nat) (th : Int32) (z : Nat → Nat) (a : Nat → Nat → Int32) (hz : z 0 ≤ 200) (j : Nat) (hj : j < z 0) (hz4 : z 4 ≤ 100) (many day : Int32) : Met l y_M_checkIn w_M_checkIn ({ frames := 2, cells := 0, slots := 0, locals := 43 }) (va_Pc [.ref (bk (0)), .int (nI j), .int (many), .int (day)] (PB D classes (TY cs) 28 bk (MW cs th z a bk) sz)) (va_Qi (Mr cs bk (s_M_checkIn th z a j many day)) (Wd D classes (TY cs) (AA 28 bk sz)) (AA 28 bk sz)) 0 0 (AA 28 bk sz) := by
  refine pw_entry (cc := b_M_checkIn) (maxL := 5) (ret := (some .int)) (by decide +kernel) rfl (Nat.le_of_ble_eq_true rfl) ?_
  intro p_ e_ s m below_ meth_ c_ ls hx hb hr hml hts hown hlocks hin hsz hP hK hD hS hA hN hl
  have hw : ∀ w ∈ WA, w.before _ s = true := fun w h => hts w (List.mem_cons_of_mem _ h)
  have hown : s.vm.findClass "IssueRowsModel" = some m.cls := hown
  have hl : lv_has ls 5 [(0, .ref (bk (0))), (1, .int (nI j)), (2, .int (many)), (3, .int (day))] := hl
  refine lv_aload_n hx hb d_M_checkIn_0 rfl (lv_at hl 0 rfl) ?_
  refine lv_iconst (v := 0) hx hb d_M_checkIn_1 (by decide) ?_
  refine pw_put (ci := 7) (v := .int (0)) (ty := .int) (fs' := [.int (0), .ref (bk (1)), .ref (bk (2)), .ref (bk (3)), .int (nI (z 0)), .ref (bk (4)), .ref (bk (5)), .ref (bk (6)), .ref (bk (7)), .ref (bk (8)), .ref (bk (9)), .ref (bk (10)), .ref (bk (11)), .ref (bk (12)), .ref (bk (13)), .ref (bk (14)), .ref (bk (15)), .ref (bk (16)), .ref (bk (17)), .ref (bk (18)), .ref (bk (19)), .ref (bk (20)), .int (nI (z 1)), .ref (bk (21)), .ref (bk (22)), .int (nI (z 2)), .int (nI (z 3)), .ref (bk (23)), .ref (bk (24)), .ref (bk (25)), .int (nI (z 4)), .ref (bk (26)), .ref (bk (27))]) hx hb hw i_M t_M t_M_ok n_M hown hK hP hD hS (0) (by decide) rfl rfl 0 (by decide) (hw _ kF_M_92) rfl (t_M_ok 0 (by decide)) rfl rfl (Nat.le_of_ble_eq_true rfl) rfl d_M_checkIn_2 (fun cw_1 H locs ecw_1 hP hD hS => ?_)
  obtain rfl : cw_1 = MW cs 0 z a bk := by rw [ecw_1]; exact MW_obj 0 z
  refine lv_aload_n hx hb d_M_checkIn_5 rfl (lv_at hl 0 rfl) ?_
  refine lv_iload_n hx hb d_M_checkIn_6 rfl (lv_at hl 1 rfl) ?_
  refine pw_callSi (va_runV (As := [.int (nI j)]) (rest := []) ⟨hx, hb, hml, hown, hw⟩ (c_M_isIssue l D cs bk H.size 0 z a hz (nI j)) (cw_V 1 hw kM_M_115 kI_M_isIssue kV_M_isIssue kZ_M kC_M_isIssue rfl rfl ⟨rfl, by decide, by decide, by decide +kernel⟩ ⟨Nat.le_of_ble_eq_true rfl, Nat.le_of_ble_eq_true rfl⟩) (pw_preV hN hK hP hD (0) (by decide) rfl rfl) rfl rfl hl.1 rfl (lv_room (Nat.le_of_ble_eq_true rfl)) d_M_checkIn_7 ⟨Nat.le_of_ble_eq_true rfl, Nat.le_of_ble_eq_true rfl⟩) (fun r_2 hr_2 => ?_)
  have hr_2 : r_2 = bI (0 ≤ (nI j) ∧ (nI j) < nI (z 0)) := hr_2
  subst hr_2
  refine pw_ifne (tgt := 15) hx hb d_M_checkIn_10 (by decide) (fun c_3 => ?_) (fun c_3 => ?_)
  · have c_3 : 0 ≤ (nI j) ∧ (nI j) < nI (z 0) := c_3
    refine lv_iload_n hx hb d_M_checkIn_15 rfl (lv_at hl 2 rfl) ?_
    refine lv_iconst (v := 1) hx hb d_M_checkIn_16 (by decide) ?_
    refine lv_bipush (v := 99) hx hb d_M_checkIn_17 (by decide) ?_
    refine pw_callSi (va_runS (As := [.int (many), .int (1), .int (99)]) (rest := []) ⟨hx, hb, hml, hown, hw⟩ (c_M_in l D cs bk H.size 0 z a many 1 99) (cw_S 3 hw kM_M_97 kS_M_in kZ_M kC_M_in rfl rfl ⟨rfl, by decide, by decide, by decide +kernel⟩ ⟨Nat.le_of_ble_eq_true rfl, Nat.le_of_ble_eq_true rfl⟩) (pw_preS hN hK hP hD) rfl rfl hl.1 rfl (lv_room (Nat.le_of_ble_eq_true rfl)) d_M_checkIn_19 ⟨Nat.le_of_ble_eq_true rfl, Nat.le_of_ble_eq_true rfl⟩) (fun r_4 hr_4 => ?_)
    have hr_4 : r_4 = bI (1 ≤ many ∧ many ≤ 99) := hr_4
    subst hr_4
    refine pw_ifeq (tgt := 32) hx hb d_M_checkIn_22 (by decide) (fun c_5 => ?_) (fun c_5 => ?_)
    · have c_5 : ¬ (1 ≤ many ∧ many ≤ 99) := c_5
      refine lv_bipush (v := -2) hx hb d_M_checkIn_32 (by decide) ?_
      exact W.iret (v := -2) hx hb hr (fun t ht hW => ⟨⟨-2, (28, bk, MW cs 0 z a bk), rfl, Mr_of (by rw [s_M_checkIn, if_neg c_5]), by rw [ht]; exact hP, va_K.moved hW.alike hK, hD⟩, hS.F ht⟩) hS.2.2 d_M_checkIn_34
    · have c_5 : 1 ≤ many ∧ many ≤ 99 := c_5
      refine lv_iload_n hx hb d_M_checkIn_25 rfl (lv_at hl 3 rfl) ?_
      refine pw_callSi (va_runS (As := [.int (day)]) (rest := []) ⟨hx, hb, hml, hown, hw⟩ (c_M_isDay l D cs bk H.size 0 z a day) (cw_S 1 hw kM_M_107 kS_M_isDay kZ_M kC_M_isDay rfl rfl ⟨rfl, by decide, by decide, by decide +kernel⟩ ⟨Nat.le_of_ble_eq_true rfl, Nat.le_of_ble_eq_true rfl⟩) (pw_preS hN hK hP hD) rfl rfl hl.1 rfl (lv_room (Nat.le_of_ble_eq_true rfl)) d_M_checkIn_26 ⟨Nat.le_of_ble_eq_true rfl, Nat.le_of_ble_eq_true rfl⟩) (fun r_6 hr_6 => ?_)
      have hr_6 : r_6 = bI (0 ≤ day ∧ day ≤ 1000000) := hr_6
      subst hr_6
      refine pw_ifne (tgt := 35) hx hb d_M_checkIn_29 (by decide) (fun c_7 => ?_) (fun c_7 => ?_)
      · have c_7 : 0 ≤ day ∧ day ≤ 1000000 := c_7
        refine lv_aload_n hx hb d_M_checkIn_35 rfl (lv_at hl 0 rfl) ?_
        refine pw_get (ci := 7) (v := .ref (bk (6))) hx hb hw i_M hown hK hP (0) (by decide) rfl rfl 7 (by decide) (hw _ kF_M_25) rfl d_M_checkIn_36 ?_
        refine lv_iload_n hx hb d_M_checkIn_39 rfl (lv_at hl 1 rfl) ?_
        refine pw_iald (n := 200) (f := (a 6)) hx hb hK hP 0 (6) (by decide) rfl rfl (j) rfl (by omega) (by decide) d_M_checkIn_40 ?_
        refine lv_istore (lv' := [(4, .int ((a 6) (j))), (0, .ref (bk (0))), (1, .int (nI j)), (2, .int (many)), (3, .int (day))]) hx hb d_M_checkIn_41 hl (by decide) rfl (fun ls hl => ?_)
        refine lv_iload hx hb d_M_checkIn_43 (lv_at hl 0 rfl) ?_
        refine lv_if_eq (tgt := 69) hx hb d_M_checkIn_45 (by decide) (fun c_8 => ?_) (fun c_8 => ?_)
        · have c_8 : ((a 6) (j)) = 0 := c_8
          refine lv_aload_n hx hb d_M_checkIn_69 rfl (lv_at hl 1 rfl) ?_
          refine pw_get (ci := 7) (v := .ref (bk (6))) hx hb hw i_M hown hK hP (0) (by decide) rfl rfl 7 (by decide) (hw _ kF_M_25) rfl d_M_checkIn_70 ?_
          refine lv_iload_n hx hb d_M_checkIn_73 rfl (lv_at hl 2 rfl) ?_
          refine lv_iconst (v := 3) hx hb d_M_checkIn_74 (by decide) ?_
          refine pw_iast (n := 200) (f := (a 6)) hx hb hK hP hD hS 0 (6) (by decide) rfl rfl (j) rfl (by omega) (by decide) d_M_checkIn_75 (fun cw_9 H locs ecw_9 hP hD hS => ?_)
          obtain rfl : cw_9 = MW cs 0 z (va_up a 6 (upd (a 6) (j) (3))) bk := by rw [ecw_9]; exact MW_arr 6 (by decide) (upd (a 6) (j) (3))
          refine lv_aload_n hx hb d_M_checkIn_76 rfl (lv_at hl 1 rfl) ?_
          refine pw_get (ci := 7) (v := .ref (bk (10))) hx hb hw i_M hown hK hP (0) (by decide) rfl rfl 11 (by decide) (hw _ kF_M_37) rfl d_M_checkIn_77 ?_
          refine lv_iload_n hx hb d_M_checkIn_80 rfl (lv_at hl 2 rfl) ?_
          refine lv_iload_n hx hb d_M_checkIn_81 rfl (lv_at hl 3 rfl) ?_
          refine pw_iast (n := 200) (f := (a 10)) hx hb hK hP hD hS 0 (10) (by decide) rfl rfl (j) rfl (by omega) (by decide) d_M_checkIn_82 (fun cw_10 H locs ecw_10 hP hD hS => ?_)
          obtain rfl : cw_10 = MW cs 0 z (va_up (va_up a 6 (upd (a 6) (j) (3))) 10 (upd (a 10) (j) (many))) bk := by rw [ecw_10]; exact MW_arr 10 (by decide) (upd (a 10) (j) (many))
          refine lv_aload_n hx hb d_M_checkIn_83 rfl (lv_at hl 1 rfl) ?_
          refine pw_get (ci := 7) (v := .ref (bk (11))) hx hb hw i_M hown hK hP (0) (by decide) rfl rfl 12 (by decide) (hw _ kF_M_40) rfl d_M_checkIn_84 ?_
          refine lv_iload_n hx hb d_M_checkIn_87 rfl (lv_at hl 2 rfl) ?_
          refine lv_iload_n hx hb d_M_checkIn_88 rfl (lv_at hl 4 rfl) ?_
          refine pw_iast (n := 200) (f := (a 11)) hx hb hK hP hD hS 0 (11) (by decide) rfl rfl (j) rfl (by omega) (by decide) d_M_checkIn_89 (fun cw_11 H locs ecw_11 hP hD hS => ?_)
          obtain rfl : cw_11 = MW cs 0 z (va_up (va_up (va_up a 6 (upd (a 6) (j) (3))) 10 (upd (a 10) (j) (many))) 11 (upd (a 11) (j) (day))) bk := by rw [ecw_11]; exact MW_arr 11 (by decide) (upd (a 11) (j) (day))
          refine lv_iload hx hb d_M_checkIn_90 (lv_at hl 0 rfl) ?_
          refine lv_if_ne (tgt := 104) hx hb d_M_checkIn_92 (by decide) (fun c_12 => ?_) (fun c_12 => ?_)
          · have c_12 : ¬ ((a 6) (j)) = 0 := c_12
            refine lv_iload hx hb d_M_checkIn_104 (lv_at hl 0 rfl) ?_
            refine lv_iconst (v := 4) hx hb d_M_checkIn_106 (by decide) ?_
            refine lv_icmp_eq (tgt := 120) hx hb d_M_checkIn_107 (by decide) (fun c_13 => ?_) (fun c_13 => ?_)
            · have c_13 : ((a 6) (j)) = 4 := c_13
              refine lv_aload_n hx hb d_M_checkIn_120 rfl (lv_at hl 1 rfl) ?_
              refine lv_iconst (v := 2) hx hb d_M_checkIn_121 (by decide) ?_
              refine lv_iload_n hx hb d_M_checkIn_122 rfl (lv_at hl 2 rfl) ?_
              refine pm_callv (va_runV (As := [.int (2), .int (nI j)]) (rest := []) ⟨hx, hb, hml, hown, hw⟩ (c_M_tell l D cs bk H.size 0 z (va_up (va_up (va_up a 6 (upd (a 6) (j) (3))) 10 (upd (a 10) (j) (many))) 11 (upd (a 11) (j) (day))) hz4 2 (nI j)) (cw_V 2 hw kM_M_118 kI_M_tell kV_M_tell kZ_M kC_M_tell rfl rfl ⟨rfl, by decide, by decide, by decide +kernel⟩ ⟨Nat.le_of_ble_eq_true rfl, Nat.le_of_ble_eq_true rfl⟩) (pw_preV hN hK hP hD (0) (by decide) rfl rfl) rfl rfl hl.1 rfl (lv_room (Nat.le_of_ble_eq_true rfl)) d_M_checkIn_123 ⟨Nat.le_of_ble_eq_true rfl, Nat.le_of_ble_eq_true rfl⟩) hS (wl_free hD hS hA) (fun H locs hP hD hS => ?_)
              rw [tell_eq] at hP hD
              have hP : va_P D classes (wl 28 bk (MW cs 0 (va_up z 4 (tlz z)) (va_up (va_up (va_up (va_up (va_up a 6 (upd (a 6) (j) (3))) 10 (upd (a 10) (j) (many))) 11 (upd (a 11) (j) (day))) 26 (tla z (a 26) 2)) 27 (tla z (a 27) (nI j))) bk)) H := hP
              have hD : va_D (AA 28 bk sz) (wl 28 bk (MW cs 0 (va_up z 4 (tlz z)) (va_up (va_up (va_up (va_up (va_up a 6 (upd (a 6) (j) (3))) 10 (upd (a 10) (j) (many))) 11 (upd (a 11) (j) (day))) 26 (tla z (a 26) 2)) 27 (tla z (a 27) (nI j))) bk)) := hD
              refine lv_iload hx hb d_M_checkIn_126 (lv_at hl 0 rfl) ?_
              refine lv_if_ne (tgt := 135) hx hb d_M_checkIn_128 (by decide) (fun c_14 => ?_) (fun c_14 => ?_)
              · have c_14 : ¬ ((a 6) (j)) = 0 := c_14
                refine lv_iconst (v := 1) hx hb d_M_checkIn_135 (by decide) ?_
                exact W.iret (v := 1) hx hb hr (fun t ht hW => ⟨⟨1, (28, bk, MW cs 0 (va_up z 4 (tlz z)) (va_up (va_up (va_up (va_up (va_up a 6 (upd (a 6) (j) (3))) 10 (upd (a 10) (j) (many))) 11 (upd (a 11) (j) (day))) 26 (tla z (a 26) 2)) 27 (tla z (a 27) (nI j))) bk), rfl, Mr_of (by rw [s_M_checkIn, if_pos c_5, if_pos c_7, if_pos c_8, if_neg c_12, if_pos c_13, if_neg c_14]), by rw [ht]; exact hP, va_K.moved hW.alike hK, hD⟩, hS.F ht⟩) hS.2.2 d_M_checkIn_136
              · have c_14 : ((a 6) (j)) = 0 := c_14
                refine lv_iconst (v := 0) hx hb d_M_checkIn_131 (by decide) ?_
                refine lv_goto (tgt := 136) hx hb d_M_checkIn_132 (by decide) ?_
                exact W.iret (v := 0) hx hb hr (fun t ht hW => ⟨⟨0, (28, bk, MW cs 0 (va_up z 4 (tlz z)) (va_up (va_up (va_up (va_up (va_up a 6 (upd (a 6) (j) (3))) 10 (upd (a 10) (j) (many))) 11 (upd (a 11) (j) (day))) 26 (tla z (a 26) 2)) 27 (tla z (a 27) (nI j))) bk), rfl, Mr_of (by rw [s_M_checkIn, if_pos c_5, if_pos c_7, if_pos c_8, if_neg c_12, if_pos c_13, if_pos c_14]), by rw [ht]; exact hP, va_K.moved hW.alike hK, hD⟩, hS.F ht⟩) hS.2.2 d_M_checkIn_136
            · have c_13 : ¬ ((a 6) (j)) = 4 := c_13
              refine lv_iload_n hx hb d_M_checkIn_110 rfl (lv_at hl 4 rfl) ?_
              refine lv_aload_n hx hb d_M_checkIn_111 rfl (lv_at hl 1 rfl) ?_
              refine pw_get (ci := 7) (v := .ref (bk (7))) hx hb hw i_M hown hK hP (0) (by decide) rfl rfl 8 (by decide) (hw _ kF_M_28) rfl d_M_checkIn_112 ?_
              refine lv_iload_n hx hb d_M_checkIn_115 rfl (lv_at hl 2 rfl) ?_
              refine pw_iald (n := 200) (f := (a 7)) hx hb hK hP 0 (7) (by decide) rfl rfl (j) rfl (by omega) (by decide) d_M_checkIn_116 ?_
              refine lv_icmp_le (tgt := 126) hx hb d_M_checkIn_117 (by decide) (fun c_15 => ?_) (fun c_15 => ?_)
              · have c_15 : day ≤ ((a 7) (j)) := c_15
                refine lv_iload hx hb d_M_checkIn_126 (lv_at hl 0 rfl) ?_
                refine lv_if_ne (tgt := 135) hx hb d_M_checkIn_128 (by decide) (fun c_16 => ?_) (fun c_16 => ?_)
                · have c_16 : ¬ ((a 6) (j)) = 0 := c_16
                  refine lv_iconst (v := 1) hx hb d_M_checkIn_135 (by decide) ?_
                  exact W.iret (v := 1) hx hb hr (fun t ht hW => ⟨⟨1, (28, bk, MW cs 0 z (va_up (va_up (va_up a 6 (upd (a 6) (j) (3))) 10 (upd (a 10) (j) (many))) 11 (upd (a 11) (j) (day))) bk), rfl, Mr_of (by rw [s_M_checkIn, if_pos c_5, if_pos c_7, if_pos c_8, if_neg c_12, if_neg c_13, if_pos c_15, if_neg c_16]), by rw [ht]; exact hP, va_K.moved hW.alike hK, hD⟩, hS.F ht⟩) hS.2.2 d_M_checkIn_136
                · have c_16 : ((a 6) (j)) = 0 := c_16
                  refine lv_iconst (v := 0) hx hb d_M_checkIn_131 (by decide) ?_
                  refine lv_goto (tgt := 136) hx hb d_M_checkIn_132 (by decide) ?_
                  exact W.iret (v := 0) hx hb hr (fun t ht hW => ⟨⟨0, (28, bk, MW cs 0 z (va_up (va_up (va_up a 6 (upd (a 6) (j) (3))) 10 (upd (a 10) (j) (many))) 11 (upd (a 11) (j) (day))) bk), rfl, Mr_of (by rw [s_M_checkIn, if_pos c_5, if_pos c_7, if_pos c_8, if_neg c_12, if_neg c_13, if_pos c_15, if_pos c_16]), by rw [ht]; exact hP, va_K.moved hW.alike hK, hD⟩, hS.F ht⟩) hS.2.2 d_M_checkIn_136
              · have c_15 : ¬ day ≤ ((a 7) (j)) := c_15
                refine lv_aload_n hx hb d_M_checkIn_120 rfl (lv_at hl 1 rfl) ?_
                refine lv_iconst (v := 2) hx hb d_M_checkIn_121 (by decide) ?_
                refine lv_iload_n hx hb d_M_checkIn_122 rfl (lv_at hl 2 rfl) ?_
                refine pm_callv (va_runV (As := [.int (2), .int (nI j)]) (rest := []) ⟨hx, hb, hml, hown, hw⟩ (c_M_tell l D cs bk H.size 0 z (va_up (va_up (va_up a 6 (upd (a 6) (j) (3))) 10 (upd (a 10) (j) (many))) 11 (upd (a 11) (j) (day))) hz4 2 (nI j)) (cw_V 2 hw kM_M_118 kI_M_tell kV_M_tell kZ_M kC_M_tell rfl rfl ⟨rfl, by decide, by decide, by decide +kernel⟩ ⟨Nat.le_of_ble_eq_true rfl, Nat.le_of_ble_eq_true rfl⟩) (pw_preV hN hK hP hD (0) (by decide) rfl rfl) rfl rfl hl.1 rfl (lv_room (Nat.le_of_ble_eq_true rfl)) d_M_checkIn_123 ⟨Nat.le_of_ble_eq_true rfl, Nat.le_of_ble_eq_true rfl⟩) hS (wl_free hD hS hA) (fun H locs hP hD hS => ?_)
                rw [tell_eq] at hP hD
                have hP : va_P D classes (wl 28 bk (MW cs 0 (va_up z 4 (tlz z)) (va_up (va_up (va_up (va_up (va_up a 6 (upd (a 6) (j) (3))) 10 (upd (a 10) (j) (many))) 11 (upd (a 11) (j) (day))) 26 (tla z (a 26) 2)) 27 (tla z (a 27) (nI j))) bk)) H := hP
                have hD : va_D (AA 28 bk sz) (wl 28 bk (MW cs 0 (va_up z 4 (tlz z)) (va_up (va_up (va_up (va_up (va_up a 6 (upd (a 6) (j) (3))) 10 (upd (a 10) (j) (many))) 11 (upd (a 11) (j) (day))) 26 (tla z (a 26) 2)) 27 (tla z (a 27) (nI j))) bk)) := hD
                refine lv_iload hx hb d_M_checkIn_126 (lv_at hl 0 rfl) ?_
                refine lv_if_ne (tgt := 135) hx hb d_M_checkIn_128 (by decide) (fun c_17 => ?_) (fun c_17 => ?_)
                · have c_17 : ¬ ((a 6) (j)) = 0 := c_17
                  refine lv_iconst (v := 1) hx hb d_M_checkIn_135 (by decide) ?_
                  exact W.iret (v := 1) hx hb hr (fun t ht hW => ⟨⟨1, (28, bk, MW cs 0 (va_up z 4 (tlz z)) (va_up (va_up (va_up (va_up (va_up a 6 (upd (a 6) (j) (3))) 10 (upd (a 10) (j) (many))) 11 (upd (a 11) (j) (day))) 26 (tla z (a 26) 2)) 27 (tla z (a 27) (nI j))) bk), rfl, Mr_of (by rw [s_M_checkIn, if_pos c_5, if_pos c_7, if_pos c_8, if_neg c_12, if_neg c_13, if_neg c_15, if_neg c_17]), by rw [ht]; exact hP, va_K.moved hW.alike hK, hD⟩, hS.F ht⟩) hS.2.2 d_M_checkIn_136
                · have c_17 : ((a 6) (j)) = 0 := c_17
                  refine lv_iconst (v := 0) hx hb d_M_checkIn_131 (by decide) ?_
                  refine lv_goto (tgt := 136) hx hb d_M_checkIn_132 (by decide) ?_
                  exact W.iret (v := 0) hx hb hr (fun t ht hW => ⟨⟨0, (28, bk, MW cs 0 (va_up z 4 (tlz z)) (va_up (va_up (va_up (va_up (va_up a 6 (upd (a 6) (j) (3))) 10 (upd (a 10) (j) (many))) 11 (upd (a 11) (j) (day))) 26 (tla z (a 26) 2)) 27 (tla z (a 27) (nI j))) bk), rfl, Mr_of (by rw [s_M_checkIn, if_pos c_5, if_pos c_7, if_pos c_8, if_neg c_12, if_neg c_13, if_neg c_15, if_pos c_17]), by rw [ht]; exact hP, va_K.moved hW.alike hK, hD⟩, hS.F ht⟩) hS.2.2 d_M_checkIn_136
          · have c_12 : ((a 6) (j)) = 0 := c_12
            refine lv_aload_n hx hb d_M_checkIn_95 rfl (lv_at hl 1 rfl) ?_
            refine lv_iconst (v := 1) hx hb d_M_checkIn_96 (by decide) ?_
            refine lv_iload_n hx hb d_M_checkIn_97 rfl (lv_at hl 2 rfl) ?_
            refine pm_callv (va_runV (As := [.int (1), .int (nI j)]) (rest := []) ⟨hx, hb, hml, hown, hw⟩ (c_M_tell l D cs bk H.size 0 z (va_up (va_up (va_up a 6 (upd (a 6) (j) (3))) 10 (upd (a 10) (j) (many))) 11 (upd (a 11) (j) (day))) hz4 1 (nI j)) (cw_V 2 hw kM_M_118 kI_M_tell kV_M_tell kZ_M kC_M_tell rfl rfl ⟨rfl, by decide, by decide, by decide +kernel⟩ ⟨Nat.le_of_ble_eq_true rfl, Nat.le_of_ble_eq_true rfl⟩) (pw_preV hN hK hP hD (0) (by decide) rfl rfl) rfl rfl hl.1 rfl (lv_room (Nat.le_of_ble_eq_true rfl)) d_M_checkIn_98 ⟨Nat.le_of_ble_eq_true rfl, Nat.le_of_ble_eq_true rfl⟩) hS (wl_free hD hS hA) (fun H locs hP hD hS => ?_)
            rw [tell_eq] at hP hD
            have hP : va_P D classes (wl 28 bk (MW cs 0 (va_up z 4 (tlz z)) (va_up (va_up (va_up (va_up (va_up a 6 (upd (a 6) (j) (3))) 10 (upd (a 10) (j) (many))) 11 (upd (a 11) (j) (day))) 26 (tla z (a 26) 1)) 27 (tla z (a 27) (nI j))) bk)) H := hP
            have hD : va_D (AA 28 bk sz) (wl 28 bk (MW cs 0 (va_up z 4 (tlz z)) (va_up (va_up (va_up (va_up (va_up a 6 (upd (a 6) (j) (3))) 10 (upd (a 10) (j) (many))) 11 (upd (a 11) (j) (day))) 26 (tla z (a 26) 1)) 27 (tla z (a 27) (nI j))) bk)) := hD
            refine lv_goto (tgt := 126) hx hb d_M_checkIn_101 (by decide) ?_
            refine lv_iload hx hb d_M_checkIn_126 (lv_at hl 0 rfl) ?_
            refine lv_if_ne (tgt := 135) hx hb d_M_checkIn_128 (by decide) (fun c_18 => ?_) (fun c_18 => ?_)
            · have c_18 : ¬ ((a 6) (j)) = 0 := c_18
              refine lv_iconst (v := 1) hx hb d_M_checkIn_135 (by decide) ?_
              exact W.iret (v := 1) hx hb hr (fun t ht hW => ⟨⟨1, (28, bk, MW cs 0 (va_up z 4 (tlz z)) (va_up (va_up (va_up (va_up (va_up a 6 (upd (a 6) (j) (3))) 10 (upd (a 10) (j) (many))) 11 (upd (a 11) (j) (day))) 26 (tla z (a 26) 1)) 27 (tla z (a 27) (nI j))) bk), rfl, Mr_of (by rw [s_M_checkIn, if_pos c_5, if_pos c_7, if_pos c_8, if_pos c_12, if_neg c_18]), by rw [ht]; exact hP, va_K.moved hW.alike hK, hD⟩, hS.F ht⟩) hS.2.2 d_M_checkIn_136
            · have c_18 : ((a 6) (j)) = 0 := c_18
              refine lv_iconst (v := 0) hx hb d_M_checkIn_131 (by decide) ?_
              refine lv_goto (tgt := 136) hx hb d_M_checkIn_132 (by decide) ?_
              exact W.iret (v := 0) hx hb hr (fun t ht hW => ⟨⟨0, (28, bk, MW cs 0 (va_up z 4 (tlz z)) (va_up (va_up (va_up (va_up (va_up a 6 (upd (a 6) (j) (3))) 10 (upd (a 10) (j) (many))) 11 (upd (a 11) (j) (day))) 26 (tla z (a 26) 1)) 27 (tla z (a 27) (nI j))) bk), rfl, Mr_of (by rw [s_M_checkIn, if_pos c_5, if_pos c_7, if_pos c_8, if_pos c_12, if_pos c_18]), by rw [ht]; exact hP, va_K.moved hW.alike hK, hD⟩, hS.F ht⟩) hS.2.2 d_M_checkIn_136
        · have c_8 : ¬ ((a 6) (j)) = 0 := c_8
          refine lv_iload hx hb d_M_checkIn_48 (lv_at hl 0 rfl) ?_
          refine lv_iconst (v := 1) hx hb d_M_checkIn_50 (by decide) ?_
          refine lv_icmp_eq (tgt := 69) hx hb d_M_checkIn_51 (by decide) (fun c_19 => ?_) (fun c_19 => ?_)
          · have c_19 : ((a 6) (j)) = 1 := c_19
            refine lv_aload_n hx hb d_M_checkIn_69 rfl (lv_at hl 1 rfl) ?_
            refine pw_get (ci := 7) (v := .ref (bk (6))) hx hb hw i_M hown hK hP (0) (by decide) rfl rfl 7 (by decide) (hw _ kF_M_25) rfl d_M_checkIn_70 ?_
            refine lv_iload_n hx hb d_M_checkIn_73 rfl (lv_at hl 2 rfl) ?_
            refine lv_iconst (v := 3) hx hb d_M_checkIn_74 (by decide) ?_
            refine pw_iast (n := 200) (f := (a 6)) hx hb hK hP hD hS 0 (6) (by decide) rfl rfl (j) rfl (by omega) (by decide) d_M_checkIn_75 (fun cw_20 H locs ecw_20 hP hD hS => ?_)
            obtain rfl : cw_20 = MW cs 0 z (va_up a 6 (upd (a 6) (j) (3))) bk := by rw [ecw_20]; exact MW_arr 6 (by decide) (upd (a 6) (j) (3))
            refine lv_aload_n hx hb d_M_checkIn_76 rfl (lv_at hl 1 rfl) ?_
            refine pw_get (ci := 7) (v := .ref (bk (10))) hx hb hw i_M hown hK hP (0) (by decide) rfl rfl 11 (by decide) (hw _ kF_M_37) rfl d_M_checkIn_77 ?_
            refine lv_iload_n hx hb d_M_checkIn_80 rfl (lv_at hl 2 rfl) ?_
            refine lv_iload_n hx hb d_M_checkIn_81 rfl (lv_at hl 3 rfl) ?_
            refine pw_iast (n := 200) (f := (a 10)) hx hb hK hP hD hS 0 (10) (by decide) rfl rfl (j) rfl (by omega) (by decide) d_M_checkIn_82 (fun cw_21 H locs ecw_21 hP hD hS => ?_)
            obtain rfl : cw_21 = MW cs 0 z (va_up (va_up a 6 (upd (a 6) (j) (3))) 10 (upd (a 10) (j) (many))) bk := by rw [ecw_21]; exact MW_arr 10 (by decide) (upd (a 10) (j) (many))
            refine lv_aload_n hx hb d_M_checkIn_83 rfl (lv_at hl 1 rfl) ?_
            refine pw_get (ci := 7) (v := .ref (bk (11))) hx hb hw i_M hown hK hP (0) (by decide) rfl rfl 12 (by decide) (hw _ kF_M_40) rfl d_M_checkIn_84 ?_
            refine lv_iload_n hx hb d_M_checkIn_87 rfl (lv_at hl 2 rfl) ?_
            refine lv_iload_n hx hb d_M_checkIn_88 rfl (lv_at hl 4 rfl) ?_
            refine pw_iast (n := 200) (f := (a 11)) hx hb hK hP hD hS 0 (11) (by decide) rfl rfl (j) rfl (by omega) (by decide) d_M_checkIn_89 (fun cw_22 H locs ecw_22 hP hD hS => ?_)
            obtain rfl : cw_22 = MW cs 0 z (va_up (va_up (va_up a 6 (upd (a 6) (j) (3))) 10 (upd (a 10) (j) (many))) 11 (upd (a 11) (j) (day))) bk := by rw [ecw_22]; exact MW_arr 11 (by decide) (upd (a 11) (j) (day))
            refine lv_iload hx hb d_M_checkIn_90 (lv_at hl 0 rfl) ?_
            refine lv_if_ne (tgt := 104) hx hb d_M_checkIn_92 (by decide) (fun c_23 => ?_) (fun c_23 => ?_)
            · have c_23 : ¬ ((a 6) (j)) = 0 := c_23
              refine lv_iload hx hb d_M_checkIn_104 (lv_at hl 0 rfl) ?_
              refine lv_iconst (v := 4) hx hb d_M_checkIn_106 (by decide) ?_
              refine lv_icmp_eq (tgt := 120) hx hb d_M_checkIn_107 (by decide) (fun c_24 => ?_) (fun c_24 => ?_)
              · have c_24 : ((a 6) (j)) = 4 := c_24
                refine lv_aload_n hx hb d_M_checkIn_120 rfl (lv_at hl 1 rfl) ?_
                refine lv_iconst (v := 2) hx hb d_M_checkIn_121 (by decide) ?_
                refine lv_iload_n hx hb d_M_checkIn_122 rfl (lv_at hl 2 rfl) ?_
                refine pm_callv (va_runV (As := [.int (2), .int (nI j)]) (rest := []) ⟨hx, hb, hml, hown, hw⟩ (c_M_tell l D cs bk H.size 0 z (va_up (va_up (va_up a 6 (upd (a 6) (j) (3))) 10 (upd (a 10) (j) (many))) 11 (upd (a 11) (j) (day))) hz4 2 (nI j)) (cw_V 2 hw kM_M_118 kI_M_tell kV_M_tell kZ_M kC_M_tell rfl rfl ⟨rfl, by decide, by decide, by decide +kernel⟩ ⟨Nat.le_of_ble_eq_true rfl, Nat.le_of_ble_eq_true rfl⟩) (pw_preV hN hK hP hD (0) (by decide) rfl rfl) rfl rfl hl.1 rfl (lv_room (Nat.le_of_ble_eq_true rfl)) d_M_checkIn_123 ⟨Nat.le_of_ble_eq_true rfl, Nat.le_of_ble_eq_true rfl⟩) hS (wl_free hD hS hA) (fun H locs hP hD hS => ?_)
                rw [tell_eq] at hP hD
                have hP : va_P D classes (wl 28 bk (MW cs 0 (va_up z 4 (tlz z)) (va_up (va_up (va_up (va_up (va_up a 6 (upd (a 6) (j) (3))) 10 (upd (a 10) (j) (many))) 11 (upd (a 11) (j) (day))) 26 (tla z (a 26) 2)) 27 (tla z (a 27) (nI j))) bk)) H := hP
                have hD : va_D (AA 28 bk sz) (wl 28 bk (MW cs 0 (va_up z 4 (tlz z)) (va_up (va_up (va_up (va_up (va_up a 6 (upd (a 6) (j) (3))) 10 (upd (a 10) (j) (many))) 11 (upd (a 11) (j) (day))) 26 (tla z (a 26) 2)) 27 (tla z (a 27) (nI j))) bk)) := hD
                refine lv_iload hx hb d_M_checkIn_126 (lv_at hl 0 rfl) ?_
                refine lv_if_ne (tgt := 135) hx hb d_M_checkIn_128 (by decide) (fun c_25 => ?_) (fun c_25 => ?_)
                · have c_25 : ¬ ((a 6) (j)) = 0 := c_25
                  refine lv_iconst (v := 1) hx hb d_M_checkIn_135 (by decide) ?_
                  exact W.iret (v := 1) hx hb hr (fun t ht hW => ⟨⟨1, (28, bk, MW cs 0 (va_up z 4 (tlz z)) (va_up (va_up (va_up (va_up (va_up a 6 (upd (a 6) (j) (3))) 10 (upd (a 10) (j) (many))) 11 (upd (a 11) (j) (day))) 26 (tla z (a 26) 2)) 27 (tla z (a 27) (nI j))) bk), rfl, Mr_of (by rw [s_M_checkIn, if_pos c_5, if_pos c_7, if_neg c_8, if_pos c_19, if_neg c_23, if_pos c_24, if_neg c_25]), by rw [ht]; exact hP, va_K.moved hW.alike hK, hD⟩, hS.F ht⟩) hS.2.2 d_M_checkIn_136
                · have c_25 : ((a 6) (j)) = 0 := c_25
                  refine lv_iconst (v := 0) hx hb d_M_checkIn_131 (by decide) ?_
                  refine lv_goto (tgt := 136) hx hb d_M_checkIn_132 (by decide) ?_
                  exact W.iret (v := 0) hx hb hr (fun t ht hW => ⟨⟨0, (28, bk, MW cs 0 (va_up z 4 (tlz z)) (va_up (va_up (va_up (va_up (va_up a 6 (upd (a 6) (j) (3))) 10 (upd (a 10) (j) (many))) 11 (upd (a 11) (j) (day))) 26 (tla z (a 26) 2)) 27 (tla z (a 27) (nI j))) bk), rfl, Mr_of (by rw [s_M_checkIn, if_pos c_5, if_pos c_7, if_neg c_8, if_pos c_19, if_neg c_23, if_pos c_24, if_pos c_25]), by rw [ht]; exact hP, va_K.moved hW.alike hK, hD⟩, hS.F ht⟩) hS.2.2 d_M_checkIn_136
              · have c_24 : ¬ ((a 6) (j)) = 4 := c_24
                refine lv_iload_n hx hb d_M_checkIn_110 rfl (lv_at hl 4 rfl) ?_
                refine lv_aload_n hx hb d_M_checkIn_111 rfl (lv_at hl 1 rfl) ?_
                refine pw_get (ci := 7) (v := .ref (bk (7))) hx hb hw i_M hown hK hP (0) (by decide) rfl rfl 8 (by decide) (hw _ kF_M_28) rfl d_M_checkIn_112 ?_
                refine lv_iload_n hx hb d_M_checkIn_115 rfl (lv_at hl 2 rfl) ?_
                refine pw_iald (n := 200) (f := (a 7)) hx hb hK hP 0 (7) (by decide) rfl rfl (j) rfl (by omega) (by decide) d_M_checkIn_116 ?_
                refine lv_icmp_le (tgt := 126) hx hb d_M_checkIn_117 (by decide) (fun c_26 => ?_) (fun c_26 => ?_)
                · have c_26 : day ≤ ((a 7) (j)) := c_26
                  refine lv_iload hx hb d_M_checkIn_126 (lv_at hl 0 rfl) ?_
                  refine lv_if_ne (tgt := 135) hx hb d_M_checkIn_128 (by decide) (fun c_27 => ?_) (fun c_27 => ?_)
                  · have c_27 : ¬ ((a 6) (j)) = 0 := c_27
                    refine lv_iconst (v := 1) hx hb d_M_checkIn_135 (by decide) ?_
                    exact W.iret (v := 1) hx hb hr (fun t ht hW => ⟨⟨1, (28, bk, MW cs 0 z (va_up (va_up (va_up a 6 (upd (a 6) (j) (3))) 10 (upd (a 10) (j) (many))) 11 (upd (a 11) (j) (day))) bk), rfl, Mr_of (by rw [s_M_checkIn, if_pos c_5, if_pos c_7, if_neg c_8, if_pos c_19, if_neg c_23, if_neg c_24, if_pos c_26, if_neg c_27]), by rw [ht]; exact hP, va_K.moved hW.alike hK, hD⟩, hS.F ht⟩) hS.2.2 d_M_checkIn_136
                  · have c_27 : ((a 6) (j)) = 0 := c_27
                    refine lv_iconst (v := 0) hx hb d_M_checkIn_131 (by decide) ?_
                    refine lv_goto (tgt := 136) hx hb d_M_checkIn_132 (by decide) ?_
                    exact W.iret (v := 0) hx hb hr (fun t ht hW => ⟨⟨0, (28, bk, MW cs 0 z (va_up (va_up (va_up a 6 (upd (a 6) (j) (3))) 10 (upd (a 10) (j) (many))) 11 (upd (a 11) (j) (day))) bk), rfl, Mr_of (by rw [s_M_checkIn, if_pos c_5, if_pos c_7, if_neg c_8, if_pos c_19, if_neg c_23, if_neg c_24, if_pos c_26, if_pos c_27]), by rw [ht]; exact hP, va_K.moved hW.alike hK, hD⟩, hS.F ht⟩) hS.2.2 d_M_checkIn_136
                · have c_26 : ¬ day ≤ ((a 7) (j)) := c_26
                  refine lv_aload_n hx hb d_M_checkIn_120 rfl (lv_at hl 1 rfl) ?_
                  refine lv_iconst (v := 2) hx hb d_M_checkIn_121 (by decide) ?_
                  refine lv_iload_n hx hb d_M_checkIn_122 rfl (lv_at hl 2 rfl) ?_
                  refine pm_callv (va_runV (As := [.int (2), .int (nI j)]) (rest := []) ⟨hx, hb, hml, hown, hw⟩ (c_M_tell l D cs bk H.size 0 z (va_up (va_up (va_up a 6 (upd (a 6) (j) (3))) 10 (upd (a 10) (j) (many))) 11 (upd (a 11) (j) (day))) hz4 2 (nI j)) (cw_V 2 hw kM_M_118 kI_M_tell kV_M_tell kZ_M kC_M_tell rfl rfl ⟨rfl, by decide, by decide, by decide +kernel⟩ ⟨Nat.le_of_ble_eq_true rfl, Nat.le_of_ble_eq_true rfl⟩) (pw_preV hN hK hP hD (0) (by decide) rfl rfl) rfl rfl hl.1 rfl (lv_room (Nat.le_of_ble_eq_true rfl)) d_M_checkIn_123 ⟨Nat.le_of_ble_eq_true rfl, Nat.le_of_ble_eq_true rfl⟩) hS (wl_free hD hS hA) (fun H locs hP hD hS => ?_)
                  rw [tell_eq] at hP hD
                  have hP : va_P D classes (wl 28 bk (MW cs 0 (va_up z 4 (tlz z)) (va_up (va_up (va_up (va_up (va_up a 6 (upd (a 6) (j) (3))) 10 (upd (a 10) (j) (many))) 11 (upd (a 11) (j) (day))) 26 (tla z (a 26) 2)) 27 (tla z (a 27) (nI j))) bk)) H := hP
                  have hD : va_D (AA 28 bk sz) (wl 28 bk (MW cs 0 (va_up z 4 (tlz z)) (va_up (va_up (va_up (va_up (va_up a 6 (upd (a 6) (j) (3))) 10 (upd (a 10) (j) (many))) 11 (upd (a 11) (j) (day))) 26 (tla z (a 26) 2)) 27 (tla z (a 27) (nI j))) bk)) := hD
                  refine lv_iload hx hb d_M_checkIn_126 (lv_at hl 0 rfl) ?_
                  refine lv_if_ne (tgt := 135) hx hb d_M_checkIn_128 (by decide) (fun c_28 => ?_) (fun c_28 => ?_)
                  · have c_28 : ¬ ((a 6) (j)) = 0 := c_28
                    refine lv_iconst (v := 1) hx hb d_M_checkIn_135 (by decide) ?_
                    exact W.iret (v := 1) hx hb hr (fun t ht hW => ⟨⟨1, (28, bk, MW cs 0 (va_up z 4 (tlz z)) (va_up (va_up (va_up (va_up (va_up a 6 (upd (a 6) (j) (3))) 10 (upd (a 10) (j) (many))) 11 (upd (a 11) (j) (day))) 26 (tla z (a 26) 2)) 27 (tla z (a 27) (nI j))) bk), rfl, Mr_of (by rw [s_M_checkIn, if_pos c_5, if_pos c_7, if_neg c_8, if_pos c_19, if_neg c_23, if_neg c_24, if_neg c_26, if_neg c_28]), by rw [ht]; exact hP, va_K.moved hW.alike hK, hD⟩, hS.F ht⟩) hS.2.2 d_M_checkIn_136
                  · have c_28 : ((a 6) (j)) = 0 := c_28
                    refine lv_iconst (v := 0) hx hb d_M_checkIn_131 (by decide) ?_
                    refine lv_goto (tgt := 136) hx hb d_M_checkIn_132 (by decide) ?_
                    exact W.iret (v := 0) hx hb hr (fun t ht hW => ⟨⟨0, (28, bk, MW cs 0 (va_up z 4 (tlz z)) (va_up (va_up (va_up (va_up (va_up a 6 (upd (a 6) (j) (3))) 10 (upd (a 10) (j) (many))) 11 (upd (a 11) (j) (day))) 26 (tla z (a 26) 2)) 27 (tla z (a 27) (nI j))) bk), rfl, Mr_of (by rw [s_M_checkIn, if_pos c_5, if_pos c_7, if_neg c_8, if_pos c_19, if_neg c_23, if_neg c_24, if_neg c_26, if_pos c_28]), by rw [ht]; exact hP, va_K.moved hW.alike hK, hD⟩, hS.F ht⟩) hS.2.2 d_M_checkIn_136
            · have c_23 : ((a 6) (j)) = 0 := c_23
              refine lv_aload_n hx hb d_M_checkIn_95 rfl (lv_at hl 1 rfl) ?_
              refine lv_iconst (v := 1) hx hb d_M_checkIn_96 (by decide) ?_
              refine lv_iload_n hx hb d_M_checkIn_97 rfl (lv_at hl 2 rfl) ?_
              refine pm_callv (va_runV (As := [.int (1), .int (nI j)]) (rest := []) ⟨hx, hb, hml, hown, hw⟩ (c_M_tell l D cs bk H.size 0 z (va_up (va_up (va_up a 6 (upd (a 6) (j) (3))) 10 (upd (a 10) (j) (many))) 11 (upd (a 11) (j) (day))) hz4 1 (nI j)) (cw_V 2 hw kM_M_118 kI_M_tell kV_M_tell kZ_M kC_M_tell rfl rfl ⟨rfl, by decide, by decide, by decide +kernel⟩ ⟨Nat.le_of_ble_eq_true rfl, Nat.le_of_ble_eq_true rfl⟩) (pw_preV hN hK hP hD (0) (by decide) rfl rfl) rfl rfl hl.1 rfl (lv_room (Nat.le_of_ble_eq_true rfl)) d_M_checkIn_98 ⟨Nat.le_of_ble_eq_true rfl, Nat.le_of_ble_eq_true rfl⟩) hS (wl_free hD hS hA) (fun H locs hP hD hS => ?_)
              rw [tell_eq] at hP hD
              have hP : va_P D classes (wl 28 bk (MW cs 0 (va_up z 4 (tlz z)) (va_up (va_up (va_up (va_up (va_up a 6 (upd (a 6) (j) (3))) 10 (upd (a 10) (j) (many))) 11 (upd (a 11) (j) (day))) 26 (tla z (a 26) 1)) 27 (tla z (a 27) (nI j))) bk)) H := hP
              have hD : va_D (AA 28 bk sz) (wl 28 bk (MW cs 0 (va_up z 4 (tlz z)) (va_up (va_up (va_up (va_up (va_up a 6 (upd (a 6) (j) (3))) 10 (upd (a 10) (j) (many))) 11 (upd (a 11) (j) (day))) 26 (tla z (a 26) 1)) 27 (tla z (a 27) (nI j))) bk)) := hD
              refine lv_goto (tgt := 126) hx hb d_M_checkIn_101 (by decide) ?_
              refine lv_iload hx hb d_M_checkIn_126 (lv_at hl 0 rfl) ?_
              refine lv_if_ne (tgt := 135) hx hb d_M_checkIn_128 (by decide) (fun c_29 => ?_) (fun c_29 => ?_)
              · have c_29 : ¬ ((a 6) (j)) = 0 := c_29
                refine lv_iconst (v := 1) hx hb d_M_checkIn_135 (by decide) ?_
                exact W.iret (v := 1) hx hb hr (fun t ht hW => ⟨⟨1, (28, bk, MW cs 0 (va_up z 4 (tlz z)) (va_up (va_up (va_up (va_up (va_up a 6 (upd (a 6) (j) (3))) 10 (upd (a 10) (j) (many))) 11 (upd (a 11) (j) (day))) 26 (tla z (a 26) 1)) 27 (tla z (a 27) (nI j))) bk), rfl, Mr_of (by rw [s_M_checkIn, if_pos c_5, if_pos c_7, if_neg c_8, if_pos c_19, if_pos c_23, if_neg c_29]), by rw [ht]; exact hP, va_K.moved hW.alike hK, hD⟩, hS.F ht⟩) hS.2.2 d_M_checkIn_136
              · have c_29 : ((a 6) (j)) = 0 := c_29
                refine lv_iconst (v := 0) hx hb d_M_checkIn_131 (by decide) ?_
                refine lv_goto (tgt := 136) hx hb d_M_checkIn_132 (by decide) ?_
                exact W.iret (v := 0) hx hb hr (fun t ht hW => ⟨⟨0, (28, bk, MW cs 0 (va_up z 4 (tlz z)) (va_up (va_up (va_up (va_up (va_up a 6 (upd (a 6) (j) (3))) 10 (upd (a 10) (j) (many))) 11 (upd (a 11) (j) (day))) 26 (tla z (a 26) 1)) 27 (tla z (a 27) (nI j))) bk), rfl, Mr_of (by rw [s_M_checkIn, if_pos c_5, if_pos c_7, if_neg c_8, if_pos c_19, if_pos c_23, if_pos c_29]), by rw [ht]; exact hP, va_K.moved hW.alike hK, hD⟩, hS.F ht⟩) hS.2.2 d_M_checkIn_136
          · have c_19 : ¬ ((a 6) (j)) = 1 := c_19
            refine lv_iload hx hb d_M_checkIn_54 (lv_at hl 0 rfl) ?_
            refine lv_iconst (v := 2) hx hb d_M_checkIn_56 (by decide) ?_
            refine lv_icmp_eq (tgt := 69) hx hb d_M_checkIn_57 (by decide) (fun c_30 => ?_) (fun c_30 => ?_)
            · have c_30 : ((a 6) (j)) = 2 := c_30
              refine lv_aload_n hx hb d_M_checkIn_69 rfl (lv_at hl 1 rfl) ?_
              refine pw_get (ci := 7) (v := .ref (bk (6))) hx hb hw i_M hown hK hP (0) (by decide) rfl rfl 7 (by decide) (hw _ kF_M_25) rfl d_M_checkIn_70 ?_
              refine lv_iload_n hx hb d_M_checkIn_73 rfl (lv_at hl 2 rfl) ?_
              refine lv_iconst (v := 3) hx hb d_M_checkIn_74 (by decide) ?_
              refine pw_iast (n := 200) (f := (a 6)) hx hb hK hP hD hS 0 (6) (by decide) rfl rfl (j) rfl (by omega) (by decide) d_M_checkIn_75 (fun cw_31 H locs ecw_31 hP hD hS => ?_)
              obtain rfl : cw_31 = MW cs 0 z (va_up a 6 (upd (a 6) (j) (3))) bk := by rw [ecw_31]; exact MW_arr 6 (by decide) (upd (a 6) (j) (3))
              refine lv_aload_n hx hb d_M_checkIn_76 rfl (lv_at hl 1 rfl) ?_
              refine pw_get (ci := 7) (v := .ref (bk (10))) hx hb hw i_M hown hK hP (0) (by decide) rfl rfl 11 (by decide) (hw _ kF_M_37) rfl d_M_checkIn_77 ?_
              refine lv_iload_n hx hb d_M_checkIn_80 rfl (lv_at hl 2 rfl) ?_
              refine lv_iload_n hx hb d_M_checkIn_81 rfl (lv_at hl 3 rfl) ?_
              refine pw_iast (n := 200) (f := (a 10)) hx hb hK hP hD hS 0 (10) (by decide) rfl rfl (j) rfl (by omega) (by decide) d_M_checkIn_82 (fun cw_32 H locs ecw_32 hP hD hS => ?_)
              obtain rfl : cw_32 = MW cs 0 z (va_up (va_up a 6 (upd (a 6) (j) (3))) 10 (upd (a 10) (j) (many))) bk := by rw [ecw_32]; exact MW_arr 10 (by decide) (upd (a 10) (j) (many))
              refine lv_aload_n hx hb d_M_checkIn_83 rfl (lv_at hl 1 rfl) ?_
              refine pw_get (ci := 7) (v := .ref (bk (11))) hx hb hw i_M hown hK hP (0) (by decide) rfl rfl 12 (by decide) (hw _ kF_M_40) rfl d_M_checkIn_84 ?_
              refine lv_iload_n hx hb d_M_checkIn_87 rfl (lv_at hl 2 rfl) ?_
              refine lv_iload_n hx hb d_M_checkIn_88 rfl (lv_at hl 4 rfl) ?_
              refine pw_iast (n := 200) (f := (a 11)) hx hb hK hP hD hS 0 (11) (by decide) rfl rfl (j) rfl (by omega) (by decide) d_M_checkIn_89 (fun cw_33 H locs ecw_33 hP hD hS => ?_)
              obtain rfl : cw_33 = MW cs 0 z (va_up (va_up (va_up a 6 (upd (a 6) (j) (3))) 10 (upd (a 10) (j) (many))) 11 (upd (a 11) (j) (day))) bk := by rw [ecw_33]; exact MW_arr 11 (by decide) (upd (a 11) (j) (day))
              refine lv_iload hx hb d_M_checkIn_90 (lv_at hl 0 rfl) ?_
              refine lv_if_ne (tgt := 104) hx hb d_M_checkIn_92 (by decide) (fun c_34 => ?_) (fun c_34 => ?_)
              · have c_34 : ¬ ((a 6) (j)) = 0 := c_34
                refine lv_iload hx hb d_M_checkIn_104 (lv_at hl 0 rfl) ?_
                refine lv_iconst (v := 4) hx hb d_M_checkIn_106 (by decide) ?_
                refine lv_icmp_eq (tgt := 120) hx hb d_M_checkIn_107 (by decide) (fun c_35 => ?_) (fun c_35 => ?_)
                · have c_35 : ((a 6) (j)) = 4 := c_35
                  refine lv_aload_n hx hb d_M_checkIn_120 rfl (lv_at hl 1 rfl) ?_
                  refine lv_iconst (v := 2) hx hb d_M_checkIn_121 (by decide) ?_
                  refine lv_iload_n hx hb d_M_checkIn_122 rfl (lv_at hl 2 rfl) ?_
                  refine pm_callv (va_runV (As := [.int (2), .int (nI j)]) (rest := []) ⟨hx, hb, hml, hown, hw⟩ (c_M_tell l D cs bk H.size 0 z (va_up (va_up (va_up a 6 (upd (a 6) (j) (3))) 10 (upd (a 10) (j) (many))) 11 (upd (a 11) (j) (day))) hz4 2 (nI j)) (cw_V 2 hw kM_M_118 kI_M_tell kV_M_tell kZ_M kC_M_tell rfl rfl ⟨rfl, by decide, by decide, by decide +kernel⟩ ⟨Nat.le_of_ble_eq_true rfl, Nat.le_of_ble_eq_true rfl⟩) (pw_preV hN hK hP hD (0) (by decide) rfl rfl) rfl rfl hl.1 rfl (lv_room (Nat.le_of_ble_eq_true rfl)) d_M_checkIn_123 ⟨Nat.le_of_ble_eq_true rfl, Nat.le_of_ble_eq_true rfl⟩) hS (wl_free hD hS hA) (fun H locs hP hD hS => ?_)
                  rw [tell_eq] at hP hD
                  have hP : va_P D classes (wl 28 bk (MW cs 0 (va_up z 4 (tlz z)) (va_up (va_up (va_up (va_up (va_up a 6 (upd (a 6) (j) (3))) 10 (upd (a 10) (j) (many))) 11 (upd (a 11) (j) (day))) 26 (tla z (a 26) 2)) 27 (tla z (a 27) (nI j))) bk)) H := hP
                  have hD : va_D (AA 28 bk sz) (wl 28 bk (MW cs 0 (va_up z 4 (tlz z)) (va_up (va_up (va_up (va_up (va_up a 6 (upd (a 6) (j) (3))) 10 (upd (a 10) (j) (many))) 11 (upd (a 11) (j) (day))) 26 (tla z (a 26) 2)) 27 (tla z (a 27) (nI j))) bk)) := hD
                  refine lv_iload hx hb d_M_checkIn_126 (lv_at hl 0 rfl) ?_
                  refine lv_if_ne (tgt := 135) hx hb d_M_checkIn_128 (by decide) (fun c_36 => ?_) (fun c_36 => ?_)
                  · have c_36 : ¬ ((a 6) (j)) = 0 := c_36
                    refine lv_iconst (v := 1) hx hb d_M_checkIn_135 (by decide) ?_
                    exact W.iret (v := 1) hx hb hr (fun t ht hW => ⟨⟨1, (28, bk, MW cs 0 (va_up z 4 (tlz z)) (va_up (va_up (va_up (va_up (va_up a 6 (upd (a 6) (j) (3))) 10 (upd (a 10) (j) (many))) 11 (upd (a 11) (j) (day))) 26 (tla z (a 26) 2)) 27 (tla z (a 27) (nI j))) bk), rfl, Mr_of (by rw [s_M_checkIn, if_pos c_5, if_pos c_7, if_neg c_8, if_neg c_19, if_pos c_30, if_neg c_34, if_pos c_35, if_neg c_36]), by rw [ht]; exact hP, va_K.moved hW.alike hK, hD⟩, hS.F ht⟩) hS.2.2 d_M_checkIn_136
                  · have c_36 : ((a 6) (j)) = 0 := c_36
                    refine lv_iconst (v := 0) hx hb d_M_checkIn_131 (by decide) ?_
                    refine lv_goto (tgt := 136) hx hb d_M_checkIn_132 (by decide) ?_
                    exact W.iret (v := 0) hx hb hr (fun t ht hW => ⟨⟨0, (28, bk, MW cs 0 (va_up z 4 (tlz z)) (va_up (va_up (va_up (va_up (va_up a 6 (upd (a 6) (j) (3))) 10 (upd (a 10) (j) (many))) 11 (upd (a 11) (j) (day))) 26 (tla z (a 26) 2)) 27 (tla z (a 27) (nI j))) bk), rfl, Mr_of (by rw [s_M_checkIn, if_pos c_5, if_pos c_7, if_neg c_8, if_neg c_19, if_pos c_30, if_neg c_34, if_pos c_35, if_pos c_36]), by rw [ht]; exact hP, va_K.moved hW.alike hK, hD⟩, hS.F ht⟩) hS.2.2 d_M_checkIn_136
                · have c_35 : ¬ ((a 6) (j)) = 4 := c_35
                  refine lv_iload_n hx hb d_M_checkIn_110 rfl (lv_at hl 4 rfl) ?_
                  refine lv_aload_n hx hb d_M_checkIn_111 rfl (lv_at hl 1 rfl) ?_
                  refine pw_get (ci := 7) (v := .ref (bk (7))) hx hb hw i_M hown hK hP (0) (by decide) rfl rfl 8 (by decide) (hw _ kF_M_28) rfl d_M_checkIn_112 ?_
                  refine lv_iload_n hx hb d_M_checkIn_115 rfl (lv_at hl 2 rfl) ?_
                  refine pw_iald (n := 200) (f := (a 7)) hx hb hK hP 0 (7) (by decide) rfl rfl (j) rfl (by omega) (by decide) d_M_checkIn_116 ?_
                  refine lv_icmp_le (tgt := 126) hx hb d_M_checkIn_117 (by decide) (fun c_37 => ?_) (fun c_37 => ?_)
                  · have c_37 : day ≤ ((a 7) (j)) := c_37
                    refine lv_iload hx hb d_M_checkIn_126 (lv_at hl 0 rfl) ?_
                    refine lv_if_ne (tgt := 135) hx hb d_M_checkIn_128 (by decide) (fun c_38 => ?_) (fun c_38 => ?_)
                    · have c_38 : ¬ ((a 6) (j)) = 0 := c_38
                      refine lv_iconst (v := 1) hx hb d_M_checkIn_135 (by decide) ?_
                      exact W.iret (v := 1) hx hb hr (fun t ht hW => ⟨⟨1, (28, bk, MW cs 0 z (va_up (va_up (va_up a 6 (upd (a 6) (j) (3))) 10 (upd (a 10) (j) (many))) 11 (upd (a 11) (j) (day))) bk), rfl, Mr_of (by rw [s_M_checkIn, if_pos c_5, if_pos c_7, if_neg c_8, if_neg c_19, if_pos c_30, if_neg c_34, if_neg c_35, if_pos c_37, if_neg c_38]), by rw [ht]; exact hP, va_K.moved hW.alike hK, hD⟩, hS.F ht⟩) hS.2.2 d_M_checkIn_136
                    · have c_38 : ((a 6) (j)) = 0 := c_38
                      refine lv_iconst (v := 0) hx hb d_M_checkIn_131 (by decide) ?_
                      refine lv_goto (tgt := 136) hx hb d_M_checkIn_132 (by decide) ?_
                      exact W.iret (v := 0) hx hb hr (fun t ht hW => ⟨⟨0, (28, bk, MW cs 0 z (va_up (va_up (va_up a 6 (upd (a 6) (j) (3))) 10 (upd (a 10) (j) (many))) 11 (upd (a 11) (j) (day))) bk), rfl, Mr_of (by rw [s_M_checkIn, if_pos c_5, if_pos c_7, if_neg c_8, if_neg c_19, if_pos c_30, if_neg c_34, if_neg c_35, if_pos c_37, if_pos c_38]), by rw [ht]; exact hP, va_K.moved hW.alike hK, hD⟩, hS.F ht⟩) hS.2.2 d_M_checkIn_136
                  · have c_37 : ¬ day ≤ ((a 7) (j)) := c_37
                    refine lv_aload_n hx hb d_M_checkIn_120 rfl (lv_at hl 1 rfl) ?_
                    refine lv_iconst (v := 2) hx hb d_M_checkIn_121 (by decide) ?_
                    refine lv_iload_n hx hb d_M_checkIn_122 rfl (lv_at hl 2 rfl) ?_
                    refine pm_callv (va_runV (As := [.int (2), .int (nI j)]) (rest := []) ⟨hx, hb, hml, hown, hw⟩ (c_M_tell l D cs bk H.size 0 z (va_up (va_up (va_up a 6 (upd (a 6) (j) (3))) 10 (upd (a 10) (j) (many))) 11 (upd (a 11) (j) (day))) hz4 2 (nI j)) (cw_V 2 hw kM_M_118 kI_M_tell kV_M_tell kZ_M kC_M_tell rfl rfl ⟨rfl, by decide, by decide, by decide +kernel⟩ ⟨Nat.le_of_ble_eq_true rfl, Nat.le_of_ble_eq_true rfl⟩) (pw_preV hN hK hP hD (0) (by decide) rfl rfl) rfl rfl hl.1 rfl (lv_room (Nat.le_of_ble_eq_true rfl)) d_M_checkIn_123 ⟨Nat.le_of_ble_eq_true rfl, Nat.le_of_ble_eq_true rfl⟩) hS (wl_free hD hS hA) (fun H locs hP hD hS => ?_)
                    rw [tell_eq] at hP hD
                    have hP : va_P D classes (wl 28 bk (MW cs 0 (va_up z 4 (tlz z)) (va_up (va_up (va_up (va_up (va_up a 6 (upd (a 6) (j) (3))) 10 (upd (a 10) (j) (many))) 11 (upd (a 11) (j) (day))) 26 (tla z (a 26) 2)) 27 (tla z (a 27) (nI j))) bk)) H := hP
                    have hD : va_D (AA 28 bk sz) (wl 28 bk (MW cs 0 (va_up z 4 (tlz z)) (va_up (va_up (va_up (va_up (va_up a 6 (upd (a 6) (j) (3))) 10 (upd (a 10) (j) (many))) 11 (upd (a 11) (j) (day))) 26 (tla z (a 26) 2)) 27 (tla z (a 27) (nI j))) bk)) := hD
                    refine lv_iload hx hb d_M_checkIn_126 (lv_at hl 0 rfl) ?_
                    refine lv_if_ne (tgt := 135) hx hb d_M_checkIn_128 (by decide) (fun c_39 => ?_) (fun c_39 => ?_)
                    · have c_39 : ¬ ((a 6) (j)) = 0 := c_39
                      refine lv_iconst (v := 1) hx hb d_M_checkIn_135 (by decide) ?_
                      exact W.iret (v := 1) hx hb hr (fun t ht hW => ⟨⟨1, (28, bk, MW cs 0 (va_up z 4 (tlz z)) (va_up (va_up (va_up (va_up (va_up a 6 (upd (a 6) (j) (3))) 10 (upd (a 10) (j) (many))) 11 (upd (a 11) (j) (day))) 26 (tla z (a 26) 2)) 27 (tla z (a 27) (nI j))) bk), rfl, Mr_of (by rw [s_M_checkIn, if_pos c_5, if_pos c_7, if_neg c_8, if_neg c_19, if_pos c_30, if_neg c_34, if_neg c_35, if_neg c_37, if_neg c_39]), by rw [ht]; exact hP, va_K.moved hW.alike hK, hD⟩, hS.F ht⟩) hS.2.2 d_M_checkIn_136
                    · have c_39 : ((a 6) (j)) = 0 := c_39
                      refine lv_iconst (v := 0) hx hb d_M_checkIn_131 (by decide) ?_
                      refine lv_goto (tgt := 136) hx hb d_M_checkIn_132 (by decide) ?_
                      exact W.iret (v := 0) hx hb hr (fun t ht hW => ⟨⟨0, (28, bk, MW cs 0 (va_up z 4 (tlz z)) (va_up (va_up (va_up (va_up (va_up a 6 (upd (a 6) (j) (3))) 10 (upd (a 10) (j) (many))) 11 (upd (a 11) (j) (day))) 26 (tla z (a 26) 2)) 27 (tla z (a 27) (nI j))) bk), rfl, Mr_of (by rw [s_M_checkIn, if_pos c_5, if_pos c_7, if_neg c_8, if_neg c_19, if_pos c_30, if_neg c_34, if_neg c_35, if_neg c_37, if_pos c_39]), by rw [ht]; exact hP, va_K.moved hW.alike hK, hD⟩, hS.F ht⟩) hS.2.2 d_M_checkIn_136
              · have c_34 : ((a 6) (j)) = 0 := c_34
                refine lv_aload_n hx hb d_M_checkIn_95 rfl (lv_at hl 1 rfl) ?_
                refine lv_iconst (v := 1) hx hb d_M_checkIn_96 (by decide) ?_
                refine lv_iload_n hx hb d_M_checkIn_97 rfl (lv_at hl 2 rfl) ?_
                refine pm_callv (va_runV (As := [.int (1), .int (nI j)]) (rest := []) ⟨hx, hb, hml, hown, hw⟩ (c_M_tell l D cs bk H.size 0 z (va_up (va_up (va_up a 6 (upd (a 6) (j) (3))) 10 (upd (a 10) (j) (many))) 11 (upd (a 11) (j) (day))) hz4 1 (nI j)) (cw_V 2 hw kM_M_118 kI_M_tell kV_M_tell kZ_M kC_M_tell rfl rfl ⟨rfl, by decide, by decide, by decide +kernel⟩ ⟨Nat.le_of_ble_eq_true rfl, Nat.le_of_ble_eq_true rfl⟩) (pw_preV hN hK hP hD (0) (by decide) rfl rfl) rfl rfl hl.1 rfl (lv_room (Nat.le_of_ble_eq_true rfl)) d_M_checkIn_98 ⟨Nat.le_of_ble_eq_true rfl, Nat.le_of_ble_eq_true rfl⟩) hS (wl_free hD hS hA) (fun H locs hP hD hS => ?_)
                rw [tell_eq] at hP hD
                have hP : va_P D classes (wl 28 bk (MW cs 0 (va_up z 4 (tlz z)) (va_up (va_up (va_up (va_up (va_up a 6 (upd (a 6) (j) (3))) 10 (upd (a 10) (j) (many))) 11 (upd (a 11) (j) (day))) 26 (tla z (a 26) 1)) 27 (tla z (a 27) (nI j))) bk)) H := hP
                have hD : va_D (AA 28 bk sz) (wl 28 bk (MW cs 0 (va_up z 4 (tlz z)) (va_up (va_up (va_up (va_up (va_up a 6 (upd (a 6) (j) (3))) 10 (upd (a 10) (j) (many))) 11 (upd (a 11) (j) (day))) 26 (tla z (a 26) 1)) 27 (tla z (a 27) (nI j))) bk)) := hD
                refine lv_goto (tgt := 126) hx hb d_M_checkIn_101 (by decide) ?_
                refine lv_iload hx hb d_M_checkIn_126 (lv_at hl 0 rfl) ?_
                refine lv_if_ne (tgt := 135) hx hb d_M_checkIn_128 (by decide) (fun c_40 => ?_) (fun c_40 => ?_)
                · have c_40 : ¬ ((a 6) (j)) = 0 := c_40
                  refine lv_iconst (v := 1) hx hb d_M_checkIn_135 (by decide) ?_
                  exact W.iret (v := 1) hx hb hr (fun t ht hW => ⟨⟨1, (28, bk, MW cs 0 (va_up z 4 (tlz z)) (va_up (va_up (va_up (va_up (va_up a 6 (upd (a 6) (j) (3))) 10 (upd (a 10) (j) (many))) 11 (upd (a 11) (j) (day))) 26 (tla z (a 26) 1)) 27 (tla z (a 27) (nI j))) bk), rfl, Mr_of (by rw [s_M_checkIn, if_pos c_5, if_pos c_7, if_neg c_8, if_neg c_19, if_pos c_30, if_pos c_34, if_neg c_40]), by rw [ht]; exact hP, va_K.moved hW.alike hK, hD⟩, hS.F ht⟩) hS.2.2 d_M_checkIn_136
                · have c_40 : ((a 6) (j)) = 0 := c_40
                  refine lv_iconst (v := 0) hx hb d_M_checkIn_131 (by decide) ?_
                  refine lv_goto (tgt := 136) hx hb d_M_checkIn_132 (by decide) ?_
                  exact W.iret (v := 0) hx hb hr (fun t ht hW => ⟨⟨0, (28, bk, MW cs 0 (va_up z 4 (tlz z)) (va_up (va_up (va_up (va_up (va_up a 6 (upd (a 6) (j) (3))) 10 (upd (a 10) (j) (many))) 11 (upd (a 11) (j) (day))) 26 (tla z (a 26) 1)) 27 (tla z (a 27) (nI j))) bk), rfl, Mr_of (by rw [s_M_checkIn, if_pos c_5, if_pos c_7, if_neg c_8, if_neg c_19, if_pos c_30, if_pos c_34, if_pos c_40]), by rw [ht]; exact hP, va_K.moved hW.alike hK, hD⟩, hS.F ht⟩) hS.2.2 d_M_checkIn_136
            · have c_30 : ¬ ((a 6) (j)) = 2 := c_30
              refine lv_iload hx hb d_M_checkIn_60 (lv_at hl 0 rfl) ?_
              refine lv_iconst (v := 4) hx hb d_M_checkIn_62 (by decide) ?_
              refine lv_icmp_eq (tgt := 69) hx hb d_M_checkIn_63 (by decide) (fun c_41 => ?_) (fun c_41 => ?_)
              · have c_41 : ((a 6) (j)) = 4 := c_41
                refine lv_aload_n hx hb d_M_checkIn_69 rfl (lv_at hl 1 rfl) ?_
                refine pw_get (ci := 7) (v := .ref (bk (6))) hx hb hw i_M hown hK hP (0) (by decide) rfl rfl 7 (by decide) (hw _ kF_M_25) rfl d_M_checkIn_70 ?_
                refine lv_iload_n hx hb d_M_checkIn_73 rfl (lv_at hl 2 rfl) ?_
                refine lv_iconst (v := 3) hx hb d_M_checkIn_74 (by decide) ?_
                refine pw_iast (n := 200) (f := (a 6)) hx hb hK hP hD hS 0 (6) (by decide) rfl rfl (j) rfl (by omega) (by decide) d_M_checkIn_75 (fun cw_42 H locs ecw_42 hP hD hS => ?_)
                obtain rfl : cw_42 = MW cs 0 z (va_up a 6 (upd (a 6) (j) (3))) bk := by rw [ecw_42]; exact MW_arr 6 (by decide) (upd (a 6) (j) (3))
                refine lv_aload_n hx hb d_M_checkIn_76 rfl (lv_at hl 1 rfl) ?_
                refine pw_get (ci := 7) (v := .ref (bk (10))) hx hb hw i_M hown hK hP (0) (by decide) rfl rfl 11 (by decide) (hw _ kF_M_37) rfl d_M_checkIn_77 ?_
                refine lv_iload_n hx hb d_M_checkIn_80 rfl (lv_at hl 2 rfl) ?_
                refine lv_iload_n hx hb d_M_checkIn_81 rfl (lv_at hl 3 rfl) ?_
                refine pw_iast (n := 200) (f := (a 10)) hx hb hK hP hD hS 0 (10) (by decide) rfl rfl (j) rfl (by omega) (by decide) d_M_checkIn_82 (fun cw_43 H locs ecw_43 hP hD hS => ?_)
                obtain rfl : cw_43 = MW cs 0 z (va_up (va_up a 6 (upd (a 6) (j) (3))) 10 (upd (a 10) (j) (many))) bk := by rw [ecw_43]; exact MW_arr 10 (by decide) (upd (a 10) (j) (many))
                refine lv_aload_n hx hb d_M_checkIn_83 rfl (lv_at hl 1 rfl) ?_
                refine pw_get (ci := 7) (v := .ref (bk (11))) hx hb hw i_M hown hK hP (0) (by decide) rfl rfl 12 (by decide) (hw _ kF_M_40) rfl d_M_checkIn_84 ?_
                refine lv_iload_n hx hb d_M_checkIn_87 rfl (lv_at hl 2 rfl) ?_
                refine lv_iload_n hx hb d_M_checkIn_88 rfl (lv_at hl 4 rfl) ?_
                refine pw_iast (n := 200) (f := (a 11)) hx hb hK hP hD hS 0 (11) (by decide) rfl rfl (j) rfl (by omega) (by decide) d_M_checkIn_89 (fun cw_44 H locs ecw_44 hP hD hS => ?_)
                obtain rfl : cw_44 = MW cs 0 z (va_up (va_up (va_up a 6 (upd (a 6) (j) (3))) 10 (upd (a 10) (j) (many))) 11 (upd (a 11) (j) (day))) bk := by rw [ecw_44]; exact MW_arr 11 (by decide) (upd (a 11) (j) (day))
                refine lv_iload hx hb d_M_checkIn_90 (lv_at hl 0 rfl) ?_
                refine lv_if_ne (tgt := 104) hx hb d_M_checkIn_92 (by decide) (fun c_45 => ?_) (fun c_45 => ?_)
                · have c_45 : ¬ ((a 6) (j)) = 0 := c_45
                  refine lv_iload hx hb d_M_checkIn_104 (lv_at hl 0 rfl) ?_
                  refine lv_iconst (v := 4) hx hb d_M_checkIn_106 (by decide) ?_
                  refine lv_icmp_eq (tgt := 120) hx hb d_M_checkIn_107 (by decide) (fun c_46 => ?_) (fun c_46 => ?_)
                  · have c_46 : ((a 6) (j)) = 4 := c_46
                    refine lv_aload_n hx hb d_M_checkIn_120 rfl (lv_at hl 1 rfl) ?_
                    refine lv_iconst (v := 2) hx hb d_M_checkIn_121 (by decide) ?_
                    refine lv_iload_n hx hb d_M_checkIn_122 rfl (lv_at hl 2 rfl) ?_
                    refine pm_callv (va_runV (As := [.int (2), .int (nI j)]) (rest := []) ⟨hx, hb, hml, hown, hw⟩ (c_M_tell l D cs bk H.size 0 z (va_up (va_up (va_up a 6 (upd (a 6) (j) (3))) 10 (upd (a 10) (j) (many))) 11 (upd (a 11) (j) (day))) hz4 2 (nI j)) (cw_V 2 hw kM_M_118 kI_M_tell kV_M_tell kZ_M kC_M_tell rfl rfl ⟨rfl, by decide, by decide, by decide +kernel⟩ ⟨Nat.le_of_ble_eq_true rfl, Nat.le_of_ble_eq_true rfl⟩) (pw_preV hN hK hP hD (0) (by decide) rfl rfl) rfl rfl hl.1 rfl (lv_room (Nat.le_of_ble_eq_true rfl)) d_M_checkIn_123 ⟨Nat.le_of_ble_eq_true rfl, Nat.le_of_ble_eq_true rfl⟩) hS (wl_free hD hS hA) (fun H locs hP hD hS => ?_)
                    rw [tell_eq] at hP hD
                    have hP : va_P D classes (wl 28 bk (MW cs 0 (va_up z 4 (tlz z)) (va_up (va_up (va_up (va_up (va_up a 6 (upd (a 6) (j) (3))) 10 (upd (a 10) (j) (many))) 11 (upd (a 11) (j) (day))) 26 (tla z (a 26) 2)) 27 (tla z (a 27) (nI j))) bk)) H := hP
                    have hD : va_D (AA 28 bk sz) (wl 28 bk (MW cs 0 (va_up z 4 (tlz z)) (va_up (va_up (va_up (va_up (va_up a 6 (upd (a 6) (j) (3))) 10 (upd (a 10) (j) (many))) 11 (upd (a 11) (j) (day))) 26 (tla z (a 26) 2)) 27 (tla z (a 27) (nI j))) bk)) := hD
                    refine lv_iload hx hb d_M_checkIn_126 (lv_at hl 0 rfl) ?_
                    refine lv_if_ne (tgt := 135) hx hb d_M_checkIn_128 (by decide) (fun c_47 => ?_) (fun c_47 => ?_)
                    · have c_47 : ¬ ((a 6) (j)) = 0 := c_47
                      refine lv_iconst (v := 1) hx hb d_M_checkIn_135 (by decide) ?_
                      exact W.iret (v := 1) hx hb hr (fun t ht hW => ⟨⟨1, (28, bk, MW cs 0 (va_up z 4 (tlz z)) (va_up (va_up (va_up (va_up (va_up a 6 (upd (a 6) (j) (3))) 10 (upd (a 10) (j) (many))) 11 (upd (a 11) (j) (day))) 26 (tla z (a 26) 2)) 27 (tla z (a 27) (nI j))) bk), rfl, Mr_of (by rw [s_M_checkIn, if_pos c_5, if_pos c_7, if_neg c_8, if_neg c_19, if_neg c_30, if_pos c_41, if_neg c_45, if_pos c_46, if_neg c_47]), by rw [ht]; exact hP, va_K.moved hW.alike hK, hD⟩, hS.F ht⟩) hS.2.2 d_M_checkIn_136
                    · have c_47 : ((a 6) (j)) = 0 := c_47
                      refine lv_iconst (v := 0) hx hb d_M_checkIn_131 (by decide) ?_
                      refine lv_goto (tgt := 136) hx hb d_M_checkIn_132 (by decide) ?_
                      exact W.iret (v := 0) hx hb hr (fun t ht hW => ⟨⟨0, (28, bk, MW cs 0 (va_up z 4 (tlz z)) (va_up (va_up (va_up (va_up (va_up a 6 (upd (a 6) (j) (3))) 10 (upd (a 10) (j) (many))) 11 (upd (a 11) (j) (day))) 26 (tla z (a 26) 2)) 27 (tla z (a 27) (nI j))) bk), rfl, Mr_of (by rw [s_M_checkIn, if_pos c_5, if_pos c_7, if_neg c_8, if_neg c_19, if_neg c_30, if_pos c_41, if_neg c_45, if_pos c_46, if_pos c_47]), by rw [ht]; exact hP, va_K.moved hW.alike hK, hD⟩, hS.F ht⟩) hS.2.2 d_M_checkIn_136
                  · have c_46 : ¬ ((a 6) (j)) = 4 := c_46
                    refine lv_iload_n hx hb d_M_checkIn_110 rfl (lv_at hl 4 rfl) ?_
                    refine lv_aload_n hx hb d_M_checkIn_111 rfl (lv_at hl 1 rfl) ?_
                    refine pw_get (ci := 7) (v := .ref (bk (7))) hx hb hw i_M hown hK hP (0) (by decide) rfl rfl 8 (by decide) (hw _ kF_M_28) rfl d_M_checkIn_112 ?_
                    refine lv_iload_n hx hb d_M_checkIn_115 rfl (lv_at hl 2 rfl) ?_
                    refine pw_iald (n := 200) (f := (a 7)) hx hb hK hP 0 (7) (by decide) rfl rfl (j) rfl (by omega) (by decide) d_M_checkIn_116 ?_
                    refine lv_icmp_le (tgt := 126) hx hb d_M_checkIn_117 (by decide) (fun c_48 => ?_) (fun c_48 => ?_)
                    · have c_48 : day ≤ ((a 7) (j)) := c_48
                      refine lv_iload hx hb d_M_checkIn_126 (lv_at hl 0 rfl) ?_
                      refine lv_if_ne (tgt := 135) hx hb d_M_checkIn_128 (by decide) (fun c_49 => ?_) (fun c_49 => ?_)
                      · have c_49 : ¬ ((a 6) (j)) = 0 := c_49
                        refine lv_iconst (v := 1) hx hb d_M_checkIn_135 (by decide) ?_
                        exact W.iret (v := 1) hx hb hr (fun t ht hW => ⟨⟨1, (28, bk, MW cs 0 z (va_up (va_up (va_up a 6 (upd (a 6) (j) (3))) 10 (upd (a 10) (j) (many))) 11 (upd (a 11) (j) (day))) bk), rfl, Mr_of (by rw [s_M_checkIn, if_pos c_5, if_pos c_7, if_neg c_8, if_neg c_19, if_neg c_30, if_pos c_41, if_neg c_45, if_neg c_46, if_pos c_48, if_neg c_49]), by rw [ht]; exact hP, va_K.moved hW.alike hK, hD⟩, hS.F ht⟩) hS.2.2 d_M_checkIn_136
                      · have c_49 : ((a 6) (j)) = 0 := c_49
                        refine lv_iconst (v := 0) hx hb d_M_checkIn_131 (by decide) ?_
                        refine lv_goto (tgt := 136) hx hb d_M_checkIn_132 (by decide) ?_
                        exact W.iret (v := 0) hx hb hr (fun t ht hW => ⟨⟨0, (28, bk, MW cs 0 z (va_up (va_up (va_up a 6 (upd (a 6) (j) (3))) 10 (upd (a 10) (j) (many))) 11 (upd (a 11) (j) (day))) bk), rfl, Mr_of (by rw [s_M_checkIn, if_pos c_5, if_pos c_7, if_neg c_8, if_neg c_19, if_neg c_30, if_pos c_41, if_neg c_45, if_neg c_46, if_pos c_48, if_pos c_49]), by rw [ht]; exact hP, va_K.moved hW.alike hK, hD⟩, hS.F ht⟩) hS.2.2 d_M_checkIn_136
                    · have c_48 : ¬ day ≤ ((a 7) (j)) := c_48
                      refine lv_aload_n hx hb d_M_checkIn_120 rfl (lv_at hl 1 rfl) ?_
                      refine lv_iconst (v := 2) hx hb d_M_checkIn_121 (by decide) ?_
                      refine lv_iload_n hx hb d_M_checkIn_122 rfl (lv_at hl 2 rfl) ?_
                      refine pm_callv (va_runV (As := [.int (2), .int (nI j)]) (rest := []) ⟨hx, hb, hml, hown, hw⟩ (c_M_tell l D cs bk H.size 0 z (va_up (va_up (va_up a 6 (upd (a 6) (j) (3))) 10 (upd (a 10) (j) (many))) 11 (upd (a 11) (j) (day))) hz4 2 (nI j)) (cw_V 2 hw kM_M_118 kI_M_tell kV_M_tell kZ_M kC_M_tell rfl rfl ⟨rfl, by decide, by decide, by decide +kernel⟩ ⟨Nat.le_of_ble_eq_true rfl, Nat.le_of_ble_eq_true rfl⟩) (pw_preV hN hK hP hD (0) (by decide) rfl rfl) rfl rfl hl.1 rfl (lv_room (Nat.le_of_ble_eq_true rfl)) d_M_checkIn_123 ⟨Nat.le_of_ble_eq_true rfl, Nat.le_of_ble_eq_true rfl⟩) hS (wl_free hD hS hA) (fun H locs hP hD hS => ?_)
                      rw [tell_eq] at hP hD
                      have hP : va_P D classes (wl 28 bk (MW cs 0 (va_up z 4 (tlz z)) (va_up (va_up (va_up (va_up (va_up a 6 (upd (a 6) (j) (3))) 10 (upd (a 10) (j) (many))) 11 (upd (a 11) (j) (day))) 26 (tla z (a 26) 2)) 27 (tla z (a 27) (nI j))) bk)) H := hP
                      have hD : va_D (AA 28 bk sz) (wl 28 bk (MW cs 0 (va_up z 4 (tlz z)) (va_up (va_up (va_up (va_up (va_up a 6 (upd (a 6) (j) (3))) 10 (upd (a 10) (j) (many))) 11 (upd (a 11) (j) (day))) 26 (tla z (a 26) 2)) 27 (tla z (a 27) (nI j))) bk)) := hD
                      refine lv_iload hx hb d_M_checkIn_126 (lv_at hl 0 rfl) ?_
                      refine lv_if_ne (tgt := 135) hx hb d_M_checkIn_128 (by decide) (fun c_50 => ?_) (fun c_50 => ?_)
                      · have c_50 : ¬ ((a 6) (j)) = 0 := c_50
                        refine lv_iconst (v := 1) hx hb d_M_checkIn_135 (by decide) ?_
                        exact W.iret (v := 1) hx hb hr (fun t ht hW => ⟨⟨1, (28, bk, MW cs 0 (va_up z 4 (tlz z)) (va_up (va_up (va_up (va_up (va_up a 6 (upd (a 6) (j) (3))) 10 (upd (a 10) (j) (many))) 11 (upd (a 11) (j) (day))) 26 (tla z (a 26) 2)) 27 (tla z (a 27) (nI j))) bk), rfl, Mr_of (by rw [s_M_checkIn, if_pos c_5, if_pos c_7, if_neg c_8, if_neg c_19, if_neg c_30, if_pos c_41, if_neg c_45, if_neg c_46, if_neg c_48, if_neg c_50]), by rw [ht]; exact hP, va_K.moved hW.alike hK, hD⟩, hS.F ht⟩) hS.2.2 d_M_checkIn_136
                      · have c_50 : ((a 6) (j)) = 0 := c_50
                        refine lv_iconst (v := 0) hx hb d_M_checkIn_131 (by decide) ?_
                        refine lv_goto (tgt := 136) hx hb d_M_checkIn_132 (by decide) ?_
                        exact W.iret (v := 0) hx hb hr (fun t ht hW => ⟨⟨0, (28, bk, MW cs 0 (va_up z 4 (tlz z)) (va_up (va_up (va_up (va_up (va_up a 6 (upd (a 6) (j) (3))) 10 (upd (a 10) (j) (many))) 11 (upd (a 11) (j) (day))) 26 (tla z (a 26) 2)) 27 (tla z (a 27) (nI j))) bk), rfl, Mr_of (by rw [s_M_checkIn, if_pos c_5, if_pos c_7, if_neg c_8, if_neg c_19, if_neg c_30, if_pos c_41, if_neg c_45, if_neg c_46, if_neg c_48, if_pos c_50]), by rw [ht]; exact hP, va_K.moved hW.alike hK, hD⟩, hS.F ht⟩) hS.2.2 d_M_checkIn_136
                · have c_45 : ((a 6) (j)) = 0 := c_45
                  refine lv_aload_n hx hb d_M_checkIn_95 rfl (lv_at hl 1 rfl) ?_
                  refine lv_iconst (v := 1) hx hb d_M_checkIn_96 (by decide) ?_
                  refine lv_iload_n hx hb d_M_checkIn_97 rfl (lv_at hl 2 rfl) ?_
                  refine pm_callv (va_runV (As := [.int (1), .int (nI j)]) (rest := []) ⟨hx, hb, hml, hown, hw⟩ (c_M_tell l D cs bk H.size 0 z (va_up (va_up (va_up a 6 (upd (a 6) (j) (3))) 10 (upd (a 10) (j) (many))) 11 (upd (a 11) (j) (day))) hz4 1 (nI j)) (cw_V 2 hw kM_M_118 kI_M_tell kV_M_tell kZ_M kC_M_tell rfl rfl ⟨rfl, by decide, by decide, by decide +kernel⟩ ⟨Nat.le_of_ble_eq_true rfl, Nat.le_of_ble_eq_true rfl⟩) (pw_preV hN hK hP hD (0) (by decide) rfl rfl) rfl rfl hl.1 rfl (lv_room (Nat.le_of_ble_eq_true rfl)) d_M_checkIn_98 ⟨Nat.le_of_ble_eq_true rfl, Nat.le_of_ble_eq_true rfl⟩) hS (wl_free hD hS hA) (fun H locs hP hD hS => ?_)
                  rw [tell_eq] at hP hD
                  have hP : va_P D classes (wl 28 bk (MW cs 0 (va_up z 4 (tlz z)) (va_up (va_up (va_up (va_up (va_up a 6 (upd (a 6) (j) (3))) 10 (upd (a 10) (j) (many))) 11 (upd (a 11) (j) (day))) 26 (tla z (a 26) 1)) 27 (tla z (a 27) (nI j))) bk)) H := hP
                  have hD : va_D (AA 28 bk sz) (wl 28 bk (MW cs 0 (va_up z 4 (tlz z)) (va_up (va_up (va_up (va_up (va_up a 6 (upd (a 6) (j) (3))) 10 (upd (a 10) (j) (many))) 11 (upd (a 11) (j) (day))) 26 (tla z (a 26) 1)) 27 (tla z (a 27) (nI j))) bk)) := hD
                  refine lv_goto (tgt := 126) hx hb d_M_checkIn_101 (by decide) ?_
                  refine lv_iload hx hb d_M_checkIn_126 (lv_at hl 0 rfl) ?_
                  refine lv_if_ne (tgt := 135) hx hb d_M_checkIn_128 (by decide) (fun c_51 => ?_) (fun c_51 => ?_)
                  · have c_51 : ¬ ((a 6) (j)) = 0 := c_51
                    refine lv_iconst (v := 1) hx hb d_M_checkIn_135 (by decide) ?_
                    exact W.iret (v := 1) hx hb hr (fun t ht hW => ⟨⟨1, (28, bk, MW cs 0 (va_up z 4 (tlz z)) (va_up (va_up (va_up (va_up (va_up a 6 (upd (a 6) (j) (3))) 10 (upd (a 10) (j) (many))) 11 (upd (a 11) (j) (day))) 26 (tla z (a 26) 1)) 27 (tla z (a 27) (nI j))) bk), rfl, Mr_of (by rw [s_M_checkIn, if_pos c_5, if_pos c_7, if_neg c_8, if_neg c_19, if_neg c_30, if_pos c_41, if_pos c_45, if_neg c_51]), by rw [ht]; exact hP, va_K.moved hW.alike hK, hD⟩, hS.F ht⟩) hS.2.2 d_M_checkIn_136
                  · have c_51 : ((a 6) (j)) = 0 := c_51
                    refine lv_iconst (v := 0) hx hb d_M_checkIn_131 (by decide) ?_
                    refine lv_goto (tgt := 136) hx hb d_M_checkIn_132 (by decide) ?_
                    exact W.iret (v := 0) hx hb hr (fun t ht hW => ⟨⟨0, (28, bk, MW cs 0 (va_up z 4 (tlz z)) (va_up (va_up (va_up (va_up (va_up a 6 (upd (a 6) (j) (3))) 10 (upd (a 10) (j) (many))) 11 (upd (a 11) (j) (day))) 26 (tla z (a 26) 1)) 27 (tla z (a 27) (nI j))) bk), rfl, Mr_of (by rw [s_M_checkIn, if_pos c_5, if_pos c_7, if_neg c_8, if_neg c_19, if_neg c_30, if_pos c_41, if_pos c_45, if_pos c_51]), by rw [ht]; exact hP, va_K.moved hW.alike hK, hD⟩, hS.F ht⟩) hS.2.2 d_M_checkIn_136
              · have c_41 : ¬ ((a 6) (j)) = 4 := c_41
                refine lv_bipush (v := -3) hx hb d_M_checkIn_66 (by decide) ?_
                exact W.iret (v := -3) hx hb hr (fun t ht hW => ⟨⟨-3, (28, bk, MW cs 0 z a bk), rfl, Mr_of (by rw [s_M_checkIn, if_pos c_5, if_pos c_7, if_neg c_8, if_neg c_19, if_neg c_30, if_neg c_41]), by rw [ht]; exact hP, va_K.moved hW.alike hK, hD⟩, hS.F ht⟩) hS.2.2 d_M_checkIn_68
      · have c_7 : ¬ (0 ≤ day ∧ day ≤ 1000000) := c_7
        refine lv_bipush (v := -2) hx hb d_M_checkIn_32 (by decide) ?_
        exact W.iret (v := -2) hx hb hr (fun t ht hW => ⟨⟨-2, (28, bk, MW cs 0 z a bk), rfl, Mr_of (by rw [s_M_checkIn, if_pos c_5, if_neg c_7]), by rw [ht]; exact hP, va_K.moved hW.alike hK, hD⟩, hS.F ht⟩) hS.2.2 d_M_checkIn_34
  · have c_3 : ¬ (0 ≤ (nI j) ∧ (nI j) < nI (z 0)) := c_3
    exact absurd ⟨nI_pos' (by omega), (nI_ltI (by omega) (by omega)).mpr hj⟩ c_3
def s_M_askFor (th : Int32) (z : Nat → Nat) (a : Nat → Nat → Int32) (j : Nat) (day : Int32) : MS := (if ((a 6) (j)) = 1 then (if (day - ((a 7) (j))) < ((a 1) ((a 4) (j)).toNatClampNeg) then (0, th, z, a) else (if ((a 8) (j)) < ((a 3) ((a 4) (j)).toNatClampNeg) then (0, th, va_up z 1 ((z 1) + 1), va_up (va_up (va_up (va_up (va_up a 6 (upd (a 6) (j) (2))) 8 (upd (a 8) (j) (((a 8) (j)) + 1))) 9 (upd (a 9) (j) (day))) 21 (upd (a 21) (z 1) (nI j))) 22 (upd (a 22) (z 1) ((upd (a 8) (j) (((a 8) (j)) + 1)) (j)))) else (0, th, va_up z 4 (tlz z), va_up (va_up (va_up a 6 (upd (a 6) (j) (4))) 26 (tla z (a 26) 3)) 27 (tla z (a 27) (nI j))))) else (if ((a 6) (j)) = 2 then (if (day - ((a 9) (j))) < ((a 2) ((a 4) (j)).toNatClampNeg) then (0, th, z, a) else (if ((a 8) (j)) < ((a 3) ((a 4) (j)).toNatClampNeg) then (0, th, va_up z 1 ((z 1) + 1), va_up (va_up (va_up (va_up (va_up a 6 (upd (a 6) (j) (2))) 8 (upd (a 8) (j) (((a 8) (j)) + 1))) 9 (upd (a 9) (j) (day))) 21 (upd (a 21) (z 1) (nI j))) 22 (upd (a 22) (z 1) ((upd (a 8) (j) (((a 8) (j)) + 1)) (j)))) else (0, th, va_up z 4 (tlz z), va_up (va_up (va_up a 6 (upd (a 6) (j) (4))) 26 (tla z (a 26) 3)) 27 (tla z (a 27) (nI j))))) else (0, th, z, a)))
set_option maxHeartbeats 4000000 in
set_option maxRecDepth 100000 in
theorem c_M_askFor (l : Launch) (D : va_G) (cs : Nat → ClassId) (bk : Nat → Nat) (sz : Nat) (th : Int32) (z : Nat → Nat) (a : Nat → Nat → Int32) (j : Nat) (hj : j < 200) (hz4 : z 4 ≤ 100) (hz1 : z 1 < 200) (hpa : 0 ≤ a 4 j ∧ a 4 j ≤ 9) (day : Int32) : Met l y_M_askFor w_M_askFor ({ frames := 1, cells := 0, slots := 0, locals := 22 }) (va_Pc [.ref (bk (0)), .int (nI j), .int (day)] (PB D classes (TY cs) 28 bk (MW cs th z a bk) sz)) (va_Qv (Mv cs bk (s_M_askFor th z a j day)) (Wd D classes (TY cs) (AA 28 bk sz)) (AA 28 bk sz)) 0 0 (AA 28 bk sz) := by
  refine pw_entry (cc := b_M_askFor) (maxL := 5) (ret := none) (by decide +kernel) rfl (Nat.le_of_ble_eq_true rfl) ?_
  intro p_ e_ s m below_ meth_ c_ ls hx hb hr hml hts hown hlocks hin hsz hP hK hD hS hA hN hl
  have hw : ∀ w ∈ WA, w.before _ s = true := fun w h => hts w (List.mem_cons_of_mem _ h)
  have hown : s.vm.findClass "IssueRowsModel" = some m.cls := hown
  have hl : lv_has ls 5 [(0, .ref (bk (0))), (1, .int (nI j)), (2, .int (day))] := hl
  refine lv_aload_n hx hb d_M_askFor_0 rfl (lv_at hl 0 rfl) ?_
  refine pw_get (ci := 7) (v := .ref (bk (4))) hx hb hw i_M hown hK hP (0) (by decide) rfl rfl 5 (by decide) (hw _ kF_M_19) rfl d_M_askFor_1 ?_
  refine lv_iload_n hx hb d_M_askFor_4 rfl (lv_at hl 1 rfl) ?_
  refine pw_iald (n := 200) (f := (a 4)) hx hb hK hP 0 (4) (by decide) rfl rfl (j) rfl (by omega) (by decide) d_M_askFor_5 ?_
  refine lv_istore_n (lv' := [(3, .int ((a 4) (j))), (0, .ref (bk (0))), (1, .int (nI j)), (2, .int (day))]) hx hb d_M_askFor_6 rfl hl (by decide) rfl (fun ls hl => ?_)
  refine lv_aload_n hx hb d_M_askFor_7 rfl (lv_at hl 1 rfl) ?_
  refine pw_get (ci := 7) (v := .ref (bk (6))) hx hb hw i_M hown hK hP (0) (by decide) rfl rfl 7 (by decide) (hw _ kF_M_25) rfl d_M_askFor_8 ?_
  refine lv_iload_n hx hb d_M_askFor_11 rfl (lv_at hl 2 rfl) ?_
  refine pw_iald (n := 200) (f := (a 6)) hx hb hK hP 0 (6) (by decide) rfl rfl (j) rfl (by omega) (by decide) d_M_askFor_12 ?_
  refine lv_iconst (v := 1) hx hb d_M_askFor_13 (by decide) ?_
  refine lv_icmp_ne (tgt := 42) hx hb d_M_askFor_14 (by decide) (fun c_1 => ?_) (fun c_1 => ?_)
  · have c_1 : ¬ ((a 6) (j)) = 1 := c_1
    refine lv_aload_n hx hb d_M_askFor_42 rfl (lv_at hl 1 rfl) ?_
    refine pw_get (ci := 7) (v := .ref (bk (6))) hx hb hw i_M hown hK hP (0) (by decide) rfl rfl 7 (by decide) (hw _ kF_M_25) rfl d_M_askFor_43 ?_
    refine lv_iload_n hx hb d_M_askFor_46 rfl (lv_at hl 2 rfl) ?_
    refine pw_iald (n := 200) (f := (a 6)) hx hb hK hP 0 (6) (by decide) rfl rfl (j) rfl (by omega) (by decide) d_M_askFor_47 ?_
    refine lv_iconst (v := 2) hx hb d_M_askFor_48 (by decide) ?_
    refine lv_icmp_ne (tgt := 73) hx hb d_M_askFor_49 (by decide) (fun c_2 => ?_) (fun c_2 => ?_)
    · have c_2 : ¬ ((a 6) (j)) = 2 := c_2
      refine lv_iconst (v := 0) hx hb d_M_askFor_73 (by decide) ?_
      refine lv_istore (lv' := [(4, .int (0)), (3, .int ((a 4) (j))), (0, .ref (bk (0))), (1, .int (nI j)), (2, .int (day))]) hx hb d_M_askFor_74 hl (by decide) rfl (fun ls hl => ?_)
      refine lv_iload hx hb d_M_askFor_76 (lv_at hl 0 rfl) ?_
      refine lv_if_ne (tgt := 82) hx hb d_M_askFor_78 (by decide) (fun c_3 => ?_) (fun c_3 => ?_)
      · exact absurd c_3 (by decide)
      · skip
        exact W.vret hx hb hr (fun t ht hW => ⟨⟨(28, bk, MW cs th z a bk), rfl, Mv_of (r := 0) (by rw [s_M_askFor, if_neg c_1, if_neg c_2]), by rw [ht]; exact hP, va_K.moved hW.alike hK, hD⟩, hS.F ht⟩) hS.2.2 d_M_askFor_81
    · have c_2 : ((a 6) (j)) = 2 := c_2
      refine lv_iload_n hx hb d_M_askFor_52 rfl (lv_at hl 3 rfl) ?_
      refine lv_aload_n hx hb d_M_askFor_53 rfl (lv_at hl 1 rfl) ?_
      refine pw_get (ci := 7) (v := .ref (bk (9))) hx hb hw i_M hown hK hP (0) (by decide) rfl rfl 10 (by decide) (hw _ kF_M_34) rfl d_M_askFor_54 ?_
      refine lv_iload_n hx hb d_M_askFor_57 rfl (lv_at hl 2 rfl) ?_
      refine pw_iald (n := 200) (f := (a 9)) hx hb hK hP 0 (9) (by decide) rfl rfl (j) rfl (by omega) (by decide) d_M_askFor_58 ?_
      refine lv_isub hx hb d_M_askFor_59 ?_
      refine lv_aload_n hx hb d_M_askFor_60 rfl (lv_at hl 1 rfl) ?_
      refine pw_get (ci := 7) (v := .ref (bk (2))) hx hb hw i_M hown hK hP (0) (by decide) rfl rfl 2 (by decide) (hw _ kF_M_13) rfl d_M_askFor_61 ?_
      refine lv_iload_n hx hb d_M_askFor_64 rfl (lv_at hl 0 rfl) ?_
      refine pw_ialdC (n := 10) (f := (a 2)) hx hb hK hP 0 (2) (by decide) rfl rfl (vp_in_iff.mpr (by have h7 := hpa; simp only [Int32.lt_iff_toInt_lt, Int32.le_iff_toInt_le, ← Int32.toInt_inj, T0, T1, T2, T3, T4, T5, T6, T7, T8, T9, T10, T40, T50, T99, T100, T200, T999, T1000, T9999, T1000000, T10000000, T1000000000, Tm1] at h7 ⊢; omega)) d_M_askFor_65 ?_
      refine lv_icmp_lt (tgt := 73) hx hb d_M_askFor_66 (by decide) (fun c_4 => ?_) (fun c_4 => ?_)
      · have c_4 : (day - ((a 9) (j))) < ((a 2) ((a 4) (j)).toNatClampNeg) := c_4
        refine lv_iconst (v := 0) hx hb d_M_askFor_73 (by decide) ?_
        refine lv_istore (lv' := [(4, .int (0)), (3, .int ((a 4) (j))), (0, .ref (bk (0))), (1, .int (nI j)), (2, .int (day))]) hx hb d_M_askFor_74 hl (by decide) rfl (fun ls hl => ?_)
        refine lv_iload hx hb d_M_askFor_76 (lv_at hl 0 rfl) ?_
        refine lv_if_ne (tgt := 82) hx hb d_M_askFor_78 (by decide) (fun c_5 => ?_) (fun c_5 => ?_)
        · exact absurd c_5 (by decide)
        · skip
          exact W.vret hx hb hr (fun t ht hW => ⟨⟨(28, bk, MW cs th z a bk), rfl, Mv_of (r := 0) (by rw [s_M_askFor, if_neg c_1, if_pos c_2, if_pos c_4]), by rw [ht]; exact hP, va_K.moved hW.alike hK, hD⟩, hS.F ht⟩) hS.2.2 d_M_askFor_81
      · have c_4 : ¬ (day - ((a 9) (j))) < ((a 2) ((a 4) (j)).toNatClampNeg) := c_4
        refine lv_iconst (v := 1) hx hb d_M_askFor_69 (by decide) ?_
        refine lv_goto (tgt := 74) hx hb d_M_askFor_70 (by decide) ?_
        refine lv_istore (lv' := [(4, .int (1)), (3, .int ((a 4) (j))), (0, .ref (bk (0))), (1, .int (nI j)), (2, .int (day))]) hx hb d_M_askFor_74 hl (by decide) rfl (fun ls hl => ?_)
        refine lv_iload hx hb d_M_askFor_76 (lv_at hl 0 rfl) ?_
        refine lv_if_ne (tgt := 82) hx hb d_M_askFor_78 (by decide) (fun c_6 => ?_) (fun c_6 => ?_)
        · skip
          refine lv_aload_n hx hb d_M_askFor_82 rfl (lv_at hl 2 rfl) ?_
          refine pw_get (ci := 7) (v := .ref (bk (8))) hx hb hw i_M hown hK hP (0) (by decide) rfl rfl 9 (by decide) (hw _ kF_M_31) rfl d_M_askFor_83 ?_
          refine lv_iload_n hx hb d_M_askFor_86 rfl (lv_at hl 3 rfl) ?_
          refine pw_iald (n := 200) (f := (a 8)) hx hb hK hP 0 (8) (by decide) rfl rfl (j) rfl (by omega) (by decide) d_M_askFor_87 ?_
          refine lv_aload_n hx hb d_M_askFor_88 rfl (lv_at hl 2 rfl) ?_
          refine pw_get (ci := 7) (v := .ref (bk (3))) hx hb hw i_M hown hK hP (0) (by decide) rfl rfl 3 (by decide) (hw _ kF_M_16) rfl d_M_askFor_89 ?_
          refine lv_iload_n hx hb d_M_askFor_92 rfl (lv_at hl 1 rfl) ?_
          refine pw_ialdC (n := 10) (f := (a 3)) hx hb hK hP 0 (3) (by decide) rfl rfl (vp_in_iff.mpr (by have h7 := hpa; simp only [Int32.lt_iff_toInt_lt, Int32.le_iff_toInt_le, ← Int32.toInt_inj, T0, T1, T2, T3, T4, T5, T6, T7, T8, T9, T10, T40, T50, T99, T100, T200, T999, T1000, T9999, T1000000, T10000000, T1000000000, Tm1] at h7 ⊢; omega)) d_M_askFor_93 ?_
          refine lv_icmp_lt (tgt := 111) hx hb d_M_askFor_94 (by decide) (fun c_7 => ?_) (fun c_7 => ?_)
          · have c_7 : ((a 8) (j)) < ((a 3) ((a 4) (j)).toNatClampNeg) := c_7
            refine lv_aload_n hx hb d_M_askFor_111 rfl (lv_at hl 2 rfl) ?_
            refine pw_get (ci := 7) (v := .ref (bk (6))) hx hb hw i_M hown hK hP (0) (by decide) rfl rfl 7 (by decide) (hw _ kF_M_25) rfl d_M_askFor_112 ?_
            refine lv_iload_n hx hb d_M_askFor_115 rfl (lv_at hl 3 rfl) ?_
            refine lv_iconst (v := 2) hx hb d_M_askFor_116 (by decide) ?_
            refine pw_iast (n := 200) (f := (a 6)) hx hb hK hP hD hS 0 (6) (by decide) rfl rfl (j) rfl (by omega) (by decide) d_M_askFor_117 (fun cw_8 H locs ecw_8 hP hD hS => ?_)
            obtain rfl : cw_8 = MW cs th z (va_up a 6 (upd (a 6) (j) (2))) bk := by rw [ecw_8]; exact MW_arr 6 (by decide) (upd (a 6) (j) (2))
            refine lv_aload_n hx hb d_M_askFor_118 rfl (lv_at hl 2 rfl) ?_
            refine pw_get (ci := 7) (v := .ref (bk (8))) hx hb hw i_M hown hK hP (0) (by decide) rfl rfl 9 (by decide) (hw _ kF_M_31) rfl d_M_askFor_119 ?_
            refine lv_iload_n hx hb d_M_askFor_122 rfl (lv_at hl 3 rfl) ?_
            refine lv_dup2_11 hx hb d_M_askFor_123 rfl rfl ?_
            refine pw_iald (n := 200) (f := (a 8)) hx hb hK hP 0 (8) (by decide) rfl rfl (j) rfl (by omega) (by decide) d_M_askFor_124 ?_
            refine lv_iconst (v := 1) hx hb d_M_askFor_125 (by decide) ?_
            refine lv_iadd hx hb d_M_askFor_126 ?_
            refine pw_iast (n := 200) (f := (a 8)) hx hb hK hP hD hS 0 (8) (by decide) rfl rfl (j) rfl (by omega) (by decide) d_M_askFor_127 (fun cw_9 H locs ecw_9 hP hD hS => ?_)
            obtain rfl : cw_9 = MW cs th z (va_up (va_up a 6 (upd (a 6) (j) (2))) 8 (upd (a 8) (j) (((a 8) (j)) + 1))) bk := by rw [ecw_9]; exact MW_arr 8 (by decide) (upd (a 8) (j) (((a 8) (j)) + 1))
            refine lv_aload_n hx hb d_M_askFor_128 rfl (lv_at hl 2 rfl) ?_
            refine pw_get (ci := 7) (v := .ref (bk (9))) hx hb hw i_M hown hK hP (0) (by decide) rfl rfl 10 (by decide) (hw _ kF_M_34) rfl d_M_askFor_129 ?_
            refine lv_iload_n hx hb d_M_askFor_132 rfl (lv_at hl 3 rfl) ?_
            refine lv_iload_n hx hb d_M_askFor_133 rfl (lv_at hl 4 rfl) ?_
            refine pw_iast (n := 200) (f := (a 9)) hx hb hK hP hD hS 0 (9) (by decide) rfl rfl (j) rfl (by omega) (by decide) d_M_askFor_134 (fun cw_10 H locs ecw_10 hP hD hS => ?_)
            obtain rfl : cw_10 = MW cs th z (va_up (va_up (va_up a 6 (upd (a 6) (j) (2))) 8 (upd (a 8) (j) (((a 8) (j)) + 1))) 9 (upd (a 9) (j) (day))) bk := by rw [ecw_10]; exact MW_arr 9 (by decide) (upd (a 9) (j) (day))
            refine lv_aload_n hx hb d_M_askFor_135 rfl (lv_at hl 2 rfl) ?_
            refine pw_get (ci := 7) (v := .ref (bk (21))) hx hb hw i_M hown hK hP (0) (by decide) rfl rfl 23 (by decide) (hw _ kF_M_71) rfl d_M_askFor_136 ?_
            refine lv_aload_n hx hb d_M_askFor_139 rfl (lv_at hl 2 rfl) ?_
            refine pw_get (ci := 7) (v := .int (nI (z 1))) hx hb hw i_M hown hK hP (0) (by decide) rfl rfl 22 (by decide) (hw _ kF_M_122) rfl d_M_askFor_140 ?_
            refine lv_iload_n hx hb d_M_askFor_143 rfl (lv_at hl 3 rfl) ?_
            refine pw_iast (n := 200) (f := (a 21)) hx hb hK hP hD hS 0 (21) (by decide) rfl rfl (z 1) rfl (by omega) (by decide) d_M_askFor_144 (fun cw_11 H locs ecw_11 hP hD hS => ?_)
            obtain rfl : cw_11 = MW cs th z (va_up (va_up (va_up (va_up a 6 (upd (a 6) (j) (2))) 8 (upd (a 8) (j) (((a 8) (j)) + 1))) 9 (upd (a 9) (j) (day))) 21 (upd (a 21) (z 1) (nI j))) bk := by rw [ecw_11]; exact MW_arr 21 (by decide) (upd (a 21) (z 1) (nI j))
            refine lv_aload_n hx hb d_M_askFor_145 rfl (lv_at hl 2 rfl) ?_
            refine pw_get (ci := 7) (v := .ref (bk (22))) hx hb hw i_M hown hK hP (0) (by decide) rfl rfl 24 (by decide) (hw _ kF_M_74) rfl d_M_askFor_146 ?_
            refine lv_aload_n hx hb d_M_askFor_149 rfl (lv_at hl 2 rfl) ?_
            refine pw_get (ci := 7) (v := .int (nI (z 1))) hx hb hw i_M hown hK hP (0) (by decide) rfl rfl 22 (by decide) (hw _ kF_M_122) rfl d_M_askFor_150 ?_
            refine lv_aload_n hx hb d_M_askFor_153 rfl (lv_at hl 2 rfl) ?_
            refine pw_get (ci := 7) (v := .ref (bk (8))) hx hb hw i_M hown hK hP (0) (by decide) rfl rfl 9 (by decide) (hw _ kF_M_31) rfl d_M_askFor_154 ?_
            refine lv_iload_n hx hb d_M_askFor_157 rfl (lv_at hl 3 rfl) ?_
            refine pw_iald (n := 200) (f := (upd (a 8) (j) (((a 8) (j)) + 1))) hx hb hK hP 0 (8) (by decide) rfl rfl (j) rfl (by omega) (by decide) d_M_askFor_158 ?_
            refine pw_iast (n := 200) (f := (a 22)) hx hb hK hP hD hS 0 (22) (by decide) rfl rfl (z 1) rfl (by omega) (by decide) d_M_askFor_159 (fun cw_12 H locs ecw_12 hP hD hS => ?_)
            obtain rfl : cw_12 = MW cs th z (va_up (va_up (va_up (va_up (va_up a 6 (upd (a 6) (j) (2))) 8 (upd (a 8) (j) (((a 8) (j)) + 1))) 9 (upd (a 9) (j) (day))) 21 (upd (a 21) (z 1) (nI j))) 22 (upd (a 22) (z 1) ((upd (a 8) (j) (((a 8) (j)) + 1)) (j)))) bk := by rw [ecw_12]; exact MW_arr 22 (by decide) (upd (a 22) (z 1) ((upd (a 8) (j) (((a 8) (j)) + 1)) (j)))
            refine lv_aload_n hx hb d_M_askFor_160 rfl (lv_at hl 2 rfl) ?_
            refine lv_dup hx hb d_M_askFor_161 rfl ?_
            refine pw_get (ci := 7) (v := .int (nI (z 1))) hx hb hw i_M hown hK hP (0) (by decide) rfl rfl 22 (by decide) (hw _ kF_M_122) rfl d_M_askFor_162 ?_
            refine lv_iconst (v := 1) hx hb d_M_askFor_165 (by decide) ?_
            refine lv_iadd hx hb d_M_askFor_166 ?_
            rw [show (nI (z 1)) + 1 = nI ((z 1) + 1) from nI_1 _]
            refine pw_put (ci := 7) (v := .int (nI ((z 1) + 1))) (ty := .int) (fs' := [.int (th), .ref (bk (1)), .ref (bk (2)), .ref (bk (3)), .int (nI (z 0)), .ref (bk (4)), .ref (bk (5)), .ref (bk (6)), .ref (bk (7)), .ref (bk (8)), .ref (bk (9)), .ref (bk (10)), .ref (bk (11)), .ref (bk (12)), .ref (bk (13)), .ref (bk (14)), .ref (bk (15)), .ref (bk (16)), .ref (bk (17)), .ref (bk (18)), .ref (bk (19)), .ref (bk (20)), .int (nI ((z 1) + 1)), .ref (bk (21)), .ref (bk (22)), .int (nI (z 2)), .int (nI (z 3)), .ref (bk (23)), .ref (bk (24)), .ref (bk (25)), .int (nI (z 4)), .ref (bk (26)), .ref (bk (27))]) hx hb hw i_M t_M t_M_ok n_M hown hK hP hD hS (0) (by decide) rfl rfl 22 (by decide) (hw _ kF_M_122) rfl (t_M_ok 22 (by decide)) rfl rfl (Nat.le_of_ble_eq_true rfl) rfl d_M_askFor_167 (fun cw_13 H locs ecw_13 hP hD hS => ?_)
            obtain rfl : cw_13 = MW cs th (va_up z 1 ((z 1) + 1)) (va_up (va_up (va_up (va_up (va_up a 6 (upd (a 6) (j) (2))) 8 (upd (a 8) (j) (((a 8) (j)) + 1))) 9 (upd (a 9) (j) (day))) 21 (upd (a 21) (z 1) (nI j))) 22 (upd (a 22) (z 1) ((upd (a 8) (j) (((a 8) (j)) + 1)) (j)))) bk := by rw [ecw_13]; exact MW_obj th (va_up z 1 ((z 1) + 1))
            exact W.vret hx hb hr (fun t ht hW => ⟨⟨(28, bk, MW cs th (va_up z 1 ((z 1) + 1)) (va_up (va_up (va_up (va_up (va_up a 6 (upd (a 6) (j) (2))) 8 (upd (a 8) (j) (((a 8) (j)) + 1))) 9 (upd (a 9) (j) (day))) 21 (upd (a 21) (z 1) (nI j))) 22 (upd (a 22) (z 1) ((upd (a 8) (j) (((a 8) (j)) + 1)) (j)))) bk), rfl, Mv_of (r := 0) (by rw [s_M_askFor, if_neg c_1, if_pos c_2, if_neg c_4, if_pos c_7]), by rw [ht]; exact hP, va_K.moved hW.alike hK, hD⟩, hS.F ht⟩) hS.2.2 d_M_askFor_170
          · have c_7 : ¬ ((a 8) (j)) < ((a 3) ((a 4) (j)).toNatClampNeg) := c_7
            refine lv_aload_n hx hb d_M_askFor_97 rfl (lv_at hl 2 rfl) ?_
            refine pw_get (ci := 7) (v := .ref (bk (6))) hx hb hw i_M hown hK hP (0) (by decide) rfl rfl 7 (by decide) (hw _ kF_M_25) rfl d_M_askFor_98 ?_
            refine lv_iload_n hx hb d_M_askFor_101 rfl (lv_at hl 3 rfl) ?_
            refine lv_iconst (v := 4) hx hb d_M_askFor_102 (by decide) ?_
            refine pw_iast (n := 200) (f := (a 6)) hx hb hK hP hD hS 0 (6) (by decide) rfl rfl (j) rfl (by omega) (by decide) d_M_askFor_103 (fun cw_14 H locs ecw_14 hP hD hS => ?_)
            obtain rfl : cw_14 = MW cs th z (va_up a 6 (upd (a 6) (j) (4))) bk := by rw [ecw_14]; exact MW_arr 6 (by decide) (upd (a 6) (j) (4))
            refine lv_aload_n hx hb d_M_askFor_104 rfl (lv_at hl 2 rfl) ?_
            refine lv_iconst (v := 3) hx hb d_M_askFor_105 (by decide) ?_
            refine lv_iload_n hx hb d_M_askFor_106 rfl (lv_at hl 3 rfl) ?_
            refine pm_callv (va_runV (As := [.int (3), .int (nI j)]) (rest := []) ⟨hx, hb, hml, hown, hw⟩ (c_M_tell l D cs bk H.size th z (va_up a 6 (upd (a 6) (j) (4))) hz4 3 (nI j)) (cw_V 2 hw kM_M_118 kI_M_tell kV_M_tell kZ_M kC_M_tell rfl rfl ⟨rfl, by decide, by decide, by decide +kernel⟩ ⟨Nat.le_of_ble_eq_true rfl, Nat.le_of_ble_eq_true rfl⟩) (pw_preV hN hK hP hD (0) (by decide) rfl rfl) rfl rfl hl.1 rfl (lv_room (Nat.le_of_ble_eq_true rfl)) d_M_askFor_107 ⟨Nat.le_of_ble_eq_true rfl, Nat.le_of_ble_eq_true rfl⟩) hS (wl_free hD hS hA) (fun H locs hP hD hS => ?_)
            rw [tell_eq] at hP hD
            have hP : va_P D classes (wl 28 bk (MW cs th (va_up z 4 (tlz z)) (va_up (va_up (va_up a 6 (upd (a 6) (j) (4))) 26 (tla z (a 26) 3)) 27 (tla z (a 27) (nI j))) bk)) H := hP
            have hD : va_D (AA 28 bk sz) (wl 28 bk (MW cs th (va_up z 4 (tlz z)) (va_up (va_up (va_up a 6 (upd (a 6) (j) (4))) 26 (tla z (a 26) 3)) 27 (tla z (a 27) (nI j))) bk)) := hD
            exact W.vret hx hb hr (fun t ht hW => ⟨⟨(28, bk, MW cs th (va_up z 4 (tlz z)) (va_up (va_up (va_up a 6 (upd (a 6) (j) (4))) 26 (tla z (a 26) 3)) 27 (tla z (a 27) (nI j))) bk), rfl, Mv_of (r := 0) (by rw [s_M_askFor, if_neg c_1, if_pos c_2, if_neg c_4, if_neg c_7]), by rw [ht]; exact hP, va_K.moved hW.alike hK, hD⟩, hS.F ht⟩) hS.2.2 d_M_askFor_110
        · exact absurd c_6 (by decide)
  · have c_1 : ((a 6) (j)) = 1 := c_1
    refine lv_iload_n hx hb d_M_askFor_17 rfl (lv_at hl 3 rfl) ?_
    refine lv_aload_n hx hb d_M_askFor_18 rfl (lv_at hl 1 rfl) ?_
    refine pw_get (ci := 7) (v := .ref (bk (7))) hx hb hw i_M hown hK hP (0) (by decide) rfl rfl 8 (by decide) (hw _ kF_M_28) rfl d_M_askFor_19 ?_
    refine lv_iload_n hx hb d_M_askFor_22 rfl (lv_at hl 2 rfl) ?_
    refine pw_iald (n := 200) (f := (a 7)) hx hb hK hP 0 (7) (by decide) rfl rfl (j) rfl (by omega) (by decide) d_M_askFor_23 ?_
    refine lv_isub hx hb d_M_askFor_24 ?_
    refine lv_aload_n hx hb d_M_askFor_25 rfl (lv_at hl 1 rfl) ?_
    refine pw_get (ci := 7) (v := .ref (bk (1))) hx hb hw i_M hown hK hP (0) (by decide) rfl rfl 1 (by decide) (hw _ kF_M_7) rfl d_M_askFor_26 ?_
    refine lv_iload_n hx hb d_M_askFor_29 rfl (lv_at hl 0 rfl) ?_
    refine pw_ialdC (n := 10) (f := (a 1)) hx hb hK hP 0 (1) (by decide) rfl rfl (vp_in_iff.mpr (by have h7 := hpa; simp only [Int32.lt_iff_toInt_lt, Int32.le_iff_toInt_le, ← Int32.toInt_inj, T0, T1, T2, T3, T4, T5, T6, T7, T8, T9, T10, T40, T50, T99, T100, T200, T999, T1000, T9999, T1000000, T10000000, T1000000000, Tm1] at h7 ⊢; omega)) d_M_askFor_30 ?_
    refine lv_icmp_lt (tgt := 38) hx hb d_M_askFor_31 (by decide) (fun c_15 => ?_) (fun c_15 => ?_)
    · have c_15 : (day - ((a 7) (j))) < ((a 1) ((a 4) (j)).toNatClampNeg) := c_15
      refine lv_iconst (v := 0) hx hb d_M_askFor_38 (by decide) ?_
      refine lv_goto (tgt := 74) hx hb d_M_askFor_39 (by decide) ?_
      refine lv_istore (lv' := [(4, .int (0)), (3, .int ((a 4) (j))), (0, .ref (bk (0))), (1, .int (nI j)), (2, .int (day))]) hx hb d_M_askFor_74 hl (by decide) rfl (fun ls hl => ?_)
      refine lv_iload hx hb d_M_askFor_76 (lv_at hl 0 rfl) ?_
      refine lv_if_ne (tgt := 82) hx hb d_M_askFor_78 (by decide) (fun c_16 => ?_) (fun c_16 => ?_)
      · exact absurd c_16 (by decide)
      · skip
        exact W.vret hx hb hr (fun t ht hW => ⟨⟨(28, bk, MW cs th z a bk), rfl, Mv_of (r := 0) (by rw [s_M_askFor, if_pos c_1, if_pos c_15]), by rw [ht]; exact hP, va_K.moved hW.alike hK, hD⟩, hS.F ht⟩) hS.2.2 d_M_askFor_81
    · have c_15 : ¬ (day - ((a 7) (j))) < ((a 1) ((a 4) (j)).toNatClampNeg) := c_15
      refine lv_iconst (v := 1) hx hb d_M_askFor_34 (by decide) ?_
      refine lv_goto (tgt := 74) hx hb d_M_askFor_35 (by decide) ?_
      refine lv_istore (lv' := [(4, .int (1)), (3, .int ((a 4) (j))), (0, .ref (bk (0))), (1, .int (nI j)), (2, .int (day))]) hx hb d_M_askFor_74 hl (by decide) rfl (fun ls hl => ?_)
      refine lv_iload hx hb d_M_askFor_76 (lv_at hl 0 rfl) ?_
      refine lv_if_ne (tgt := 82) hx hb d_M_askFor_78 (by decide) (fun c_17 => ?_) (fun c_17 => ?_)
      · skip
        refine lv_aload_n hx hb d_M_askFor_82 rfl (lv_at hl 2 rfl) ?_
        refine pw_get (ci := 7) (v := .ref (bk (8))) hx hb hw i_M hown hK hP (0) (by decide) rfl rfl 9 (by decide) (hw _ kF_M_31) rfl d_M_askFor_83 ?_
        refine lv_iload_n hx hb d_M_askFor_86 rfl (lv_at hl 3 rfl) ?_
        refine pw_iald (n := 200) (f := (a 8)) hx hb hK hP 0 (8) (by decide) rfl rfl (j) rfl (by omega) (by decide) d_M_askFor_87 ?_
        refine lv_aload_n hx hb d_M_askFor_88 rfl (lv_at hl 2 rfl) ?_
        refine pw_get (ci := 7) (v := .ref (bk (3))) hx hb hw i_M hown hK hP (0) (by decide) rfl rfl 3 (by decide) (hw _ kF_M_16) rfl d_M_askFor_89 ?_
        refine lv_iload_n hx hb d_M_askFor_92 rfl (lv_at hl 1 rfl) ?_
        refine pw_ialdC (n := 10) (f := (a 3)) hx hb hK hP 0 (3) (by decide) rfl rfl (vp_in_iff.mpr (by have h7 := hpa; simp only [Int32.lt_iff_toInt_lt, Int32.le_iff_toInt_le, ← Int32.toInt_inj, T0, T1, T2, T3, T4, T5, T6, T7, T8, T9, T10, T40, T50, T99, T100, T200, T999, T1000, T9999, T1000000, T10000000, T1000000000, Tm1] at h7 ⊢; omega)) d_M_askFor_93 ?_
        refine lv_icmp_lt (tgt := 111) hx hb d_M_askFor_94 (by decide) (fun c_18 => ?_) (fun c_18 => ?_)
        · have c_18 : ((a 8) (j)) < ((a 3) ((a 4) (j)).toNatClampNeg) := c_18
          refine lv_aload_n hx hb d_M_askFor_111 rfl (lv_at hl 2 rfl) ?_
          refine pw_get (ci := 7) (v := .ref (bk (6))) hx hb hw i_M hown hK hP (0) (by decide) rfl rfl 7 (by decide) (hw _ kF_M_25) rfl d_M_askFor_112 ?_
          refine lv_iload_n hx hb d_M_askFor_115 rfl (lv_at hl 3 rfl) ?_
          refine lv_iconst (v := 2) hx hb d_M_askFor_116 (by decide) ?_
          refine pw_iast (n := 200) (f := (a 6)) hx hb hK hP hD hS 0 (6) (by decide) rfl rfl (j) rfl (by omega) (by decide) d_M_askFor_117 (fun cw_19 H locs ecw_19 hP hD hS => ?_)
          obtain rfl : cw_19 = MW cs th z (va_up a 6 (upd (a 6) (j) (2))) bk := by rw [ecw_19]; exact MW_arr 6 (by decide) (upd (a 6) (j) (2))
          refine lv_aload_n hx hb d_M_askFor_118 rfl (lv_at hl 2 rfl) ?_
          refine pw_get (ci := 7) (v := .ref (bk (8))) hx hb hw i_M hown hK hP (0) (by decide) rfl rfl 9 (by decide) (hw _ kF_M_31) rfl d_M_askFor_119 ?_
          refine lv_iload_n hx hb d_M_askFor_122 rfl (lv_at hl 3 rfl) ?_
          refine lv_dup2_11 hx hb d_M_askFor_123 rfl rfl ?_
          refine pw_iald (n := 200) (f := (a 8)) hx hb hK hP 0 (8) (by decide) rfl rfl (j) rfl (by omega) (by decide) d_M_askFor_124 ?_
          refine lv_iconst (v := 1) hx hb d_M_askFor_125 (by decide) ?_
          refine lv_iadd hx hb d_M_askFor_126 ?_
          refine pw_iast (n := 200) (f := (a 8)) hx hb hK hP hD hS 0 (8) (by decide) rfl rfl (j) rfl (by omega) (by decide) d_M_askFor_127 (fun cw_20 H locs ecw_20 hP hD hS => ?_)
          obtain rfl : cw_20 = MW cs th z (va_up (va_up a 6 (upd (a 6) (j) (2))) 8 (upd (a 8) (j) (((a 8) (j)) + 1))) bk := by rw [ecw_20]; exact MW_arr 8 (by decide) (upd (a 8) (j) (((a 8) (j)) + 1))
          refine lv_aload_n hx hb d_M_askFor_128 rfl (lv_at hl 2 rfl) ?_
          refine pw_get (ci := 7) (v := .ref (bk (9))) hx hb hw i_M hown hK hP (0) (by decide) rfl rfl 10 (by decide) (hw _ kF_M_34) rfl d_M_askFor_129 ?_
          refine lv_iload_n hx hb d_M_askFor_132 rfl (lv_at hl 3 rfl) ?_
          refine lv_iload_n hx hb d_M_askFor_133 rfl (lv_at hl 4 rfl) ?_
          refine pw_iast (n := 200) (f := (a 9)) hx hb hK hP hD hS 0 (9) (by decide) rfl rfl (j) rfl (by omega) (by decide) d_M_askFor_134 (fun cw_21 H locs ecw_21 hP hD hS => ?_)
          obtain rfl : cw_21 = MW cs th z (va_up (va_up (va_up a 6 (upd (a 6) (j) (2))) 8 (upd (a 8) (j) (((a 8) (j)) + 1))) 9 (upd (a 9) (j) (day))) bk := by rw [ecw_21]; exact MW_arr 9 (by decide) (upd (a 9) (j) (day))
          refine lv_aload_n hx hb d_M_askFor_135 rfl (lv_at hl 2 rfl) ?_
          refine pw_get (ci := 7) (v := .ref (bk (21))) hx hb hw i_M hown hK hP (0) (by decide) rfl rfl 23 (by decide) (hw _ kF_M_71) rfl d_M_askFor_136 ?_
          refine lv_aload_n hx hb d_M_askFor_139 rfl (lv_at hl 2 rfl) ?_
          refine pw_get (ci := 7) (v := .int (nI (z 1))) hx hb hw i_M hown hK hP (0) (by decide) rfl rfl 22 (by decide) (hw _ kF_M_122) rfl d_M_askFor_140 ?_
          refine lv_iload_n hx hb d_M_askFor_143 rfl (lv_at hl 3 rfl) ?_
          refine pw_iast (n := 200) (f := (a 21)) hx hb hK hP hD hS 0 (21) (by decide) rfl rfl (z 1) rfl (by omega) (by decide) d_M_askFor_144 (fun cw_22 H locs ecw_22 hP hD hS => ?_)
          obtain rfl : cw_22 = MW cs th z (va_up (va_up (va_up (va_up a 6 (upd (a 6) (j) (2))) 8 (upd (a 8) (j) (((a 8) (j)) + 1))) 9 (upd (a 9) (j) (day))) 21 (upd (a 21) (z 1) (nI j))) bk := by rw [ecw_22]; exact MW_arr 21 (by decide) (upd (a 21) (z 1) (nI j))
          refine lv_aload_n hx hb d_M_askFor_145 rfl (lv_at hl 2 rfl) ?_
          refine pw_get (ci := 7) (v := .ref (bk (22))) hx hb hw i_M hown hK hP (0) (by decide) rfl rfl 24 (by decide) (hw _ kF_M_74) rfl d_M_askFor_146 ?_
          refine lv_aload_n hx hb d_M_askFor_149 rfl (lv_at hl 2 rfl) ?_
          refine pw_get (ci := 7) (v := .int (nI (z 1))) hx hb hw i_M hown hK hP (0) (by decide) rfl rfl 22 (by decide) (hw _ kF_M_122) rfl d_M_askFor_150 ?_
          refine lv_aload_n hx hb d_M_askFor_153 rfl (lv_at hl 2 rfl) ?_
          refine pw_get (ci := 7) (v := .ref (bk (8))) hx hb hw i_M hown hK hP (0) (by decide) rfl rfl 9 (by decide) (hw _ kF_M_31) rfl d_M_askFor_154 ?_
          refine lv_iload_n hx hb d_M_askFor_157 rfl (lv_at hl 3 rfl) ?_
          refine pw_iald (n := 200) (f := (upd (a 8) (j) (((a 8) (j)) + 1))) hx hb hK hP 0 (8) (by decide) rfl rfl (j) rfl (by omega) (by decide) d_M_askFor_158 ?_
          refine pw_iast (n := 200) (f := (a 22)) hx hb hK hP hD hS 0 (22) (by decide) rfl rfl (z 1) rfl (by omega) (by decide) d_M_askFor_159 (fun cw_23 H locs ecw_23 hP hD hS => ?_)
          obtain rfl : cw_23 = MW cs th z (va_up (va_up (va_up (va_up (va_up a 6 (upd (a 6) (j) (2))) 8 (upd (a 8) (j) (((a 8) (j)) + 1))) 9 (upd (a 9) (j) (day))) 21 (upd (a 21) (z 1) (nI j))) 22 (upd (a 22) (z 1) ((upd (a 8) (j) (((a 8) (j)) + 1)) (j)))) bk := by rw [ecw_23]; exact MW_arr 22 (by decide) (upd (a 22) (z 1) ((upd (a 8) (j) (((a 8) (j)) + 1)) (j)))
          refine lv_aload_n hx hb d_M_askFor_160 rfl (lv_at hl 2 rfl) ?_
          refine lv_dup hx hb d_M_askFor_161 rfl ?_
          refine pw_get (ci := 7) (v := .int (nI (z 1))) hx hb hw i_M hown hK hP (0) (by decide) rfl rfl 22 (by decide) (hw _ kF_M_122) rfl d_M_askFor_162 ?_
          refine lv_iconst (v := 1) hx hb d_M_askFor_165 (by decide) ?_
          refine lv_iadd hx hb d_M_askFor_166 ?_
          rw [show (nI (z 1)) + 1 = nI ((z 1) + 1) from nI_1 _]
          refine pw_put (ci := 7) (v := .int (nI ((z 1) + 1))) (ty := .int) (fs' := [.int (th), .ref (bk (1)), .ref (bk (2)), .ref (bk (3)), .int (nI (z 0)), .ref (bk (4)), .ref (bk (5)), .ref (bk (6)), .ref (bk (7)), .ref (bk (8)), .ref (bk (9)), .ref (bk (10)), .ref (bk (11)), .ref (bk (12)), .ref (bk (13)), .ref (bk (14)), .ref (bk (15)), .ref (bk (16)), .ref (bk (17)), .ref (bk (18)), .ref (bk (19)), .ref (bk (20)), .int (nI ((z 1) + 1)), .ref (bk (21)), .ref (bk (22)), .int (nI (z 2)), .int (nI (z 3)), .ref (bk (23)), .ref (bk (24)), .ref (bk (25)), .int (nI (z 4)), .ref (bk (26)), .ref (bk (27))]) hx hb hw i_M t_M t_M_ok n_M hown hK hP hD hS (0) (by decide) rfl rfl 22 (by decide) (hw _ kF_M_122) rfl (t_M_ok 22 (by decide)) rfl rfl (Nat.le_of_ble_eq_true rfl) rfl d_M_askFor_167 (fun cw_24 H locs ecw_24 hP hD hS => ?_)
          obtain rfl : cw_24 = MW cs th (va_up z 1 ((z 1) + 1)) (va_up (va_up (va_up (va_up (va_up a 6 (upd (a 6) (j) (2))) 8 (upd (a 8) (j) (((a 8) (j)) + 1))) 9 (upd (a 9) (j) (day))) 21 (upd (a 21) (z 1) (nI j))) 22 (upd (a 22) (z 1) ((upd (a 8) (j) (((a 8) (j)) + 1)) (j)))) bk := by rw [ecw_24]; exact MW_obj th (va_up z 1 ((z 1) + 1))
          exact W.vret hx hb hr (fun t ht hW => ⟨⟨(28, bk, MW cs th (va_up z 1 ((z 1) + 1)) (va_up (va_up (va_up (va_up (va_up a 6 (upd (a 6) (j) (2))) 8 (upd (a 8) (j) (((a 8) (j)) + 1))) 9 (upd (a 9) (j) (day))) 21 (upd (a 21) (z 1) (nI j))) 22 (upd (a 22) (z 1) ((upd (a 8) (j) (((a 8) (j)) + 1)) (j)))) bk), rfl, Mv_of (r := 0) (by rw [s_M_askFor, if_pos c_1, if_neg c_15, if_pos c_18]), by rw [ht]; exact hP, va_K.moved hW.alike hK, hD⟩, hS.F ht⟩) hS.2.2 d_M_askFor_170
        · have c_18 : ¬ ((a 8) (j)) < ((a 3) ((a 4) (j)).toNatClampNeg) := c_18
          refine lv_aload_n hx hb d_M_askFor_97 rfl (lv_at hl 2 rfl) ?_
          refine pw_get (ci := 7) (v := .ref (bk (6))) hx hb hw i_M hown hK hP (0) (by decide) rfl rfl 7 (by decide) (hw _ kF_M_25) rfl d_M_askFor_98 ?_
          refine lv_iload_n hx hb d_M_askFor_101 rfl (lv_at hl 3 rfl) ?_
          refine lv_iconst (v := 4) hx hb d_M_askFor_102 (by decide) ?_
          refine pw_iast (n := 200) (f := (a 6)) hx hb hK hP hD hS 0 (6) (by decide) rfl rfl (j) rfl (by omega) (by decide) d_M_askFor_103 (fun cw_25 H locs ecw_25 hP hD hS => ?_)
          obtain rfl : cw_25 = MW cs th z (va_up a 6 (upd (a 6) (j) (4))) bk := by rw [ecw_25]; exact MW_arr 6 (by decide) (upd (a 6) (j) (4))
          refine lv_aload_n hx hb d_M_askFor_104 rfl (lv_at hl 2 rfl) ?_
          refine lv_iconst (v := 3) hx hb d_M_askFor_105 (by decide) ?_
          refine lv_iload_n hx hb d_M_askFor_106 rfl (lv_at hl 3 rfl) ?_
          refine pm_callv (va_runV (As := [.int (3), .int (nI j)]) (rest := []) ⟨hx, hb, hml, hown, hw⟩ (c_M_tell l D cs bk H.size th z (va_up a 6 (upd (a 6) (j) (4))) hz4 3 (nI j)) (cw_V 2 hw kM_M_118 kI_M_tell kV_M_tell kZ_M kC_M_tell rfl rfl ⟨rfl, by decide, by decide, by decide +kernel⟩ ⟨Nat.le_of_ble_eq_true rfl, Nat.le_of_ble_eq_true rfl⟩) (pw_preV hN hK hP hD (0) (by decide) rfl rfl) rfl rfl hl.1 rfl (lv_room (Nat.le_of_ble_eq_true rfl)) d_M_askFor_107 ⟨Nat.le_of_ble_eq_true rfl, Nat.le_of_ble_eq_true rfl⟩) hS (wl_free hD hS hA) (fun H locs hP hD hS => ?_)
          rw [tell_eq] at hP hD
          have hP : va_P D classes (wl 28 bk (MW cs th (va_up z 4 (tlz z)) (va_up (va_up (va_up a 6 (upd (a 6) (j) (4))) 26 (tla z (a 26) 3)) 27 (tla z (a 27) (nI j))) bk)) H := hP
          have hD : va_D (AA 28 bk sz) (wl 28 bk (MW cs th (va_up z 4 (tlz z)) (va_up (va_up (va_up a 6 (upd (a 6) (j) (4))) 26 (tla z (a 26) 3)) 27 (tla z (a 27) (nI j))) bk)) := hD
          exact W.vret hx hb hr (fun t ht hW => ⟨⟨(28, bk, MW cs th (va_up z 4 (tlz z)) (va_up (va_up (va_up a 6 (upd (a 6) (j) (4))) 26 (tla z (a 26) 3)) 27 (tla z (a 27) (nI j))) bk), rfl, Mv_of (r := 0) (by rw [s_M_askFor, if_pos c_1, if_neg c_15, if_neg c_18]), by rw [ht]; exact hP, va_K.moved hW.alike hK, hD⟩, hS.F ht⟩) hS.2.2 d_M_askFor_110
      · exact absurd c_17 (by decide)
def s_M_claimed (th : Int32) (z : Nat → Nat) (a : Nat → Nat → Int32) (x : Int32) (what : Int32) : MS := (if 0 ≤ x ∧ x ≤ ((nI (z 1)) - 1) then (if 0 ≤ what ∧ what ≤ 1 then (if what = 0 then ((a 21) (x).toNatClampNeg, 0, z, a) else ((a 22) (x).toNatClampNeg, 0, z, a)) else (0, 1, z, a)) else (0, 1, z, a))
set_option maxHeartbeats 4000000 in
set_option maxRecDepth 100000 in
theorem c_M_claimed (l : Launch) (D : va_G) (cs : Nat → ClassId) (bk : Nat → Nat) (sz : Nat) (th : Int32) (z : Nat → Nat) (a : Nat → Nat → Int32) (hz1 : z 1 ≤ 200) (x what : Int32) : Met l y_M_claimed w_M_claimed ({ frames := 1, cells := 0, slots := 0, locals := 22 }) (va_Pc [.ref (bk (0)), .int (x), .int (what)] (PB D classes (TY cs) 28 bk (MW cs th z a bk) sz)) (va_Qi (Mr cs bk (s_M_claimed th z a x what)) (Wd D classes (TY cs) (AA 28 bk sz)) (AA 28 bk sz)) 0 0 (AA 28 bk sz) := by
  refine pw_entry (cc := b_M_claimed) (maxL := 3) (ret := (some .int)) (by decide +kernel) rfl (Nat.le_of_ble_eq_true rfl) ?_
  intro p_ e_ s m below_ meth_ c_ ls hx hb hr hml hts hown hlocks hin hsz hP hK hD hS hA hN hl
  have hw : ∀ w ∈ WA, w.before _ s = true := fun w h => hts w (List.mem_cons_of_mem _ h)
  have hown : s.vm.findClass "IssueRowsModel" = some m.cls := hown
  have hl : lv_has ls 3 [(0, .ref (bk (0))), (1, .int (x)), (2, .int (what))] := hl
  refine lv_aload_n hx hb d_M_claimed_0 rfl (lv_at hl 0 rfl) ?_
  refine lv_iload_n hx hb d_M_claimed_1 rfl (lv_at hl 1 rfl) ?_
  refine lv_iconst (v := 0) hx hb d_M_claimed_2 (by decide) ?_
  refine lv_aload_n hx hb d_M_claimed_3 rfl (lv_at hl 0 rfl) ?_
  refine pw_get (ci := 7) (v := .int (nI (z 1))) hx hb hw i_M hown hK hP (0) (by decide) rfl rfl 22 (by decide) (hw _ kF_M_122) rfl d_M_claimed_4 ?_
  refine lv_iconst (v := 1) hx hb d_M_claimed_7 (by decide) ?_
  refine lv_isub hx hb d_M_claimed_8 ?_
  refine pw_callSi (va_runS (As := [.int (x), .int (0), .int ((nI (z 1)) - 1)]) (rest := [.ref (bk (0))]) ⟨hx, hb, hml, hown, hw⟩ (c_M_in l D cs bk s.heap.size th z a x 0 ((nI (z 1)) - 1)) (cw_S 3 hw kM_M_97 kS_M_in kZ_M kC_M_in rfl rfl ⟨rfl, by decide, by decide, by decide +kernel⟩ ⟨Nat.le_of_ble_eq_true rfl, Nat.le_of_ble_eq_true rfl⟩) (pw_preS hN hK hP hD) rfl rfl hl.1 rfl (lv_room (Nat.le_of_ble_eq_true rfl)) d_M_claimed_9 ⟨Nat.le_of_ble_eq_true rfl, Nat.le_of_ble_eq_true rfl⟩) (fun r_1 hr_1 => ?_)
  have hr_1 : r_1 = bI (0 ≤ x ∧ x ≤ ((nI (z 1)) - 1)) := hr_1
  subst hr_1
  refine pw_ifeq (tgt := 24) hx hb d_M_claimed_12 (by decide) (fun c_2 => ?_) (fun c_2 => ?_)
  · have c_2 : ¬ (0 ≤ x ∧ x ≤ ((nI (z 1)) - 1)) := c_2
    refine lv_iconst (v := 1) hx hb d_M_claimed_24 (by decide) ?_
    refine lv_goto (tgt := 29) hx hb d_M_claimed_25 (by decide) ?_
    refine pw_put (ci := 7) (v := .int (1)) (ty := .int) (fs' := [.int (1), .ref (bk (1)), .ref (bk (2)), .ref (bk (3)), .int (nI (z 0)), .ref (bk (4)), .ref (bk (5)), .ref (bk (6)), .ref (bk (7)), .ref (bk (8)), .ref (bk (9)), .ref (bk (10)), .ref (bk (11)), .ref (bk (12)), .ref (bk (13)), .ref (bk (14)), .ref (bk (15)), .ref (bk (16)), .ref (bk (17)), .ref (bk (18)), .ref (bk (19)), .ref (bk (20)), .int (nI (z 1)), .ref (bk (21)), .ref (bk (22)), .int (nI (z 2)), .int (nI (z 3)), .ref (bk (23)), .ref (bk (24)), .ref (bk (25)), .int (nI (z 4)), .ref (bk (26)), .ref (bk (27))]) hx hb hw i_M t_M t_M_ok n_M hown hK hP hD hS (0) (by decide) rfl rfl 0 (by decide) (hw _ kF_M_92) rfl (t_M_ok 0 (by decide)) rfl rfl (Nat.le_of_ble_eq_true rfl) rfl d_M_claimed_29 (fun cw_3 H locs ecw_3 hP hD hS => ?_)
    obtain rfl : cw_3 = MW cs 1 z a bk := by rw [ecw_3]; exact MW_obj 1 z
    refine lv_aload_n hx hb d_M_claimed_32 rfl (lv_at hl 0 rfl) ?_
    refine pw_get (ci := 7) (v := .int (1)) hx hb hw i_M hown hK hP (0) (by decide) rfl rfl 0 (by decide) (hw _ kF_M_92) rfl d_M_claimed_33 ?_
    refine lv_if_le (tgt := 43) hx hb d_M_claimed_36 (by decide) (fun c_4 => ?_) (fun c_4 => ?_)
    · exact absurd c_4 (by decide)
    · skip
      refine lv_iconst (v := 0) hx hb d_M_claimed_39 (by decide) ?_
      refine lv_goto (tgt := 62) hx hb d_M_claimed_40 (by decide) ?_
      exact W.iret (v := 0) hx hb hr (fun t ht hW => ⟨⟨0, (28, bk, MW cs 1 z a bk), rfl, Mr_of (by rw [s_M_claimed, if_neg c_2]), by rw [ht]; exact hP, va_K.moved hW.alike hK, hD⟩, hS.F ht⟩) hS.2.2 d_M_claimed_62
  · have c_2 : 0 ≤ x ∧ x ≤ ((nI (z 1)) - 1) := c_2
    refine lv_iload_n hx hb d_M_claimed_15 rfl (lv_at hl 2 rfl) ?_
    refine lv_iconst (v := 0) hx hb d_M_claimed_16 (by decide) ?_
    refine lv_iconst (v := 1) hx hb d_M_claimed_17 (by decide) ?_
    refine pw_callSi (va_runS (As := [.int (what), .int (0), .int (1)]) (rest := [.ref (bk (0))]) ⟨hx, hb, hml, hown, hw⟩ (c_M_in l D cs bk s.heap.size th z a what 0 1) (cw_S 3 hw kM_M_97 kS_M_in kZ_M kC_M_in rfl rfl ⟨rfl, by decide, by decide, by decide +kernel⟩ ⟨Nat.le_of_ble_eq_true rfl, Nat.le_of_ble_eq_true rfl⟩) (pw_preS hN hK hP hD) rfl rfl hl.1 rfl (lv_room (Nat.le_of_ble_eq_true rfl)) d_M_claimed_18 ⟨Nat.le_of_ble_eq_true rfl, Nat.le_of_ble_eq_true rfl⟩) (fun r_5 hr_5 => ?_)
    have hr_5 : r_5 = bI (0 ≤ what ∧ what ≤ 1) := hr_5
    subst hr_5
    refine pw_ifne (tgt := 28) hx hb d_M_claimed_21 (by decide) (fun c_6 => ?_) (fun c_6 => ?_)
    · have c_6 : 0 ≤ what ∧ what ≤ 1 := c_6
      refine lv_iconst (v := 0) hx hb d_M_claimed_28 (by decide) ?_
      refine pw_put (ci := 7) (v := .int (0)) (ty := .int) (fs' := [.int (0), .ref (bk (1)), .ref (bk (2)), .ref (bk (3)), .int (nI (z 0)), .ref (bk (4)), .ref (bk (5)), .ref (bk (6)), .ref (bk (7)), .ref (bk (8)), .ref (bk (9)), .ref (bk (10)), .ref (bk (11)), .ref (bk (12)), .ref (bk (13)), .ref (bk (14)), .ref (bk (15)), .ref (bk (16)), .ref (bk (17)), .ref (bk (18)), .ref (bk (19)), .ref (bk (20)), .int (nI (z 1)), .ref (bk (21)), .ref (bk (22)), .int (nI (z 2)), .int (nI (z 3)), .ref (bk (23)), .ref (bk (24)), .ref (bk (25)), .int (nI (z 4)), .ref (bk (26)), .ref (bk (27))]) hx hb hw i_M t_M t_M_ok n_M hown hK hP hD hS (0) (by decide) rfl rfl 0 (by decide) (hw _ kF_M_92) rfl (t_M_ok 0 (by decide)) rfl rfl (Nat.le_of_ble_eq_true rfl) rfl d_M_claimed_29 (fun cw_7 H locs ecw_7 hP hD hS => ?_)
      obtain rfl : cw_7 = MW cs 0 z a bk := by rw [ecw_7]; exact MW_obj 0 z
      refine lv_aload_n hx hb d_M_claimed_32 rfl (lv_at hl 0 rfl) ?_
      refine pw_get (ci := 7) (v := .int (0)) hx hb hw i_M hown hK hP (0) (by decide) rfl rfl 0 (by decide) (hw _ kF_M_92) rfl d_M_claimed_33 ?_
      refine lv_if_le (tgt := 43) hx hb d_M_claimed_36 (by decide) (fun c_8 => ?_) (fun c_8 => ?_)
      · skip
        refine lv_iload_n hx hb d_M_claimed_43 rfl (lv_at hl 2 rfl) ?_
        refine lv_if_ne (tgt := 56) hx hb d_M_claimed_44 (by decide) (fun c_9 => ?_) (fun c_9 => ?_)
        · have c_9 : ¬ what = 0 := c_9
          refine lv_aload_n hx hb d_M_claimed_56 rfl (lv_at hl 0 rfl) ?_
          refine pw_get (ci := 7) (v := .ref (bk (22))) hx hb hw i_M hown hK hP (0) (by decide) rfl rfl 24 (by decide) (hw _ kF_M_74) rfl d_M_claimed_57 ?_
          refine lv_iload_n hx hb d_M_claimed_60 rfl (lv_at hl 1 rfl) ?_
          refine pw_ialdC (n := 200) (f := (a 22)) hx hb hK hP 0 (22) (by decide) rfl rfl (vp_in_iff.mpr (by have h7 := c_2; have h8 := (le_pr (by omega)).mp h7.2; simp only [Int32.le_iff_toInt_le, Int32.lt_iff_toInt_lt, T0, nI_toInt (show z 1 < 2 ^ 31 by omega)] at h7 h8; omega)) d_M_claimed_61 ?_
          exact W.iret (v := (a 22) (x).toNatClampNeg) hx hb hr (fun t ht hW => ⟨⟨(a 22) (x).toNatClampNeg, (28, bk, MW cs 0 z a bk), rfl, Mr_of (by rw [s_M_claimed, if_pos c_2, if_pos c_6, if_neg c_9]), by rw [ht]; exact hP, va_K.moved hW.alike hK, hD⟩, hS.F ht⟩) hS.2.2 d_M_claimed_62
        · have c_9 : what = 0 := c_9
          refine lv_aload_n hx hb d_M_claimed_47 rfl (lv_at hl 0 rfl) ?_
          refine pw_get (ci := 7) (v := .ref (bk (21))) hx hb hw i_M hown hK hP (0) (by decide) rfl rfl 23 (by decide) (hw _ kF_M_71) rfl d_M_claimed_48 ?_
          refine lv_iload_n hx hb d_M_claimed_51 rfl (lv_at hl 1 rfl) ?_
          refine pw_ialdC (n := 200) (f := (a 21)) hx hb hK hP 0 (21) (by decide) rfl rfl (vp_in_iff.mpr (by have h7 := c_2; have h8 := (le_pr (by omega)).mp h7.2; simp only [Int32.le_iff_toInt_le, Int32.lt_iff_toInt_lt, T0, nI_toInt (show z 1 < 2 ^ 31 by omega)] at h7 h8; omega)) d_M_claimed_52 ?_
          refine lv_goto (tgt := 62) hx hb d_M_claimed_53 (by decide) ?_
          exact W.iret (v := (a 21) (x).toNatClampNeg) hx hb hr (fun t ht hW => ⟨⟨(a 21) (x).toNatClampNeg, (28, bk, MW cs 0 z a bk), rfl, Mr_of (by rw [s_M_claimed, if_pos c_2, if_pos c_6, if_pos c_9]), by rw [ht]; exact hP, va_K.moved hW.alike hK, hD⟩, hS.F ht⟩) hS.2.2 d_M_claimed_62
      · exact absurd c_8 (by decide)
    · have c_6 : ¬ (0 ≤ what ∧ what ≤ 1) := c_6
      refine lv_iconst (v := 1) hx hb d_M_claimed_24 (by decide) ?_
      refine lv_goto (tgt := 29) hx hb d_M_claimed_25 (by decide) ?_
      refine pw_put (ci := 7) (v := .int (1)) (ty := .int) (fs' := [.int (1), .ref (bk (1)), .ref (bk (2)), .ref (bk (3)), .int (nI (z 0)), .ref (bk (4)), .ref (bk (5)), .ref (bk (6)), .ref (bk (7)), .ref (bk (8)), .ref (bk (9)), .ref (bk (10)), .ref (bk (11)), .ref (bk (12)), .ref (bk (13)), .ref (bk (14)), .ref (bk (15)), .ref (bk (16)), .ref (bk (17)), .ref (bk (18)), .ref (bk (19)), .ref (bk (20)), .int (nI (z 1)), .ref (bk (21)), .ref (bk (22)), .int (nI (z 2)), .int (nI (z 3)), .ref (bk (23)), .ref (bk (24)), .ref (bk (25)), .int (nI (z 4)), .ref (bk (26)), .ref (bk (27))]) hx hb hw i_M t_M t_M_ok n_M hown hK hP hD hS (0) (by decide) rfl rfl 0 (by decide) (hw _ kF_M_92) rfl (t_M_ok 0 (by decide)) rfl rfl (Nat.le_of_ble_eq_true rfl) rfl d_M_claimed_29 (fun cw_10 H locs ecw_10 hP hD hS => ?_)
      obtain rfl : cw_10 = MW cs 1 z a bk := by rw [ecw_10]; exact MW_obj 1 z
      refine lv_aload_n hx hb d_M_claimed_32 rfl (lv_at hl 0 rfl) ?_
      refine pw_get (ci := 7) (v := .int (1)) hx hb hw i_M hown hK hP (0) (by decide) rfl rfl 0 (by decide) (hw _ kF_M_92) rfl d_M_claimed_33 ?_
      refine lv_if_le (tgt := 43) hx hb d_M_claimed_36 (by decide) (fun c_11 => ?_) (fun c_11 => ?_)
      · exact absurd c_11 (by decide)
      · skip
        refine lv_iconst (v := 0) hx hb d_M_claimed_39 (by decide) ?_
        refine lv_goto (tgt := 62) hx hb d_M_claimed_40 (by decide) ?_
        exact W.iret (v := 0) hx hb hr (fun t ht hW => ⟨⟨0, (28, bk, MW cs 1 z a bk), rfl, Mr_of (by rw [s_M_claimed, if_pos c_2, if_neg c_6]), by rw [ht]; exact hP, va_K.moved hW.alike hK, hD⟩, hS.F ht⟩) hS.2.2 d_M_claimed_62
def s_M_told (th : Int32) (z : Nat → Nat) (a : Nat → Nat → Int32) (x : Int32) (what : Int32) : MS := (if 0 ≤ x ∧ x ≤ ((nI (z 4)) - 1) then (if 0 ≤ what ∧ what ≤ 1 then (if what = 0 then ((a 26) (x).toNatClampNeg, 0, z, a) else ((a 27) (x).toNatClampNeg, 0, z, a)) else (-1, 0, z, a)) else (-1, 0, z, a))
set_option maxHeartbeats 4000000 in
set_option maxRecDepth 100000 in
theorem c_M_told (l : Launch) (D : va_G) (cs : Nat → ClassId) (bk : Nat → Nat) (sz : Nat) (th : Int32) (z : Nat → Nat) (a : Nat → Nat → Int32) (hz4 : z 4 ≤ 100) (x what : Int32) : Met l y_M_told w_M_told ({ frames := 1, cells := 0, slots := 0, locals := 22 }) (va_Pc [.ref (bk (0)), .int (x), .int (what)] (PB D classes (TY cs) 28 bk (MW cs th z a bk) sz)) (va_Qi (Mr cs bk (s_M_told th z a x what)) (Wd D classes (TY cs) (AA 28 bk sz)) (AA 28 bk sz)) 0 0 (AA 28 bk sz) := by
  refine pw_entry (cc := b_M_told) (maxL := 3) (ret := (some .int)) (by decide +kernel) rfl (Nat.le_of_ble_eq_true rfl) ?_
  intro p_ e_ s m below_ meth_ c_ ls hx hb hr hml hts hown hlocks hin hsz hP hK hD hS hA hN hl
  have hw : ∀ w ∈ WA, w.before _ s = true := fun w h => hts w (List.mem_cons_of_mem _ h)
  have hown : s.vm.findClass "IssueRowsModel" = some m.cls := hown
  have hl : lv_has ls 3 [(0, .ref (bk (0))), (1, .int (x)), (2, .int (what))] := hl
  refine lv_aload_n hx hb d_M_told_0 rfl (lv_at hl 0 rfl) ?_
  refine lv_iconst (v := 0) hx hb d_M_told_1 (by decide) ?_
  refine pw_put (ci := 7) (v := .int (0)) (ty := .int) (fs' := [.int (0), .ref (bk (1)), .ref (bk (2)), .ref (bk (3)), .int (nI (z 0)), .ref (bk (4)), .ref (bk (5)), .ref (bk (6)), .ref (bk (7)), .ref (bk (8)), .ref (bk (9)), .ref (bk (10)), .ref (bk (11)), .ref (bk (12)), .ref (bk (13)), .ref (bk (14)), .ref (bk (15)), .ref (bk (16)), .ref (bk (17)), .ref (bk (18)), .ref (bk (19)), .ref (bk (20)), .int (nI (z 1)), .ref (bk (21)), .ref (bk (22)), .int (nI (z 2)), .int (nI (z 3)), .ref (bk (23)), .ref (bk (24)), .ref (bk (25)), .int (nI (z 4)), .ref (bk (26)), .ref (bk (27))]) hx hb hw i_M t_M t_M_ok n_M hown hK hP hD hS (0) (by decide) rfl rfl 0 (by decide) (hw _ kF_M_92) rfl (t_M_ok 0 (by decide)) rfl rfl (Nat.le_of_ble_eq_true rfl) rfl d_M_told_2 (fun cw_1 H locs ecw_1 hP hD hS => ?_)
  obtain rfl : cw_1 = MW cs 0 z a bk := by rw [ecw_1]; exact MW_obj 0 z
  refine lv_iload_n hx hb d_M_told_5 rfl (lv_at hl 1 rfl) ?_
  refine lv_iconst (v := 0) hx hb d_M_told_6 (by decide) ?_
  refine lv_aload_n hx hb d_M_told_7 rfl (lv_at hl 0 rfl) ?_
  refine pw_get (ci := 7) (v := .int (nI (z 4))) hx hb hw i_M hown hK hP (0) (by decide) rfl rfl 30 (by decide) (hw _ kF_M_104) rfl d_M_told_8 ?_
  refine lv_iconst (v := 1) hx hb d_M_told_11 (by decide) ?_
  refine lv_isub hx hb d_M_told_12 ?_
  refine pw_callSi (va_runS (As := [.int (x), .int (0), .int ((nI (z 4)) - 1)]) (rest := []) ⟨hx, hb, hml, hown, hw⟩ (c_M_in l D cs bk H.size 0 z a x 0 ((nI (z 4)) - 1)) (cw_S 3 hw kM_M_97 kS_M_in kZ_M kC_M_in rfl rfl ⟨rfl, by decide, by decide, by decide +kernel⟩ ⟨Nat.le_of_ble_eq_true rfl, Nat.le_of_ble_eq_true rfl⟩) (pw_preS hN hK hP hD) rfl rfl hl.1 rfl (lv_room (Nat.le_of_ble_eq_true rfl)) d_M_told_13 ⟨Nat.le_of_ble_eq_true rfl, Nat.le_of_ble_eq_true rfl⟩) (fun r_2 hr_2 => ?_)
  have hr_2 : r_2 = bI (0 ≤ x ∧ x ≤ ((nI (z 4)) - 1)) := hr_2
  subst hr_2
  refine pw_ifeq (tgt := 28) hx hb d_M_told_16 (by decide) (fun c_3 => ?_) (fun c_3 => ?_)
  · have c_3 : ¬ (0 ≤ x ∧ x ≤ ((nI (z 4)) - 1)) := c_3
    refine lv_iconst (v := -1) hx hb d_M_told_28 (by decide) ?_
    refine lv_goto (tgt := 51) hx hb d_M_told_29 (by decide) ?_
    exact W.iret (v := -1) hx hb hr (fun t ht hW => ⟨⟨-1, (28, bk, MW cs 0 z a bk), rfl, Mr_of (by rw [s_M_told, if_neg c_3]), by rw [ht]; exact hP, va_K.moved hW.alike hK, hD⟩, hS.F ht⟩) hS.2.2 d_M_told_51
  · have c_3 : 0 ≤ x ∧ x ≤ ((nI (z 4)) - 1) := c_3
    refine lv_iload_n hx hb d_M_told_19 rfl (lv_at hl 2 rfl) ?_
    refine lv_iconst (v := 0) hx hb d_M_told_20 (by decide) ?_
    refine lv_iconst (v := 1) hx hb d_M_told_21 (by decide) ?_
    refine pw_callSi (va_runS (As := [.int (what), .int (0), .int (1)]) (rest := []) ⟨hx, hb, hml, hown, hw⟩ (c_M_in l D cs bk H.size 0 z a what 0 1) (cw_S 3 hw kM_M_97 kS_M_in kZ_M kC_M_in rfl rfl ⟨rfl, by decide, by decide, by decide +kernel⟩ ⟨Nat.le_of_ble_eq_true rfl, Nat.le_of_ble_eq_true rfl⟩) (pw_preS hN hK hP hD) rfl rfl hl.1 rfl (lv_room (Nat.le_of_ble_eq_true rfl)) d_M_told_22 ⟨Nat.le_of_ble_eq_true rfl, Nat.le_of_ble_eq_true rfl⟩) (fun r_4 hr_4 => ?_)
    have hr_4 : r_4 = bI (0 ≤ what ∧ what ≤ 1) := hr_4
    subst hr_4
    refine pw_ifne (tgt := 32) hx hb d_M_told_25 (by decide) (fun c_5 => ?_) (fun c_5 => ?_)
    · have c_5 : 0 ≤ what ∧ what ≤ 1 := c_5
      refine lv_iload_n hx hb d_M_told_32 rfl (lv_at hl 2 rfl) ?_
      refine lv_if_ne (tgt := 45) hx hb d_M_told_33 (by decide) (fun c_6 => ?_) (fun c_6 => ?_)
      · have c_6 : ¬ what = 0 := c_6
        refine lv_aload_n hx hb d_M_told_45 rfl (lv_at hl 0 rfl) ?_
        refine pw_get (ci := 7) (v := .ref (bk (27))) hx hb hw i_M hown hK hP (0) (by decide) rfl rfl 32 (by decide) (hw _ kF_M_89) rfl d_M_told_46 ?_
        refine lv_iload_n hx hb d_M_told_49 rfl (lv_at hl 1 rfl) ?_
        refine pw_ialdC (n := 100) (f := (a 27)) hx hb hK hP 0 (27) (by decide) rfl rfl (vp_in_iff.mpr (by have h7 := c_3; have h8 := (le_pr (by omega)).mp h7.2; simp only [Int32.le_iff_toInt_le, Int32.lt_iff_toInt_lt, T0, nI_toInt (show z 4 < 2 ^ 31 by omega)] at h7 h8; omega)) d_M_told_50 ?_
        exact W.iret (v := (a 27) (x).toNatClampNeg) hx hb hr (fun t ht hW => ⟨⟨(a 27) (x).toNatClampNeg, (28, bk, MW cs 0 z a bk), rfl, Mr_of (by rw [s_M_told, if_pos c_3, if_pos c_5, if_neg c_6]), by rw [ht]; exact hP, va_K.moved hW.alike hK, hD⟩, hS.F ht⟩) hS.2.2 d_M_told_51
      · have c_6 : what = 0 := c_6
        refine lv_aload_n hx hb d_M_told_36 rfl (lv_at hl 0 rfl) ?_
        refine pw_get (ci := 7) (v := .ref (bk (26))) hx hb hw i_M hown hK hP (0) (by decide) rfl rfl 31 (by decide) (hw _ kF_M_86) rfl d_M_told_37 ?_
        refine lv_iload_n hx hb d_M_told_40 rfl (lv_at hl 1 rfl) ?_
        refine pw_ialdC (n := 100) (f := (a 26)) hx hb hK hP 0 (26) (by decide) rfl rfl (vp_in_iff.mpr (by have h7 := c_3; have h8 := (le_pr (by omega)).mp h7.2; simp only [Int32.le_iff_toInt_le, Int32.lt_iff_toInt_lt, T0, nI_toInt (show z 4 < 2 ^ 31 by omega)] at h7 h8; omega)) d_M_told_41 ?_
        refine lv_goto (tgt := 51) hx hb d_M_told_42 (by decide) ?_
        exact W.iret (v := (a 26) (x).toNatClampNeg) hx hb hr (fun t ht hW => ⟨⟨(a 26) (x).toNatClampNeg, (28, bk, MW cs 0 z a bk), rfl, Mr_of (by rw [s_M_told, if_pos c_3, if_pos c_5, if_pos c_6]), by rw [ht]; exact hP, va_K.moved hW.alike hK, hD⟩, hS.F ht⟩) hS.2.2 d_M_told_51
    · have c_5 : ¬ (0 ≤ what ∧ what ≤ 1) := c_5
      refine lv_iconst (v := -1) hx hb d_M_told_28 (by decide) ?_
      refine lv_goto (tgt := 51) hx hb d_M_told_29 (by decide) ?_
      exact W.iret (v := -1) hx hb hr (fun t ht hW => ⟨⟨-1, (28, bk, MW cs 0 z a bk), rfl, Mr_of (by rw [s_M_told, if_pos c_3, if_neg c_5]), by rw [ht]; exact hP, va_K.moved hW.alike hK, hD⟩, hS.F ht⟩) hS.2.2 d_M_told_51
def s_M_row (th : Int32) (z : Nat → Nat) (a : Nat → Nat → Int32) (x : Int32) (what : Int32) : MS := (if 0 ≤ x ∧ x ≤ ((nI (z 3)) - 1) then (if 0 ≤ what ∧ what ≤ 3 then (if what = 0 then ((a 23) (x).toNatClampNeg, 0, z, a) else (if what = 1 then ((a 24) (x).toNatClampNeg, 0, z, a) else (if what = 2 then ((a 25) (x).toNatClampNeg, 0, z, a) else (if ((nI (z 3)) - 1) ≤ x then (0, 0, z, a) else (1, 0, z, a))))) else (0, 1, z, a)) else (0, 1, z, a))
set_option maxHeartbeats 4000000 in
set_option maxRecDepth 100000 in
theorem c_M_row (l : Launch) (D : va_G) (cs : Nat → ClassId) (bk : Nat → Nat) (sz : Nat) (th : Int32) (z : Nat → Nat) (a : Nat → Nat → Int32) (hz3 : z 3 ≤ 200) (x what : Int32) : Met l y_M_row w_M_row ({ frames := 1, cells := 0, slots := 0, locals := 22 }) (va_Pc [.ref (bk (0)), .int (x), .int (what)] (PB D classes (TY cs) 28 bk (MW cs th z a bk) sz)) (va_Qi (Mr cs bk (s_M_row th z a x what)) (Wd D classes (TY cs) (AA 28 bk sz)) (AA 28 bk sz)) 0 0 (AA 28 bk sz) := by
  refine pw_entry (cc := b_M_row) (maxL := 3) (ret := (some .int)) (by decide +kernel) rfl (Nat.le_of_ble_eq_true rfl) ?_
  intro p_ e_ s m below_ meth_ c_ ls hx hb hr hml hts hown hlocks hin hsz hP hK hD hS hA hN hl
  have hw : ∀ w ∈ WA, w.before _ s = true := fun w h => hts w (List.mem_cons_of_mem _ h)
  have hown : s.vm.findClass "IssueRowsModel" = some m.cls := hown
  have hl : lv_has ls 3 [(0, .ref (bk (0))), (1, .int (x)), (2, .int (what))] := hl
  refine lv_aload_n hx hb d_M_row_0 rfl (lv_at hl 0 rfl) ?_
  refine lv_iload_n hx hb d_M_row_1 rfl (lv_at hl 1 rfl) ?_
  refine lv_iconst (v := 0) hx hb d_M_row_2 (by decide) ?_
  refine lv_aload_n hx hb d_M_row_3 rfl (lv_at hl 0 rfl) ?_
  refine pw_get (ci := 7) (v := .int (nI (z 3))) hx hb hw i_M hown hK hP (0) (by decide) rfl rfl 26 (by decide) (hw _ kF_M_138) rfl d_M_row_4 ?_
  refine lv_iconst (v := 1) hx hb d_M_row_7 (by decide) ?_
  refine lv_isub hx hb d_M_row_8 ?_
  refine pw_callSi (va_runS (As := [.int (x), .int (0), .int ((nI (z 3)) - 1)]) (rest := [.ref (bk (0))]) ⟨hx, hb, hml, hown, hw⟩ (c_M_in l D cs bk s.heap.size th z a x 0 ((nI (z 3)) - 1)) (cw_S 3 hw kM_M_97 kS_M_in kZ_M kC_M_in rfl rfl ⟨rfl, by decide, by decide, by decide +kernel⟩ ⟨Nat.le_of_ble_eq_true rfl, Nat.le_of_ble_eq_true rfl⟩) (pw_preS hN hK hP hD) rfl rfl hl.1 rfl (lv_room (Nat.le_of_ble_eq_true rfl)) d_M_row_9 ⟨Nat.le_of_ble_eq_true rfl, Nat.le_of_ble_eq_true rfl⟩) (fun r_1 hr_1 => ?_)
  have hr_1 : r_1 = bI (0 ≤ x ∧ x ≤ ((nI (z 3)) - 1)) := hr_1
  subst hr_1
  refine pw_ifeq (tgt := 24) hx hb d_M_row_12 (by decide) (fun c_2 => ?_) (fun c_2 => ?_)
  · have c_2 : ¬ (0 ≤ x ∧ x ≤ ((nI (z 3)) - 1)) := c_2
    refine lv_iconst (v := 1) hx hb d_M_row_24 (by decide) ?_
    refine lv_goto (tgt := 29) hx hb d_M_row_25 (by decide) ?_
    refine pw_put (ci := 7) (v := .int (1)) (ty := .int) (fs' := [.int (1), .ref (bk (1)), .ref (bk (2)), .ref (bk (3)), .int (nI (z 0)), .ref (bk (4)), .ref (bk (5)), .ref (bk (6)), .ref (bk (7)), .ref (bk (8)), .ref (bk (9)), .ref (bk (10)), .ref (bk (11)), .ref (bk (12)), .ref (bk (13)), .ref (bk (14)), .ref (bk (15)), .ref (bk (16)), .ref (bk (17)), .ref (bk (18)), .ref (bk (19)), .ref (bk (20)), .int (nI (z 1)), .ref (bk (21)), .ref (bk (22)), .int (nI (z 2)), .int (nI (z 3)), .ref (bk (23)), .ref (bk (24)), .ref (bk (25)), .int (nI (z 4)), .ref (bk (26)), .ref (bk (27))]) hx hb hw i_M t_M t_M_ok n_M hown hK hP hD hS (0) (by decide) rfl rfl 0 (by decide) (hw _ kF_M_92) rfl (t_M_ok 0 (by decide)) rfl rfl (Nat.le_of_ble_eq_true rfl) rfl d_M_row_29 (fun cw_3 H locs ecw_3 hP hD hS => ?_)
    obtain rfl : cw_3 = MW cs 1 z a bk := by rw [ecw_3]; exact MW_obj 1 z
    refine lv_aload_n hx hb d_M_row_32 rfl (lv_at hl 0 rfl) ?_
    refine pw_get (ci := 7) (v := .int (1)) hx hb hw i_M hown hK hP (0) (by decide) rfl rfl 0 (by decide) (hw _ kF_M_92) rfl d_M_row_33 ?_
    refine lv_if_le (tgt := 41) hx hb d_M_row_36 (by decide) (fun c_4 => ?_) (fun c_4 => ?_)
    · exact absurd c_4 (by decide)
    · skip
      refine lv_iconst (v := 0) hx hb d_M_row_39 (by decide) ?_
      exact W.iret (v := 0) hx hb hr (fun t ht hW => ⟨⟨0, (28, bk, MW cs 1 z a bk), rfl, Mr_of (by rw [s_M_row, if_neg c_2]), by rw [ht]; exact hP, va_K.moved hW.alike hK, hD⟩, hS.F ht⟩) hS.2.2 d_M_row_40
  · have c_2 : 0 ≤ x ∧ x ≤ ((nI (z 3)) - 1) := c_2
    refine lv_iload_n hx hb d_M_row_15 rfl (lv_at hl 2 rfl) ?_
    refine lv_iconst (v := 0) hx hb d_M_row_16 (by decide) ?_
    refine lv_iconst (v := 3) hx hb d_M_row_17 (by decide) ?_
    refine pw_callSi (va_runS (As := [.int (what), .int (0), .int (3)]) (rest := [.ref (bk (0))]) ⟨hx, hb, hml, hown, hw⟩ (c_M_in l D cs bk s.heap.size th z a what 0 3) (cw_S 3 hw kM_M_97 kS_M_in kZ_M kC_M_in rfl rfl ⟨rfl, by decide, by decide, by decide +kernel⟩ ⟨Nat.le_of_ble_eq_true rfl, Nat.le_of_ble_eq_true rfl⟩) (pw_preS hN hK hP hD) rfl rfl hl.1 rfl (lv_room (Nat.le_of_ble_eq_true rfl)) d_M_row_18 ⟨Nat.le_of_ble_eq_true rfl, Nat.le_of_ble_eq_true rfl⟩) (fun r_5 hr_5 => ?_)
    have hr_5 : r_5 = bI (0 ≤ what ∧ what ≤ 3) := hr_5
    subst hr_5
    refine pw_ifne (tgt := 28) hx hb d_M_row_21 (by decide) (fun c_6 => ?_) (fun c_6 => ?_)
    · have c_6 : 0 ≤ what ∧ what ≤ 3 := c_6
      refine lv_iconst (v := 0) hx hb d_M_row_28 (by decide) ?_
      refine pw_put (ci := 7) (v := .int (0)) (ty := .int) (fs' := [.int (0), .ref (bk (1)), .ref (bk (2)), .ref (bk (3)), .int (nI (z 0)), .ref (bk (4)), .ref (bk (5)), .ref (bk (6)), .ref (bk (7)), .ref (bk (8)), .ref (bk (9)), .ref (bk (10)), .ref (bk (11)), .ref (bk (12)), .ref (bk (13)), .ref (bk (14)), .ref (bk (15)), .ref (bk (16)), .ref (bk (17)), .ref (bk (18)), .ref (bk (19)), .ref (bk (20)), .int (nI (z 1)), .ref (bk (21)), .ref (bk (22)), .int (nI (z 2)), .int (nI (z 3)), .ref (bk (23)), .ref (bk (24)), .ref (bk (25)), .int (nI (z 4)), .ref (bk (26)), .ref (bk (27))]) hx hb hw i_M t_M t_M_ok n_M hown hK hP hD hS (0) (by decide) rfl rfl 0 (by decide) (hw _ kF_M_92) rfl (t_M_ok 0 (by decide)) rfl rfl (Nat.le_of_ble_eq_true rfl) rfl d_M_row_29 (fun cw_7 H locs ecw_7 hP hD hS => ?_)
      obtain rfl : cw_7 = MW cs 0 z a bk := by rw [ecw_7]; exact MW_obj 0 z
      refine lv_aload_n hx hb d_M_row_32 rfl (lv_at hl 0 rfl) ?_
      refine pw_get (ci := 7) (v := .int (0)) hx hb hw i_M hown hK hP (0) (by decide) rfl rfl 0 (by decide) (hw _ kF_M_92) rfl d_M_row_33 ?_
      refine lv_if_le (tgt := 41) hx hb d_M_row_36 (by decide) (fun c_8 => ?_) (fun c_8 => ?_)
      · skip
        refine lv_iload_n hx hb d_M_row_41 rfl (lv_at hl 2 rfl) ?_
        refine lv_if_ne (tgt := 54) hx hb d_M_row_42 (by decide) (fun c_9 => ?_) (fun c_9 => ?_)
        · have c_9 : ¬ what = 0 := c_9
          refine lv_iload_n hx hb d_M_row_54 rfl (lv_at hl 2 rfl) ?_
          refine lv_iconst (v := 1) hx hb d_M_row_55 (by decide) ?_
          refine lv_icmp_ne (tgt := 68) hx hb d_M_row_56 (by decide) (fun c_10 => ?_) (fun c_10 => ?_)
          · have c_10 : ¬ what = 1 := c_10
            refine lv_iload_n hx hb d_M_row_68 rfl (lv_at hl 2 rfl) ?_
            refine lv_iconst (v := 2) hx hb d_M_row_69 (by decide) ?_
            refine lv_icmp_ne (tgt := 82) hx hb d_M_row_70 (by decide) (fun c_11 => ?_) (fun c_11 => ?_)
            · have c_11 : ¬ what = 2 := c_11
              refine lv_iload_n hx hb d_M_row_82 rfl (lv_at hl 1 rfl) ?_
              refine lv_aload_n hx hb d_M_row_83 rfl (lv_at hl 0 rfl) ?_
              refine pw_get (ci := 7) (v := .int (nI (z 3))) hx hb hw i_M hown hK hP (0) (by decide) rfl rfl 26 (by decide) (hw _ kF_M_138) rfl d_M_row_84 ?_
              refine lv_iconst (v := 1) hx hb d_M_row_87 (by decide) ?_
              refine lv_isub hx hb d_M_row_88 ?_
              refine lv_icmp_ge (tgt := 96) hx hb d_M_row_89 (by decide) (fun c_12 => ?_) (fun c_12 => ?_)
              · have c_12 : ((nI (z 3)) - 1) ≤ x := c_12
                refine lv_iconst (v := 0) hx hb d_M_row_96 (by decide) ?_
                exact W.iret (v := 0) hx hb hr (fun t ht hW => ⟨⟨0, (28, bk, MW cs 0 z a bk), rfl, Mr_of (by rw [s_M_row, if_pos c_2, if_pos c_6, if_neg c_9, if_neg c_10, if_neg c_11, if_pos c_12]), by rw [ht]; exact hP, va_K.moved hW.alike hK, hD⟩, hS.F ht⟩) hS.2.2 d_M_row_97
              · have c_12 : ¬ ((nI (z 3)) - 1) ≤ x := c_12
                refine lv_iconst (v := 1) hx hb d_M_row_92 (by decide) ?_
                refine lv_goto (tgt := 97) hx hb d_M_row_93 (by decide) ?_
                exact W.iret (v := 1) hx hb hr (fun t ht hW => ⟨⟨1, (28, bk, MW cs 0 z a bk), rfl, Mr_of (by rw [s_M_row, if_pos c_2, if_pos c_6, if_neg c_9, if_neg c_10, if_neg c_11, if_neg c_12]), by rw [ht]; exact hP, va_K.moved hW.alike hK, hD⟩, hS.F ht⟩) hS.2.2 d_M_row_97
            · have c_11 : what = 2 := c_11
              refine lv_aload_n hx hb d_M_row_73 rfl (lv_at hl 0 rfl) ?_
              refine pw_get (ci := 7) (v := .ref (bk (25))) hx hb hw i_M hown hK hP (0) (by decide) rfl rfl 29 (by decide) (hw _ kF_M_83) rfl d_M_row_74 ?_
              refine lv_iload_n hx hb d_M_row_77 rfl (lv_at hl 1 rfl) ?_
              refine pw_ialdC (n := 200) (f := (a 25)) hx hb hK hP 0 (25) (by decide) rfl rfl (vp_in_iff.mpr (by have h7 := c_2; have h8 := (le_pr (by omega)).mp h7.2; simp only [Int32.le_iff_toInt_le, Int32.lt_iff_toInt_lt, T0, nI_toInt (show z 3 < 2 ^ 31 by omega)] at h7 h8; omega)) d_M_row_78 ?_
              refine lv_goto (tgt := 97) hx hb d_M_row_79 (by decide) ?_
              exact W.iret (v := (a 25) (x).toNatClampNeg) hx hb hr (fun t ht hW => ⟨⟨(a 25) (x).toNatClampNeg, (28, bk, MW cs 0 z a bk), rfl, Mr_of (by rw [s_M_row, if_pos c_2, if_pos c_6, if_neg c_9, if_neg c_10, if_pos c_11]), by rw [ht]; exact hP, va_K.moved hW.alike hK, hD⟩, hS.F ht⟩) hS.2.2 d_M_row_97
          · have c_10 : what = 1 := c_10
            refine lv_aload_n hx hb d_M_row_59 rfl (lv_at hl 0 rfl) ?_
            refine pw_get (ci := 7) (v := .ref (bk (24))) hx hb hw i_M hown hK hP (0) (by decide) rfl rfl 28 (by decide) (hw _ kF_M_80) rfl d_M_row_60 ?_
            refine lv_iload_n hx hb d_M_row_63 rfl (lv_at hl 1 rfl) ?_
            refine pw_ialdC (n := 200) (f := (a 24)) hx hb hK hP 0 (24) (by decide) rfl rfl (vp_in_iff.mpr (by have h7 := c_2; have h8 := (le_pr (by omega)).mp h7.2; simp only [Int32.le_iff_toInt_le, Int32.lt_iff_toInt_lt, T0, nI_toInt (show z 3 < 2 ^ 31 by omega)] at h7 h8; omega)) d_M_row_64 ?_
            refine lv_goto (tgt := 97) hx hb d_M_row_65 (by decide) ?_
            exact W.iret (v := (a 24) (x).toNatClampNeg) hx hb hr (fun t ht hW => ⟨⟨(a 24) (x).toNatClampNeg, (28, bk, MW cs 0 z a bk), rfl, Mr_of (by rw [s_M_row, if_pos c_2, if_pos c_6, if_neg c_9, if_pos c_10]), by rw [ht]; exact hP, va_K.moved hW.alike hK, hD⟩, hS.F ht⟩) hS.2.2 d_M_row_97
        · have c_9 : what = 0 := c_9
          refine lv_aload_n hx hb d_M_row_45 rfl (lv_at hl 0 rfl) ?_
          refine pw_get (ci := 7) (v := .ref (bk (23))) hx hb hw i_M hown hK hP (0) (by decide) rfl rfl 27 (by decide) (hw _ kF_M_77) rfl d_M_row_46 ?_
          refine lv_iload_n hx hb d_M_row_49 rfl (lv_at hl 1 rfl) ?_
          refine pw_ialdC (n := 200) (f := (a 23)) hx hb hK hP 0 (23) (by decide) rfl rfl (vp_in_iff.mpr (by have h7 := c_2; have h8 := (le_pr (by omega)).mp h7.2; simp only [Int32.le_iff_toInt_le, Int32.lt_iff_toInt_lt, T0, nI_toInt (show z 3 < 2 ^ 31 by omega)] at h7 h8; omega)) d_M_row_50 ?_
          refine lv_goto (tgt := 97) hx hb d_M_row_51 (by decide) ?_
          exact W.iret (v := (a 23) (x).toNatClampNeg) hx hb hr (fun t ht hW => ⟨⟨(a 23) (x).toNatClampNeg, (28, bk, MW cs 0 z a bk), rfl, Mr_of (by rw [s_M_row, if_pos c_2, if_pos c_6, if_pos c_9]), by rw [ht]; exact hP, va_K.moved hW.alike hK, hD⟩, hS.F ht⟩) hS.2.2 d_M_row_97
      · exact absurd c_8 (by decide)
    · have c_6 : ¬ (0 ≤ what ∧ what ≤ 3) := c_6
      refine lv_iconst (v := 1) hx hb d_M_row_24 (by decide) ?_
      refine lv_goto (tgt := 29) hx hb d_M_row_25 (by decide) ?_
      refine pw_put (ci := 7) (v := .int (1)) (ty := .int) (fs' := [.int (1), .ref (bk (1)), .ref (bk (2)), .ref (bk (3)), .int (nI (z 0)), .ref (bk (4)), .ref (bk (5)), .ref (bk (6)), .ref (bk (7)), .ref (bk (8)), .ref (bk (9)), .ref (bk (10)), .ref (bk (11)), .ref (bk (12)), .ref (bk (13)), .ref (bk (14)), .ref (bk (15)), .ref (bk (16)), .ref (bk (17)), .ref (bk (18)), .ref (bk (19)), .ref (bk (20)), .int (nI (z 1)), .ref (bk (21)), .ref (bk (22)), .int (nI (z 2)), .int (nI (z 3)), .ref (bk (23)), .ref (bk (24)), .ref (bk (25)), .int (nI (z 4)), .ref (bk (26)), .ref (bk (27))]) hx hb hw i_M t_M t_M_ok n_M hown hK hP hD hS (0) (by decide) rfl rfl 0 (by decide) (hw _ kF_M_92) rfl (t_M_ok 0 (by decide)) rfl rfl (Nat.le_of_ble_eq_true rfl) rfl d_M_row_29 (fun cw_13 H locs ecw_13 hP hD hS => ?_)
      obtain rfl : cw_13 = MW cs 1 z a bk := by rw [ecw_13]; exact MW_obj 1 z
      refine lv_aload_n hx hb d_M_row_32 rfl (lv_at hl 0 rfl) ?_
      refine pw_get (ci := 7) (v := .int (1)) hx hb hw i_M hown hK hP (0) (by decide) rfl rfl 0 (by decide) (hw _ kF_M_92) rfl d_M_row_33 ?_
      refine lv_if_le (tgt := 41) hx hb d_M_row_36 (by decide) (fun c_14 => ?_) (fun c_14 => ?_)
      · exact absurd c_14 (by decide)
      · skip
        refine lv_iconst (v := 0) hx hb d_M_row_39 (by decide) ?_
        exact W.iret (v := 0) hx hb hr (fun t ht hW => ⟨⟨0, (28, bk, MW cs 1 z a bk), rfl, Mr_of (by rw [s_M_row, if_pos c_2, if_neg c_6]), by rw [ht]; exact hP, va_K.moved hW.alike hK, hD⟩, hS.F ht⟩) hS.2.2 d_M_row_40

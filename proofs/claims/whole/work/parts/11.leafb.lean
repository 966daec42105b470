set_option maxHeartbeats 4000000 in
set_option maxRecDepth 100000 in
theorem c_U_isDue (l : Launch) (D : va_G) (cs : Nat → ClassId) (N : Nat) (bk : Nat → Nat) (cw : Nat → va_E) (sz : Nat) (K KR : Nat) (hk : K < N) (nu pa od ex rp sa cl cd co ca vo rb ce : Int32) (he : cw K = .inr (2, [.int nu, .int pa, .int od, .int ex, .int rp, .ref (bk KR), .int sa, .int cl, .int cd, .int co, .int ca, .int vo, .int rb, .int ce])) (KU : Nat) (hku : KU < N) (f1 f2 f3 : Int32) (heu : cw KU = .inr (1, [.int f1, .int f2, .int f3])) (day : Int32) : Met l y_U_isDue w_U_isDue ({ frames := 0, cells := 0, slots := 0, locals := 0 }) (va_Pc [.ref (bk (KU)), .ref (bk (K)), .int (day)] (PB D classes (TY cs) N bk cw sz)) (vp_Si (fun r => r = bI ((sa = 1 ∧ f1 ≤ day - ex) ∨ (sa = 2 ∧ f2 ≤ day - cd)))) 0 0 (fun _ => False) := by
  refine pw_entry (cc := b_U_isDue) (maxL := 3) (ret := (some .boolean)) (by decide +kernel) rfl (Nat.le_of_ble_eq_true rfl) ?_
  intro p_ e_ s m below_ meth_ c_ ls hx hb hr hml hts hown hlocks hin hsz hP hK hD hS hA hN hl
  have hw : ∀ w ∈ WA, w.before _ s = true := fun w h => hts w (List.mem_cons_of_mem _ h)
  have hown : s.vm.findClass "IssueRows$Rule" = some m.cls := hown
  have hl : lv_has ls 3 [(0, .ref (bk (KU))), (1, .ref (bk (K))), (2, .int (day))] := hl
  refine lv_aload_n hx hb d_U_isDue_0 rfl (lv_at hl 1 rfl) ?_
  refine pw_get (ci := 2) (v := .int (sa)) hx hb hw i_I hown hK hP (K) hk he rfl 6 (by decide) (hw _ kF_U_21) rfl d_U_isDue_1 ?_
  refine lv_iconst (v := 1) hx hb d_U_isDue_4 (by decide) ?_
  refine lv_icmp_ne (tgt := 27) hx hb d_U_isDue_5 (by decide) (fun c_1 => ?_) (fun c_1 => ?_)
  · have c_1 : ¬ sa = 1 := c_1
    refine lv_aload_n hx hb d_U_isDue_27 rfl (lv_at hl 1 rfl) ?_
    refine pw_get (ci := 2) (v := .int (sa)) hx hb hw i_I hown hK hP (K) hk he rfl 6 (by decide) (hw _ kF_U_21) rfl d_U_isDue_28 ?_
    refine lv_iconst (v := 2) hx hb d_U_isDue_31 (by decide) ?_
    refine lv_icmp_ne (tgt := 52) hx hb d_U_isDue_32 (by decide) (fun c_2 => ?_) (fun c_2 => ?_)
    · have c_2 : ¬ sa = 2 := c_2
      refine lv_iconst (v := 0) hx hb d_U_isDue_52 (by decide) ?_
      exact W.zret (v := 0) (ty := .boolean) hx hb hr (by decide) (fun t ht hW => ⟨0, rfl, (bI_f (by simp only [Int32.lt_iff_toInt_lt, Int32.le_iff_toInt_le, ← Int32.toInt_inj, T0, T1, T2, T3, T4, T5, T6, T7, T8, T9, T10, T40, T50, T99, T100, T200, T999, T1000, T9999, T1000000, T10000000, T1000000000, Tm1] at c_1 c_2 ⊢; omega)).symm, ht⟩) (fun q h => by cases h) d_U_isDue_53
    · have c_2 : sa = 2 := c_2
      refine lv_iload_n hx hb d_U_isDue_35 rfl (lv_at hl 2 rfl) ?_
      refine lv_aload_n hx hb d_U_isDue_36 rfl (lv_at hl 1 rfl) ?_
      refine pw_get (ci := 2) (v := .int (cd)) hx hb hw i_I hown hK hP (K) hk he rfl 8 (by decide) (hw _ kF_U_29) rfl d_U_isDue_37 ?_
      refine lv_isub hx hb d_U_isDue_40 ?_
      refine lv_aload_n hx hb d_U_isDue_41 rfl (lv_at hl 0 rfl) ?_
      refine pw_get (ci := 1) (v := .int (f2)) hx hb hw i_U hown hK hP (KU) hku heu rfl 1 (by decide) (hw _ kF_U_15) rfl d_U_isDue_42 ?_
      refine lv_icmp_lt (tgt := 52) hx hb d_U_isDue_45 (by decide) (fun c_3 => ?_) (fun c_3 => ?_)
      · have c_3 : (day - cd) < f2 := c_3
        refine lv_iconst (v := 0) hx hb d_U_isDue_52 (by decide) ?_
        exact W.zret (v := 0) (ty := .boolean) hx hb hr (by decide) (fun t ht hW => ⟨0, rfl, (bI_f (by simp only [Int32.lt_iff_toInt_lt, Int32.le_iff_toInt_le, ← Int32.toInt_inj, T0, T1, T2, T3, T4, T5, T6, T7, T8, T9, T10, T40, T50, T99, T100, T200, T999, T1000, T9999, T1000000, T10000000, T1000000000, Tm1] at c_1 c_2 c_3 ⊢; omega)).symm, ht⟩) (fun q h => by cases h) d_U_isDue_53
      · have c_3 : ¬ (day - cd) < f2 := c_3
        refine lv_iconst (v := 1) hx hb d_U_isDue_48 (by decide) ?_
        refine lv_goto (tgt := 53) hx hb d_U_isDue_49 (by decide) ?_
        exact W.zret (v := 1) (ty := .boolean) hx hb hr (by decide) (fun t ht hW => ⟨1, rfl, (bI_t (by simp only [Int32.lt_iff_toInt_lt, Int32.le_iff_toInt_le, ← Int32.toInt_inj, T0, T1, T2, T3, T4, T5, T6, T7, T8, T9, T10, T40, T50, T99, T100, T200, T999, T1000, T9999, T1000000, T10000000, T1000000000, Tm1] at c_1 c_2 c_3 ⊢; omega)).symm, ht⟩) (fun q h => by cases h) d_U_isDue_53
  · have c_1 : sa = 1 := c_1
    refine lv_iload_n hx hb d_U_isDue_8 rfl (lv_at hl 2 rfl) ?_
    refine lv_aload_n hx hb d_U_isDue_9 rfl (lv_at hl 1 rfl) ?_
    refine pw_get (ci := 2) (v := .int (ex)) hx hb hw i_I hown hK hP (K) hk he rfl 3 (by decide) (hw _ kF_U_26) rfl d_U_isDue_10 ?_
    refine lv_isub hx hb d_U_isDue_13 ?_
    refine lv_aload_n hx hb d_U_isDue_14 rfl (lv_at hl 0 rfl) ?_
    refine pw_get (ci := 1) (v := .int (f1)) hx hb hw i_U hown hK hP (KU) hku heu rfl 0 (by decide) (hw _ kF_U_9) rfl d_U_isDue_15 ?_
    refine lv_icmp_lt (tgt := 25) hx hb d_U_isDue_18 (by decide) (fun c_4 => ?_) (fun c_4 => ?_)
    · have c_4 : (day - ex) < f1 := c_4
      refine lv_iconst (v := 0) hx hb d_U_isDue_25 (by decide) ?_
      exact W.zret (v := 0) (ty := .boolean) hx hb hr (by decide) (fun t ht hW => ⟨0, rfl, (bI_f (by simp only [Int32.lt_iff_toInt_lt, Int32.le_iff_toInt_le, ← Int32.toInt_inj, T0, T1, T2, T3, T4, T5, T6, T7, T8, T9, T10, T40, T50, T99, T100, T200, T999, T1000, T9999, T1000000, T10000000, T1000000000, Tm1] at c_1 c_4 ⊢; omega)).symm, ht⟩) (fun q h => by cases h) d_U_isDue_26
    · have c_4 : ¬ (day - ex) < f1 := c_4
      refine lv_iconst (v := 1) hx hb d_U_isDue_21 (by decide) ?_
      refine lv_goto (tgt := 26) hx hb d_U_isDue_22 (by decide) ?_
      exact W.zret (v := 1) (ty := .boolean) hx hb hr (by decide) (fun t ht hW => ⟨1, rfl, (bI_t (by simp only [Int32.lt_iff_toInt_lt, Int32.le_iff_toInt_le, ← Int32.toInt_inj, T0, T1, T2, T3, T4, T5, T6, T7, T8, T9, T10, T40, T50, T99, T100, T200, T999, T1000, T9999, T1000000, T10000000, T1000000000, Tm1] at c_1 c_4 ⊢; omega)).symm, ht⟩) (fun q h => by cases h) d_U_isDue_26
set_option maxHeartbeats 4000000 in
set_option maxRecDepth 100000 in
theorem c_I_part (l : Launch) (D : va_G) (cs : Nat → ClassId) (N : Nat) (bk : Nat → Nat) (cw : Nat → va_E) (sz : Nat) (K KR : Nat) (hk : K < N) (nu pa od ex rp sa cl cd co ca vo rb ce : Int32) (he : cw K = .inr (2, [.int nu, .int pa, .int od, .int ex, .int rp, .ref (bk KR), .int sa, .int cl, .int cd, .int co, .int ca, .int vo, .int rb, .int ce])) (K1 K2 : Nat) (hkr : KR < N) (sz1 pl si : Int32) (her : cw KR = .inr (3, [.ref (bk K1), .ref (bk K2), .int sz1, .int pl, .int si])) (pp dd : Nat → Int32) (hk1 : K1 < N) (he1 : cw K1 = .inl (cs 0, 8, .inl pp)) (hk2 : K2 < N) (he2 : cw K2 = .inl (cs 0, 8, .inl dd)) (h8 : sz1 ≤ 8) (what : Int32) : Met l y_I_part w_I_part ({ frames := 2, cells := 0, slots := 0, locals := 40 }) (va_Pc [.ref (bk (K)), .int (what)] (PB D classes (TY cs) N bk cw sz)) (vp_Si (fun r => r = if what = 0 then pa else if what = 1 then od else if what = 2 then sa else if what = 3 then ex else if what = 4 then cl else if what = 5 then co else if what = 6 then ca else if what = 7 then (if 0 ≤ pl ∧ pl < sz1 then pp pl.toNatClampNeg else -1) else if what = 8 then vo else if what = 9 then rb else if what = 10 then ce else -1)) 0 0 (fun _ => False) := by
  refine pw_entry (cc := b_I_part) (maxL := 2) (ret := (some .int)) (by decide +kernel) rfl (Nat.le_of_ble_eq_true rfl) ?_
  intro p_ e_ s m below_ meth_ c_ ls hx hb hr hml hts hown hlocks hin hsz hP hK hD hS hA hN hl
  have hw : ∀ w ∈ WA, w.before _ s = true := fun w h => hts w (List.mem_cons_of_mem _ h)
  have hown : s.vm.findClass "IssueRows$Issue" = some m.cls := hown
  have hl : lv_has ls 2 [(0, .ref (bk (K))), (1, .int (what))] := hl
  refine lv_iload_n hx hb d_I_part_0 rfl (lv_at hl 1 rfl) ?_
  by_cases c_1 : what = 0
  · refine lv_tableIn (off := 59) (tgt := 60) hx hb d_I_part_1 (by rw [c_1]; decide) (by rw [c_1]; decide) (by rw [c_1]; rfl) (by decide) ?_
    refine lv_aload_n hx hb d_I_part_60 rfl (lv_at hl 0 rfl) ?_
    refine pw_get (ci := 2) (v := .int (pa)) hx hb hw i_I hown hK hP (K) hk he rfl 1 (by decide) (hw _ kF_I_43) rfl d_I_part_61 ?_
    exact W.iret (v := pa) hx hb hr (fun t ht hW => ⟨pa, rfl, (by rw [if_pos c_1]), ht⟩) (fun q h => by cases h) d_I_part_64
  by_cases c_2 : what = 1
  · refine lv_tableIn (off := 64) (tgt := 65) hx hb d_I_part_1 (by rw [c_2]; decide) (by rw [c_2]; decide) (by rw [c_2]; rfl) (by decide) ?_
    refine lv_aload_n hx hb d_I_part_65 rfl (lv_at hl 0 rfl) ?_
    refine pw_get (ci := 2) (v := .int (od)) hx hb hw i_I hown hK hP (K) hk he rfl 2 (by decide) (hw _ kF_I_46) rfl d_I_part_66 ?_
    exact W.iret (v := od) hx hb hr (fun t ht hW => ⟨od, rfl, (by rw [if_neg c_1, if_pos c_2]), ht⟩) (fun q h => by cases h) d_I_part_69
  by_cases c_3 : what = 2
  · refine lv_tableIn (off := 69) (tgt := 70) hx hb d_I_part_1 (by rw [c_3]; decide) (by rw [c_3]; decide) (by rw [c_3]; rfl) (by decide) ?_
    refine lv_aload_n hx hb d_I_part_70 rfl (lv_at hl 0 rfl) ?_
    refine pw_get (ci := 2) (v := .int (sa)) hx hb hw i_I hown hK hP (K) hk he rfl 6 (by decide) (hw _ kF_I_56) rfl d_I_part_71 ?_
    exact W.iret (v := sa) hx hb hr (fun t ht hW => ⟨sa, rfl, (by rw [if_neg c_1, if_neg c_2, if_pos c_3]), ht⟩) (fun q h => by cases h) d_I_part_74
  by_cases c_4 : what = 3
  · refine lv_tableIn (off := 74) (tgt := 75) hx hb d_I_part_1 (by rw [c_4]; decide) (by rw [c_4]; decide) (by rw [c_4]; rfl) (by decide) ?_
    refine lv_aload_n hx hb d_I_part_75 rfl (lv_at hl 0 rfl) ?_
    refine pw_get (ci := 2) (v := .int (ex)) hx hb hw i_I hown hK hP (K) hk he rfl 3 (by decide) (hw _ kF_I_49) rfl d_I_part_76 ?_
    exact W.iret (v := ex) hx hb hr (fun t ht hW => ⟨ex, rfl, (by rw [if_neg c_1, if_neg c_2, if_neg c_3, if_pos c_4]), ht⟩) (fun q h => by cases h) d_I_part_79
  by_cases c_5 : what = 4
  · refine lv_tableIn (off := 79) (tgt := 80) hx hb d_I_part_1 (by rw [c_5]; decide) (by rw [c_5]; decide) (by rw [c_5]; rfl) (by decide) ?_
    refine lv_aload_n hx hb d_I_part_80 rfl (lv_at hl 0 rfl) ?_
    refine pw_get (ci := 2) (v := .int (cl)) hx hb hw i_I hown hK hP (K) hk he rfl 7 (by decide) (hw _ kF_I_18) rfl d_I_part_81 ?_
    exact W.iret (v := cl) hx hb hr (fun t ht hW => ⟨cl, rfl, (by rw [if_neg c_1, if_neg c_2, if_neg c_3, if_neg c_4, if_pos c_5]), ht⟩) (fun q h => by cases h) d_I_part_84
  by_cases c_6 : what = 5
  · refine lv_tableIn (off := 84) (tgt := 85) hx hb d_I_part_1 (by rw [c_6]; decide) (by rw [c_6]; decide) (by rw [c_6]; rfl) (by decide) ?_
    refine lv_aload_n hx hb d_I_part_85 rfl (lv_at hl 0 rfl) ?_
    refine pw_get (ci := 2) (v := .int (co)) hx hb hw i_I hown hK hP (K) hk he rfl 9 (by decide) (hw _ kF_I_25) rfl d_I_part_86 ?_
    exact W.iret (v := co) hx hb hr (fun t ht hW => ⟨co, rfl, (by rw [if_neg c_1, if_neg c_2, if_neg c_3, if_neg c_4, if_neg c_5, if_pos c_6]), ht⟩) (fun q h => by cases h) d_I_part_89
  by_cases c_7 : what = 6
  · refine lv_tableIn (off := 89) (tgt := 90) hx hb d_I_part_1 (by rw [c_7]; decide) (by rw [c_7]; decide) (by rw [c_7]; rfl) (by decide) ?_
    refine lv_aload_n hx hb d_I_part_90 rfl (lv_at hl 0 rfl) ?_
    refine pw_get (ci := 2) (v := .int (ca)) hx hb hw i_I hown hK hP (K) hk he rfl 10 (by decide) (hw _ kF_I_28) rfl d_I_part_91 ?_
    exact W.iret (v := ca) hx hb hr (fun t ht hW => ⟨ca, rfl, (by rw [if_neg c_1, if_neg c_2, if_neg c_3, if_neg c_4, if_neg c_5, if_neg c_6, if_pos c_7]), ht⟩) (fun q h => by cases h) d_I_part_94
  by_cases c_8 : what = 7
  · refine lv_tableIn (off := 94) (tgt := 95) hx hb d_I_part_1 (by rw [c_8]; decide) (by rw [c_8]; decide) (by rw [c_8]; rfl) (by decide) ?_
    refine lv_aload_n hx hb d_I_part_95 rfl (lv_at hl 0 rfl) ?_
    refine pw_get (ci := 2) (v := .ref (bk (KR))) hx hb hw i_I hown hK hP (K) hk he rfl 5 (by decide) (hw _ kF_I_12) rfl d_I_part_96 ?_
    refine pw_callSi (va_runV (As := []) (rest := []) ⟨hx, hb, hml, hown, hw⟩ (c_G_holder l D cs N bk cw s.heap.size (KR) (K1) (K2) hkr sz1 pl si her pp dd hk1 he1 hk2 he2 h8) (cw_V 0 hw kM_I_63 kI_G_holder kV_G_holder kZ_G kC_G_holder rfl rfl ⟨rfl, by decide, by decide, by decide +kernel⟩ ⟨Nat.le_of_ble_eq_true rfl, Nat.le_of_ble_eq_true rfl⟩) (pw_preV hN hK hP hD (KR) hkr her rfl) rfl rfl hl.1 rfl (lv_room (Nat.le_of_ble_eq_true rfl)) d_I_part_99 ⟨Nat.le_of_ble_eq_true rfl, Nat.le_of_ble_eq_true rfl⟩) (fun r_9 hr_9 => ?_)
    have hr_9 : r_9 = if 0 ≤ pl ∧ pl < sz1 then pp (pl).toNatClampNeg else -1 := hr_9
    subst hr_9
    exact W.iret (v := if 0 ≤ pl ∧ pl < sz1 then pp (pl).toNatClampNeg else -1) hx hb hr (fun t ht hW => ⟨if 0 ≤ pl ∧ pl < sz1 then pp (pl).toNatClampNeg else -1, rfl, (by rw [if_neg c_1, if_neg c_2, if_neg c_3, if_neg c_4, if_neg c_5, if_neg c_6, if_neg c_7, if_pos c_8]), ht⟩) (fun q h => by cases h) d_I_part_102
  by_cases c_10 : what = 8
  · refine lv_tableIn (off := 102) (tgt := 103) hx hb d_I_part_1 (by rw [c_10]; decide) (by rw [c_10]; decide) (by rw [c_10]; rfl) (by decide) ?_
    refine lv_aload_n hx hb d_I_part_103 rfl (lv_at hl 0 rfl) ?_
    refine pw_get (ci := 2) (v := .int (vo)) hx hb hw i_I hown hK hP (K) hk he rfl 11 (by decide) (hw _ kF_I_31) rfl d_I_part_104 ?_
    exact W.iret (v := vo) hx hb hr (fun t ht hW => ⟨vo, rfl, (by rw [if_neg c_1, if_neg c_2, if_neg c_3, if_neg c_4, if_neg c_5, if_neg c_6, if_neg c_7, if_neg c_8, if_pos c_10]), ht⟩) (fun q h => by cases h) d_I_part_107
  by_cases c_11 : what = 9
  · refine lv_tableIn (off := 107) (tgt := 108) hx hb d_I_part_1 (by rw [c_11]; decide) (by rw [c_11]; decide) (by rw [c_11]; rfl) (by decide) ?_
    refine lv_aload_n hx hb d_I_part_108 rfl (lv_at hl 0 rfl) ?_
    refine pw_get (ci := 2) (v := .int (rb)) hx hb hw i_I hown hK hP (K) hk he rfl 12 (by decide) (hw _ kF_I_34) rfl d_I_part_109 ?_
    exact W.iret (v := rb) hx hb hr (fun t ht hW => ⟨rb, rfl, (by rw [if_neg c_1, if_neg c_2, if_neg c_3, if_neg c_4, if_neg c_5, if_neg c_6, if_neg c_7, if_neg c_8, if_neg c_10, if_pos c_11]), ht⟩) (fun q h => by cases h) d_I_part_112
  by_cases c_12 : what = 10
  · refine lv_tableIn (off := 112) (tgt := 113) hx hb d_I_part_1 (by rw [c_12]; decide) (by rw [c_12]; decide) (by rw [c_12]; rfl) (by decide) ?_
    refine lv_aload_n hx hb d_I_part_113 rfl (lv_at hl 0 rfl) ?_
    refine pw_get (ci := 2) (v := .int (ce)) hx hb hw i_I hown hK hP (K) hk he rfl 13 (by decide) (hw _ kF_I_37) rfl d_I_part_114 ?_
    exact W.iret (v := ce) hx hb hr (fun t ht hW => ⟨ce, rfl, (by rw [if_neg c_1, if_neg c_2, if_neg c_3, if_neg c_4, if_neg c_5, if_neg c_6, if_neg c_7, if_neg c_8, if_neg c_10, if_neg c_11, if_pos c_12]), ht⟩) (fun q h => by cases h) d_I_part_117
  refine lv_tableOut (tgt := 118) hx hb d_I_part_1 (by simp only [Int32.lt_iff_toInt_lt, Int32.le_iff_toInt_le, ← Int32.toInt_inj, T0, T1, T2, T3, T4, T5, T6, T7, T8, T9, T10, T40, T50, T99, T100, T199, T200, T999, T1000, T9999, T1000000, T10000000, T1000000000, Tm1] at c_1 c_2 c_3 c_4 c_5 c_6 c_7 c_8 c_10 c_11 c_12; omega) (by decide) ?_
  refine lv_iconst (v := -1) hx hb d_I_part_118 (by decide) ?_
  exact W.iret (v := -1) hx hb hr (fun t ht hW => ⟨-1, rfl, (by rw [if_neg c_1, if_neg c_2, if_neg c_3, if_neg c_4, if_neg c_5, if_neg c_6, if_neg c_7, if_neg c_8, if_neg c_10, if_neg c_11, if_neg c_12]), ht⟩) (fun q h => by cases h) d_I_part_119

set_option maxHeartbeats 4000000 in
set_option maxRecDepth 100000 in
theorem c_M_in (l : Launch) (D : va_G) (cs : Nat → ClassId) (bk : Nat → Nat) (sz : Nat) (th : Int32) (z : Nat → Nat) (a : Nat → Nat → Int32) (x lo hi : Int32) : Met l y_M_in w_M_in ({ frames := 0, cells := 0, slots := 0, locals := 0 }) (va_Pc [.int (x), .int (lo), .int (hi)] (PB D classes (TY cs) 28 bk (MW cs th z a bk) sz)) (vp_Si (fun r => r = bI (lo ≤ x ∧ x ≤ hi))) 0 0 (fun _ => False) := by
  refine pw_entry (cc := b_M_in) (maxL := 3) (ret := (some .boolean)) (by decide +kernel) rfl (Nat.le_of_ble_eq_true rfl) ?_
  intro p_ e_ s m below_ meth_ c_ ls hx hb hr hml hts hown hlocks hin hsz hP hK hD hS hA hN hl
  have hw : ∀ w ∈ WA, w.before _ s = true := fun w h => hts w (List.mem_cons_of_mem _ h)
  have hown : s.vm.findClass "IssueRowsModel" = some m.cls := hown
  have hl : lv_has ls 3 [(0, .int (x)), (1, .int (lo)), (2, .int (hi))] := hl
  refine lv_iload_n hx hb d_M_in_0 rfl (lv_at hl 0 rfl) ?_
  refine lv_iload_n hx hb d_M_in_1 rfl (lv_at hl 1 rfl) ?_
  refine lv_icmp_lt (tgt := 14) hx hb d_M_in_2 (by decide) (fun c_1 => ?_) (fun c_1 => ?_)
  · have c_1 : x < lo := c_1
    refine lv_iconst (v := 0) hx hb d_M_in_14 (by decide) ?_
    exact W.zret (v := 0) (ty := .boolean) hx hb hr (by decide) (fun t ht hW => ⟨0, rfl, (bI_f (by simp only [Int32.lt_iff_toInt_lt, Int32.le_iff_toInt_le, ← Int32.toInt_inj, T0, T1, T2, T3, T4, T5, T6, T7, T8, T9, T10, T40, T50, T99, T100, T200, T999, T1000, T9999, T1000000, T10000000, T1000000000, Tm1] at c_1 ⊢; omega)).symm, ht⟩) (fun q h => by cases h) d_M_in_15
  · have c_1 : ¬ x < lo := c_1
    refine lv_iload_n hx hb d_M_in_5 rfl (lv_at hl 0 rfl) ?_
    refine lv_iload_n hx hb d_M_in_6 rfl (lv_at hl 2 rfl) ?_
    refine lv_icmp_gt (tgt := 14) hx hb d_M_in_7 (by decide) (fun c_2 => ?_) (fun c_2 => ?_)
    · have c_2 : hi < x := c_2
      refine lv_iconst (v := 0) hx hb d_M_in_14 (by decide) ?_
      exact W.zret (v := 0) (ty := .boolean) hx hb hr (by decide) (fun t ht hW => ⟨0, rfl, (bI_f (by simp only [Int32.lt_iff_toInt_lt, Int32.le_iff_toInt_le, ← Int32.toInt_inj, T0, T1, T2, T3, T4, T5, T6, T7, T8, T9, T10, T40, T50, T99, T100, T200, T999, T1000, T9999, T1000000, T10000000, T1000000000, Tm1] at c_1 c_2 ⊢; omega)).symm, ht⟩) (fun q h => by cases h) d_M_in_15
    · have c_2 : ¬ hi < x := c_2
      refine lv_iconst (v := 1) hx hb d_M_in_10 (by decide) ?_
      refine lv_goto (tgt := 15) hx hb d_M_in_11 (by decide) ?_
      exact W.zret (v := 1) (ty := .boolean) hx hb hr (by decide) (fun t ht hW => ⟨1, rfl, (bI_t (by simp only [Int32.lt_iff_toInt_lt, Int32.le_iff_toInt_le, ← Int32.toInt_inj, T0, T1, T2, T3, T4, T5, T6, T7, T8, T9, T10, T40, T50, T99, T100, T200, T999, T1000, T9999, T1000000, T10000000, T1000000000, Tm1] at c_1 c_2 ⊢; omega)).symm, ht⟩) (fun q h => by cases h) d_M_in_15
set_option maxHeartbeats 4000000 in
set_option maxRecDepth 100000 in
theorem c_M_isDay (l : Launch) (D : va_G) (cs : Nat → ClassId) (bk : Nat → Nat) (sz : Nat) (th : Int32) (z : Nat → Nat) (a : Nat → Nat → Int32) (x : Int32) : Met l y_M_isDay w_M_isDay ({ frames := 1, cells := 0, slots := 0, locals := 22 }) (va_Pc [.int (x)] (PB D classes (TY cs) 28 bk (MW cs th z a bk) sz)) (vp_Si (fun r => r = bI (0 ≤ x ∧ x ≤ 1000000))) 0 0 (fun _ => False) := by
  refine pw_entry (cc := b_M_isDay) (maxL := 1) (ret := (some .boolean)) (by decide +kernel) rfl (Nat.le_of_ble_eq_true rfl) ?_
  intro p_ e_ s m below_ meth_ c_ ls hx hb hr hml hts hown hlocks hin hsz hP hK hD hS hA hN hl
  have hw : ∀ w ∈ WA, w.before _ s = true := fun w h => hts w (List.mem_cons_of_mem _ h)
  have hown : s.vm.findClass "IssueRowsModel" = some m.cls := hown
  have hl : lv_has ls 1 [(0, .int (x))] := hl
  refine lv_iload_n hx hb d_M_isDay_0 rfl (lv_at hl 0 rfl) ?_
  refine lv_iconst (v := 0) hx hb d_M_isDay_1 (by decide) ?_
  refine lv_ldc (v := 1000000) hx hb hown (hw _ kK_M_96) d_M_isDay_2 ?_
  refine pw_callSi (va_runS (As := [.int (x), .int (0), .int (1000000)]) (rest := []) ⟨hx, hb, hml, hown, hw⟩ (c_M_in l D cs bk s.heap.size th z a x 0 1000000) (cw_S 3 hw kM_M_97 kS_M_in kZ_M kC_M_in rfl rfl ⟨rfl, by decide, by decide, by decide +kernel⟩ ⟨Nat.le_of_ble_eq_true rfl, Nat.le_of_ble_eq_true rfl⟩) (pw_preS hN hK hP hD) rfl rfl hl.1 rfl (lv_room (Nat.le_of_ble_eq_true rfl)) d_M_isDay_4 ⟨Nat.le_of_ble_eq_true rfl, Nat.le_of_ble_eq_true rfl⟩) (fun r_1 hr_1 => ?_)
  have hr_1 : r_1 = bI (0 ≤ x ∧ x ≤ 1000000) := hr_1
  subst hr_1
  exact W.zret (v := bI (0 ≤ x ∧ x ≤ 1000000)) (ty := .boolean) hx hb hr bI_nar (fun t ht hW => ⟨bI (0 ≤ x ∧ x ≤ 1000000), rfl, rfl, ht⟩) (fun q h => by cases h) d_M_isDay_7
set_option maxHeartbeats 4000000 in
set_option maxRecDepth 100000 in
theorem c_M_isIssue (l : Launch) (D : va_G) (cs : Nat → ClassId) (bk : Nat → Nat) (sz : Nat) (th : Int32) (z : Nat → Nat) (a : Nat → Nat → Int32) (hz : z 0 ≤ 200) (x : Int32) : Met l y_M_isIssue w_M_isIssue ({ frames := 1, cells := 0, slots := 0, locals := 22 }) (va_Pc [.ref (bk (0)), .int (x)] (PB D classes (TY cs) 28 bk (MW cs th z a bk) sz)) (vp_Si (fun r => r = bI (0 ≤ x ∧ x < nI (z 0)))) 0 0 (fun _ => False) := by
  refine pw_entry (cc := b_M_isIssue) (maxL := 2) (ret := (some .boolean)) (by decide +kernel) rfl (Nat.le_of_ble_eq_true rfl) ?_
  intro p_ e_ s m below_ meth_ c_ ls hx hb hr hml hts hown hlocks hin hsz hP hK hD hS hA hN hl
  have hw : ∀ w ∈ WA, w.before _ s = true := fun w h => hts w (List.mem_cons_of_mem _ h)
  have hown : s.vm.findClass "IssueRowsModel" = some m.cls := hown
  have hl : lv_has ls 2 [(0, .ref (bk (0))), (1, .int (x))] := hl
  refine lv_iload_n hx hb d_M_isIssue_0 rfl (lv_at hl 1 rfl) ?_
  refine lv_iconst (v := 0) hx hb d_M_isIssue_1 (by decide) ?_
  refine lv_aload_n hx hb d_M_isIssue_2 rfl (lv_at hl 0 rfl) ?_
  refine pw_get (ci := 7) (v := .int (nI (z 0))) hx hb hw i_M hown hK hP (0) (by decide) rfl rfl 4 (by decide) (hw _ kF_M_101) rfl d_M_isIssue_3 ?_
  refine lv_iconst (v := 1) hx hb d_M_isIssue_6 (by decide) ?_
  refine lv_isub hx hb d_M_isIssue_7 ?_
  refine pw_callSi (va_runS (As := [.int (x), .int (0), .int ((nI (z 0)) - 1)]) (rest := []) ⟨hx, hb, hml, hown, hw⟩ (c_M_in l D cs bk s.heap.size th z a x 0 ((nI (z 0)) - 1)) (cw_S 3 hw kM_M_97 kS_M_in kZ_M kC_M_in rfl rfl ⟨rfl, by decide, by decide, by decide +kernel⟩ ⟨Nat.le_of_ble_eq_true rfl, Nat.le_of_ble_eq_true rfl⟩) (pw_preS hN hK hP hD) rfl rfl hl.1 rfl (lv_room (Nat.le_of_ble_eq_true rfl)) d_M_isIssue_8 ⟨Nat.le_of_ble_eq_true rfl, Nat.le_of_ble_eq_true rfl⟩) (fun r_1 hr_1 => ?_)
  have hr_1 : r_1 = bI (0 ≤ x ∧ x ≤ ((nI (z 0)) - 1)) := hr_1
  subst hr_1
  exact W.zret (v := bI (0 ≤ x ∧ x ≤ ((nI (z 0)) - 1))) (ty := .boolean) hx hb hr bI_nar (fun t ht hW => ⟨bI (0 ≤ x ∧ x ≤ ((nI (z 0)) - 1)), rfl, (bI_c (and_congr_right (fun _ => le_pr (by omega)))), ht⟩) (fun q h => by cases h) d_M_isIssue_11
set_option maxHeartbeats 4000000 in
set_option maxRecDepth 100000 in
theorem c_M_isHeld (l : Launch) (D : va_G) (cs : Nat → ClassId) (bk : Nat → Nat) (sz : Nat) (th : Int32) (z : Nat → Nat) (a : Nat → Nat → Int32) (j : Nat) (hj : j < 200) : Met l y_M_isHeld w_M_isHeld ({ frames := 0, cells := 0, slots := 0, locals := 0 }) (va_Pc [.ref (bk (0)), .int (nI j)] (PB D classes (TY cs) 28 bk (MW cs th z a bk) sz)) (vp_Si (fun r => r = bI (0 ≤ a 19 j ∧ a 19 j < a 16 j))) 0 0 (fun _ => False) := by
  refine pw_entry (cc := b_M_isHeld) (maxL := 2) (ret := (some .boolean)) (by decide +kernel) rfl (Nat.le_of_ble_eq_true rfl) ?_
  intro p_ e_ s m below_ meth_ c_ ls hx hb hr hml hts hown hlocks hin hsz hP hK hD hS hA hN hl
  have hw : ∀ w ∈ WA, w.before _ s = true := fun w h => hts w (List.mem_cons_of_mem _ h)
  have hown : s.vm.findClass "IssueRowsModel" = some m.cls := hown
  have hl : lv_has ls 2 [(0, .ref (bk (0))), (1, .int (nI j))] := hl
  refine lv_aload_n hx hb d_M_isHeld_0 rfl (lv_at hl 0 rfl) ?_
  refine pw_get (ci := 7) (v := .ref (bk (19))) hx hb hw i_M hown hK hP (0) (by decide) rfl rfl 20 (by decide) (hw _ kF_M_65) rfl d_M_isHeld_1 ?_
  refine lv_iload_n hx hb d_M_isHeld_4 rfl (lv_at hl 1 rfl) ?_
  refine pw_iald (n := 200) (f := (a 19)) hx hb hK hP 0 (19) (by decide) rfl rfl (j) rfl (by omega) (by decide) d_M_isHeld_5 ?_
  refine lv_if_lt (tgt := 28) hx hb d_M_isHeld_6 (by decide) (fun c_1 => ?_) (fun c_1 => ?_)
  · have c_1 : ((a 19) (j)) < 0 := c_1
    refine lv_iconst (v := 0) hx hb d_M_isHeld_28 (by decide) ?_
    exact W.zret (v := 0) (ty := .boolean) hx hb hr (by decide) (fun t ht hW => ⟨0, rfl, (bI_f (by simp only [Int32.lt_iff_toInt_lt, Int32.le_iff_toInt_le, ← Int32.toInt_inj, T0, T1, T2, T3, T4, T5, T6, T7, T8, T9, T10, T40, T50, T99, T100, T200, T999, T1000, T9999, T1000000, T10000000, T1000000000, Tm1] at c_1 ⊢; omega)).symm, ht⟩) (fun q h => by cases h) d_M_isHeld_29
  · have c_1 : ¬ ((a 19) (j)) < 0 := c_1
    refine lv_aload_n hx hb d_M_isHeld_9 rfl (lv_at hl 0 rfl) ?_
    refine pw_get (ci := 7) (v := .ref (bk (19))) hx hb hw i_M hown hK hP (0) (by decide) rfl rfl 20 (by decide) (hw _ kF_M_65) rfl d_M_isHeld_10 ?_
    refine lv_iload_n hx hb d_M_isHeld_13 rfl (lv_at hl 1 rfl) ?_
    refine pw_iald (n := 200) (f := (a 19)) hx hb hK hP 0 (19) (by decide) rfl rfl (j) rfl (by omega) (by decide) d_M_isHeld_14 ?_
    refine lv_aload_n hx hb d_M_isHeld_15 rfl (lv_at hl 0 rfl) ?_
    refine pw_get (ci := 7) (v := .ref (bk (16))) hx hb hw i_M hown hK hP (0) (by decide) rfl rfl 17 (by decide) (hw _ kF_M_56) rfl d_M_isHeld_16 ?_
    refine lv_iload_n hx hb d_M_isHeld_19 rfl (lv_at hl 1 rfl) ?_
    refine pw_iald (n := 200) (f := (a 16)) hx hb hK hP 0 (16) (by decide) rfl rfl (j) rfl (by omega) (by decide) d_M_isHeld_20 ?_
    refine lv_icmp_ge (tgt := 28) hx hb d_M_isHeld_21 (by decide) (fun c_2 => ?_) (fun c_2 => ?_)
    · have c_2 : ((a 16) (j)) ≤ ((a 19) (j)) := c_2
      refine lv_iconst (v := 0) hx hb d_M_isHeld_28 (by decide) ?_
      exact W.zret (v := 0) (ty := .boolean) hx hb hr (by decide) (fun t ht hW => ⟨0, rfl, (bI_f (by simp only [Int32.lt_iff_toInt_lt, Int32.le_iff_toInt_le, ← Int32.toInt_inj, T0, T1, T2, T3, T4, T5, T6, T7, T8, T9, T10, T40, T50, T99, T100, T200, T999, T1000, T9999, T1000000, T10000000, T1000000000, Tm1] at c_1 c_2 ⊢; omega)).symm, ht⟩) (fun q h => by cases h) d_M_isHeld_29
    · have c_2 : ¬ ((a 16) (j)) ≤ ((a 19) (j)) := c_2
      refine lv_iconst (v := 1) hx hb d_M_isHeld_24 (by decide) ?_
      refine lv_goto (tgt := 29) hx hb d_M_isHeld_25 (by decide) ?_
      exact W.zret (v := 1) (ty := .boolean) hx hb hr (by decide) (fun t ht hW => ⟨1, rfl, (bI_t (by simp only [Int32.lt_iff_toInt_lt, Int32.le_iff_toInt_le, ← Int32.toInt_inj, T0, T1, T2, T3, T4, T5, T6, T7, T8, T9, T10, T40, T50, T99, T100, T200, T999, T1000, T9999, T1000000, T10000000, T1000000000, Tm1] at c_1 c_2 ⊢; omega)).symm, ht⟩) (fun q h => by cases h) d_M_isHeld_29
set_option maxHeartbeats 4000000 in
set_option maxRecDepth 100000 in
theorem c_M_stands (l : Launch) (D : va_G) (cs : Nat → ClassId) (bk : Nat → Nat) (sz : Nat) (th : Int32) (z : Nat → Nat) (a : Nat → Nat → Int32) (j : Nat) (hj : j < 200) : Met l y_M_stands w_M_stands ({ frames := 0, cells := 0, slots := 0, locals := 0 }) (va_Pc [.ref (bk (0)), .int (nI j)] (PB D classes (TY cs) 28 bk (MW cs th z a bk) sz)) (vp_Si (fun r => r = bI (a 6 j = 3 ∨ a 6 j = 5))) 0 0 (fun _ => False) := by
  refine pw_entry (cc := b_M_stands) (maxL := 2) (ret := (some .boolean)) (by decide +kernel) rfl (Nat.le_of_ble_eq_true rfl) ?_
  intro p_ e_ s m below_ meth_ c_ ls hx hb hr hml hts hown hlocks hin hsz hP hK hD hS hA hN hl
  have hw : ∀ w ∈ WA, w.before _ s = true := fun w h => hts w (List.mem_cons_of_mem _ h)
  have hown : s.vm.findClass "IssueRowsModel" = some m.cls := hown
  have hl : lv_has ls 2 [(0, .ref (bk (0))), (1, .int (nI j))] := hl
  refine lv_aload_n hx hb d_M_stands_0 rfl (lv_at hl 0 rfl) ?_
  refine pw_get (ci := 7) (v := .ref (bk (6))) hx hb hw i_M hown hK hP (0) (by decide) rfl rfl 7 (by decide) (hw _ kF_M_25) rfl d_M_stands_1 ?_
  refine lv_iload_n hx hb d_M_stands_4 rfl (lv_at hl 1 rfl) ?_
  refine pw_iald (n := 200) (f := (a 6)) hx hb hK hP 0 (6) (by decide) rfl rfl (j) rfl (by omega) (by decide) d_M_stands_5 ?_
  refine lv_iconst (v := 3) hx hb d_M_stands_6 (by decide) ?_
  refine lv_icmp_eq (tgt := 20) hx hb d_M_stands_7 (by decide) (fun c_1 => ?_) (fun c_1 => ?_)
  · have c_1 : ((a 6) (j)) = 3 := c_1
    refine lv_iconst (v := 1) hx hb d_M_stands_20 (by decide) ?_
    refine lv_goto (tgt := 25) hx hb d_M_stands_21 (by decide) ?_
    exact W.zret (v := 1) (ty := .boolean) hx hb hr (by decide) (fun t ht hW => ⟨1, rfl, (bI_t (by simp only [Int32.lt_iff_toInt_lt, Int32.le_iff_toInt_le, ← Int32.toInt_inj, T0, T1, T2, T3, T4, T5, T6, T7, T8, T9, T10, T40, T50, T99, T100, T200, T999, T1000, T9999, T1000000, T10000000, T1000000000, Tm1] at c_1 ⊢; omega)).symm, ht⟩) (fun q h => by cases h) d_M_stands_25
  · have c_1 : ¬ ((a 6) (j)) = 3 := c_1
    refine lv_aload_n hx hb d_M_stands_10 rfl (lv_at hl 0 rfl) ?_
    refine pw_get (ci := 7) (v := .ref (bk (6))) hx hb hw i_M hown hK hP (0) (by decide) rfl rfl 7 (by decide) (hw _ kF_M_25) rfl d_M_stands_11 ?_
    refine lv_iload_n hx hb d_M_stands_14 rfl (lv_at hl 1 rfl) ?_
    refine pw_iald (n := 200) (f := (a 6)) hx hb hK hP 0 (6) (by decide) rfl rfl (j) rfl (by omega) (by decide) d_M_stands_15 ?_
    refine lv_iconst (v := 5) hx hb d_M_stands_16 (by decide) ?_
    refine lv_icmp_ne (tgt := 24) hx hb d_M_stands_17 (by decide) (fun c_2 => ?_) (fun c_2 => ?_)
    · have c_2 : ¬ ((a 6) (j)) = 5 := c_2
      refine lv_iconst (v := 0) hx hb d_M_stands_24 (by decide) ?_
      exact W.zret (v := 0) (ty := .boolean) hx hb hr (by decide) (fun t ht hW => ⟨0, rfl, (bI_f (by simp only [Int32.lt_iff_toInt_lt, Int32.le_iff_toInt_le, ← Int32.toInt_inj, T0, T1, T2, T3, T4, T5, T6, T7, T8, T9, T10, T40, T50, T99, T100, T200, T999, T1000, T9999, T1000000, T10000000, T1000000000, Tm1] at c_1 c_2 ⊢; omega)).symm, ht⟩) (fun q h => by cases h) d_M_stands_25
    · have c_2 : ((a 6) (j)) = 5 := c_2
      refine lv_iconst (v := 1) hx hb d_M_stands_20 (by decide) ?_
      refine lv_goto (tgt := 25) hx hb d_M_stands_21 (by decide) ?_
      exact W.zret (v := 1) (ty := .boolean) hx hb hr (by decide) (fun t ht hW => ⟨1, rfl, (bI_t (by simp only [Int32.lt_iff_toInt_lt, Int32.le_iff_toInt_le, ← Int32.toInt_inj, T0, T1, T2, T3, T4, T5, T6, T7, T8, T9, T10, T40, T50, T99, T100, T200, T999, T1000, T9999, T1000000, T10000000, T1000000000, Tm1] at c_1 c_2 ⊢; omega)).symm, ht⟩) (fun q h => by cases h) d_M_stands_25
def s_M_tell (th : Int32) (z : Nat → Nat) (a : Nat → Nat → Int32) (x : Int32) (y : Int32) : MS := (if (nI (z 4)) = 100 then (0, th, z, a) else (0, th, va_up z 4 ((z 4) + 1), va_up (va_up a 26 (upd (a 26) (z 4) (x))) 27 (upd (a 27) (z 4) (y))))
set_option maxHeartbeats 4000000 in
set_option maxRecDepth 100000 in
theorem c_M_tell (l : Launch) (D : va_G) (cs : Nat → ClassId) (bk : Nat → Nat) (sz : Nat) (th : Int32) (z : Nat → Nat) (a : Nat → Nat → Int32) (hz : z 4 ≤ 100) (x y : Int32) : Met l y_M_tell w_M_tell ({ frames := 0, cells := 0, slots := 0, locals := 0 }) (va_Pc [.ref (bk (0)), .int (x), .int (y)] (PB D classes (TY cs) 28 bk (MW cs th z a bk) sz)) (va_Qv (Mv cs bk (s_M_tell th z a x y)) (Wd D classes (TY cs) (AA 28 bk sz)) (AA 28 bk sz)) 0 0 (AA 28 bk sz) := by
  refine pw_entry (cc := b_M_tell) (maxL := 3) (ret := none) (by decide +kernel) rfl (Nat.le_of_ble_eq_true rfl) ?_
  intro p_ e_ s m below_ meth_ c_ ls hx hb hr hml hts hown hlocks hin hsz hP hK hD hS hA hN hl
  have hw : ∀ w ∈ WA, w.before _ s = true := fun w h => hts w (List.mem_cons_of_mem _ h)
  have hown : s.vm.findClass "IssueRowsModel" = some m.cls := hown
  have hl : lv_has ls 3 [(0, .ref (bk (0))), (1, .int (x)), (2, .int (y))] := hl
  refine lv_aload_n hx hb d_M_tell_0 rfl (lv_at hl 0 rfl) ?_
  refine pw_get (ci := 7) (v := .int (nI (z 4))) hx hb hw i_M hown hK hP (0) (by decide) rfl rfl 30 (by decide) (hw _ kF_M_104) rfl d_M_tell_1 ?_
  refine lv_bipush (v := 100) hx hb d_M_tell_4 (by decide) ?_
  refine lv_icmp_ne (tgt := 10) hx hb d_M_tell_6 (by decide) (fun c_1 => ?_) (fun c_1 => ?_)
  · have c_1 : ¬ (nI (z 4)) = 100 := c_1
    refine lv_aload_n hx hb d_M_tell_10 rfl (lv_at hl 0 rfl) ?_
    refine pw_get (ci := 7) (v := .ref (bk (26))) hx hb hw i_M hown hK hP (0) (by decide) rfl rfl 31 (by decide) (hw _ kF_M_86) rfl d_M_tell_11 ?_
    refine lv_aload_n hx hb d_M_tell_14 rfl (lv_at hl 0 rfl) ?_
    refine pw_get (ci := 7) (v := .int (nI (z 4))) hx hb hw i_M hown hK hP (0) (by decide) rfl rfl 30 (by decide) (hw _ kF_M_104) rfl d_M_tell_15 ?_
    refine lv_iload_n hx hb d_M_tell_18 rfl (lv_at hl 1 rfl) ?_
    refine pw_iast (n := 100) (f := (a 26)) hx hb hK hP hD hS 0 (26) (by decide) rfl rfl (z 4) rfl (by have h7 := c_1; rw [show (100 : Int32) = nI 100 from rfl, nI_eq (by omega) (by decide)] at h7; omega) (by decide) d_M_tell_19 (fun cw_2 H locs ecw_2 hP hD hS => ?_)
    obtain rfl : cw_2 = MW cs th z (va_up a 26 (upd (a 26) (z 4) (x))) bk := by rw [ecw_2]; exact MW_arr 26 (by decide) (upd (a 26) (z 4) (x))
    refine lv_aload_n hx hb d_M_tell_20 rfl (lv_at hl 0 rfl) ?_
    refine pw_get (ci := 7) (v := .ref (bk (27))) hx hb hw i_M hown hK hP (0) (by decide) rfl rfl 32 (by decide) (hw _ kF_M_89) rfl d_M_tell_21 ?_
    refine lv_aload_n hx hb d_M_tell_24 rfl (lv_at hl 0 rfl) ?_
    refine pw_get (ci := 7) (v := .int (nI (z 4))) hx hb hw i_M hown hK hP (0) (by decide) rfl rfl 30 (by decide) (hw _ kF_M_104) rfl d_M_tell_25 ?_
    refine lv_iload_n hx hb d_M_tell_28 rfl (lv_at hl 2 rfl) ?_
    refine pw_iast (n := 100) (f := (a 27)) hx hb hK hP hD hS 0 (27) (by decide) rfl rfl (z 4) rfl (by have h7 := c_1; rw [show (100 : Int32) = nI 100 from rfl, nI_eq (by omega) (by decide)] at h7; omega) (by decide) d_M_tell_29 (fun cw_3 H locs ecw_3 hP hD hS => ?_)
    obtain rfl : cw_3 = MW cs th z (va_up (va_up a 26 (upd (a 26) (z 4) (x))) 27 (upd (a 27) (z 4) (y))) bk := by rw [ecw_3]; exact MW_arr 27 (by decide) (upd (a 27) (z 4) (y))
    refine lv_aload_n hx hb d_M_tell_30 rfl (lv_at hl 0 rfl) ?_
    refine lv_dup hx hb d_M_tell_31 rfl ?_
    refine pw_get (ci := 7) (v := .int (nI (z 4))) hx hb hw i_M hown hK hP (0) (by decide) rfl rfl 30 (by decide) (hw _ kF_M_104) rfl d_M_tell_32 ?_
    refine lv_iconst (v := 1) hx hb d_M_tell_35 (by decide) ?_
    refine lv_iadd hx hb d_M_tell_36 ?_
    rw [show (nI (z 4)) + 1 = nI ((z 4) + 1) from nI_1 _]
    refine pw_put (ci := 7) (v := .int (nI ((z 4) + 1))) (ty := .int) (fs' := [.int (th), .ref (bk (1)), .ref (bk (2)), .ref (bk (3)), .int (nI (z 0)), .ref (bk (4)), .ref (bk (5)), .ref (bk (6)), .ref (bk (7)), .ref (bk (8)), .ref (bk (9)), .ref (bk (10)), .ref (bk (11)), .ref (bk (12)), .ref (bk (13)), .ref (bk (14)), .ref (bk (15)), .ref (bk (16)), .ref (bk (17)), .ref (bk (18)), .ref (bk (19)), .ref (bk (20)), .int (nI (z 1)), .ref (bk (21)), .ref (bk (22)), .int (nI (z 2)), .int (nI (z 3)), .ref (bk (23)), .ref (bk (24)), .ref (bk (25)), .int (nI ((z 4) + 1)), .ref (bk (26)), .ref (bk (27))]) hx hb hw i_M t_M t_M_ok n_M hown hK hP hD hS (0) (by decide) rfl rfl 30 (by decide) (hw _ kF_M_104) rfl (t_M_ok 30 (by decide)) rfl rfl (Nat.le_of_ble_eq_true rfl) rfl d_M_tell_37 (fun cw_4 H locs ecw_4 hP hD hS => ?_)
    obtain rfl : cw_4 = MW cs th (va_up z 4 ((z 4) + 1)) (va_up (va_up a 26 (upd (a 26) (z 4) (x))) 27 (upd (a 27) (z 4) (y))) bk := by rw [ecw_4]; exact MW_obj th (va_up z 4 ((z 4) + 1))
    exact W.vret hx hb hr (fun t ht hW => ⟨⟨(28, bk, MW cs th (va_up z 4 ((z 4) + 1)) (va_up (va_up a 26 (upd (a 26) (z 4) (x))) 27 (upd (a 27) (z 4) (y))) bk), rfl, Mv_of (r := 0) (by rw [s_M_tell, if_neg c_1]), by rw [ht]; exact hP, va_K.moved hW.alike hK, hD⟩, hS.F ht⟩) hS.2.2 d_M_tell_40
  · have c_1 : (nI (z 4)) = 100 := c_1
    exact W.vret hx hb hr (fun t ht hW => ⟨⟨(28, bk, MW cs th z a bk), rfl, Mv_of (r := 0) (by rw [s_M_tell, if_pos c_1]), by rw [ht]; exact hP, va_K.moved hW.alike hK, hD⟩, hS.F ht⟩) hS.2.2 d_M_tell_9

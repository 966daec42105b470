set_option maxHeartbeats 4000000 in
set_option maxRecDepth 100000 in
theorem c_X_within (l : Launch) (D : va_G) (cs : Nat → ClassId) (N : Nat) (bk : Nat → Nat) (cw : Nat → va_E) (sz : Nat) (a b c : Int32) : Met l y_X_within w_X_within ({ frames := 0, cells := 0, slots := 0, locals := 0 }) (va_Pc [.int (a), .int (b), .int (c)] (PB D classes (TY cs) N bk cw sz)) (vp_Si (fun r => r = bI (b ≤ a ∧ a ≤ c))) 0 0 (fun _ => False) := by
  refine pw_entry (cc := b_X_within) (maxL := 3) (ret := (some .boolean)) (by decide +kernel) rfl (Nat.le_of_ble_eq_true rfl) ?_
  intro p_ e_ s m below_ meth_ c_ ls hx hb hr hml hts hown hlocks hin hsz hP hK hD hS hA hN hl
  have hw : ∀ w ∈ WA, w.before _ s = true := fun w h => hts w (List.mem_cons_of_mem _ h)
  have hown : s.vm.findClass "IssueRows" = some m.cls := hown
  have hl : lv_has ls 3 [(0, .int (a)), (1, .int (b)), (2, .int (c))] := hl
  refine lv_iload_n hx hb d_X_within_0 rfl (lv_at hl 0 rfl) ?_
  refine lv_iload_n hx hb d_X_within_1 rfl (lv_at hl 1 rfl) ?_
  refine lv_icmp_lt (tgt := 14) hx hb d_X_within_2 (by decide) (fun c_1 => ?_) (fun c_1 => ?_)
  · have c_1 : a < b := c_1
    refine lv_iconst (v := 0) hx hb d_X_within_14 (by decide) ?_
    exact W.zret (v := 0) (ty := .boolean) hx hb hr (by decide) (fun t ht hW => ⟨0, rfl, (bI_f (by simp only [Int32.lt_iff_toInt_lt, Int32.le_iff_toInt_le, ← Int32.toInt_inj, T0, T1, T2, T3, T4, T5, T6, T7, T8, T9, T10, T40, T50, T99, T100, T200, T999, T1000, T9999, T1000000, T10000000, T1000000000, Tm1] at c_1 ⊢; omega)).symm, ht⟩) (fun q h => by cases h) d_X_within_15
  · have c_1 : ¬ a < b := c_1
    refine lv_iload_n hx hb d_X_within_5 rfl (lv_at hl 0 rfl) ?_
    refine lv_iload_n hx hb d_X_within_6 rfl (lv_at hl 2 rfl) ?_
    refine lv_icmp_gt (tgt := 14) hx hb d_X_within_7 (by decide) (fun c_2 => ?_) (fun c_2 => ?_)
    · have c_2 : c < a := c_2
      refine lv_iconst (v := 0) hx hb d_X_within_14 (by decide) ?_
      exact W.zret (v := 0) (ty := .boolean) hx hb hr (by decide) (fun t ht hW => ⟨0, rfl, (bI_f (by simp only [Int32.lt_iff_toInt_lt, Int32.le_iff_toInt_le, ← Int32.toInt_inj, T0, T1, T2, T3, T4, T5, T6, T7, T8, T9, T10, T40, T50, T99, T100, T200, T999, T1000, T9999, T1000000, T10000000, T1000000000, Tm1] at c_1 c_2 ⊢; omega)).symm, ht⟩) (fun q h => by cases h) d_X_within_15
    · have c_2 : ¬ c < a := c_2
      refine lv_iconst (v := 1) hx hb d_X_within_10 (by decide) ?_
      refine lv_goto (tgt := 15) hx hb d_X_within_11 (by decide) ?_
      exact W.zret (v := 1) (ty := .boolean) hx hb hr (by decide) (fun t ht hW => ⟨1, rfl, (bI_t (by simp only [Int32.lt_iff_toInt_lt, Int32.le_iff_toInt_le, ← Int32.toInt_inj, T0, T1, T2, T3, T4, T5, T6, T7, T8, T9, T10, T40, T50, T99, T100, T200, T999, T1000, T9999, T1000000, T10000000, T1000000000, Tm1] at c_1 c_2 ⊢; omega)).symm, ht⟩) (fun q h => by cases h) d_X_within_15
set_option maxHeartbeats 4000000 in
set_option maxRecDepth 100000 in
theorem c_X_isPattern (l : Launch) (D : va_G) (cs : Nat → ClassId) (N : Nat) (bk : Nat → Nat) (cw : Nat → va_E) (sz : Nat) (a : Int32) : Met l y_X_isPattern w_X_isPattern ({ frames := 1, cells := 0, slots := 0, locals := 22 }) (va_Pc [.int (a)] (PB D classes (TY cs) N bk cw sz)) (vp_Si (fun r => r = bI (0 ≤ a ∧ a ≤ 9))) 0 0 (fun _ => False) := by
  refine pw_entry (cc := b_X_isPattern) (maxL := 1) (ret := (some .boolean)) (by decide +kernel) rfl (Nat.le_of_ble_eq_true rfl) ?_
  intro p_ e_ s m below_ meth_ c_ ls hx hb hr hml hts hown hlocks hin hsz hP hK hD hS hA hN hl
  have hw : ∀ w ∈ WA, w.before _ s = true := fun w h => hts w (List.mem_cons_of_mem _ h)
  have hown : s.vm.findClass "IssueRows" = some m.cls := hown
  have hl : lv_has ls 1 [(0, .int (a))] := hl
  refine lv_iload_n hx hb d_X_isPattern_0 rfl (lv_at hl 0 rfl) ?_
  refine lv_iconst (v := 0) hx hb d_X_isPattern_1 (by decide) ?_
  refine lv_bipush (v := 9) hx hb d_X_isPattern_2 (by decide) ?_
  refine pw_callSi (va_runS (As := [.int (a), .int (0), .int (9)]) (rest := []) ⟨hx, hb, hml, hown, hw⟩ (c_X_within l D cs N bk cw s.heap.size a 0 9) (cw_S 3 hw kM_X_59 kS_X_within kZ_X kC_X_within rfl rfl ⟨rfl, by decide, by decide, by decide +kernel⟩ ⟨Nat.le_of_ble_eq_true rfl, Nat.le_of_ble_eq_true rfl⟩) (pw_preS hN hK hP hD) rfl rfl hl.1 rfl (lv_room (Nat.le_of_ble_eq_true rfl)) d_X_isPattern_4 ⟨Nat.le_of_ble_eq_true rfl, Nat.le_of_ble_eq_true rfl⟩) (fun r_1 hr_1 => ?_)
  have hr_1 : r_1 = bI (0 ≤ a ∧ a ≤ 9) := hr_1
  subst hr_1
  exact W.zret (v := bI (0 ≤ a ∧ a ≤ 9)) (ty := .boolean) hx hb hr bI_nar (fun t ht hW => ⟨bI (0 ≤ a ∧ a ≤ 9), rfl, rfl, ht⟩) (fun q h => by cases h) d_X_isPattern_7
set_option maxHeartbeats 4000000 in
set_option maxRecDepth 100000 in
theorem c_X_isDay (l : Launch) (D : va_G) (cs : Nat → ClassId) (N : Nat) (bk : Nat → Nat) (cw : Nat → va_E) (sz : Nat) (a : Int32) : Met l y_X_isDay w_X_isDay ({ frames := 1, cells := 0, slots := 0, locals := 22 }) (va_Pc [.int (a)] (PB D classes (TY cs) N bk cw sz)) (vp_Si (fun r => r = bI (0 ≤ a ∧ a ≤ 1000000))) 0 0 (fun _ => False) := by
  refine pw_entry (cc := b_X_isDay) (maxL := 1) (ret := (some .boolean)) (by decide +kernel) rfl (Nat.le_of_ble_eq_true rfl) ?_
  intro p_ e_ s m below_ meth_ c_ ls hx hb hr hml hts hown hlocks hin hsz hP hK hD hS hA hN hl
  have hw : ∀ w ∈ WA, w.before _ s = true := fun w h => hts w (List.mem_cons_of_mem _ h)
  have hown : s.vm.findClass "IssueRows" = some m.cls := hown
  have hl : lv_has ls 1 [(0, .int (a))] := hl
  refine lv_iload_n hx hb d_X_isDay_0 rfl (lv_at hl 0 rfl) ?_
  refine lv_iconst (v := 0) hx hb d_X_isDay_1 (by decide) ?_
  refine lv_ldc (v := 1000000) hx hb hown (hw _ kK_X_212) d_X_isDay_2 ?_
  refine pw_callSi (va_runS (As := [.int (a), .int (0), .int (1000000)]) (rest := []) ⟨hx, hb, hml, hown, hw⟩ (c_X_within l D cs N bk cw s.heap.size a 0 1000000) (cw_S 3 hw kM_X_59 kS_X_within kZ_X kC_X_within rfl rfl ⟨rfl, by decide, by decide, by decide +kernel⟩ ⟨Nat.le_of_ble_eq_true rfl, Nat.le_of_ble_eq_true rfl⟩) (pw_preS hN hK hP hD) rfl rfl hl.1 rfl (lv_room (Nat.le_of_ble_eq_true rfl)) d_X_isDay_4 ⟨Nat.le_of_ble_eq_true rfl, Nat.le_of_ble_eq_true rfl⟩) (fun r_1 hr_1 => ?_)
  have hr_1 : r_1 = bI (0 ≤ a ∧ a ≤ 1000000) := hr_1
  subst hr_1
  exact W.zret (v := bI (0 ≤ a ∧ a ≤ 1000000)) (ty := .boolean) hx hb hr bI_nar (fun t ht hW => ⟨bI (0 ≤ a ∧ a ≤ 1000000), rfl, rfl, ht⟩) (fun q h => by cases h) d_X_isDay_7
set_option maxHeartbeats 4000000 in
set_option maxRecDepth 100000 in
theorem c_G_isFull (l : Launch) (D : va_G) (cs : Nat → ClassId) (N : Nat) (bk : Nat → Nat) (cw : Nat → va_E) (sz : Nat) (K K1 K2 : Nat) (hk : K < N) (sz1 pl si : Int32) (he : cw K = .inr (3, [.ref (bk K1), .ref (bk K2), .int sz1, .int pl, .int si])) : Met l y_G_isFull w_G_isFull ({ frames := 0, cells := 0, slots := 0, locals := 0 }) (va_Pc [.ref (bk (K))] (PB D classes (TY cs) N bk cw sz)) (vp_Si (fun r => r = bI (8 ≤ sz1))) 0 0 (fun _ => False) := by
  refine pw_entry (cc := b_G_isFull) (maxL := 1) (ret := (some .boolean)) (by decide +kernel) rfl (Nat.le_of_ble_eq_true rfl) ?_
  intro p_ e_ s m below_ meth_ c_ ls hx hb hr hml hts hown hlocks hin hsz hP hK hD hS hA hN hl
  have hw : ∀ w ∈ WA, w.before _ s = true := fun w h => hts w (List.mem_cons_of_mem _ h)
  have hown : s.vm.findClass "IssueRows$Routing" = some m.cls := hown
  have hl : lv_has ls 1 [(0, .ref (bk (K)))] := hl
  refine lv_aload_n hx hb d_G_isFull_0 rfl (lv_at hl 0 rfl) ?_
  refine pw_get (ci := 3) (v := .int (sz1)) hx hb hw i_G hown hK hP (K) hk he rfl 2 (by decide) (hw _ kF_G_18) rfl d_G_isFull_1 ?_
  refine lv_bipush (v := 8) hx hb d_G_isFull_4 (by decide) ?_
  refine lv_icmp_lt (tgt := 13) hx hb d_G_isFull_6 (by decide) (fun c_1 => ?_) (fun c_1 => ?_)
  · have c_1 : sz1 < 8 := c_1
    refine lv_iconst (v := 0) hx hb d_G_isFull_13 (by decide) ?_
    exact W.zret (v := 0) (ty := .boolean) hx hb hr (by decide) (fun t ht hW => ⟨0, rfl, (bI_f (by simp only [Int32.lt_iff_toInt_lt, Int32.le_iff_toInt_le, ← Int32.toInt_inj, T0, T1, T2, T3, T4, T5, T6, T7, T8, T9, T10, T40, T50, T99, T100, T200, T999, T1000, T9999, T1000000, T10000000, T1000000000, Tm1] at c_1 ⊢; omega)).symm, ht⟩) (fun q h => by cases h) d_G_isFull_14
  · have c_1 : ¬ sz1 < 8 := c_1
    refine lv_iconst (v := 1) hx hb d_G_isFull_9 (by decide) ?_
    refine lv_goto (tgt := 14) hx hb d_G_isFull_10 (by decide) ?_
    exact W.zret (v := 1) (ty := .boolean) hx hb hr (by decide) (fun t ht hW => ⟨1, rfl, (bI_t (by simp only [Int32.lt_iff_toInt_lt, Int32.le_iff_toInt_le, ← Int32.toInt_inj, T0, T1, T2, T3, T4, T5, T6, T7, T8, T9, T10, T40, T50, T99, T100, T200, T999, T1000, T9999, T1000000, T10000000, T1000000000, Tm1] at c_1 ⊢; omega)).symm, ht⟩) (fun q h => by cases h) d_G_isFull_14
set_option maxHeartbeats 4000000 in
set_option maxRecDepth 100000 in
theorem c_G_isStarted (l : Launch) (D : va_G) (cs : Nat → ClassId) (N : Nat) (bk : Nat → Nat) (cw : Nat → va_E) (sz : Nat) (K K1 K2 : Nat) (hk : K < N) (sz1 pl si : Int32) (he : cw K = .inr (3, [.ref (bk K1), .ref (bk K2), .int sz1, .int pl, .int si])) : Met l y_G_isStarted w_G_isStarted ({ frames := 0, cells := 0, slots := 0, locals := 0 }) (va_Pc [.ref (bk (K))] (PB D classes (TY cs) N bk cw sz)) (vp_Si (fun r => r = bI (0 ≤ pl))) 0 0 (fun _ => False) := by
  refine pw_entry (cc := b_G_isStarted) (maxL := 1) (ret := (some .boolean)) (by decide +kernel) rfl (Nat.le_of_ble_eq_true rfl) ?_
  intro p_ e_ s m below_ meth_ c_ ls hx hb hr hml hts hown hlocks hin hsz hP hK hD hS hA hN hl
  have hw : ∀ w ∈ WA, w.before _ s = true := fun w h => hts w (List.mem_cons_of_mem _ h)
  have hown : s.vm.findClass "IssueRows$Routing" = some m.cls := hown
  have hl : lv_has ls 1 [(0, .ref (bk (K)))] := hl
  refine lv_aload_n hx hb d_G_isStarted_0 rfl (lv_at hl 0 rfl) ?_
  refine pw_get (ci := 3) (v := .int (pl)) hx hb hw i_G hown hK hP (K) hk he rfl 3 (by decide) (hw _ kF_G_22) rfl d_G_isStarted_1 ?_
  refine lv_if_lt (tgt := 11) hx hb d_G_isStarted_4 (by decide) (fun c_1 => ?_) (fun c_1 => ?_)
  · have c_1 : pl < 0 := c_1
    refine lv_iconst (v := 0) hx hb d_G_isStarted_11 (by decide) ?_
    exact W.zret (v := 0) (ty := .boolean) hx hb hr (by decide) (fun t ht hW => ⟨0, rfl, (bI_f (by simp only [Int32.lt_iff_toInt_lt, Int32.le_iff_toInt_le, ← Int32.toInt_inj, T0, T1, T2, T3, T4, T5, T6, T7, T8, T9, T10, T40, T50, T99, T100, T200, T999, T1000, T9999, T1000000, T10000000, T1000000000, Tm1] at c_1 ⊢; omega)).symm, ht⟩) (fun q h => by cases h) d_G_isStarted_12
  · have c_1 : ¬ pl < 0 := c_1
    refine lv_iconst (v := 1) hx hb d_G_isStarted_7 (by decide) ?_
    refine lv_goto (tgt := 12) hx hb d_G_isStarted_8 (by decide) ?_
    exact W.zret (v := 1) (ty := .boolean) hx hb hr (by decide) (fun t ht hW => ⟨1, rfl, (bI_t (by simp only [Int32.lt_iff_toInt_lt, Int32.le_iff_toInt_le, ← Int32.toInt_inj, T0, T1, T2, T3, T4, T5, T6, T7, T8, T9, T10, T40, T50, T99, T100, T200, T999, T1000, T9999, T1000000, T10000000, T1000000000, Tm1] at c_1 ⊢; omega)).symm, ht⟩) (fun q h => by cases h) d_G_isStarted_12
set_option maxHeartbeats 4000000 in
set_option maxRecDepth 100000 in
theorem c_G_isOut (l : Launch) (D : va_G) (cs : Nat → ClassId) (N : Nat) (bk : Nat → Nat) (cw : Nat → va_E) (sz : Nat) (K K1 K2 : Nat) (hk : K < N) (sz1 pl si : Int32) (he : cw K = .inr (3, [.ref (bk K1), .ref (bk K2), .int sz1, .int pl, .int si])) : Met l y_G_isOut w_G_isOut ({ frames := 0, cells := 0, slots := 0, locals := 0 }) (va_Pc [.ref (bk (K))] (PB D classes (TY cs) N bk cw sz)) (vp_Si (fun r => r = bI (0 ≤ pl ∧ pl < sz1))) 0 0 (fun _ => False) := by
  refine pw_entry (cc := b_G_isOut) (maxL := 1) (ret := (some .boolean)) (by decide +kernel) rfl (Nat.le_of_ble_eq_true rfl) ?_
  intro p_ e_ s m below_ meth_ c_ ls hx hb hr hml hts hown hlocks hin hsz hP hK hD hS hA hN hl
  have hw : ∀ w ∈ WA, w.before _ s = true := fun w h => hts w (List.mem_cons_of_mem _ h)
  have hown : s.vm.findClass "IssueRows$Routing" = some m.cls := hown
  have hl : lv_has ls 1 [(0, .ref (bk (K)))] := hl
  refine lv_aload_n hx hb d_G_isOut_0 rfl (lv_at hl 0 rfl) ?_
  refine pw_get (ci := 3) (v := .int (pl)) hx hb hw i_G hown hK hP (K) hk he rfl 3 (by decide) (hw _ kF_G_22) rfl d_G_isOut_1 ?_
  refine lv_if_lt (tgt := 22) hx hb d_G_isOut_4 (by decide) (fun c_1 => ?_) (fun c_1 => ?_)
  · have c_1 : pl < 0 := c_1
    refine lv_iconst (v := 0) hx hb d_G_isOut_22 (by decide) ?_
    exact W.zret (v := 0) (ty := .boolean) hx hb hr (by decide) (fun t ht hW => ⟨0, rfl, (bI_f (by simp only [Int32.lt_iff_toInt_lt, Int32.le_iff_toInt_le, ← Int32.toInt_inj, T0, T1, T2, T3, T4, T5, T6, T7, T8, T9, T10, T40, T50, T99, T100, T200, T999, T1000, T9999, T1000000, T10000000, T1000000000, Tm1] at c_1 ⊢; omega)).symm, ht⟩) (fun q h => by cases h) d_G_isOut_23
  · have c_1 : ¬ pl < 0 := c_1
    refine lv_aload_n hx hb d_G_isOut_7 rfl (lv_at hl 0 rfl) ?_
    refine pw_get (ci := 3) (v := .int (pl)) hx hb hw i_G hown hK hP (K) hk he rfl 3 (by decide) (hw _ kF_G_22) rfl d_G_isOut_8 ?_
    refine lv_aload_n hx hb d_G_isOut_11 rfl (lv_at hl 0 rfl) ?_
    refine pw_get (ci := 3) (v := .int (sz1)) hx hb hw i_G hown hK hP (K) hk he rfl 2 (by decide) (hw _ kF_G_18) rfl d_G_isOut_12 ?_
    refine lv_icmp_ge (tgt := 22) hx hb d_G_isOut_15 (by decide) (fun c_2 => ?_) (fun c_2 => ?_)
    · have c_2 : sz1 ≤ pl := c_2
      refine lv_iconst (v := 0) hx hb d_G_isOut_22 (by decide) ?_
      exact W.zret (v := 0) (ty := .boolean) hx hb hr (by decide) (fun t ht hW => ⟨0, rfl, (bI_f (by simp only [Int32.lt_iff_toInt_lt, Int32.le_iff_toInt_le, ← Int32.toInt_inj, T0, T1, T2, T3, T4, T5, T6, T7, T8, T9, T10, T40, T50, T99, T100, T200, T999, T1000, T9999, T1000000, T10000000, T1000000000, Tm1] at c_1 c_2 ⊢; omega)).symm, ht⟩) (fun q h => by cases h) d_G_isOut_23
    · have c_2 : ¬ sz1 ≤ pl := c_2
      refine lv_iconst (v := 1) hx hb d_G_isOut_18 (by decide) ?_
      refine lv_goto (tgt := 23) hx hb d_G_isOut_19 (by decide) ?_
      exact W.zret (v := 1) (ty := .boolean) hx hb hr (by decide) (fun t ht hW => ⟨1, rfl, (bI_t (by simp only [Int32.lt_iff_toInt_lt, Int32.le_iff_toInt_le, ← Int32.toInt_inj, T0, T1, T2, T3, T4, T5, T6, T7, T8, T9, T10, T40, T50, T99, T100, T200, T999, T1000, T9999, T1000000, T10000000, T1000000000, Tm1] at c_1 c_2 ⊢; omega)).symm, ht⟩) (fun q h => by cases h) d_G_isOut_23
set_option maxHeartbeats 4000000 in
set_option maxRecDepth 100000 in
theorem c_G_isLate (l : Launch) (D : va_G) (cs : Nat → ClassId) (N : Nat) (bk : Nat → Nat) (cw : Nat → va_E) (sz : Nat) (K K1 K2 : Nat) (hk : K < N) (sz1 pl si : Int32) (he : cw K = .inr (3, [.ref (bk K1), .ref (bk K2), .int sz1, .int pl, .int si])) (pp dd : Nat → Int32) (hk1 : K1 < N) (he1 : cw K1 = .inl (cs 0, 8, .inl pp)) (hk2 : K2 < N) (he2 : cw K2 = .inl (cs 0, 8, .inl dd)) (h8 : sz1 ≤ 8) (day : Int32) : Met l y_G_isLate w_G_isLate ({ frames := 1, cells := 0, slots := 0, locals := 20 }) (va_Pc [.ref (bk (K)), .int (day)] (PB D classes (TY cs) N bk cw sz)) (vp_Si (fun r => r = bI ((0 ≤ pl ∧ pl < sz1) ∧ dd pl.toNatClampNeg < day - si))) 0 0 (fun _ => False) := by
  refine pw_entry (cc := b_G_isLate) (maxL := 2) (ret := (some .boolean)) (by decide +kernel) rfl (Nat.le_of_ble_eq_true rfl) ?_
  intro p_ e_ s m below_ meth_ c_ ls hx hb hr hml hts hown hlocks hin hsz hP hK hD hS hA hN hl
  have hw : ∀ w ∈ WA, w.before _ s = true := fun w h => hts w (List.mem_cons_of_mem _ h)
  have hown : s.vm.findClass "IssueRows$Routing" = some m.cls := hown
  have hl : lv_has ls 2 [(0, .ref (bk (K))), (1, .int (day))] := hl
  refine lv_aload_n hx hb d_G_isLate_0 rfl (lv_at hl 0 rfl) ?_
  refine pw_callSi (va_runV (As := []) (rest := []) ⟨hx, hb, hml, hown, hw⟩ (c_G_isOut l D cs N bk cw s.heap.size (K) (K1) (K2) hk sz1 pl si he) (cw_V 0 hw kM_G_28 kI_G_isOut kV_G_isOut kZ_G kC_G_isOut rfl rfl ⟨rfl, by decide, by decide, by decide +kernel⟩ ⟨Nat.le_of_ble_eq_true rfl, Nat.le_of_ble_eq_true rfl⟩) (pw_preV hN hK hP hD (K) hk he rfl) rfl rfl hl.1 rfl (lv_room (Nat.le_of_ble_eq_true rfl)) d_G_isLate_1 ⟨Nat.le_of_ble_eq_true rfl, Nat.le_of_ble_eq_true rfl⟩) (fun r_1 hr_1 => ?_)
  have hr_1 : r_1 = bI (0 ≤ pl ∧ pl < sz1) := hr_1
  subst hr_1
  refine pw_ifeq (tgt := 29) hx hb d_G_isLate_4 (by decide) (fun c_2 => ?_) (fun c_2 => ?_)
  · have c_2 : ¬ (0 ≤ pl ∧ pl < sz1) := c_2
    refine lv_iconst (v := 0) hx hb d_G_isLate_29 (by decide) ?_
    exact W.zret (v := 0) (ty := .boolean) hx hb hr (by decide) (fun t ht hW => ⟨0, rfl, (bI_f (fun h => c_2 h.1)).symm, ht⟩) (fun q h => by cases h) d_G_isLate_30
  · have c_2 : 0 ≤ pl ∧ pl < sz1 := c_2
    refine lv_iload_n hx hb d_G_isLate_7 rfl (lv_at hl 1 rfl) ?_
    refine lv_aload_n hx hb d_G_isLate_8 rfl (lv_at hl 0 rfl) ?_
    refine pw_get (ci := 3) (v := .int (si)) hx hb hw i_G hown hK hP (K) hk he rfl 4 (by decide) (hw _ kF_G_25) rfl d_G_isLate_9 ?_
    refine lv_isub hx hb d_G_isLate_12 ?_
    refine lv_aload_n hx hb d_G_isLate_13 rfl (lv_at hl 0 rfl) ?_
    refine pw_get (ci := 3) (v := .ref (bk (K2))) hx hb hw i_G hown hK hP (K) hk he rfl 1 (by decide) (hw _ kF_G_15) rfl d_G_isLate_14 ?_
    refine lv_aload_n hx hb d_G_isLate_17 rfl (lv_at hl 0 rfl) ?_
    refine pw_get (ci := 3) (v := .int (pl)) hx hb hw i_G hown hK hP (K) hk he rfl 3 (by decide) (hw _ kF_G_22) rfl d_G_isLate_18 ?_
    refine pw_ialdC (n := 8) (f := dd) hx hb hK hP 0 (K2) hk2 he2 rfl (vp_in_iff.mpr (by have h9 := h8; have h7 := c_2; simp only [Int32.lt_iff_toInt_lt, Int32.le_iff_toInt_le, ← Int32.toInt_inj, T0, T1, T2, T3, T4, T5, T6, T7, T8, T9, T10, T40, T50, T99, T100, T200, T999, T1000, T9999, T1000000, T10000000, T1000000000, Tm1] at h9 h7 ⊢; omega)) d_G_isLate_21 ?_
    refine lv_icmp_le (tgt := 29) hx hb d_G_isLate_22 (by decide) (fun c_3 => ?_) (fun c_3 => ?_)
    · have c_3 : (day - si) ≤ (dd (pl).toNatClampNeg) := c_3
      refine lv_iconst (v := 0) hx hb d_G_isLate_29 (by decide) ?_
      exact W.zret (v := 0) (ty := .boolean) hx hb hr (by decide) (fun t ht hW => ⟨0, rfl, (bI_f (fun h => absurd h.2 (Int32.not_lt.mpr c_3))).symm, ht⟩) (fun q h => by cases h) d_G_isLate_30
    · have c_3 : ¬ (day - si) ≤ (dd (pl).toNatClampNeg) := c_3
      refine lv_iconst (v := 1) hx hb d_G_isLate_25 (by decide) ?_
      refine lv_goto (tgt := 30) hx hb d_G_isLate_26 (by decide) ?_
      exact W.zret (v := 1) (ty := .boolean) hx hb hr (by decide) (fun t ht hW => ⟨1, rfl, (bI_t ⟨c_2, Int32.not_le.mp c_3⟩).symm, ht⟩) (fun q h => by cases h) d_G_isLate_30
set_option maxHeartbeats 4000000 in
set_option maxRecDepth 100000 in
theorem c_G_holder (l : Launch) (D : va_G) (cs : Nat → ClassId) (N : Nat) (bk : Nat → Nat) (cw : Nat → va_E) (sz : Nat) (K K1 K2 : Nat) (hk : K < N) (sz1 pl si : Int32) (he : cw K = .inr (3, [.ref (bk K1), .ref (bk K2), .int sz1, .int pl, .int si])) (pp dd : Nat → Int32) (hk1 : K1 < N) (he1 : cw K1 = .inl (cs 0, 8, .inl pp)) (hk2 : K2 < N) (he2 : cw K2 = .inl (cs 0, 8, .inl dd)) (h8 : sz1 ≤ 8) : Met l y_G_holder w_G_holder ({ frames := 1, cells := 0, slots := 0, locals := 20 }) (va_Pc [.ref (bk (K))] (PB D classes (TY cs) N bk cw sz)) (vp_Si (fun r => r = if 0 ≤ pl ∧ pl < sz1 then pp pl.toNatClampNeg else -1)) 0 0 (fun _ => False) := by
  refine pw_entry (cc := b_G_holder) (maxL := 1) (ret := (some .int)) (by decide +kernel) rfl (Nat.le_of_ble_eq_true rfl) ?_
  intro p_ e_ s m below_ meth_ c_ ls hx hb hr hml hts hown hlocks hin hsz hP hK hD hS hA hN hl
  have hw : ∀ w ∈ WA, w.before _ s = true := fun w h => hts w (List.mem_cons_of_mem _ h)
  have hown : s.vm.findClass "IssueRows$Routing" = some m.cls := hown
  have hl : lv_has ls 1 [(0, .ref (bk (K)))] := hl
  refine lv_aload_n hx hb d_G_holder_0 rfl (lv_at hl 0 rfl) ?_
  refine pw_callSi (va_runV (As := []) (rest := []) ⟨hx, hb, hml, hown, hw⟩ (c_G_isOut l D cs N bk cw s.heap.size (K) (K1) (K2) hk sz1 pl si he) (cw_V 0 hw kM_G_28 kI_G_isOut kV_G_isOut kZ_G kC_G_isOut rfl rfl ⟨rfl, by decide, by decide, by decide +kernel⟩ ⟨Nat.le_of_ble_eq_true rfl, Nat.le_of_ble_eq_true rfl⟩) (pw_preV hN hK hP hD (K) hk he rfl) rfl rfl hl.1 rfl (lv_room (Nat.le_of_ble_eq_true rfl)) d_G_holder_1 ⟨Nat.le_of_ble_eq_true rfl, Nat.le_of_ble_eq_true rfl⟩) (fun r_1 hr_1 => ?_)
  have hr_1 : r_1 = bI (0 ≤ pl ∧ pl < sz1) := hr_1
  subst hr_1
  refine pw_ifeq (tgt := 19) hx hb d_G_holder_4 (by decide) (fun c_2 => ?_) (fun c_2 => ?_)
  · have c_2 : ¬ (0 ≤ pl ∧ pl < sz1) := c_2
    refine lv_iconst (v := -1) hx hb d_G_holder_19 (by decide) ?_
    exact W.iret (v := -1) hx hb hr (fun t ht hW => ⟨-1, rfl, (if_neg c_2).symm, ht⟩) (fun q h => by cases h) d_G_holder_20
  · have c_2 : 0 ≤ pl ∧ pl < sz1 := c_2
    refine lv_aload_n hx hb d_G_holder_7 rfl (lv_at hl 0 rfl) ?_
    refine pw_get (ci := 3) (v := .ref (bk (K1))) hx hb hw i_G hown hK hP (K) hk he rfl 0 (by decide) (hw _ kF_G_9) rfl d_G_holder_8 ?_
    refine lv_aload_n hx hb d_G_holder_11 rfl (lv_at hl 0 rfl) ?_
    refine pw_get (ci := 3) (v := .int (pl)) hx hb hw i_G hown hK hP (K) hk he rfl 3 (by decide) (hw _ kF_G_22) rfl d_G_holder_12 ?_
    refine pw_ialdC (n := 8) (f := pp) hx hb hK hP 0 (K1) hk1 he1 rfl (vp_in_iff.mpr (by have h9 := h8; have h7 := c_2; simp only [Int32.lt_iff_toInt_lt, Int32.le_iff_toInt_le, ← Int32.toInt_inj, T0, T1, T2, T3, T4, T5, T6, T7, T8, T9, T10, T40, T50, T99, T100, T200, T999, T1000, T9999, T1000000, T10000000, T1000000000, Tm1] at h9 h7 ⊢; omega)) d_G_holder_15 ?_
    refine lv_goto (tgt := 20) hx hb d_G_holder_16 (by decide) ?_
    exact W.iret (v := pp (pl).toNatClampNeg) hx hb hr (fun t ht hW => ⟨pp (pl).toNatClampNeg, rfl, (if_pos c_2).symm, ht⟩) (fun q h => by cases h) d_G_holder_20
set_option maxHeartbeats 4000000 in
set_option maxRecDepth 100000 in
theorem c_G_add (l : Launch) (D : va_G) (cs : Nat → ClassId) (N : Nat) (bk : Nat → Nat) (cw : Nat → va_E) (sz : Nat) (K K1 K2 : Nat) (hk : K < N) (sz1 pl si : Int32) (he : cw K = .inr (3, [.ref (bk K1), .ref (bk K2), .int sz1, .int pl, .int si])) (pp dd : Nat → Int32) (hk1 : K1 < N) (he1 : cw K1 = .inl (cs 0, 8, .inl pp)) (hk2 : K2 < N) (he2 : cw K2 = .inl (cs 0, 8, .inl dd)) (n1 : K ≠ K1) (n2 : K ≠ K2) (n3 : K1 ≠ K2) (h0 : 0 ≤ sz1) (person loan : Int32) : Met l y_G_add w_G_add ({ frames := 1, cells := 0, slots := 0, locals := 20 }) (va_Pc [.ref (bk (K)), .int (person), .int (loan)] (PB D classes (TY cs) N bk cw sz)) (va_Qv (fun u : Wt => (8 ≤ sz1 → u = (N, bk, cw)) ∧ (¬ 8 ≤ sz1 → u = (N, bk, va_up (va_up (va_up cw K1 (.inl (cs 0, 8, .inl (upd pp sz1.toNatClampNeg person)))) K2 (.inl (cs 0, 8, .inl (upd dd sz1.toNatClampNeg loan)))) K (.inr (3, [.ref (bk K1), .ref (bk K2), .int (sz1 + 1), .int pl, .int si]))))) (Wd D classes (TY cs) (AA N bk sz)) (AA N bk sz)) 0 0 (AA N bk sz) := by
  refine pw_entry (cc := b_G_add) (maxL := 3) (ret := none) (by decide +kernel) rfl (Nat.le_of_ble_eq_true rfl) ?_
  intro p_ e_ s m below_ meth_ c_ ls hx hb hr hml hts hown hlocks hin hsz hP hK hD hS hA hN hl
  have hw : ∀ w ∈ WA, w.before _ s = true := fun w h => hts w (List.mem_cons_of_mem _ h)
  have hown : s.vm.findClass "IssueRows$Routing" = some m.cls := hown
  have hl : lv_has ls 3 [(0, .ref (bk (K))), (1, .int (person)), (2, .int (loan))] := hl
  refine lv_aload_n hx hb d_G_add_0 rfl (lv_at hl 0 rfl) ?_
  refine pw_callSi (va_runV (As := []) (rest := []) ⟨hx, hb, hml, hown, hw⟩ (c_G_isFull l D cs N bk cw s.heap.size (K) (K1) (K2) hk sz1 pl si he) (cw_V 0 hw kM_G_32 kI_G_isFull kV_G_isFull kZ_G kC_G_isFull rfl rfl ⟨rfl, by decide, by decide, by decide +kernel⟩ ⟨Nat.le_of_ble_eq_true rfl, Nat.le_of_ble_eq_true rfl⟩) (pw_preV hN hK hP hD (K) hk he rfl) rfl rfl hl.1 rfl (lv_room (Nat.le_of_ble_eq_true rfl)) d_G_add_1 ⟨Nat.le_of_ble_eq_true rfl, Nat.le_of_ble_eq_true rfl⟩) (fun r_1 hr_1 => ?_)
  have hr_1 : r_1 = bI (8 ≤ sz1) := hr_1
  subst hr_1
  refine pw_ifne (tgt := 37) hx hb d_G_add_4 (by decide) (fun c_2 => ?_) (fun c_2 => ?_)
  · have c_2 : 8 ≤ sz1 := c_2
    exact W.vret hx hb hr (fun t ht hW => ⟨⟨(N, bk, cw), rfl, ⟨fun _ => rfl, fun h => absurd c_2 h⟩, by rw [ht]; exact hP, va_K.moved hW.alike hK, hD⟩, hS.F ht⟩) hS.2.2 d_G_add_37
  · have c_2 : ¬ (8 ≤ sz1) := c_2
    refine lv_aload_n hx hb d_G_add_7 rfl (lv_at hl 0 rfl) ?_
    refine pw_get (ci := 3) (v := .ref (bk (K1))) hx hb hw i_G hown hK hP (K) hk he rfl 0 (by decide) (hw _ kF_G_9) rfl d_G_add_8 ?_
    refine lv_aload_n hx hb d_G_add_11 rfl (lv_at hl 0 rfl) ?_
    refine pw_get (ci := 3) (v := .int (sz1)) hx hb hw i_G hown hK hP (K) hk he rfl 2 (by decide) (hw _ kF_G_18) rfl d_G_add_12 ?_
    refine lv_iload_n hx hb d_G_add_15 rfl (lv_at hl 1 rfl) ?_
    refine pw_iastC (n := 8) (f := pp) hx hb hK hP hD hS 0 (K1) hk1 he1 rfl (vp_in_iff.mpr (by have h9 := h0; have h7 := c_2; simp only [Int32.lt_iff_toInt_lt, Int32.le_iff_toInt_le, ← Int32.toInt_inj, T0, T1, T2, T3, T4, T5, T6, T7, T8, T9, T10, T40, T50, T99, T100, T200, T999, T1000, T9999, T1000000, T10000000, T1000000000, Tm1] at h9 h7 ⊢; omega)) d_G_add_16 (fun cw_3 H locs ecw_3 hP hD hS => ?_)
    have h_4 : cw_3 (K) = .inr (3, [.ref (bk (K1)), .ref (bk (K2)), .int (sz1), .int (pl), .int (si)]) := by rw [ecw_3, va_up_ne _ _ (by omega)]; exact he
    have h_5 : cw_3 (K1) = .inl (cs 0, 8, .inl (upd pp (sz1).toNatClampNeg (person))) := by rw [ecw_3]; exact va_up_self _ _ _
    have h_6 : cw_3 (K2) = .inl (cs 0, 8, .inl dd) := by rw [ecw_3, va_up_ne _ _ (by omega)]; exact he2
    refine lv_aload_n hx hb d_G_add_17 rfl (lv_at hl 0 rfl) ?_
    refine pw_get (ci := 3) (v := .ref (bk (K2))) hx hb hw i_G hown hK hP (K) hk h_4 rfl 1 (by decide) (hw _ kF_G_15) rfl d_G_add_18 ?_
    refine lv_aload_n hx hb d_G_add_21 rfl (lv_at hl 0 rfl) ?_
    refine pw_get (ci := 3) (v := .int (sz1)) hx hb hw i_G hown hK hP (K) hk h_4 rfl 2 (by decide) (hw _ kF_G_18) rfl d_G_add_22 ?_
    refine lv_iload_n hx hb d_G_add_25 rfl (lv_at hl 2 rfl) ?_
    refine pw_iastC (n := 8) (f := dd) hx hb hK hP hD hS 0 (K2) hk2 h_6 rfl (vp_in_iff.mpr (by have h9 := h0; have h7 := c_2; simp only [Int32.lt_iff_toInt_lt, Int32.le_iff_toInt_le, ← Int32.toInt_inj, T0, T1, T2, T3, T4, T5, T6, T7, T8, T9, T10, T40, T50, T99, T100, T200, T999, T1000, T9999, T1000000, T10000000, T1000000000, Tm1] at h9 h7 ⊢; omega)) d_G_add_26 (fun cw_7 H locs ecw_7 hP hD hS => ?_)
    have h_8 : cw_7 (K) = .inr (3, [.ref (bk (K1)), .ref (bk (K2)), .int (sz1), .int (pl), .int (si)]) := by rw [ecw_7, va_up_ne _ _ (by omega)]; exact h_4
    have h_9 : cw_7 (K1) = .inl (cs 0, 8, .inl (upd pp (sz1).toNatClampNeg (person))) := by rw [ecw_7, va_up_ne _ _ (by omega)]; exact h_5
    have h_10 : cw_7 (K2) = .inl (cs 0, 8, .inl (upd dd (sz1).toNatClampNeg (loan))) := by rw [ecw_7]; exact va_up_self _ _ _
    refine lv_aload_n hx hb d_G_add_27 rfl (lv_at hl 0 rfl) ?_
    refine lv_dup hx hb d_G_add_28 rfl ?_
    refine pw_get (ci := 3) (v := .int (sz1)) hx hb hw i_G hown hK hP (K) hk h_8 rfl 2 (by decide) (hw _ kF_G_18) rfl d_G_add_29 ?_
    refine lv_iconst (v := 1) hx hb d_G_add_32 (by decide) ?_
    refine lv_iadd hx hb d_G_add_33 ?_
    refine pw_put (ci := 3) (v := .int (sz1 + 1)) (ty := .int) (fs' := [.ref (bk (K1)), .ref (bk (K2)), .int (sz1 + 1), .int (pl), .int (si)]) hx hb hw i_G t_G t_G_ok n_G hown hK hP hD hS (K) hk h_8 rfl 2 (by decide) (hw _ kF_G_18) rfl (t_G_ok 2 (by decide)) rfl rfl (Nat.le_of_ble_eq_true rfl) rfl d_G_add_34 (fun cw_11 H locs ecw_11 hP hD hS => ?_)
    have h_12 : cw_11 (K) = .inr (3, [.ref (bk (K1)), .ref (bk (K2)), .int (sz1 + 1), .int (pl), .int (si)]) := by rw [ecw_11]; exact va_up_self _ _ _
    have h_13 : cw_11 (K1) = .inl (cs 0, 8, .inl (upd pp (sz1).toNatClampNeg (person))) := by rw [ecw_11, va_up_ne _ _ (by omega)]; exact h_9
    have h_14 : cw_11 (K2) = .inl (cs 0, 8, .inl (upd dd (sz1).toNatClampNeg (loan))) := by rw [ecw_11, va_up_ne _ _ (by omega)]; exact h_10
    exact W.vret hx hb hr (fun t ht hW => ⟨⟨(N, bk, cw_11), rfl, ⟨fun h => absurd h c_2, fun _ => by rw [ecw_11, ecw_7, ecw_3]⟩, by rw [ht]; exact hP, va_K.moved hW.alike hK, hD⟩, hS.F ht⟩) hS.2.2 d_G_add_37
set_option maxHeartbeats 4000000 in
set_option maxRecDepth 100000 in
theorem c_G_passOn (l : Launch) (D : va_G) (cs : Nat → ClassId) (N : Nat) (bk : Nat → Nat) (cw : Nat → va_E) (sz : Nat) (K K1 K2 : Nat) (hk : K < N) (sz1 pl si : Int32) (he : cw K = .inr (3, [.ref (bk K1), .ref (bk K2), .int sz1, .int pl, .int si])) (day : Int32) : Met l y_G_passOn w_G_passOn ({ frames := 0, cells := 0, slots := 0, locals := 0 }) (va_Pc [.ref (bk (K)), .int (day)] (PB D classes (TY cs) N bk cw sz)) (va_Qv (fun u : Wt => (pl < sz1 → u = (N, bk, va_up cw K (.inr (3, [.ref (bk K1), .ref (bk K2), .int sz1, .int (pl + 1), .int day])))) ∧ (¬ pl < sz1 → u = (N, bk, cw))) (Wd D classes (TY cs) (AA N bk sz)) (AA N bk sz)) 0 0 (AA N bk sz) := by
  refine pw_entry (cc := b_G_passOn) (maxL := 2) (ret := none) (by decide +kernel) rfl (Nat.le_of_ble_eq_true rfl) ?_
  intro p_ e_ s m below_ meth_ c_ ls hx hb hr hml hts hown hlocks hin hsz hP hK hD hS hA hN hl
  have hw : ∀ w ∈ WA, w.before _ s = true := fun w h => hts w (List.mem_cons_of_mem _ h)
  have hown : s.vm.findClass "IssueRows$Routing" = some m.cls := hown
  have hl : lv_has ls 2 [(0, .ref (bk (K))), (1, .int (day))] := hl
  refine lv_aload_n hx hb d_G_passOn_0 rfl (lv_at hl 0 rfl) ?_
  refine pw_get (ci := 3) (v := .int (pl)) hx hb hw i_G hown hK hP (K) hk he rfl 3 (by decide) (hw _ kF_G_22) rfl d_G_passOn_1 ?_
  refine lv_aload_n hx hb d_G_passOn_4 rfl (lv_at hl 0 rfl) ?_
  refine pw_get (ci := 3) (v := .int (sz1)) hx hb hw i_G hown hK hP (K) hk he rfl 2 (by decide) (hw _ kF_G_18) rfl d_G_passOn_5 ?_
  refine lv_icmp_ge (tgt := 26) hx hb d_G_passOn_8 (by decide) (fun c_1 => ?_) (fun c_1 => ?_)
  · have c_1 : sz1 ≤ pl := c_1
    exact W.vret hx hb hr (fun t ht hW => ⟨⟨(N, bk, cw), rfl, ⟨fun h => absurd h (Int32.not_lt.mpr c_1), fun _ => rfl⟩, by rw [ht]; exact hP, va_K.moved hW.alike hK, hD⟩, hS.F ht⟩) hS.2.2 d_G_passOn_26
  · have c_1 : ¬ sz1 ≤ pl := c_1
    refine lv_aload_n hx hb d_G_passOn_11 rfl (lv_at hl 0 rfl) ?_
    refine lv_dup hx hb d_G_passOn_12 rfl ?_
    refine pw_get (ci := 3) (v := .int (pl)) hx hb hw i_G hown hK hP (K) hk he rfl 3 (by decide) (hw _ kF_G_22) rfl d_G_passOn_13 ?_
    refine lv_iconst (v := 1) hx hb d_G_passOn_16 (by decide) ?_
    refine lv_iadd hx hb d_G_passOn_17 ?_
    refine pw_put (ci := 3) (v := .int (pl + 1)) (ty := .int) (fs' := [.ref (bk (K1)), .ref (bk (K2)), .int (sz1), .int (pl + 1), .int (si)]) hx hb hw i_G t_G t_G_ok n_G hown hK hP hD hS (K) hk he rfl 3 (by decide) (hw _ kF_G_22) rfl (t_G_ok 3 (by decide)) rfl rfl (Nat.le_of_ble_eq_true rfl) rfl d_G_passOn_18 (fun cw_2 H locs ecw_2 hP hD hS => ?_)
    have h_3 : cw_2 (K) = .inr (3, [.ref (bk (K1)), .ref (bk (K2)), .int (sz1), .int (pl + 1), .int (si)]) := by rw [ecw_2]; exact va_up_self _ _ _
    refine lv_aload_n hx hb d_G_passOn_21 rfl (lv_at hl 0 rfl) ?_
    refine lv_iload_n hx hb d_G_passOn_22 rfl (lv_at hl 1 rfl) ?_
    refine pw_put (ci := 3) (v := .int (day)) (ty := .int) (fs' := [.ref (bk (K1)), .ref (bk (K2)), .int (sz1), .int (pl + 1), .int (day)]) hx hb hw i_G t_G t_G_ok n_G hown hK hP hD hS (K) hk h_3 rfl 4 (by decide) (hw _ kF_G_25) rfl (t_G_ok 4 (by decide)) rfl rfl (Nat.le_of_ble_eq_true rfl) rfl d_G_passOn_23 (fun cw_4 H locs ecw_4 hP hD hS => ?_)
    have h_5 : cw_4 (K) = .inr (3, [.ref (bk (K1)), .ref (bk (K2)), .int (sz1), .int (pl + 1), .int (day)]) := by rw [ecw_4]; exact va_up_self _ _ _
    exact W.vret hx hb hr (fun t ht hW => ⟨⟨(N, bk, cw_4), rfl, ⟨fun _ => by rw [ecw_4, ecw_2, bx_uu], fun h => absurd (Int32.not_le.mp c_1) h⟩, by rw [ht]; exact hP, va_K.moved hW.alike hK, hD⟩, hS.F ht⟩) hS.2.2 d_G_passOn_26
set_option maxHeartbeats 4000000 in
set_option maxRecDepth 100000 in
theorem c_I_isAwaited (l : Launch) (D : va_G) (cs : Nat → ClassId) (N : Nat) (bk : Nat → Nat) (cw : Nat → va_E) (sz : Nat) (K KR : Nat) (hk : K < N) (nu pa od ex rp sa cl cd co ca vo rb ce : Int32) (he : cw K = .inr (2, [.int nu, .int pa, .int od, .int ex, .int rp, .ref (bk KR), .int sa, .int cl, .int cd, .int co, .int ca, .int vo, .int rb, .int ce])) : Met l y_I_isAwaited w_I_isAwaited ({ frames := 0, cells := 0, slots := 0, locals := 0 }) (va_Pc [.ref (bk (K))] (PB D classes (TY cs) N bk cw sz)) (vp_Si (fun r => r = bI (sa = 0 ∨ sa = 1 ∨ sa = 2 ∨ sa = 4))) 0 0 (fun _ => False) := by
  refine pw_entry (cc := b_I_isAwaited) (maxL := 1) (ret := (some .boolean)) (by decide +kernel) rfl (Nat.le_of_ble_eq_true rfl) ?_
  intro p_ e_ s m below_ meth_ c_ ls hx hb hr hml hts hown hlocks hin hsz hP hK hD hS hA hN hl
  have hw : ∀ w ∈ WA, w.before _ s = true := fun w h => hts w (List.mem_cons_of_mem _ h)
  have hown : s.vm.findClass "IssueRows$Issue" = some m.cls := hown
  have hl : lv_has ls 1 [(0, .ref (bk (K)))] := hl
  refine lv_aload_n hx hb d_I_isAwaited_0 rfl (lv_at hl 0 rfl) ?_
  refine pw_get (ci := 2) (v := .int (sa)) hx hb hw i_I hown hK hP (K) hk he rfl 6 (by decide) (hw _ kF_I_56) rfl d_I_isAwaited_1 ?_
  refine lv_if_eq (tgt := 31) hx hb d_I_isAwaited_4 (by decide) (fun c_1 => ?_) (fun c_1 => ?_)
  · have c_1 : sa = 0 := c_1
    refine lv_iconst (v := 1) hx hb d_I_isAwaited_31 (by decide) ?_
    refine lv_goto (tgt := 36) hx hb d_I_isAwaited_32 (by decide) ?_
    exact W.zret (v := 1) (ty := .boolean) hx hb hr (by decide) (fun t ht hW => ⟨1, rfl, (bI_t (by simp only [Int32.lt_iff_toInt_lt, Int32.le_iff_toInt_le, ← Int32.toInt_inj, T0, T1, T2, T3, T4, T5, T6, T7, T8, T9, T10, T40, T50, T99, T100, T200, T999, T1000, T9999, T1000000, T10000000, T1000000000, Tm1] at c_1 ⊢; omega)).symm, ht⟩) (fun q h => by cases h) d_I_isAwaited_36
  · have c_1 : ¬ sa = 0 := c_1
    refine lv_aload_n hx hb d_I_isAwaited_7 rfl (lv_at hl 0 rfl) ?_
    refine pw_get (ci := 2) (v := .int (sa)) hx hb hw i_I hown hK hP (K) hk he rfl 6 (by decide) (hw _ kF_I_56) rfl d_I_isAwaited_8 ?_
    refine lv_iconst (v := 1) hx hb d_I_isAwaited_11 (by decide) ?_
    refine lv_icmp_eq (tgt := 31) hx hb d_I_isAwaited_12 (by decide) (fun c_2 => ?_) (fun c_2 => ?_)
    · have c_2 : sa = 1 := c_2
      refine lv_iconst (v := 1) hx hb d_I_isAwaited_31 (by decide) ?_
      refine lv_goto (tgt := 36) hx hb d_I_isAwaited_32 (by decide) ?_
      exact W.zret (v := 1) (ty := .boolean) hx hb hr (by decide) (fun t ht hW => ⟨1, rfl, (bI_t (by simp only [Int32.lt_iff_toInt_lt, Int32.le_iff_toInt_le, ← Int32.toInt_inj, T0, T1, T2, T3, T4, T5, T6, T7, T8, T9, T10, T40, T50, T99, T100, T200, T999, T1000, T9999, T1000000, T10000000, T1000000000, Tm1] at c_1 c_2 ⊢; omega)).symm, ht⟩) (fun q h => by cases h) d_I_isAwaited_36
    · have c_2 : ¬ sa = 1 := c_2
      refine lv_aload_n hx hb d_I_isAwaited_15 rfl (lv_at hl 0 rfl) ?_
      refine pw_get (ci := 2) (v := .int (sa)) hx hb hw i_I hown hK hP (K) hk he rfl 6 (by decide) (hw _ kF_I_56) rfl d_I_isAwaited_16 ?_
      refine lv_iconst (v := 2) hx hb d_I_isAwaited_19 (by decide) ?_
      refine lv_icmp_eq (tgt := 31) hx hb d_I_isAwaited_20 (by decide) (fun c_3 => ?_) (fun c_3 => ?_)
      · have c_3 : sa = 2 := c_3
        refine lv_iconst (v := 1) hx hb d_I_isAwaited_31 (by decide) ?_
        refine lv_goto (tgt := 36) hx hb d_I_isAwaited_32 (by decide) ?_
        exact W.zret (v := 1) (ty := .boolean) hx hb hr (by decide) (fun t ht hW => ⟨1, rfl, (bI_t (by simp only [Int32.lt_iff_toInt_lt, Int32.le_iff_toInt_le, ← Int32.toInt_inj, T0, T1, T2, T3, T4, T5, T6, T7, T8, T9, T10, T40, T50, T99, T100, T200, T999, T1000, T9999, T1000000, T10000000, T1000000000, Tm1] at c_1 c_2 c_3 ⊢; omega)).symm, ht⟩) (fun q h => by cases h) d_I_isAwaited_36
      · have c_3 : ¬ sa = 2 := c_3
        refine lv_aload_n hx hb d_I_isAwaited_23 rfl (lv_at hl 0 rfl) ?_
        refine pw_get (ci := 2) (v := .int (sa)) hx hb hw i_I hown hK hP (K) hk he rfl 6 (by decide) (hw _ kF_I_56) rfl d_I_isAwaited_24 ?_
        refine lv_iconst (v := 4) hx hb d_I_isAwaited_27 (by decide) ?_
        refine lv_icmp_ne (tgt := 35) hx hb d_I_isAwaited_28 (by decide) (fun c_4 => ?_) (fun c_4 => ?_)
        · have c_4 : ¬ sa = 4 := c_4
          refine lv_iconst (v := 0) hx hb d_I_isAwaited_35 (by decide) ?_
          exact W.zret (v := 0) (ty := .boolean) hx hb hr (by decide) (fun t ht hW => ⟨0, rfl, (bI_f (by simp only [Int32.lt_iff_toInt_lt, Int32.le_iff_toInt_le, ← Int32.toInt_inj, T0, T1, T2, T3, T4, T5, T6, T7, T8, T9, T10, T40, T50, T99, T100, T200, T999, T1000, T9999, T1000000, T10000000, T1000000000, Tm1] at c_1 c_2 c_3 c_4 ⊢; omega)).symm, ht⟩) (fun q h => by cases h) d_I_isAwaited_36
        · have c_4 : sa = 4 := c_4
          refine lv_iconst (v := 1) hx hb d_I_isAwaited_31 (by decide) ?_
          refine lv_goto (tgt := 36) hx hb d_I_isAwaited_32 (by decide) ?_
          exact W.zret (v := 1) (ty := .boolean) hx hb hr (by decide) (fun t ht hW => ⟨1, rfl, (bI_t (by simp only [Int32.lt_iff_toInt_lt, Int32.le_iff_toInt_le, ← Int32.toInt_inj, T0, T1, T2, T3, T4, T5, T6, T7, T8, T9, T10, T40, T50, T99, T100, T200, T999, T1000, T9999, T1000000, T10000000, T1000000000, Tm1] at c_1 c_2 c_3 c_4 ⊢; omega)).symm, ht⟩) (fun q h => by cases h) d_I_isAwaited_36
set_option maxHeartbeats 4000000 in
set_option maxRecDepth 100000 in
theorem c_I_isThere (l : Launch) (D : va_G) (cs : Nat → ClassId) (N : Nat) (bk : Nat → Nat) (cw : Nat → va_E) (sz : Nat) (K KR : Nat) (hk : K < N) (nu pa od ex rp sa cl cd co ca vo rb ce : Int32) (he : cw K = .inr (2, [.int nu, .int pa, .int od, .int ex, .int rp, .ref (bk KR), .int sa, .int cl, .int cd, .int co, .int ca, .int vo, .int rb, .int ce])) : Met l y_I_isThere w_I_isThere ({ frames := 0, cells := 0, slots := 0, locals := 0 }) (va_Pc [.ref (bk (K))] (PB D classes (TY cs) N bk cw sz)) (vp_Si (fun r => r = bI (sa = 3 ∨ sa = 5))) 0 0 (fun _ => False) := by
  refine pw_entry (cc := b_I_isThere) (maxL := 1) (ret := (some .boolean)) (by decide +kernel) rfl (Nat.le_of_ble_eq_true rfl) ?_
  intro p_ e_ s m below_ meth_ c_ ls hx hb hr hml hts hown hlocks hin hsz hP hK hD hS hA hN hl
  have hw : ∀ w ∈ WA, w.before _ s = true := fun w h => hts w (List.mem_cons_of_mem _ h)
  have hown : s.vm.findClass "IssueRows$Issue" = some m.cls := hown
  have hl : lv_has ls 1 [(0, .ref (bk (K)))] := hl
  refine lv_aload_n hx hb d_I_isThere_0 rfl (lv_at hl 0 rfl) ?_
  refine pw_get (ci := 2) (v := .int (sa)) hx hb hw i_I hown hK hP (K) hk he rfl 6 (by decide) (hw _ kF_I_56) rfl d_I_isThere_1 ?_
  refine lv_iconst (v := 3) hx hb d_I_isThere_4 (by decide) ?_
  refine lv_icmp_eq (tgt := 16) hx hb d_I_isThere_5 (by decide) (fun c_1 => ?_) (fun c_1 => ?_)
  · have c_1 : sa = 3 := c_1
    refine lv_iconst (v := 1) hx hb d_I_isThere_16 (by decide) ?_
    refine lv_goto (tgt := 21) hx hb d_I_isThere_17 (by decide) ?_
    exact W.zret (v := 1) (ty := .boolean) hx hb hr (by decide) (fun t ht hW => ⟨1, rfl, (bI_t (by simp only [Int32.lt_iff_toInt_lt, Int32.le_iff_toInt_le, ← Int32.toInt_inj, T0, T1, T2, T3, T4, T5, T6, T7, T8, T9, T10, T40, T50, T99, T100, T200, T999, T1000, T9999, T1000000, T10000000, T1000000000, Tm1] at c_1 ⊢; omega)).symm, ht⟩) (fun q h => by cases h) d_I_isThere_21
  · have c_1 : ¬ sa = 3 := c_1
    refine lv_aload_n hx hb d_I_isThere_8 rfl (lv_at hl 0 rfl) ?_
    refine pw_get (ci := 2) (v := .int (sa)) hx hb hw i_I hown hK hP (K) hk he rfl 6 (by decide) (hw _ kF_I_56) rfl d_I_isThere_9 ?_
    refine lv_iconst (v := 5) hx hb d_I_isThere_12 (by decide) ?_
    refine lv_icmp_ne (tgt := 20) hx hb d_I_isThere_13 (by decide) (fun c_2 => ?_) (fun c_2 => ?_)
    · have c_2 : ¬ sa = 5 := c_2
      refine lv_iconst (v := 0) hx hb d_I_isThere_20 (by decide) ?_
      exact W.zret (v := 0) (ty := .boolean) hx hb hr (by decide) (fun t ht hW => ⟨0, rfl, (bI_f (by simp only [Int32.lt_iff_toInt_lt, Int32.le_iff_toInt_le, ← Int32.toInt_inj, T0, T1, T2, T3, T4, T5, T6, T7, T8, T9, T10, T40, T50, T99, T100, T200, T999, T1000, T9999, T1000000, T10000000, T1000000000, Tm1] at c_1 c_2 ⊢; omega)).symm, ht⟩) (fun q h => by cases h) d_I_isThere_21
    · have c_2 : sa = 5 := c_2
      refine lv_iconst (v := 1) hx hb d_I_isThere_16 (by decide) ?_
      refine lv_goto (tgt := 21) hx hb d_I_isThere_17 (by decide) ?_
      exact W.zret (v := 1) (ty := .boolean) hx hb hr (by decide) (fun t ht hW => ⟨1, rfl, (bI_t (by simp only [Int32.lt_iff_toInt_lt, Int32.le_iff_toInt_le, ← Int32.toInt_inj, T0, T1, T2, T3, T4, T5, T6, T7, T8, T9, T10, T40, T50, T99, T100, T200, T999, T1000, T9999, T1000000, T10000000, T1000000000, Tm1] at c_1 c_2 ⊢; omega)).symm, ht⟩) (fun q h => by cases h) d_I_isThere_21
set_option maxHeartbeats 4000000 in
set_option maxRecDepth 100000 in
theorem c_I_isReplaceable (l : Launch) (D : va_G) (cs : Nat → ClassId) (N : Nat) (bk : Nat → Nat) (cw : Nat → va_E) (sz : Nat) (K KR : Nat) (hk : K < N) (nu pa od ex rp sa cl cd co ca vo rb ce : Int32) (he : cw K = .inr (2, [.int nu, .int pa, .int od, .int ex, .int rp, .ref (bk KR), .int sa, .int cl, .int cd, .int co, .int ca, .int vo, .int rb, .int ce])) (K1 K2 : Nat) (hkr : KR < N) (sz1 pl si : Int32) (her : cw KR = .inr (3, [.ref (bk K1), .ref (bk K2), .int sz1, .int pl, .int si])) : Met l y_I_isReplaceable w_I_isReplaceable ({ frames := 1, cells := 0, slots := 0, locals := 20 }) (va_Pc [.ref (bk (K))] (PB D classes (TY cs) N bk cw sz)) (vp_Si (fun r => r = bI ((sa = 3 ∨ sa = 4) ∧ ¬ (0 ≤ pl ∧ pl < sz1)))) 0 0 (fun _ => False) := by
  refine pw_entry (cc := b_I_isReplaceable) (maxL := 1) (ret := (some .boolean)) (by decide +kernel) rfl (Nat.le_of_ble_eq_true rfl) ?_
  intro p_ e_ s m below_ meth_ c_ ls hx hb hr hml hts hown hlocks hin hsz hP hK hD hS hA hN hl
  have hw : ∀ w ∈ WA, w.before _ s = true := fun w h => hts w (List.mem_cons_of_mem _ h)
  have hown : s.vm.findClass "IssueRows$Issue" = some m.cls := hown
  have hl : lv_has ls 1 [(0, .ref (bk (K)))] := hl
  refine lv_aload_n hx hb d_I_isReplaceable_0 rfl (lv_at hl 0 rfl) ?_
  refine pw_get (ci := 2) (v := .int (sa)) hx hb hw i_I hown hK hP (K) hk he rfl 6 (by decide) (hw _ kF_I_56) rfl d_I_isReplaceable_1 ?_
  refine lv_iconst (v := 3) hx hb d_I_isReplaceable_4 (by decide) ?_
  refine lv_icmp_eq (tgt := 16) hx hb d_I_isReplaceable_5 (by decide) (fun c_1 => ?_) (fun c_1 => ?_)
  · have c_1 : sa = 3 := c_1
    refine lv_aload_n hx hb d_I_isReplaceable_16 rfl (lv_at hl 0 rfl) ?_
    refine pw_get (ci := 2) (v := .ref (bk (KR))) hx hb hw i_I hown hK hP (K) hk he rfl 5 (by decide) (hw _ kF_I_12) rfl d_I_isReplaceable_17 ?_
    refine pw_callSi (va_runV (As := []) (rest := []) ⟨hx, hb, hml, hown, hw⟩ (c_G_isOut l D cs N bk cw s.heap.size (KR) (K1) (K2) hkr sz1 pl si her) (cw_V 0 hw kM_I_59 kI_G_isOut kV_G_isOut kZ_G kC_G_isOut rfl rfl ⟨rfl, by decide, by decide, by decide +kernel⟩ ⟨Nat.le_of_ble_eq_true rfl, Nat.le_of_ble_eq_true rfl⟩) (pw_preV hN hK hP hD (KR) hkr her rfl) rfl rfl hl.1 rfl (lv_room (Nat.le_of_ble_eq_true rfl)) d_I_isReplaceable_20 ⟨Nat.le_of_ble_eq_true rfl, Nat.le_of_ble_eq_true rfl⟩) (fun r_2 hr_2 => ?_)
    have hr_2 : r_2 = bI (0 ≤ pl ∧ pl < sz1) := hr_2
    subst hr_2
    refine pw_ifne (tgt := 30) hx hb d_I_isReplaceable_23 (by decide) (fun c_3 => ?_) (fun c_3 => ?_)
    · have c_3 : 0 ≤ pl ∧ pl < sz1 := c_3
      refine lv_iconst (v := 0) hx hb d_I_isReplaceable_30 (by decide) ?_
      exact W.zret (v := 0) (ty := .boolean) hx hb hr (by decide) (fun t ht hW => ⟨0, rfl, (bI_f (fun h => h.2 c_3)).symm, ht⟩) (fun q h => by cases h) d_I_isReplaceable_31
    · have c_3 : ¬ (0 ≤ pl ∧ pl < sz1) := c_3
      refine lv_iconst (v := 1) hx hb d_I_isReplaceable_26 (by decide) ?_
      refine lv_goto (tgt := 31) hx hb d_I_isReplaceable_27 (by decide) ?_
      exact W.zret (v := 1) (ty := .boolean) hx hb hr (by decide) (fun t ht hW => ⟨1, rfl, (bI_t ⟨(Or.inl c_1), c_3⟩).symm, ht⟩) (fun q h => by cases h) d_I_isReplaceable_31
  · have c_1 : ¬ sa = 3 := c_1
    refine lv_aload_n hx hb d_I_isReplaceable_8 rfl (lv_at hl 0 rfl) ?_
    refine pw_get (ci := 2) (v := .int (sa)) hx hb hw i_I hown hK hP (K) hk he rfl 6 (by decide) (hw _ kF_I_56) rfl d_I_isReplaceable_9 ?_
    refine lv_iconst (v := 4) hx hb d_I_isReplaceable_12 (by decide) ?_
    refine lv_icmp_ne (tgt := 30) hx hb d_I_isReplaceable_13 (by decide) (fun c_4 => ?_) (fun c_4 => ?_)
    · have c_4 : ¬ sa = 4 := c_4
      refine lv_iconst (v := 0) hx hb d_I_isReplaceable_30 (by decide) ?_
      exact W.zret (v := 0) (ty := .boolean) hx hb hr (by decide) (fun t ht hW => ⟨0, rfl, (bI_f (fun h => h.1.elim c_1 c_4)).symm, ht⟩) (fun q h => by cases h) d_I_isReplaceable_31
    · have c_4 : sa = 4 := c_4
      refine lv_aload_n hx hb d_I_isReplaceable_16 rfl (lv_at hl 0 rfl) ?_
      refine pw_get (ci := 2) (v := .ref (bk (KR))) hx hb hw i_I hown hK hP (K) hk he rfl 5 (by decide) (hw _ kF_I_12) rfl d_I_isReplaceable_17 ?_
      refine pw_callSi (va_runV (As := []) (rest := []) ⟨hx, hb, hml, hown, hw⟩ (c_G_isOut l D cs N bk cw s.heap.size (KR) (K1) (K2) hkr sz1 pl si her) (cw_V 0 hw kM_I_59 kI_G_isOut kV_G_isOut kZ_G kC_G_isOut rfl rfl ⟨rfl, by decide, by decide, by decide +kernel⟩ ⟨Nat.le_of_ble_eq_true rfl, Nat.le_of_ble_eq_true rfl⟩) (pw_preV hN hK hP hD (KR) hkr her rfl) rfl rfl hl.1 rfl (lv_room (Nat.le_of_ble_eq_true rfl)) d_I_isReplaceable_20 ⟨Nat.le_of_ble_eq_true rfl, Nat.le_of_ble_eq_true rfl⟩) (fun r_5 hr_5 => ?_)
      have hr_5 : r_5 = bI (0 ≤ pl ∧ pl < sz1) := hr_5
      subst hr_5
      refine pw_ifne (tgt := 30) hx hb d_I_isReplaceable_23 (by decide) (fun c_6 => ?_) (fun c_6 => ?_)
      · have c_6 : 0 ≤ pl ∧ pl < sz1 := c_6
        refine lv_iconst (v := 0) hx hb d_I_isReplaceable_30 (by decide) ?_
        exact W.zret (v := 0) (ty := .boolean) hx hb hr (by decide) (fun t ht hW => ⟨0, rfl, (bI_f (fun h => h.2 c_6)).symm, ht⟩) (fun q h => by cases h) d_I_isReplaceable_31
      · have c_6 : ¬ (0 ≤ pl ∧ pl < sz1) := c_6
        refine lv_iconst (v := 1) hx hb d_I_isReplaceable_26 (by decide) ?_
        refine lv_goto (tgt := 31) hx hb d_I_isReplaceable_27 (by decide) ?_
        exact W.zret (v := 1) (ty := .boolean) hx hb hr (by decide) (fun t ht hW => ⟨1, rfl, (bI_t ⟨(Or.inr c_4), c_6⟩).symm, ht⟩) (fun q h => by cases h) d_I_isReplaceable_31
set_option maxHeartbeats 4000000 in
set_option maxRecDepth 100000 in
theorem c_I_arrive (l : Launch) (D : va_G) (cs : Nat → ClassId) (N : Nat) (bk : Nat → Nat) (cw : Nat → va_E) (sz : Nat) (K KR : Nat) (hk : K < N) (nu pa od ex rp sa cl cd co ca vo rb ce : Int32) (he : cw K = .inr (2, [.int nu, .int pa, .int od, .int ex, .int rp, .ref (bk KR), .int sa, .int cl, .int cd, .int co, .int ca, .int vo, .int rb, .int ce])) (cp day : Int32) : Met l y_I_arrive w_I_arrive ({ frames := 0, cells := 0, slots := 0, locals := 0 }) (va_Pc [.ref (bk (K)), .int (cp), .int (day)] (PB D classes (TY cs) N bk cw sz)) (va_Qv (fun u : Wt => u = (N, bk, va_up cw K (.inr (2, [.int nu, .int pa, .int od, .int ex, .int rp, .ref (bk KR), .int (3), .int cl, .int cd, .int (cp), .int (day), .int vo, .int rb, .int ce])))) (Wd D classes (TY cs) (AA N bk sz)) (AA N bk sz)) 0 0 (AA N bk sz) := by
  refine pw_entry (cc := b_I_arrive) (maxL := 3) (ret := none) (by decide +kernel) rfl (Nat.le_of_ble_eq_true rfl) ?_
  intro p_ e_ s m below_ meth_ c_ ls hx hb hr hml hts hown hlocks hin hsz hP hK hD hS hA hN hl
  have hw : ∀ w ∈ WA, w.before _ s = true := fun w h => hts w (List.mem_cons_of_mem _ h)
  have hown : s.vm.findClass "IssueRows$Issue" = some m.cls := hown
  have hl : lv_has ls 3 [(0, .ref (bk (K))), (1, .int (cp)), (2, .int (day))] := hl
  refine lv_aload_n hx hb d_I_arrive_0 rfl (lv_at hl 0 rfl) ?_
  refine lv_iconst (v := 3) hx hb d_I_arrive_1 (by decide) ?_
  refine pw_put (ci := 2) (v := .int (3)) (ty := .int) (fs' := [.int (nu), .int (pa), .int (od), .int (ex), .int (rp), .ref (bk (KR)), .int (3), .int (cl), .int (cd), .int (co), .int (ca), .int (vo), .int (rb), .int (ce)]) hx hb hw i_I t_I t_I_ok n_I hown hK hP hD hS (K) hk he rfl 6 (by decide) (hw _ kF_I_56) rfl (t_I_ok 6 (by decide)) rfl rfl (Nat.le_of_ble_eq_true rfl) rfl d_I_arrive_2 (fun cw_1 H locs ecw_1 hP hD hS => ?_)
  have h_2 : cw_1 (K) = .inr (2, [.int (nu), .int (pa), .int (od), .int (ex), .int (rp), .ref (bk (KR)), .int (3), .int (cl), .int (cd), .int (co), .int (ca), .int (vo), .int (rb), .int (ce)]) := by rw [ecw_1]; exact va_up_self _ _ _
  refine lv_aload_n hx hb d_I_arrive_5 rfl (lv_at hl 0 rfl) ?_
  refine lv_iload_n hx hb d_I_arrive_6 rfl (lv_at hl 1 rfl) ?_
  refine pw_put (ci := 2) (v := .int (cp)) (ty := .int) (fs' := [.int (nu), .int (pa), .int (od), .int (ex), .int (rp), .ref (bk (KR)), .int (3), .int (cl), .int (cd), .int (cp), .int (ca), .int (vo), .int (rb), .int (ce)]) hx hb hw i_I t_I t_I_ok n_I hown hK hP hD hS (K) hk h_2 rfl 9 (by decide) (hw _ kF_I_25) rfl (t_I_ok 9 (by decide)) rfl rfl (Nat.le_of_ble_eq_true rfl) rfl d_I_arrive_7 (fun cw_3 H locs ecw_3 hP hD hS => ?_)
  have h_4 : cw_3 (K) = .inr (2, [.int (nu), .int (pa), .int (od), .int (ex), .int (rp), .ref (bk (KR)), .int (3), .int (cl), .int (cd), .int (cp), .int (ca), .int (vo), .int (rb), .int (ce)]) := by rw [ecw_3]; exact va_up_self _ _ _
  refine lv_aload_n hx hb d_I_arrive_10 rfl (lv_at hl 0 rfl) ?_
  refine lv_iload_n hx hb d_I_arrive_11 rfl (lv_at hl 2 rfl) ?_
  refine pw_put (ci := 2) (v := .int (day)) (ty := .int) (fs' := [.int (nu), .int (pa), .int (od), .int (ex), .int (rp), .ref (bk (KR)), .int (3), .int (cl), .int (cd), .int (cp), .int (day), .int (vo), .int (rb), .int (ce)]) hx hb hw i_I t_I t_I_ok n_I hown hK hP hD hS (K) hk h_4 rfl 10 (by decide) (hw _ kF_I_28) rfl (t_I_ok 10 (by decide)) rfl rfl (Nat.le_of_ble_eq_true rfl) rfl d_I_arrive_12 (fun cw_5 H locs ecw_5 hP hD hS => ?_)
  have h_6 : cw_5 (K) = .inr (2, [.int (nu), .int (pa), .int (od), .int (ex), .int (rp), .ref (bk (KR)), .int (3), .int (cl), .int (cd), .int (cp), .int (day), .int (vo), .int (rb), .int (ce)]) := by rw [ecw_5]; exact va_up_self _ _ _
  exact W.vret hx hb hr (fun t ht hW => ⟨⟨(N, bk, cw_5), rfl, by rw [ecw_5, ecw_3, ecw_1, bx_uu, bx_uu], by rw [ht]; exact hP, va_K.moved hW.alike hK, hD⟩, hS.F ht⟩) hS.2.2 d_I_arrive_15
set_option maxHeartbeats 4000000 in
set_option maxRecDepth 100000 in
theorem c_I_claimOn (l : Launch) (D : va_G) (cs : Nat → ClassId) (N : Nat) (bk : Nat → Nat) (cw : Nat → va_E) (sz : Nat) (K KR : Nat) (hk : K < N) (nu pa od ex rp sa cl cd co ca vo rb ce : Int32) (he : cw K = .inr (2, [.int nu, .int pa, .int od, .int ex, .int rp, .ref (bk KR), .int sa, .int cl, .int cd, .int co, .int ca, .int vo, .int rb, .int ce])) (day : Int32) : Met l y_I_claimOn w_I_claimOn ({ frames := 0, cells := 0, slots := 0, locals := 0 }) (va_Pc [.ref (bk (K)), .int (day)] (PB D classes (TY cs) N bk cw sz)) (va_Qv (fun u : Wt => u = (N, bk, va_up cw K (.inr (2, [.int nu, .int pa, .int od, .int ex, .int rp, .ref (bk KR), .int (2), .int (cl + 1), .int (day), .int co, .int ca, .int vo, .int rb, .int ce])))) (Wd D classes (TY cs) (AA N bk sz)) (AA N bk sz)) 0 0 (AA N bk sz) := by
  refine pw_entry (cc := b_I_claimOn) (maxL := 2) (ret := none) (by decide +kernel) rfl (Nat.le_of_ble_eq_true rfl) ?_
  intro p_ e_ s m below_ meth_ c_ ls hx hb hr hml hts hown hlocks hin hsz hP hK hD hS hA hN hl
  have hw : ∀ w ∈ WA, w.before _ s = true := fun w h => hts w (List.mem_cons_of_mem _ h)
  have hown : s.vm.findClass "IssueRows$Issue" = some m.cls := hown
  have hl : lv_has ls 2 [(0, .ref (bk (K))), (1, .int (day))] := hl
  refine lv_aload_n hx hb d_I_claimOn_0 rfl (lv_at hl 0 rfl) ?_
  refine lv_iconst (v := 2) hx hb d_I_claimOn_1 (by decide) ?_
  refine pw_put (ci := 2) (v := .int (2)) (ty := .int) (fs' := [.int (nu), .int (pa), .int (od), .int (ex), .int (rp), .ref (bk (KR)), .int (2), .int (cl), .int (cd), .int (co), .int (ca), .int (vo), .int (rb), .int (ce)]) hx hb hw i_I t_I t_I_ok n_I hown hK hP hD hS (K) hk he rfl 6 (by decide) (hw _ kF_I_56) rfl (t_I_ok 6 (by decide)) rfl rfl (Nat.le_of_ble_eq_true rfl) rfl d_I_claimOn_2 (fun cw_1 H locs ecw_1 hP hD hS => ?_)
  have h_2 : cw_1 (K) = .inr (2, [.int (nu), .int (pa), .int (od), .int (ex), .int (rp), .ref (bk (KR)), .int (2), .int (cl), .int (cd), .int (co), .int (ca), .int (vo), .int (rb), .int (ce)]) := by rw [ecw_1]; exact va_up_self _ _ _
  refine lv_aload_n hx hb d_I_claimOn_5 rfl (lv_at hl 0 rfl) ?_
  refine lv_dup hx hb d_I_claimOn_6 rfl ?_
  refine pw_get (ci := 2) (v := .int (cl)) hx hb hw i_I hown hK hP (K) hk h_2 rfl 7 (by decide) (hw _ kF_I_18) rfl d_I_claimOn_7 ?_
  refine lv_iconst (v := 1) hx hb d_I_claimOn_10 (by decide) ?_
  refine lv_iadd hx hb d_I_claimOn_11 ?_
  refine pw_put (ci := 2) (v := .int (cl + 1)) (ty := .int) (fs' := [.int (nu), .int (pa), .int (od), .int (ex), .int (rp), .ref (bk (KR)), .int (2), .int (cl + 1), .int (cd), .int (co), .int (ca), .int (vo), .int (rb), .int (ce)]) hx hb hw i_I t_I t_I_ok n_I hown hK hP hD hS (K) hk h_2 rfl 7 (by decide) (hw _ kF_I_18) rfl (t_I_ok 7 (by decide)) rfl rfl (Nat.le_of_ble_eq_true rfl) rfl d_I_claimOn_12 (fun cw_3 H locs ecw_3 hP hD hS => ?_)
  have h_4 : cw_3 (K) = .inr (2, [.int (nu), .int (pa), .int (od), .int (ex), .int (rp), .ref (bk (KR)), .int (2), .int (cl + 1), .int (cd), .int (co), .int (ca), .int (vo), .int (rb), .int (ce)]) := by rw [ecw_3]; exact va_up_self _ _ _
  refine lv_aload_n hx hb d_I_claimOn_15 rfl (lv_at hl 0 rfl) ?_
  refine lv_iload_n hx hb d_I_claimOn_16 rfl (lv_at hl 1 rfl) ?_
  refine pw_put (ci := 2) (v := .int (day)) (ty := .int) (fs' := [.int (nu), .int (pa), .int (od), .int (ex), .int (rp), .ref (bk (KR)), .int (2), .int (cl + 1), .int (day), .int (co), .int (ca), .int (vo), .int (rb), .int (ce)]) hx hb hw i_I t_I t_I_ok n_I hown hK hP hD hS (K) hk h_4 rfl 8 (by decide) (hw _ kF_I_22) rfl (t_I_ok 8 (by decide)) rfl rfl (Nat.le_of_ble_eq_true rfl) rfl d_I_claimOn_17 (fun cw_5 H locs ecw_5 hP hD hS => ?_)
  have h_6 : cw_5 (K) = .inr (2, [.int (nu), .int (pa), .int (od), .int (ex), .int (rp), .ref (bk (KR)), .int (2), .int (cl + 1), .int (day), .int (co), .int (ca), .int (vo), .int (rb), .int (ce)]) := by rw [ecw_5]; exact va_up_self _ _ _
  exact W.vret hx hb hr (fun t ht hW => ⟨⟨(N, bk, cw_5), rfl, by rw [ecw_5, ecw_3, ecw_1, bx_uu, bx_uu], by rw [ht]; exact hP, va_K.moved hW.alike hK, hD⟩, hS.F ht⟩) hS.2.2 d_I_claimOn_20
set_option maxHeartbeats 4000000 in
set_option maxRecDepth 100000 in
theorem c_I_daysLate (l : Launch) (D : va_G) (cs : Nat → ClassId) (N : Nat) (bk : Nat → Nat) (cw : Nat → va_E) (sz : Nat) (K KR : Nat) (hk : K < N) (nu pa od ex rp sa cl cd co ca vo rb ce : Int32) (he : cw K = .inr (2, [.int nu, .int pa, .int od, .int ex, .int rp, .ref (bk KR), .int sa, .int cl, .int cd, .int co, .int ca, .int vo, .int rb, .int ce])) : Met l y_I_daysLate w_I_daysLate ({ frames := 0, cells := 0, slots := 0, locals := 0 }) (va_Pc [.ref (bk (K))] (PB D classes (TY cs) N bk cw sz)) (vp_Si (fun r => r = if (¬ ca = -1 ∧ ¬ ex = -1 ∧ rp = 0) ∧ ex < ca then ca - ex else 0)) 0 0 (fun _ => False) := by
  refine pw_entry (cc := b_I_daysLate) (maxL := 2) (ret := (some .int)) (by decide +kernel) rfl (Nat.le_of_ble_eq_true rfl) ?_
  intro p_ e_ s m below_ meth_ c_ ls hx hb hr hml hts hown hlocks hin hsz hP hK hD hS hA hN hl
  have hw : ∀ w ∈ WA, w.before _ s = true := fun w h => hts w (List.mem_cons_of_mem _ h)
  have hown : s.vm.findClass "IssueRows$Issue" = some m.cls := hown
  have hl : lv_has ls 2 [(0, .ref (bk (K)))] := hl
  refine lv_aload_n hx hb d_I_daysLate_0 rfl (lv_at hl 0 rfl) ?_
  refine pw_get (ci := 2) (v := .int (ca)) hx hb hw i_I hown hK hP (K) hk he rfl 10 (by decide) (hw _ kF_I_28) rfl d_I_daysLate_1 ?_
  refine lv_iconst (v := -1) hx hb d_I_daysLate_4 (by decide) ?_
  refine lv_icmp_eq (tgt := 27) hx hb d_I_daysLate_5 (by decide) (fun c_1 => ?_) (fun c_1 => ?_)
  · have c_1 : ca = (-1) := c_1
    refine lv_iconst (v := 0) hx hb d_I_daysLate_27 (by decide) ?_
    refine lv_istore_n (lv' := [(1, .int (0)), (0, .ref (bk (K)))]) hx hb d_I_daysLate_28 rfl hl (by decide) rfl (fun ls hl => ?_)
    refine lv_iload_n hx hb d_I_daysLate_29 rfl (lv_at hl 0 rfl) ?_
    refine lv_if_eq (tgt := 56) hx hb d_I_daysLate_30 (by decide) (fun c_2 => ?_) (fun c_2 => ?_)
    · skip
      refine lv_iconst (v := 0) hx hb d_I_daysLate_56 (by decide) ?_
      exact W.iret (v := 0) hx hb hr (fun t ht hW => ⟨0, rfl, (by rw [if_neg (by simp only [Int32.lt_iff_toInt_lt, Int32.le_iff_toInt_le, ← Int32.toInt_inj, T0, T1, T2, T3, T4, T5, T6, T7, T8, T9, T10, T40, T50, T99, T100, T200, T999, T1000, T9999, T1000000, T10000000, T1000000000, Tm1] at c_1 ⊢; omega)]), ht⟩) (fun q h => by cases h) d_I_daysLate_57
    · exact absurd c_2 (by decide)
  · have c_1 : ¬ ca = (-1) := c_1
    refine lv_aload_n hx hb d_I_daysLate_8 rfl (lv_at hl 0 rfl) ?_
    refine pw_get (ci := 2) (v := .int (ex)) hx hb hw i_I hown hK hP (K) hk he rfl 3 (by decide) (hw _ kF_I_49) rfl d_I_daysLate_9 ?_
    refine lv_iconst (v := -1) hx hb d_I_daysLate_12 (by decide) ?_
    refine lv_icmp_eq (tgt := 27) hx hb d_I_daysLate_13 (by decide) (fun c_3 => ?_) (fun c_3 => ?_)
    · have c_3 : ex = (-1) := c_3
      refine lv_iconst (v := 0) hx hb d_I_daysLate_27 (by decide) ?_
      refine lv_istore_n (lv' := [(1, .int (0)), (0, .ref (bk (K)))]) hx hb d_I_daysLate_28 rfl hl (by decide) rfl (fun ls hl => ?_)
      refine lv_iload_n hx hb d_I_daysLate_29 rfl (lv_at hl 0 rfl) ?_
      refine lv_if_eq (tgt := 56) hx hb d_I_daysLate_30 (by decide) (fun c_4 => ?_) (fun c_4 => ?_)
      · skip
        refine lv_iconst (v := 0) hx hb d_I_daysLate_56 (by decide) ?_
        exact W.iret (v := 0) hx hb hr (fun t ht hW => ⟨0, rfl, (by rw [if_neg (by simp only [Int32.lt_iff_toInt_lt, Int32.le_iff_toInt_le, ← Int32.toInt_inj, T0, T1, T2, T3, T4, T5, T6, T7, T8, T9, T10, T40, T50, T99, T100, T200, T999, T1000, T9999, T1000000, T10000000, T1000000000, Tm1] at c_1 c_3 ⊢; omega)]), ht⟩) (fun q h => by cases h) d_I_daysLate_57
      · exact absurd c_4 (by decide)
    · have c_3 : ¬ ex = (-1) := c_3
      refine lv_aload_n hx hb d_I_daysLate_16 rfl (lv_at hl 0 rfl) ?_
      refine pw_get (ci := 2) (v := .int (rp)) hx hb hw i_I hown hK hP (K) hk he rfl 4 (by decide) (hw _ kF_I_52) rfl d_I_daysLate_17 ?_
      refine lv_if_ne (tgt := 27) hx hb d_I_daysLate_20 (by decide) (fun c_5 => ?_) (fun c_5 => ?_)
      · have c_5 : ¬ rp = 0 := c_5
        refine lv_iconst (v := 0) hx hb d_I_daysLate_27 (by decide) ?_
        refine lv_istore_n (lv' := [(1, .int (0)), (0, .ref (bk (K)))]) hx hb d_I_daysLate_28 rfl hl (by decide) rfl (fun ls hl => ?_)
        refine lv_iload_n hx hb d_I_daysLate_29 rfl (lv_at hl 0 rfl) ?_
        refine lv_if_eq (tgt := 56) hx hb d_I_daysLate_30 (by decide) (fun c_6 => ?_) (fun c_6 => ?_)
        · skip
          refine lv_iconst (v := 0) hx hb d_I_daysLate_56 (by decide) ?_
          exact W.iret (v := 0) hx hb hr (fun t ht hW => ⟨0, rfl, (by rw [if_neg (by simp only [Int32.lt_iff_toInt_lt, Int32.le_iff_toInt_le, ← Int32.toInt_inj, T0, T1, T2, T3, T4, T5, T6, T7, T8, T9, T10, T40, T50, T99, T100, T200, T999, T1000, T9999, T1000000, T10000000, T1000000000, Tm1] at c_1 c_3 c_5 ⊢; omega)]), ht⟩) (fun q h => by cases h) d_I_daysLate_57
        · exact absurd c_6 (by decide)
      · have c_5 : rp = 0 := c_5
        refine lv_iconst (v := 1) hx hb d_I_daysLate_23 (by decide) ?_
        refine lv_goto (tgt := 28) hx hb d_I_daysLate_24 (by decide) ?_
        refine lv_istore_n (lv' := [(1, .int (1)), (0, .ref (bk (K)))]) hx hb d_I_daysLate_28 rfl hl (by decide) rfl (fun ls hl => ?_)
        refine lv_iload_n hx hb d_I_daysLate_29 rfl (lv_at hl 0 rfl) ?_
        refine lv_if_eq (tgt := 56) hx hb d_I_daysLate_30 (by decide) (fun c_7 => ?_) (fun c_7 => ?_)
        · exact absurd c_7 (by decide)
        · skip
          refine lv_aload_n hx hb d_I_daysLate_33 rfl (lv_at hl 1 rfl) ?_
          refine pw_get (ci := 2) (v := .int (ca)) hx hb hw i_I hown hK hP (K) hk he rfl 10 (by decide) (hw _ kF_I_28) rfl d_I_daysLate_34 ?_
          refine lv_aload_n hx hb d_I_daysLate_37 rfl (lv_at hl 1 rfl) ?_
          refine pw_get (ci := 2) (v := .int (ex)) hx hb hw i_I hown hK hP (K) hk he rfl 3 (by decide) (hw _ kF_I_49) rfl d_I_daysLate_38 ?_
          refine lv_icmp_le (tgt := 56) hx hb d_I_daysLate_41 (by decide) (fun c_8 => ?_) (fun c_8 => ?_)
          · have c_8 : ca ≤ ex := c_8
            refine lv_iconst (v := 0) hx hb d_I_daysLate_56 (by decide) ?_
            exact W.iret (v := 0) hx hb hr (fun t ht hW => ⟨0, rfl, (by rw [if_neg (by simp only [Int32.lt_iff_toInt_lt, Int32.le_iff_toInt_le, ← Int32.toInt_inj, T0, T1, T2, T3, T4, T5, T6, T7, T8, T9, T10, T40, T50, T99, T100, T200, T999, T1000, T9999, T1000000, T10000000, T1000000000, Tm1] at c_1 c_3 c_5 c_8 ⊢; omega)]), ht⟩) (fun q h => by cases h) d_I_daysLate_57
          · have c_8 : ¬ ca ≤ ex := c_8
            refine lv_aload_n hx hb d_I_daysLate_44 rfl (lv_at hl 1 rfl) ?_
            refine pw_get (ci := 2) (v := .int (ca)) hx hb hw i_I hown hK hP (K) hk he rfl 10 (by decide) (hw _ kF_I_28) rfl d_I_daysLate_45 ?_
            refine lv_aload_n hx hb d_I_daysLate_48 rfl (lv_at hl 1 rfl) ?_
            refine pw_get (ci := 2) (v := .int (ex)) hx hb hw i_I hown hK hP (K) hk he rfl 3 (by decide) (hw _ kF_I_49) rfl d_I_daysLate_49 ?_
            refine lv_isub hx hb d_I_daysLate_52 ?_
            refine lv_goto (tgt := 57) hx hb d_I_daysLate_53 (by decide) ?_
            exact W.iret (v := ca - ex) hx hb hr (fun t ht hW => ⟨ca - ex, rfl, (by rw [if_pos (by simp only [Int32.lt_iff_toInt_lt, Int32.le_iff_toInt_le, ← Int32.toInt_inj, T0, T1, T2, T3, T4, T5, T6, T7, T8, T9, T10, T40, T50, T99, T100, T200, T999, T1000, T9999, T1000000, T10000000, T1000000000, Tm1] at c_1 c_3 c_5 c_8 ⊢; omega)]), ht⟩) (fun q h => by cases h) d_I_daysLate_57

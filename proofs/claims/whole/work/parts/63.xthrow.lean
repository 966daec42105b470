set_option maxHeartbeats 4000000 in
set_option maxRecDepth 100000 in
theorem c_X_claimed (l : Launch) (D : va_G) (cs : Nat → ClassId) (bk : Nat → Nat) (sz : Nat) (z bo : Nat → Nat) (g q pp dd : Nat → Nat → Int32) (hz1 : z 1 ≤ 200) (i what : Int32) (hpos : (0 ≤ i ∧ i < nI (z 1)) ∧ 0 ≤ what ∧ what ≤ 1) : Met l y_X_claimed w_X_claimed ({ frames := 3, cells := 0, slots := 0, locals := 66 }) (va_Pc [.ref (bk (0)), .int (i), .int (what)] (PB D classes (TY cs) (27 + 4 * z 0) bk (CW cs z bo g q pp dd bk) sz)) (vp_Si (fun r => r = if what = 0 then (q 3) i.toNatClampNeg else (q 4) i.toNatClampNeg)) 0 0 (fun _ => False) := by
  refine pw_entry (cc := b_X_claimed) (maxL := 3) (ret := (some .int)) (by decide +kernel) rfl (Nat.le_of_ble_eq_true rfl) ?_
  intro p_ e_ s m below_ meth_ c_ ls hx hb hr hml hts hown hlocks hin hsz hP hK hD hS hA hN hl
  have hw : ∀ w ∈ WA, w.before _ s = true := fun w h => hts w (List.mem_cons_of_mem _ h)
  have hown : s.vm.findClass "IssueRows" = some m.cls := hown
  have hl : lv_has ls 3 [(0, .ref (bk (0))), (1, .int (i)), (2, .int (what))] := hl
  refine lv_aload_n hx hb d_X_claimed_0 rfl (lv_at hl 0 rfl) ?_
  refine pw_get (ci := 0) (v := .ref (bk (4))) hx hb hw i_X hown hK hP (0) (by omega) rfl rfl 4 (by decide) (hw _ kF_X_33) rfl d_X_claimed_1 ?_
  refine lv_iload_n hx hb d_X_claimed_4 rfl (lv_at hl 1 rfl) ?_
  refine lv_iload_n hx hb d_X_claimed_5 rfl (lv_at hl 2 rfl) ?_
  refine pw_callSi (va_runV (As := [.int (i), .int (what)]) (rest := []) ⟨hx, hb, hml, hown, hw⟩ (c_P_has l D cs (27 + 4 * z 0) bk (CW cs z bo g q pp dd bk) s.heap.size (4) (5) (6) (by omega) (z 1) rfl 200 (by decide) (by omega) (q 3) (q 4) (by omega) rfl (by omega) rfl i what) (cw_V 2 hw kM_X_120 kI_P_has kV_P_has kZ_P kC_P_has rfl rfl ⟨rfl, by decide, by decide, by decide +kernel⟩ ⟨Nat.le_of_ble_eq_true rfl, Nat.le_of_ble_eq_true rfl⟩) (pw_preV hN hK hP hD (4) (by omega) rfl rfl) rfl rfl hl.1 rfl (lv_room (Nat.le_of_ble_eq_true rfl)) d_X_claimed_6 ⟨Nat.le_of_ble_eq_true rfl, Nat.le_of_ble_eq_true rfl⟩) (fun r_1 hr_1 => ?_)
  have hr_1 : r_1 = bI ((0 ≤ i ∧ i < nI (z 1)) ∧ 0 ≤ what ∧ what ≤ 1) := hr_1
  subst hr_1
  refine pw_ifne (tgt := 22) hx hb d_X_claimed_9 (by decide) (fun c_2 => ?_) (fun c_2 => absurd hpos c_2)
  refine lv_aload_n hx hb d_X_claimed_22 rfl (lv_at hl 0 rfl) ?_
  refine pw_get (ci := 0) (v := .ref (bk (4))) hx hb hw i_X hown hK hP (0) (by omega) rfl rfl 4 (by decide) (hw _ kF_X_33) rfl d_X_claimed_23 ?_
  refine lv_iload_n hx hb d_X_claimed_26 rfl (lv_at hl 1 rfl) ?_
  refine lv_iload_n hx hb d_X_claimed_27 rfl (lv_at hl 2 rfl) ?_
  refine pw_callSi (va_runV (As := [.int (i), .int (what)]) (rest := []) ⟨hx, hb, hml, hown, hw⟩ (c_P_partI l D cs (27 + 4 * z 0) bk (CW cs z bo g q pp dd bk) s.heap.size (4) (5) (6) (by omega) (z 1) rfl 200 (by decide) (by omega) (q 3) (q 4) (by omega) rfl (by omega) rfl i what hpos.1 hpos.2) (cw_V 2 hw kM_X_130 kI_P_part kV_P_part kZ_P kC_P_part rfl rfl ⟨rfl, by decide, by decide, by decide +kernel⟩ ⟨Nat.le_of_ble_eq_true rfl, Nat.le_of_ble_eq_true rfl⟩) (pw_preV hN hK hP hD (4) (by omega) rfl rfl) rfl rfl hl.1 rfl (lv_room (Nat.le_of_ble_eq_true rfl)) d_X_claimed_28 ⟨Nat.le_of_ble_eq_true rfl, Nat.le_of_ble_eq_true rfl⟩) (fun r_1 hr_1 => ?_)
  have hr_1 : r_1 = if what = 0 then (q 3) i.toNatClampNeg else (q 4) i.toNatClampNeg := hr_1
  subst hr_1
  exact W.iret (v := if what = 0 then (q 3) i.toNatClampNeg else (q 4) i.toNatClampNeg) hx hb hr (fun t ht hW => ⟨_, rfl, rfl, ht⟩) (fun q h => by cases h) d_X_claimed_31
set_option maxHeartbeats 4000000 in
set_option maxRecDepth 100000 in
theorem t_X_claimed (l : Launch) (D : va_G) (cs : Nat → ClassId) (bk : Nat → Nat) (sz : Nat) (z bo : Nat → Nat) (g q pp dd : Nat → Nat → Int32) (hz1 : z 1 ≤ 200) (i what : Int32) (hneg : ¬ ((0 ≤ i ∧ i < nI (z 1)) ∧ 0 ≤ what ∧ what ≤ 1)) (hlt : l.stackTraces = false) : MetT l y_X_claimed w_X_claimed ({ frames := 6, cells := 1, slots := 6, locals := 82 }) (va_Pc [.ref (bk (0)), .int (i), .int (what)] (PT D classes (TY cs) (27 + 4 * z 0) bk (CW cs z bo g q pp dd bk) sz)) := by
  refine pw_entryT (cc := b_X_claimed) (maxL := 3) (ret := (some .int)) (by decide +kernel) rfl (Nat.le_of_ble_eq_true rfl) ?_
  intro p_ e_ s m below_ meth_ c_ ls hx hb hml hts hown hlocks hno hP hK hD hS hA hN hT hl
  have hw : ∀ w ∈ WA, w.before _ s = true := fun w h => hts w (List.mem_cons_of_mem _ h)
  have hown : s.vm.findClass "IssueRows" = some m.cls := hown
  have hl : lv_has ls 3 [(0, .ref (bk (0))), (1, .int (i)), (2, .int (what))] := hl
  refine lv_aload_n hx hb d_X_claimed_0 rfl (lv_at hl 0 rfl) ?_
  refine pw_get (ci := 0) (v := .ref (bk (4))) hx hb hw i_X hown hK hP (0) (by omega) rfl rfl 4 (by decide) (hw _ kF_X_33) rfl d_X_claimed_1 ?_
  refine lv_iload_n hx hb d_X_claimed_4 rfl (lv_at hl 1 rfl) ?_
  refine lv_iload_n hx hb d_X_claimed_5 rfl (lv_at hl 2 rfl) ?_
  refine pw_callSi (va_runV (As := [.int (i), .int (what)]) (rest := []) ⟨hx, hb, hml, hown, hw⟩ (c_P_has l D cs (27 + 4 * z 0) bk (CW cs z bo g q pp dd bk) s.heap.size (4) (5) (6) (by omega) (z 1) rfl 200 (by decide) (by omega) (q 3) (q 4) (by omega) rfl (by omega) rfl i what) (cw_V 2 hw kM_X_120 kI_P_has kV_P_has kZ_P kC_P_has rfl rfl ⟨rfl, by decide, by decide, by decide +kernel⟩ ⟨Nat.le_of_ble_eq_true rfl, Nat.le_of_ble_eq_true rfl⟩) (pw_preV hN hK hP hD (4) (by omega) rfl rfl) rfl rfl hl.1 rfl (lv_room (Nat.le_of_ble_eq_true rfl)) d_X_claimed_6 ⟨Nat.le_of_ble_eq_true rfl, Nat.le_of_ble_eq_true rfl⟩) (fun r_1 hr_1 => ?_)
  have hr_1 : r_1 = bI ((0 ≤ i ∧ i < nI (z 1)) ∧ 0 ≤ what ∧ what ≤ 1) := hr_1
  subst hr_1
  refine pw_ifne (tgt := 22) hx hb d_X_claimed_9 (by decide) (fun c_2 => absurd c_2 hneg) (fun c_2 => ?_)
  exact pw_throw (tx := "no such claim") hx hb hlt hown hT hw hT.2.1 kL_X_123 kZ_A (hl.1.trans hml.symm) (hno _) hlocks d_X_claimed_12 d_X_claimed_15 d_X_claimed_16 d_X_claimed_18 d_X_claimed_21 (by decide) (by decide) (by decide) (by decide)
set_option maxHeartbeats 4000000 in
set_option maxRecDepth 100000 in
theorem c_X_row (l : Launch) (D : va_G) (cs : Nat → ClassId) (bk : Nat → Nat) (sz : Nat) (z bo : Nat → Nat) (g q pp dd : Nat → Nat → Int32) (hz4 : z 4 ≤ 200) (i what : Int32) (hpos : (0 ≤ i ∧ i < nI (z 4)) ∧ 0 ≤ what ∧ what ≤ 3) : Met l y_X_row w_X_row ({ frames := 3, cells := 0, slots := 0, locals := 66 }) (va_Pc [.ref (bk (0)), .int (i), .int (what)] (PB D classes (TY cs) (27 + 4 * z 0) bk (CW cs z bo g q pp dd bk) sz)) (vp_Si (fun r => r = if what = 0 then (q 9) i.toNatClampNeg else if what = 1 then (q 10) i.toNatClampNeg else if what = 2 then (q 11) i.toNatClampNeg else if i.toNatClampNeg + 1 < z 4 then 1 else 0)) 0 0 (fun _ => False) := by
  refine pw_entry (cc := b_X_row) (maxL := 3) (ret := (some .int)) (by decide +kernel) rfl (Nat.le_of_ble_eq_true rfl) ?_
  intro p_ e_ s m below_ meth_ c_ ls hx hb hr hml hts hown hlocks hin hsz hP hK hD hS hA hN hl
  have hw : ∀ w ∈ WA, w.before _ s = true := fun w h => hts w (List.mem_cons_of_mem _ h)
  have hown : s.vm.findClass "IssueRows" = some m.cls := hown
  have hl : lv_has ls 3 [(0, .ref (bk (0))), (1, .int (i)), (2, .int (what))] := hl
  refine lv_aload_n hx hb d_X_row_0 rfl (lv_at hl 0 rfl) ?_
  refine pw_get (ci := 0) (v := .ref (bk (13))) hx hb hw i_X hown hK hP (0) (by omega) rfl rfl 7 (by decide) (hw _ kF_X_50) rfl d_X_row_1 ?_
  refine lv_iload_n hx hb d_X_row_4 rfl (lv_at hl 1 rfl) ?_
  refine lv_iload_n hx hb d_X_row_5 rfl (lv_at hl 2 rfl) ?_
  refine pw_callSi (va_runV (As := [.int (i), .int (what)]) (rest := []) ⟨hx, hb, hml, hown, hw⟩ (c_S_has l D cs (27 + 4 * z 0) bk (CW cs z bo g q pp dd bk) s.heap.size (13) (14) (15) (16) (by omega) (z 4) rfl (by omega) (q 9) (q 10) (q 11) (by omega) rfl (by omega) rfl (by omega) rfl i what) (cw_V 2 hw kM_X_197 kI_S_has kV_S_has kZ_S kC_S_has rfl rfl ⟨rfl, by decide, by decide, by decide +kernel⟩ ⟨Nat.le_of_ble_eq_true rfl, Nat.le_of_ble_eq_true rfl⟩) (pw_preV hN hK hP hD (13) (by omega) rfl rfl) rfl rfl hl.1 rfl (lv_room (Nat.le_of_ble_eq_true rfl)) d_X_row_6 ⟨Nat.le_of_ble_eq_true rfl, Nat.le_of_ble_eq_true rfl⟩) (fun r_1 hr_1 => ?_)
  have hr_1 : r_1 = bI ((0 ≤ i ∧ i < nI (z 4)) ∧ 0 ≤ what ∧ what ≤ 3) := hr_1
  subst hr_1
  refine pw_ifne (tgt := 22) hx hb d_X_row_9 (by decide) (fun c_2 => ?_) (fun c_2 => absurd hpos c_2)
  refine lv_aload_n hx hb d_X_row_22 rfl (lv_at hl 0 rfl) ?_
  refine pw_get (ci := 0) (v := .ref (bk (13))) hx hb hw i_X hown hK hP (0) (by omega) rfl rfl 7 (by decide) (hw _ kF_X_50) rfl d_X_row_23 ?_
  refine lv_iload_n hx hb d_X_row_26 rfl (lv_at hl 1 rfl) ?_
  refine lv_iload_n hx hb d_X_row_27 rfl (lv_at hl 2 rfl) ?_
  refine pw_callSi (va_runV (As := [.int (i), .int (what)]) (rest := []) ⟨hx, hb, hml, hown, hw⟩ (c_S_partI l D cs (27 + 4 * z 0) bk (CW cs z bo g q pp dd bk) s.heap.size (13) (14) (15) (16) (by omega) (z 4) rfl (by omega) (q 9) (q 10) (q 11) (by omega) rfl (by omega) rfl (by omega) rfl i what hpos.1 hpos.2) (cw_V 2 hw kM_X_200 kI_S_part kV_S_part kZ_S kC_S_part rfl rfl ⟨rfl, by decide, by decide, by decide +kernel⟩ ⟨Nat.le_of_ble_eq_true rfl, Nat.le_of_ble_eq_true rfl⟩) (pw_preV hN hK hP hD (13) (by omega) rfl rfl) rfl rfl hl.1 rfl (lv_room (Nat.le_of_ble_eq_true rfl)) d_X_row_28 ⟨Nat.le_of_ble_eq_true rfl, Nat.le_of_ble_eq_true rfl⟩) (fun r_1 hr_1 => ?_)
  have hr_1 : r_1 = if what = 0 then (q 9) i.toNatClampNeg else if what = 1 then (q 10) i.toNatClampNeg else if what = 2 then (q 11) i.toNatClampNeg else if i.toNatClampNeg + 1 < z 4 then 1 else 0 := hr_1
  subst hr_1
  exact W.iret (v := if what = 0 then (q 9) i.toNatClampNeg else if what = 1 then (q 10) i.toNatClampNeg else if what = 2 then (q 11) i.toNatClampNeg else if i.toNatClampNeg + 1 < z 4 then 1 else 0) hx hb hr (fun t ht hW => ⟨_, rfl, rfl, ht⟩) (fun q h => by cases h) d_X_row_31
set_option maxHeartbeats 4000000 in
set_option maxRecDepth 100000 in
theorem t_X_row (l : Launch) (D : va_G) (cs : Nat → ClassId) (bk : Nat → Nat) (sz : Nat) (z bo : Nat → Nat) (g q pp dd : Nat → Nat → Int32) (hz4 : z 4 ≤ 200) (i what : Int32) (hneg : ¬ ((0 ≤ i ∧ i < nI (z 4)) ∧ 0 ≤ what ∧ what ≤ 3)) (hlt : l.stackTraces = false) : MetT l y_X_row w_X_row ({ frames := 6, cells := 1, slots := 6, locals := 82 }) (va_Pc [.ref (bk (0)), .int (i), .int (what)] (PT D classes (TY cs) (27 + 4 * z 0) bk (CW cs z bo g q pp dd bk) sz)) := by
  refine pw_entryT (cc := b_X_row) (maxL := 3) (ret := (some .int)) (by decide +kernel) rfl (Nat.le_of_ble_eq_true rfl) ?_
  intro p_ e_ s m below_ meth_ c_ ls hx hb hml hts hown hlocks hno hP hK hD hS hA hN hT hl
  have hw : ∀ w ∈ WA, w.before _ s = true := fun w h => hts w (List.mem_cons_of_mem _ h)
  have hown : s.vm.findClass "IssueRows" = some m.cls := hown
  have hl : lv_has ls 3 [(0, .ref (bk (0))), (1, .int (i)), (2, .int (what))] := hl
  refine lv_aload_n hx hb d_X_row_0 rfl (lv_at hl 0 rfl) ?_
  refine pw_get (ci := 0) (v := .ref (bk (13))) hx hb hw i_X hown hK hP (0) (by omega) rfl rfl 7 (by decide) (hw _ kF_X_50) rfl d_X_row_1 ?_
  refine lv_iload_n hx hb d_X_row_4 rfl (lv_at hl 1 rfl) ?_
  refine lv_iload_n hx hb d_X_row_5 rfl (lv_at hl 2 rfl) ?_
  refine pw_callSi (va_runV (As := [.int (i), .int (what)]) (rest := []) ⟨hx, hb, hml, hown, hw⟩ (c_S_has l D cs (27 + 4 * z 0) bk (CW cs z bo g q pp dd bk) s.heap.size (13) (14) (15) (16) (by omega) (z 4) rfl (by omega) (q 9) (q 10) (q 11) (by omega) rfl (by omega) rfl (by omega) rfl i what) (cw_V 2 hw kM_X_197 kI_S_has kV_S_has kZ_S kC_S_has rfl rfl ⟨rfl, by decide, by decide, by decide +kernel⟩ ⟨Nat.le_of_ble_eq_true rfl, Nat.le_of_ble_eq_true rfl⟩) (pw_preV hN hK hP hD (13) (by omega) rfl rfl) rfl rfl hl.1 rfl (lv_room (Nat.le_of_ble_eq_true rfl)) d_X_row_6 ⟨Nat.le_of_ble_eq_true rfl, Nat.le_of_ble_eq_true rfl⟩) (fun r_1 hr_1 => ?_)
  have hr_1 : r_1 = bI ((0 ≤ i ∧ i < nI (z 4)) ∧ 0 ≤ what ∧ what ≤ 3) := hr_1
  subst hr_1
  refine pw_ifne (tgt := 22) hx hb d_X_row_9 (by decide) (fun c_2 => absurd c_2 hneg) (fun c_2 => ?_)
  exact pw_throw (tx := "no such row") hx hb hlt hown hT hw hT.2.2.2 kL_X_123 kZ_A (hl.1.trans hml.symm) (hno _) hlocks d_X_row_12 d_X_row_15 d_X_row_16 d_X_row_18 d_X_row_21 (by decide) (by decide) (by decide) (by decide)
set_option maxHeartbeats 4000000 in
set_option maxRecDepth 100000 in
theorem c_X_volume (l : Launch) (D : va_G) (cs : Nat → ClassId) (bk : Nat → Nat) (sz : Nat) (z bo : Nat → Nat) (g q pp dd : Nat → Nat → Int32) (hz3 : z 3 ≤ 40) (j : Nat) (hj : j < z 3) (e0 ed : Nat) (hed : e0 + ed ≤ 200) (h0 : q 8 j = nI e0) (h1 : q 8 (j + 1) = nI (e0 + ed)) (k : Nat) (hk : k < ed) (hpos : 0 ≤ nI k ∧ nI k < nI ed) : Met l y_X_volume w_X_volume ({ frames := 3, cells := 0, slots := 0, locals := 66 }) (va_Pc [.ref (bk (0)), .int (nI j), .int (nI k)] (PB D classes (TY cs) (27 + 4 * z 0) bk (CW cs z bo g q pp dd bk) sz)) (vp_Si (fun r => r = (q 7) (e0 + k))) 0 0 (fun _ => False) := by
  refine pw_entry (cc := b_X_volume) (maxL := 3) (ret := (some .int)) (by decide +kernel) rfl (Nat.le_of_ble_eq_true rfl) ?_
  intro p_ e_ s m below_ meth_ c_ ls hx hb hr hml hts hown hlocks hin hsz hP hK hD hS hA hN hl
  have hw : ∀ w ∈ WA, w.before _ s = true := fun w h => hts w (List.mem_cons_of_mem _ h)
  have hown : s.vm.findClass "IssueRows" = some m.cls := hown
  have hl : lv_has ls 3 [(0, .ref (bk (0))), (1, .int (nI j)), (2, .int (nI k))] := hl
  refine lv_aload_n hx hb d_X_volume_0 rfl (lv_at hl 0 rfl) ?_
  refine pw_get (ci := 0) (v := .ref (bk (10))) hx hb hw i_X hown hK hP (0) (by omega) rfl rfl 6 (by decide) (hw _ kF_X_43) rfl d_X_volume_1 ?_
  refine lv_iload_n hx hb d_X_volume_4 rfl (lv_at hl 1 rfl) ?_
  refine lv_iload_n hx hb d_X_volume_5 rfl (lv_at hl 2 rfl) ?_
  refine pw_callSi (va_runV (As := [.int (nI j), .int (nI k)]) (rest := []) ⟨hx, hb, hml, hown, hw⟩ (c_V_has_in l D cs (27 + 4 * z 0) bk (CW cs z bo g q pp dd bk) s.heap.size (10) (11) (12) (by omega) (z 3) (by omega) rfl (q 7) (q 8) (by omega) rfl (by omega) rfl j hj e0 ed hed h0 h1 (nI k)) (cw_V 2 hw kM_X_183 kI_V_has kV_V_has kZ_V kC_V_has rfl rfl ⟨rfl, by decide, by decide, by decide +kernel⟩ ⟨Nat.le_of_ble_eq_true rfl, Nat.le_of_ble_eq_true rfl⟩) (pw_preV hN hK hP hD (10) (by omega) rfl rfl) rfl rfl hl.1 rfl (lv_room (Nat.le_of_ble_eq_true rfl)) d_X_volume_6 ⟨Nat.le_of_ble_eq_true rfl, Nat.le_of_ble_eq_true rfl⟩) (fun r_1 hr_1 => ?_)
  have hr_1 : r_1 = bI (0 ≤ nI k ∧ nI k < nI ed) := hr_1
  subst hr_1
  refine pw_ifne (tgt := 22) hx hb d_X_volume_9 (by decide) (fun c_2 => ?_) (fun c_2 => absurd hpos c_2)
  refine lv_aload_n hx hb d_X_volume_22 rfl (lv_at hl 0 rfl) ?_
  refine pw_get (ci := 0) (v := .ref (bk (10))) hx hb hw i_X hown hK hP (0) (by omega) rfl rfl 6 (by decide) (hw _ kF_X_43) rfl d_X_volume_23 ?_
  refine lv_iload_n hx hb d_X_volume_26 rfl (lv_at hl 1 rfl) ?_
  refine lv_iload_n hx hb d_X_volume_27 rfl (lv_at hl 2 rfl) ?_
  refine pw_callSi (va_runV (As := [.int (nI j), .int (nI k)]) (rest := []) ⟨hx, hb, hml, hown, hw⟩ (c_V_member l D cs (27 + 4 * z 0) bk (CW cs z bo g q pp dd bk) s.heap.size (10) (11) (12) (by omega) (z 3) (by omega) rfl (q 7) (q 8) (by omega) rfl (by omega) rfl j hj e0 ed hed h0 h1 k hk) (cw_V 2 hw kM_X_186 kI_V_member kV_V_member kZ_V kC_V_member rfl rfl ⟨rfl, by decide, by decide, by decide +kernel⟩ ⟨Nat.le_of_ble_eq_true rfl, Nat.le_of_ble_eq_true rfl⟩) (pw_preV hN hK hP hD (10) (by omega) rfl rfl) rfl rfl hl.1 rfl (lv_room (Nat.le_of_ble_eq_true rfl)) d_X_volume_28 ⟨Nat.le_of_ble_eq_true rfl, Nat.le_of_ble_eq_true rfl⟩) (fun r_1 hr_1 => ?_)
  have hr_1 : r_1 = (q 7) (e0 + k) := hr_1
  subst hr_1
  exact W.iret (v := (q 7) (e0 + k)) hx hb hr (fun t ht hW => ⟨_, rfl, rfl, ht⟩) (fun q h => by cases h) d_X_volume_31
set_option maxHeartbeats 4000000 in
set_option maxRecDepth 100000 in
theorem t_X_volume (l : Launch) (D : va_G) (cs : Nat → ClassId) (bk : Nat → Nat) (sz : Nat) (z bo : Nat → Nat) (g q pp dd : Nat → Nat → Int32) (hz3 : z 3 ≤ 40) (j : Nat) (hj : j < z 3) (e0 ed : Nat) (hed : e0 + ed ≤ 200) (h0 : q 8 j = nI e0) (h1 : q 8 (j + 1) = nI (e0 + ed)) (i : Int32) (hneg : ¬ (0 ≤ i ∧ i < nI ed)) (hlt : l.stackTraces = false) : MetT l y_X_volume w_X_volume ({ frames := 6, cells := 1, slots := 6, locals := 82 }) (va_Pc [.ref (bk (0)), .int (nI j), .int (i)] (PT D classes (TY cs) (27 + 4 * z 0) bk (CW cs z bo g q pp dd bk) sz)) := by
  refine pw_entryT (cc := b_X_volume) (maxL := 3) (ret := (some .int)) (by decide +kernel) rfl (Nat.le_of_ble_eq_true rfl) ?_
  intro p_ e_ s m below_ meth_ c_ ls hx hb hml hts hown hlocks hno hP hK hD hS hA hN hT hl
  have hw : ∀ w ∈ WA, w.before _ s = true := fun w h => hts w (List.mem_cons_of_mem _ h)
  have hown : s.vm.findClass "IssueRows" = some m.cls := hown
  have hl : lv_has ls 3 [(0, .ref (bk (0))), (1, .int (nI j)), (2, .int (i))] := hl
  refine lv_aload_n hx hb d_X_volume_0 rfl (lv_at hl 0 rfl) ?_
  refine pw_get (ci := 0) (v := .ref (bk (10))) hx hb hw i_X hown hK hP (0) (by omega) rfl rfl 6 (by decide) (hw _ kF_X_43) rfl d_X_volume_1 ?_
  refine lv_iload_n hx hb d_X_volume_4 rfl (lv_at hl 1 rfl) ?_
  refine lv_iload_n hx hb d_X_volume_5 rfl (lv_at hl 2 rfl) ?_
  refine pw_callSi (va_runV (As := [.int (nI j), .int (i)]) (rest := []) ⟨hx, hb, hml, hown, hw⟩ (c_V_has_in l D cs (27 + 4 * z 0) bk (CW cs z bo g q pp dd bk) s.heap.size (10) (11) (12) (by omega) (z 3) (by omega) rfl (q 7) (q 8) (by omega) rfl (by omega) rfl j hj e0 ed hed h0 h1 i) (cw_V 2 hw kM_X_183 kI_V_has kV_V_has kZ_V kC_V_has rfl rfl ⟨rfl, by decide, by decide, by decide +kernel⟩ ⟨Nat.le_of_ble_eq_true rfl, Nat.le_of_ble_eq_true rfl⟩) (pw_preV hN hK hP hD (10) (by omega) rfl rfl) rfl rfl hl.1 rfl (lv_room (Nat.le_of_ble_eq_true rfl)) d_X_volume_6 ⟨Nat.le_of_ble_eq_true rfl, Nat.le_of_ble_eq_true rfl⟩) (fun r_1 hr_1 => ?_)
  have hr_1 : r_1 = bI (0 ≤ i ∧ i < nI ed) := hr_1
  subst hr_1
  refine pw_ifne (tgt := 22) hx hb d_X_volume_9 (by decide) (fun c_2 => absurd c_2 hneg) (fun c_2 => ?_)
  exact pw_throw (tx := "no such issue of a volume") hx hb hlt hown hT hw hT.2.2.1 kL_X_123 kZ_A (hl.1.trans hml.symm) (hno _) hlocks d_X_volume_12 d_X_volume_15 d_X_volume_16 d_X_volume_18 d_X_volume_21 (by decide) (by decide) (by decide) (by decide)
set_option maxHeartbeats 4000000 in
set_option maxRecDepth 100000 in
theorem t_X_volume_out (l : Launch) (D : va_G) (cs : Nat → ClassId) (bk : Nat → Nat) (sz : Nat) (z bo : Nat → Nat) (g q pp dd : Nat → Nat → Int32) (hz3 : z 3 ≤ 40) (v i : Int32) (hneg : ¬ (0 ≤ v ∧ v < nI (z 3))) (hlt : l.stackTraces = false) : MetT l y_X_volume w_X_volume ({ frames := 6, cells := 1, slots := 6, locals := 82 }) (va_Pc [.ref (bk (0)), .int (v), .int (i)] (PT D classes (TY cs) (27 + 4 * z 0) bk (CW cs z bo g q pp dd bk) sz)) := by
  refine pw_entryT (cc := b_X_volume) (maxL := 3) (ret := (some .int)) (by decide +kernel) rfl (Nat.le_of_ble_eq_true rfl) ?_
  intro p_ e_ s m below_ meth_ c_ ls hx hb hml hts hown hlocks hno hP hK hD hS hA hN hT hl
  have hw : ∀ w ∈ WA, w.before _ s = true := fun w h => hts w (List.mem_cons_of_mem _ h)
  have hown : s.vm.findClass "IssueRows" = some m.cls := hown
  have hl : lv_has ls 3 [(0, .ref (bk (0))), (1, .int (v)), (2, .int (i))] := hl
  refine lv_aload_n hx hb d_X_volume_0 rfl (lv_at hl 0 rfl) ?_
  refine pw_get (ci := 0) (v := .ref (bk (10))) hx hb hw i_X hown hK hP (0) (by omega) rfl rfl 6 (by decide) (hw _ kF_X_43) rfl d_X_volume_1 ?_
  refine lv_iload_n hx hb d_X_volume_4 rfl (lv_at hl 1 rfl) ?_
  refine lv_iload_n hx hb d_X_volume_5 rfl (lv_at hl 2 rfl) ?_
  refine pw_callSi (va_runV (As := [.int (v), .int (i)]) (rest := []) ⟨hx, hb, hml, hown, hw⟩ (c_V_has_out l D cs (27 + 4 * z 0) bk (CW cs z bo g q pp dd bk) s.heap.size (10) (11) (12) (by omega) (z 3) (by omega) rfl (q 7) (q 8) (by omega) rfl (by omega) rfl v i hneg) (cw_V 2 hw kM_X_183 kI_V_has kV_V_has kZ_V kC_V_has rfl rfl ⟨rfl, by decide, by decide, by decide +kernel⟩ ⟨Nat.le_of_ble_eq_true rfl, Nat.le_of_ble_eq_true rfl⟩) (pw_preV hN hK hP hD (10) (by omega) rfl rfl) rfl rfl hl.1 rfl (lv_room (Nat.le_of_ble_eq_true rfl)) d_X_volume_6 ⟨Nat.le_of_ble_eq_true rfl, Nat.le_of_ble_eq_true rfl⟩) (fun r_1 hr_1 => ?_)
  have hr_1 : r_1 = 0 := hr_1
  subst hr_1
  refine lv_if_ne (tgt := 22) hx hb d_X_volume_9 (by decide) (fun c_2 => absurd rfl c_2) (fun c_2 => ?_)
  exact pw_throw (tx := "no such issue of a volume") hx hb hlt hown hT hw hT.2.2.1 kL_X_123 kZ_A (hl.1.trans hml.symm) (hno _) hlocks d_X_volume_12 d_X_volume_15 d_X_volume_16 d_X_volume_18 d_X_volume_21 (by decide) (by decide) (by decide) (by decide)

def s_X_returned_out (z bo : Nat → Nat) (g q pp dd : Nat → Nat → Int32) (x : Int32) (day : Int32) : XS := (-1, z, bo, g, q, pp, dd)
set_option maxHeartbeats 4000000 in
set_option maxRecDepth 100000 in
theorem c_X_returned_out (l : Launch) (D : va_G) (cs : Nat → ClassId) (bk : Nat → Nat) (sz : Nat) (z bo : Nat → Nat) (g q pp dd : Nat → Nat → Int32) (hz0 : z 0 ≤ 200) (x : Int32) (ho : ¬ (0 ≤ x ∧ x < nI (z 0))) (day : Int32) : Met l y_X_returned w_X_returned ({ frames := 2, cells := 0, slots := 0, locals := 43 }) (va_Pc [.ref (bk (0)), .int (x), .int (day)] (PB D classes (TY cs) (27 + 4 * z 0) bk (CW cs z bo g q pp dd bk) sz)) (va_Qi (Xr cs bk (s_X_returned_out z bo g q pp dd x day)) (Wd D classes (TY cs) (AA (27 + 4 * z 0) bk sz)) (AA (27 + 4 * z 0) bk sz)) 0 0 (AA (27 + 4 * z 0) bk sz) := by
  refine pw_entry (cc := b_X_returned) (maxL := 5) (ret := (some .int)) (by decide +kernel) rfl (Nat.le_of_ble_eq_true rfl) ?_
  intro p_ e_ s m below_ meth_ c_ ls hx hb hr hml hts hown hlocks hin hsz hP hK hD hS hA hN hl
  have hw : ∀ w ∈ WA, w.before _ s = true := fun w h => hts w (List.mem_cons_of_mem _ h)
  have hown : s.vm.findClass "IssueRows" = some m.cls := hown
  have hl : lv_has ls 5 [(0, .ref (bk (0))), (1, .int (x)), (2, .int (day))] := hl
  refine lv_aload_n hx hb d_X_returned_0 rfl (lv_at hl 0 rfl) ?_
  refine lv_iload_n hx hb d_X_returned_1 rfl (lv_at hl 1 rfl) ?_
  refine pw_callSq (va_runV (As := [.int (x)]) (rest := []) ⟨hx, hb, hml, hown, hw⟩ (c_X_find_out l D cs bk s.heap.size z bo g q pp dd hz0 x ho) (cw_V 1 hw kM_X_89 kI_X_find kV_X_find kZ_X kC_X_find rfl rfl ⟨rfl, by decide, by decide, by decide +kernel⟩ ⟨Nat.le_of_ble_eq_true rfl, Nat.le_of_ble_eq_true rfl⟩) (pw_preV hN hK hP hD (0) (by omega) rfl rfl) rfl rfl hl.1 rfl (lv_room (Nat.le_of_ble_eq_true rfl)) d_X_returned_2 ⟨Nat.le_of_ble_eq_true rfl, Nat.le_of_ble_eq_true rfl⟩) (fun r_1 hr_1 => ?_)
  have hr_1 : r_1 = none := hr_1
  subst hr_1
  refine W.eq (g2 := F0 m 5 ls [.null]) rfl ?_
  refine lv_astore_nN (lv' := [(3, .null), (0, .ref (bk (0))), (1, .int (x)), (2, .int (day))]) hx hb d_X_returned_5 rfl hl (by decide) rfl (fun ls hl => ?_)
  refine lv_aload_nN hx hb d_X_returned_6 rfl (lv_at hl 0 rfl) ?_
  refine lv_ifnonnullN hx hb d_X_returned_7 ?_
  refine lv_iconst (v := -1) hx hb d_X_returned_10 (by decide) ?_
  exact W.iret (v := -1) hx hb hr (fun t ht hW => ⟨⟨-1, (27 + 4 * z 0, bk, CW cs z bo g q pp dd bk), rfl, Xr_of (by rw [s_X_returned_out]) rfl, by rw [ht]; exact hP, va_K.moved hW.alike hK, hD⟩, hS.F ht⟩) hS.2.2 d_X_returned_11
def s_X_returned (z bo : Nat → Nat) (g q pp dd : Nat → Nat → Int32) (j : Nat) (day : Int32) : XS := (if 0 ≤ day ∧ day ≤ 1000000 then (if 0 ≤ ((g j) 13) ∧ ((g j) 13) < ((g j) 12) then (if ((g j) 14) ≤ day then (if (0 ≤ ((g j) 13) ∧ ((g j) 13) < ((g j) 12)) ∧ (dd j) ((g j) 13).toNatClampNeg < day - ((g j) 14) then (if 0 ≤ (((g j) 13) + 1) ∧ (((g j) 13) + 1) < ((g j) 12) then (if 0 ≤ (((g j) 13) + 1) ∧ (((g j) 13) + 1) < ((g j) 12) then (pp j) (((g j) 13) + 1).toNatClampNeg else -1, va_up z 2 (nz (z 2) 100), bo, va_up g j (upd (upd (g j) 13 (((g j) 13) + 1)) 14 day), va_up (va_up q 5 (na (z 2) 100 (q 5) 4)) 6 (na (z 2) 100 (q 6) (nI j)), pp, dd) else (1000, va_up z 2 (nz (z 2) 100), bo, va_up g j (upd (upd (g j) 13 (((g j) 13) + 1)) 14 day), va_up (va_up q 5 (na (z 2) 100 (q 5) 4)) 6 (na (z 2) 100 (q 6) (nI j)), pp, dd)) else (if 0 ≤ (((g j) 13) + 1) ∧ (((g j) 13) + 1) < ((g j) 12) then (if 0 ≤ (((g j) 13) + 1) ∧ (((g j) 13) + 1) < ((g j) 12) then (pp j) (((g j) 13) + 1).toNatClampNeg else -1, z, bo, va_up g j (upd (upd (g j) 13 (((g j) 13) + 1)) 14 day), q, pp, dd) else (1000, z, bo, va_up g j (upd (upd (g j) 13 (((g j) 13) + 1)) 14 day), q, pp, dd))) else (-2, z, bo, g, q, pp, dd)) else (-3, z, bo, g, q, pp, dd)) else (-2, z, bo, g, q, pp, dd))
set_option maxHeartbeats 4000000 in
set_option maxRecDepth 100000 in
theorem c_X_returned (l : Launch) (D : va_G) (cs : Nat → ClassId) (bk : Nat → Nat) (sz : Nat) (z bo : Nat → Nat) (g q pp dd : Nat → Nat → Int32) (hz0 : z 0 ≤ 200) (j : Nat) (hj : j < z 0) (hz2 : z 2 ≤ 100) (h8 : g j 12 ≤ 8) (day : Int32) : Met l y_X_returned w_X_returned ({ frames := 2, cells := 0, slots := 0, locals := 43 }) (va_Pc [.ref (bk (0)), .int (nI j), .int (day)] (PB D classes (TY cs) (27 + 4 * z 0) bk (CW cs z bo g q pp dd bk) sz)) (va_Qi (Xr cs bk (s_X_returned z bo g q pp dd j day)) (Wd D classes (TY cs) (AA (27 + 4 * z 0) bk sz)) (AA (27 + 4 * z 0) bk sz)) 0 0 (AA (27 + 4 * z 0) bk sz) := by
  refine pw_entry (cc := b_X_returned) (maxL := 5) (ret := (some .int)) (by decide +kernel) rfl (Nat.le_of_ble_eq_true rfl) ?_
  intro p_ e_ s m below_ meth_ c_ ls hx hb hr hml hts hown hlocks hin hsz hP hK hD hS hA hN hl
  have hw : ∀ w ∈ WA, w.before _ s = true := fun w h => hts w (List.mem_cons_of_mem _ h)
  have hown : s.vm.findClass "IssueRows" = some m.cls := hown
  have hl : lv_has ls 5 [(0, .ref (bk (0))), (1, .int (nI j)), (2, .int (day))] := hl
  refine lv_aload_n hx hb d_X_returned_0 rfl (lv_at hl 0 rfl) ?_
  refine lv_iload_n hx hb d_X_returned_1 rfl (lv_at hl 1 rfl) ?_
  refine pw_callSq (va_runV (As := [.int (nI j)]) (rest := []) ⟨hx, hb, hml, hown, hw⟩ (c_X_find l D cs bk s.heap.size z bo g q pp dd hz0 j hj) (cw_V 1 hw kM_X_89 kI_X_find kV_X_find kZ_X kC_X_find rfl rfl ⟨rfl, by decide, by decide, by decide +kernel⟩ ⟨Nat.le_of_ble_eq_true rfl, Nat.le_of_ble_eq_true rfl⟩) (pw_preV hN hK hP hD (0) (by omega) rfl rfl) rfl rfl hl.1 rfl (lv_room (Nat.le_of_ble_eq_true rfl)) d_X_returned_2 ⟨Nat.le_of_ble_eq_true rfl, Nat.le_of_ble_eq_true rfl⟩) (fun r_1 hr_1 => ?_)
  have hr_1 : r_1 = some (bk (27 + 4 * j)) := hr_1
  subst hr_1
  refine W.eq (g2 := F0 m 5 ls [.ref (bk (27 + 4 * j))]) rfl ?_
  refine lv_astore_n (lv' := [(3, .ref (bk (27 + 4 * j))), (0, .ref (bk (0))), (1, .int (nI j)), (2, .int (day))]) hx hb d_X_returned_5 rfl hl (by decide) rfl (fun ls hl => ?_)
  refine lv_aload_n hx hb d_X_returned_6 rfl (lv_at hl 0 rfl) ?_
  refine lv_ifnonnull (tgt := 12) hx hb d_X_returned_7 (by decide) ?_
  refine lv_aload_n hx hb d_X_returned_12 rfl (lv_at hl 0 rfl) ?_
  refine pw_get (ci := 2) (v := .ref (bk (28 + 4 * j))) hx hb hw i_I hown hK hP (27 + 4 * j) (by omega) (CW_iss j) rfl 5 (by decide) (hw _ kF_X_134) rfl d_X_returned_13 ?_
  refine lv_astore (lv' := [(4, .ref (bk (28 + 4 * j))), (3, .ref (bk (27 + 4 * j))), (0, .ref (bk (0))), (1, .int (nI j)), (2, .int (day))]) hx hb d_X_returned_16 hl (by decide) rfl (fun ls hl => ?_)
  refine lv_iload_n hx hb d_X_returned_18 rfl (lv_at hl 4 rfl) ?_
  refine pw_callSi (va_runS (As := [.int (day)]) (rest := []) ⟨hx, hb, hml, hown, hw⟩ (c_X_isDay l D cs (27 + 4 * z 0) bk (CW cs z bo g q pp dd bk) s.heap.size day) (cw_S 1 hw kM_X_72 kS_X_isDay kZ_X kC_X_isDay rfl rfl ⟨rfl, by decide, by decide, by decide +kernel⟩ ⟨Nat.le_of_ble_eq_true rfl, Nat.le_of_ble_eq_true rfl⟩) (pw_preS hN hK hP hD) rfl rfl hl.1 rfl (lv_room (Nat.le_of_ble_eq_true rfl)) d_X_returned_19 ⟨Nat.le_of_ble_eq_true rfl, Nat.le_of_ble_eq_true rfl⟩) (fun r_2 hr_2 => ?_)
  have hr_2 : r_2 = bI (0 ≤ day ∧ day ≤ 1000000) := hr_2
  subst hr_2
  refine pw_ifeq (tgt := 42) hx hb d_X_returned_22 (by decide) (fun c_3 => ?_) (fun c_3 => ?_)
  · have c_3 : ¬ (0 ≤ day ∧ day ≤ 1000000) := c_3
    refine lv_bipush (v := -2) hx hb d_X_returned_42 (by decide) ?_
    exact W.iret (v := -2) hx hb hr (fun t ht hW => ⟨⟨-2, (27 + 4 * z 0, bk, CW cs z bo g q pp dd bk), rfl, Xr_of (by rw [s_X_returned, if_neg c_3]) rfl, by rw [ht]; exact hP, va_K.moved hW.alike hK, hD⟩, hS.F ht⟩) hS.2.2 d_X_returned_44
  · have c_3 : 0 ≤ day ∧ day ≤ 1000000 := c_3
    refine lv_aload hx hb d_X_returned_25 (lv_at hl 0 rfl) ?_
    refine pw_callSi (va_runV (As := []) (rest := []) ⟨hx, hb, hml, hown, hw⟩ (c_G_isOut l D cs (27 + 4 * z 0) bk (CW cs z bo g q pp dd bk) s.heap.size (28 + 4 * j) (29 + 4 * j) (30 + 4 * j) (by omega) ((g j) 12) ((g j) 13) ((g j) 14) (CW_rou j)) (cw_V 0 hw kM_X_155 kI_G_isOut kV_G_isOut kZ_G kC_G_isOut rfl rfl ⟨rfl, by decide, by decide, by decide +kernel⟩ ⟨Nat.le_of_ble_eq_true rfl, Nat.le_of_ble_eq_true rfl⟩) (pw_preV hN hK hP hD (28 + 4 * j) (by omega) (CW_rou j) rfl) rfl rfl hl.1 rfl (lv_room (Nat.le_of_ble_eq_true rfl)) d_X_returned_27 ⟨Nat.le_of_ble_eq_true rfl, Nat.le_of_ble_eq_true rfl⟩) (fun r_4 hr_4 => ?_)
    have hr_4 : r_4 = bI (0 ≤ ((g j) 13) ∧ ((g j) 13) < ((g j) 12)) := hr_4
    subst hr_4
    refine pw_ifeq (tgt := 45) hx hb d_X_returned_30 (by decide) (fun c_5 => ?_) (fun c_5 => ?_)
    · have c_5 : ¬ (0 ≤ ((g j) 13) ∧ ((g j) 13) < ((g j) 12)) := c_5
      refine lv_aload hx hb d_X_returned_45 (lv_at hl 0 rfl) ?_
      refine pw_callSi (va_runV (As := []) (rest := []) ⟨hx, hb, hml, hown, hw⟩ (c_G_isOut l D cs (27 + 4 * z 0) bk (CW cs z bo g q pp dd bk) s.heap.size (28 + 4 * j) (29 + 4 * j) (30 + 4 * j) (by omega) ((g j) 12) ((g j) 13) ((g j) 14) (CW_rou j)) (cw_V 0 hw kM_X_155 kI_G_isOut kV_G_isOut kZ_G kC_G_isOut rfl rfl ⟨rfl, by decide, by decide, by decide +kernel⟩ ⟨Nat.le_of_ble_eq_true rfl, Nat.le_of_ble_eq_true rfl⟩) (pw_preV hN hK hP hD (28 + 4 * j) (by omega) (CW_rou j) rfl) rfl rfl hl.1 rfl (lv_room (Nat.le_of_ble_eq_true rfl)) d_X_returned_47 ⟨Nat.le_of_ble_eq_true rfl, Nat.le_of_ble_eq_true rfl⟩) (fun r_6 hr_6 => ?_)
      have hr_6 : r_6 = bI (0 ≤ ((g j) 13) ∧ ((g j) 13) < ((g j) 12)) := hr_6
      subst hr_6
      refine pw_ifne (tgt := 56) hx hb d_X_returned_50 (by decide) (fun c_7 => ?_) (fun c_7 => ?_)
      · have c_7 : 0 ≤ ((g j) 13) ∧ ((g j) 13) < ((g j) 12) := c_7
        exact absurd c_7 c_5
      · have c_7 : ¬ (0 ≤ ((g j) 13) ∧ ((g j) 13) < ((g j) 12)) := c_7
        refine lv_bipush (v := -3) hx hb d_X_returned_53 (by decide) ?_
        exact W.iret (v := -3) hx hb hr (fun t ht hW => ⟨⟨-3, (27 + 4 * z 0, bk, CW cs z bo g q pp dd bk), rfl, Xr_of (by rw [s_X_returned, if_pos c_3, if_neg c_5]) rfl, by rw [ht]; exact hP, va_K.moved hW.alike hK, hD⟩, hS.F ht⟩) hS.2.2 d_X_returned_55
    · have c_5 : 0 ≤ ((g j) 13) ∧ ((g j) 13) < ((g j) 12) := c_5
      refine lv_iload_n hx hb d_X_returned_33 rfl (lv_at hl 4 rfl) ?_
      refine lv_aload hx hb d_X_returned_34 (lv_at hl 0 rfl) ?_
      refine pw_get (ci := 3) (v := .int ((g j) 14)) hx hb hw i_G hown hK hP (28 + 4 * j) (by omega) (CW_rou j) rfl 4 (by decide) (hw _ kF_X_158) rfl d_X_returned_36 ?_
      refine lv_icmp_ge (tgt := 45) hx hb d_X_returned_39 (by decide) (fun c_8 => ?_) (fun c_8 => ?_)
      · have c_8 : ((g j) 14) ≤ day := c_8
        refine lv_aload hx hb d_X_returned_45 (lv_at hl 0 rfl) ?_
        refine pw_callSi (va_runV (As := []) (rest := []) ⟨hx, hb, hml, hown, hw⟩ (c_G_isOut l D cs (27 + 4 * z 0) bk (CW cs z bo g q pp dd bk) s.heap.size (28 + 4 * j) (29 + 4 * j) (30 + 4 * j) (by omega) ((g j) 12) ((g j) 13) ((g j) 14) (CW_rou j)) (cw_V 0 hw kM_X_155 kI_G_isOut kV_G_isOut kZ_G kC_G_isOut rfl rfl ⟨rfl, by decide, by decide, by decide +kernel⟩ ⟨Nat.le_of_ble_eq_true rfl, Nat.le_of_ble_eq_true rfl⟩) (pw_preV hN hK hP hD (28 + 4 * j) (by omega) (CW_rou j) rfl) rfl rfl hl.1 rfl (lv_room (Nat.le_of_ble_eq_true rfl)) d_X_returned_47 ⟨Nat.le_of_ble_eq_true rfl, Nat.le_of_ble_eq_true rfl⟩) (fun r_9 hr_9 => ?_)
        have hr_9 : r_9 = bI (0 ≤ ((g j) 13) ∧ ((g j) 13) < ((g j) 12)) := hr_9
        subst hr_9
        refine pw_ifne (tgt := 56) hx hb d_X_returned_50 (by decide) (fun c_10 => ?_) (fun c_10 => ?_)
        · have c_10 : 0 ≤ ((g j) 13) ∧ ((g j) 13) < ((g j) 12) := c_10
          refine lv_aload hx hb d_X_returned_56 (lv_at hl 0 rfl) ?_
          refine lv_iload_n hx hb d_X_returned_58 rfl (lv_at hl 4 rfl) ?_
          refine pw_callSi (va_runV (As := [.int (day)]) (rest := []) ⟨hx, hb, hml, hown, hw⟩ (c_G_isLate l D cs (27 + 4 * z 0) bk (CW cs z bo g q pp dd bk) s.heap.size (28 + 4 * j) (29 + 4 * j) (30 + 4 * j) (by omega) ((g j) 12) ((g j) 13) ((g j) 14) (CW_rou j) (pp j) (dd j) (by omega) (CW_per j) (by omega) (CW_day j) h8 day) (cw_V 1 hw kM_X_161 kI_G_isLate kV_G_isLate kZ_G kC_G_isLate rfl rfl ⟨rfl, by decide, by decide, by decide +kernel⟩ ⟨Nat.le_of_ble_eq_true rfl, Nat.le_of_ble_eq_true rfl⟩) (pw_preV hN hK hP hD (28 + 4 * j) (by omega) (CW_rou j) rfl) rfl rfl hl.1 rfl (lv_room (Nat.le_of_ble_eq_true rfl)) d_X_returned_59 ⟨Nat.le_of_ble_eq_true rfl, Nat.le_of_ble_eq_true rfl⟩) (fun r_11 hr_11 => ?_)
          have hr_11 : r_11 = bI ((0 ≤ ((g j) 13) ∧ ((g j) 13) < ((g j) 12)) ∧ (dd j) ((g j) 13).toNatClampNeg < day - ((g j) 14)) := hr_11
          subst hr_11
          refine pw_ifeq (tgt := 77) hx hb d_X_returned_62 (by decide) (fun c_12 => ?_) (fun c_12 => ?_)
          · have c_12 : ¬ ((0 ≤ ((g j) 13) ∧ ((g j) 13) < ((g j) 12)) ∧ (dd j) ((g j) 13).toNatClampNeg < day - ((g j) 14)) := c_12
            refine lv_aload hx hb d_X_returned_77 (lv_at hl 0 rfl) ?_
            refine lv_iload_n hx hb d_X_returned_79 rfl (lv_at hl 4 rfl) ?_
            refine pw_callv (va_runV (As := [.int (day)]) (rest := []) ⟨hx, hb, hml, hown, hw⟩ (c_G_passOn l D cs (27 + 4 * z 0) bk (CW cs z bo g q pp dd bk) s.heap.size (28 + 4 * j) (29 + 4 * j) (30 + 4 * j) (by omega) ((g j) 12) ((g j) 13) ((g j) 14) (CW_rou j) day) (cw_V 1 hw kM_X_148 kI_G_passOn kV_G_passOn kZ_G kC_G_passOn rfl rfl ⟨rfl, by decide, by decide, by decide +kernel⟩ ⟨Nat.le_of_ble_eq_true rfl, Nat.le_of_ble_eq_true rfl⟩) (pw_preV hN hK hP hD (28 + 4 * j) (by omega) (CW_rou j) rfl) rfl rfl hl.1 rfl (lv_room (Nat.le_of_ble_eq_true rfl)) d_X_returned_80 ⟨Nat.le_of_ble_eq_true rfl, Nat.le_of_ble_eq_true rfl⟩) hS (wl_free hD hS hA) (fun N1 bk1 cw1 H locs hu hP hD hS => ?_)
            have hP : va_P D classes (wl (27 + 4 * z 0) bk (CW cs z bo (va_up g j (upd (upd (g j) 13 (((g j) 13) + 1)) 14 day)) q pp dd bk)) H := wl_eqP2 (hu.1 c_5.2) (CW_setR j (upd (upd (g j) 13 (((g j) 13) + 1)) 14 day) (fun f hf => (pk_un (by omega)).trans (pk_un (by omega)))) hP
            have hD : va_D (AA (27 + 4 * z 0) bk sz) (wl (27 + 4 * z 0) bk (CW cs z bo (va_up g j (upd (upd (g j) 13 (((g j) 13) + 1)) 14 day)) q pp dd bk)) := wl_eqD2 (hu.1 c_5.2) (CW_setR j (upd (upd (g j) 13 (((g j) 13) + 1)) 14 day) (fun f hf => (pk_un (by omega)).trans (pk_un (by omega)))) hD
            refine lv_aload hx hb d_X_returned_83 (lv_at hl 0 rfl) ?_
            refine pw_callSi (va_runV (As := []) (rest := []) ⟨hx, hb, hml, hown, hw⟩ (c_G_isOut l D cs (27 + 4 * z 0) bk (CW cs z bo (va_up g j (upd (upd (g j) 13 (((g j) 13) + 1)) 14 day)) q pp dd bk) H.size (28 + 4 * j) (29 + 4 * j) (30 + 4 * j) (by omega) ((g j) 12) (((g j) 13) + 1) day (CW_rouU j)) (cw_V 0 hw kM_X_155 kI_G_isOut kV_G_isOut kZ_G kC_G_isOut rfl rfl ⟨rfl, by decide, by decide, by decide +kernel⟩ ⟨Nat.le_of_ble_eq_true rfl, Nat.le_of_ble_eq_true rfl⟩) (pw_preV hN hK hP hD (28 + 4 * j) (by omega) (CW_rouU j) rfl) rfl rfl hl.1 rfl (lv_room (Nat.le_of_ble_eq_true rfl)) d_X_returned_85 ⟨Nat.le_of_ble_eq_true rfl, Nat.le_of_ble_eq_true rfl⟩) (fun r_13 hr_13 => ?_)
            have hr_13 : r_13 = bI (0 ≤ (((g j) 13) + 1) ∧ (((g j) 13) + 1) < ((g j) 12)) := hr_13
            subst hr_13
            refine pw_ifeq (tgt := 99) hx hb d_X_returned_88 (by decide) (fun c_14 => ?_) (fun c_14 => ?_)
            · have c_14 : ¬ (0 ≤ (((g j) 13) + 1) ∧ (((g j) 13) + 1) < ((g j) 12)) := c_14
              refine lv_sipush (v := 1000) hx hb d_X_returned_99 (by decide) ?_
              exact W.iret (v := 1000) hx hb hr (fun t ht hW => ⟨⟨1000, (27 + 4 * z 0, bk, CW cs z bo (va_up g j (upd (upd (g j) 13 (((g j) 13) + 1)) 14 day)) q pp dd bk), rfl, Xr_of (by rw [s_X_returned, if_pos c_3, if_pos c_5, if_pos c_8, if_neg c_12, if_neg c_14]) rfl, by rw [ht]; exact hP, va_K.moved hW.alike hK, hD⟩, hS.F ht⟩) hS.2.2 d_X_returned_102
            · have c_14 : 0 ≤ (((g j) 13) + 1) ∧ (((g j) 13) + 1) < ((g j) 12) := c_14
              refine lv_aload hx hb d_X_returned_91 (lv_at hl 0 rfl) ?_
              refine pw_callSi (va_runV (As := []) (rest := []) ⟨hx, hb, hml, hown, hw⟩ (c_G_holder l D cs (27 + 4 * z 0) bk (CW cs z bo (va_up g j (upd (upd (g j) 13 (((g j) 13) + 1)) 14 day)) q pp dd bk) H.size (28 + 4 * j) (29 + 4 * j) (30 + 4 * j) (by omega) ((g j) 12) (((g j) 13) + 1) day (CW_rouU j) (pp j) (dd j) (by omega) (CW_per j) (by omega) (CW_day j) h8) (cw_V 0 hw kM_X_151 kI_G_holder kV_G_holder kZ_G kC_G_holder rfl rfl ⟨rfl, by decide, by decide, by decide +kernel⟩ ⟨Nat.le_of_ble_eq_true rfl, Nat.le_of_ble_eq_true rfl⟩) (pw_preV hN hK hP hD (28 + 4 * j) (by omega) (CW_rouU j) rfl) rfl rfl hl.1 rfl (lv_room (Nat.le_of_ble_eq_true rfl)) d_X_returned_93 ⟨Nat.le_of_ble_eq_true rfl, Nat.le_of_ble_eq_true rfl⟩) (fun r_15 hr_15 => ?_)
              have hr_15 : r_15 = if 0 ≤ (((g j) 13) + 1) ∧ (((g j) 13) + 1) < ((g j) 12) then (pp j) (((g j) 13) + 1).toNatClampNeg else -1 := hr_15
              subst hr_15
              refine lv_goto (tgt := 102) hx hb d_X_returned_96 (by decide) ?_
              exact W.iret (v := if 0 ≤ (((g j) 13) + 1) ∧ (((g j) 13) + 1) < ((g j) 12) then (pp j) (((g j) 13) + 1).toNatClampNeg else -1) hx hb hr (fun t ht hW => ⟨⟨if 0 ≤ (((g j) 13) + 1) ∧ (((g j) 13) + 1) < ((g j) 12) then (pp j) (((g j) 13) + 1).toNatClampNeg else -1, (27 + 4 * z 0, bk, CW cs z bo (va_up g j (upd (upd (g j) 13 (((g j) 13) + 1)) 14 day)) q pp dd bk), rfl, Xr_of (by rw [s_X_returned, if_pos c_3, if_pos c_5, if_pos c_8, if_neg c_12, if_pos c_14]) rfl, by rw [ht]; exact hP, va_K.moved hW.alike hK, hD⟩, hS.F ht⟩) hS.2.2 d_X_returned_102
          · have c_12 : (0 ≤ ((g j) 13) ∧ ((g j) 13) < ((g j) 12)) ∧ (dd j) ((g j) 13).toNatClampNeg < day - ((g j) 14) := c_12
            refine lv_aload_n hx hb d_X_returned_65 rfl (lv_at hl 2 rfl) ?_
            refine pw_get (ci := 0) (v := .ref (bk (7))) hx hb hw i_X hown hK hP (0) (by omega) rfl rfl 5 (by decide) (hw _ kF_X_37) rfl d_X_returned_66 ?_
            refine lv_iconst (v := 4) hx hb d_X_returned_69 (by decide) ?_
            refine lv_aload_n hx hb d_X_returned_70 rfl (lv_at hl 1 rfl) ?_
            refine pw_get (ci := 2) (v := .int (nI j)) hx hb hw i_I hown hK hP (27 + 4 * j) (by omega) (CW_iss j) rfl 0 (by decide) (hw _ kF_X_86) rfl d_X_returned_71 ?_
            refine pw_callv (va_runV (As := [.int (4), .int (nI j)]) (rest := []) ⟨hx, hb, hml, hown, hw⟩ (c_P_add l D cs (27 + 4 * z 0) bk (CW cs z bo g q pp dd bk) s.heap.size (7) (8) (9) (by omega) (z 2) rfl 100 (by decide) (by omega) (q 5) (q 6) (by omega) rfl (by omega) rfl (by decide) (by decide) (by decide) 4 (nI j)) (cw_V 2 hw kM_X_100 kI_P_add kV_P_add kZ_P kC_P_add rfl rfl ⟨rfl, by decide, by decide, by decide +kernel⟩ ⟨Nat.le_of_ble_eq_true rfl, Nat.le_of_ble_eq_true rfl⟩) (pw_preV hN hK hP hD (7) (by omega) rfl rfl) rfl rfl hl.1 rfl (lv_room (Nat.le_of_ble_eq_true rfl)) d_X_returned_74 ⟨Nat.le_of_ble_eq_true rfl, Nat.le_of_ble_eq_true rfl⟩) hS (wl_free hD hS hA) (fun N1 bk1 cw1 H locs hu hP hD hS => ?_)
            have hP := wl_eqP (CW_note hu) hP
            have hD := wl_eqD (CW_note hu) hD
            refine lv_aload hx hb d_X_returned_77 (lv_at hl 0 rfl) ?_
            refine lv_iload_n hx hb d_X_returned_79 rfl (lv_at hl 4 rfl) ?_
            refine pw_callv (va_runV (As := [.int (day)]) (rest := []) ⟨hx, hb, hml, hown, hw⟩ (c_G_passOn l D cs (27 + 4 * z 0) bk (CW cs (va_up z 2 (nz (z 2) 100)) bo g (va_up (va_up q 5 (na (z 2) 100 (q 5) 4)) 6 (na (z 2) 100 (q 6) (nI j))) pp dd bk) H.size (28 + 4 * j) (29 + 4 * j) (30 + 4 * j) (by omega) ((g j) 12) ((g j) 13) ((g j) 14) (CW_rou j) day) (cw_V 1 hw kM_X_148 kI_G_passOn kV_G_passOn kZ_G kC_G_passOn rfl rfl ⟨rfl, by decide, by decide, by decide +kernel⟩ ⟨Nat.le_of_ble_eq_true rfl, Nat.le_of_ble_eq_true rfl⟩) (pw_preV hN hK hP hD (28 + 4 * j) (by omega) (CW_rou j) rfl) rfl rfl hl.1 rfl (lv_room (Nat.le_of_ble_eq_true rfl)) d_X_returned_80 ⟨Nat.le_of_ble_eq_true rfl, Nat.le_of_ble_eq_true rfl⟩) hS (wl_free hD hS hA) (fun N1 bk1 cw1 H locs hu hP hD hS => ?_)
            have hP : va_P D classes (wl (27 + 4 * z 0) bk (CW cs (va_up z 2 (nz (z 2) 100)) bo (va_up g j (upd (upd (g j) 13 (((g j) 13) + 1)) 14 day)) (va_up (va_up q 5 (na (z 2) 100 (q 5) 4)) 6 (na (z 2) 100 (q 6) (nI j))) pp dd bk)) H := wl_eqP2 (hu.1 c_5.2) (CW_setR j (upd (upd (g j) 13 (((g j) 13) + 1)) 14 day) (fun f hf => (pk_un (by omega)).trans (pk_un (by omega)))) hP
            have hD : va_D (AA (27 + 4 * z 0) bk sz) (wl (27 + 4 * z 0) bk (CW cs (va_up z 2 (nz (z 2) 100)) bo (va_up g j (upd (upd (g j) 13 (((g j) 13) + 1)) 14 day)) (va_up (va_up q 5 (na (z 2) 100 (q 5) 4)) 6 (na (z 2) 100 (q 6) (nI j))) pp dd bk)) := wl_eqD2 (hu.1 c_5.2) (CW_setR j (upd (upd (g j) 13 (((g j) 13) + 1)) 14 day) (fun f hf => (pk_un (by omega)).trans (pk_un (by omega)))) hD
            refine lv_aload hx hb d_X_returned_83 (lv_at hl 0 rfl) ?_
            refine pw_callSi (va_runV (As := []) (rest := []) ⟨hx, hb, hml, hown, hw⟩ (c_G_isOut l D cs (27 + 4 * z 0) bk (CW cs (va_up z 2 (nz (z 2) 100)) bo (va_up g j (upd (upd (g j) 13 (((g j) 13) + 1)) 14 day)) (va_up (va_up q 5 (na (z 2) 100 (q 5) 4)) 6 (na (z 2) 100 (q 6) (nI j))) pp dd bk) H.size (28 + 4 * j) (29 + 4 * j) (30 + 4 * j) (by omega) ((g j) 12) (((g j) 13) + 1) day (CW_rouU j)) (cw_V 0 hw kM_X_155 kI_G_isOut kV_G_isOut kZ_G kC_G_isOut rfl rfl ⟨rfl, by decide, by decide, by decide +kernel⟩ ⟨Nat.le_of_ble_eq_true rfl, Nat.le_of_ble_eq_true rfl⟩) (pw_preV hN hK hP hD (28 + 4 * j) (by omega) (CW_rouU j) rfl) rfl rfl hl.1 rfl (lv_room (Nat.le_of_ble_eq_true rfl)) d_X_returned_85 ⟨Nat.le_of_ble_eq_true rfl, Nat.le_of_ble_eq_true rfl⟩) (fun r_16 hr_16 => ?_)
            have hr_16 : r_16 = bI (0 ≤ (((g j) 13) + 1) ∧ (((g j) 13) + 1) < ((g j) 12)) := hr_16
            subst hr_16
            refine pw_ifeq (tgt := 99) hx hb d_X_returned_88 (by decide) (fun c_17 => ?_) (fun c_17 => ?_)
            · have c_17 : ¬ (0 ≤ (((g j) 13) + 1) ∧ (((g j) 13) + 1) < ((g j) 12)) := c_17
              refine lv_sipush (v := 1000) hx hb d_X_returned_99 (by decide) ?_
              exact W.iret (v := 1000) hx hb hr (fun t ht hW => ⟨⟨1000, (27 + 4 * z 0, bk, CW cs (va_up z 2 (nz (z 2) 100)) bo (va_up g j (upd (upd (g j) 13 (((g j) 13) + 1)) 14 day)) (va_up (va_up q 5 (na (z 2) 100 (q 5) 4)) 6 (na (z 2) 100 (q 6) (nI j))) pp dd bk), rfl, Xr_of (by rw [s_X_returned, if_pos c_3, if_pos c_5, if_pos c_8, if_pos c_12, if_neg c_17]) rfl, by rw [ht]; exact hP, va_K.moved hW.alike hK, hD⟩, hS.F ht⟩) hS.2.2 d_X_returned_102
            · have c_17 : 0 ≤ (((g j) 13) + 1) ∧ (((g j) 13) + 1) < ((g j) 12) := c_17
              refine lv_aload hx hb d_X_returned_91 (lv_at hl 0 rfl) ?_
              refine pw_callSi (va_runV (As := []) (rest := []) ⟨hx, hb, hml, hown, hw⟩ (c_G_holder l D cs (27 + 4 * z 0) bk (CW cs (va_up z 2 (nz (z 2) 100)) bo (va_up g j (upd (upd (g j) 13 (((g j) 13) + 1)) 14 day)) (va_up (va_up q 5 (na (z 2) 100 (q 5) 4)) 6 (na (z 2) 100 (q 6) (nI j))) pp dd bk) H.size (28 + 4 * j) (29 + 4 * j) (30 + 4 * j) (by omega) ((g j) 12) (((g j) 13) + 1) day (CW_rouU j) (pp j) (dd j) (by omega) (CW_per j) (by omega) (CW_day j) h8) (cw_V 0 hw kM_X_151 kI_G_holder kV_G_holder kZ_G kC_G_holder rfl rfl ⟨rfl, by decide, by decide, by decide +kernel⟩ ⟨Nat.le_of_ble_eq_true rfl, Nat.le_of_ble_eq_true rfl⟩) (pw_preV hN hK hP hD (28 + 4 * j) (by omega) (CW_rouU j) rfl) rfl rfl hl.1 rfl (lv_room (Nat.le_of_ble_eq_true rfl)) d_X_returned_93 ⟨Nat.le_of_ble_eq_true rfl, Nat.le_of_ble_eq_true rfl⟩) (fun r_18 hr_18 => ?_)
              have hr_18 : r_18 = if 0 ≤ (((g j) 13) + 1) ∧ (((g j) 13) + 1) < ((g j) 12) then (pp j) (((g j) 13) + 1).toNatClampNeg else -1 := hr_18
              subst hr_18
              refine lv_goto (tgt := 102) hx hb d_X_returned_96 (by decide) ?_
              exact W.iret (v := if 0 ≤ (((g j) 13) + 1) ∧ (((g j) 13) + 1) < ((g j) 12) then (pp j) (((g j) 13) + 1).toNatClampNeg else -1) hx hb hr (fun t ht hW => ⟨⟨if 0 ≤ (((g j) 13) + 1) ∧ (((g j) 13) + 1) < ((g j) 12) then (pp j) (((g j) 13) + 1).toNatClampNeg else -1, (27 + 4 * z 0, bk, CW cs (va_up z 2 (nz (z 2) 100)) bo (va_up g j (upd (upd (g j) 13 (((g j) 13) + 1)) 14 day)) (va_up (va_up q 5 (na (z 2) 100 (q 5) 4)) 6 (na (z 2) 100 (q 6) (nI j))) pp dd bk), rfl, Xr_of (by rw [s_X_returned, if_pos c_3, if_pos c_5, if_pos c_8, if_pos c_12, if_pos c_17]) rfl, by rw [ht]; exact hP, va_K.moved hW.alike hK, hD⟩, hS.F ht⟩) hS.2.2 d_X_returned_102
        · have c_10 : ¬ (0 ≤ ((g j) 13) ∧ ((g j) 13) < ((g j) 12)) := c_10
          exact absurd c_5 c_10
      · have c_8 : ¬ ((g j) 14) ≤ day := c_8
        refine lv_bipush (v := -2) hx hb d_X_returned_42 (by decide) ?_
        exact W.iret (v := -2) hx hb hr (fun t ht hW => ⟨⟨-2, (27 + 4 * z 0, bk, CW cs z bo g q pp dd bk), rfl, Xr_of (by rw [s_X_returned, if_pos c_3, if_pos c_5, if_neg c_8]) rfl, by rw [ht]; exact hP, va_K.moved hW.alike hK, hD⟩, hS.F ht⟩) hS.2.2 d_X_returned_44
def s_X_about_out (z bo : Nat → Nat) (g q pp dd : Nat → Nat → Int32) (x : Int32) (what : Int32) : XS := (-1, z, bo, g, q, pp, dd)
set_option maxHeartbeats 4000000 in
set_option maxRecDepth 100000 in
theorem c_X_about_out (l : Launch) (D : va_G) (cs : Nat → ClassId) (bk : Nat → Nat) (sz : Nat) (z bo : Nat → Nat) (g q pp dd : Nat → Nat → Int32) (hz0 : z 0 ≤ 200) (x : Int32) (ho : ¬ (0 ≤ x ∧ x < nI (z 0))) (what : Int32) : Met l y_X_about w_X_about ({ frames := 3, cells := 0, slots := 0, locals := 61 }) (va_Pc [.ref (bk (0)), .int (x), .int (what)] (PB D classes (TY cs) (27 + 4 * z 0) bk (CW cs z bo g q pp dd bk) sz)) (va_Qi (Xr cs bk (s_X_about_out z bo g q pp dd x what)) (Wd D classes (TY cs) (AA (27 + 4 * z 0) bk sz)) (AA (27 + 4 * z 0) bk sz)) 0 0 (AA (27 + 4 * z 0) bk sz) := by
  refine pw_entry (cc := b_X_about) (maxL := 4) (ret := (some .int)) (by decide +kernel) rfl (Nat.le_of_ble_eq_true rfl) ?_
  intro p_ e_ s m below_ meth_ c_ ls hx hb hr hml hts hown hlocks hin hsz hP hK hD hS hA hN hl
  have hw : ∀ w ∈ WA, w.before _ s = true := fun w h => hts w (List.mem_cons_of_mem _ h)
  have hown : s.vm.findClass "IssueRows" = some m.cls := hown
  have hl : lv_has ls 4 [(0, .ref (bk (0))), (1, .int (x)), (2, .int (what))] := hl
  refine lv_aload_n hx hb d_X_about_0 rfl (lv_at hl 0 rfl) ?_
  refine lv_iload_n hx hb d_X_about_1 rfl (lv_at hl 1 rfl) ?_
  refine pw_callSq (va_runV (As := [.int (x)]) (rest := []) ⟨hx, hb, hml, hown, hw⟩ (c_X_find_out l D cs bk s.heap.size z bo g q pp dd hz0 x ho) (cw_V 1 hw kM_X_89 kI_X_find kV_X_find kZ_X kC_X_find rfl rfl ⟨rfl, by decide, by decide, by decide +kernel⟩ ⟨Nat.le_of_ble_eq_true rfl, Nat.le_of_ble_eq_true rfl⟩) (pw_preV hN hK hP hD (0) (by omega) rfl rfl) rfl rfl hl.1 rfl (lv_room (Nat.le_of_ble_eq_true rfl)) d_X_about_2 ⟨Nat.le_of_ble_eq_true rfl, Nat.le_of_ble_eq_true rfl⟩) (fun r_1 hr_1 => ?_)
  have hr_1 : r_1 = none := hr_1
  subst hr_1
  refine W.eq (g2 := F0 m 5 ls [.null]) rfl ?_
  refine lv_astore_nN (lv' := [(3, .null), (0, .ref (bk (0))), (1, .int (x)), (2, .int (what))]) hx hb d_X_about_5 rfl hl (by decide) rfl (fun ls hl => ?_)
  refine lv_aload_nN hx hb d_X_about_6 rfl (lv_at hl 0 rfl) ?_
  refine lv_ifnonnullN hx hb d_X_about_7 ?_
  refine lv_iconst (v := -1) hx hb d_X_about_10 (by decide) ?_
  refine lv_goto (tgt := 19) hx hb d_X_about_11 (by decide) ?_
  exact W.iret (v := -1) hx hb hr (fun t ht hW => ⟨⟨-1, (27 + 4 * z 0, bk, CW cs z bo g q pp dd bk), rfl, Xr_of (by rw [s_X_about_out]) rfl, by rw [ht]; exact hP, va_K.moved hW.alike hK, hD⟩, hS.F ht⟩) hS.2.2 d_X_about_19
def s_X_about (z bo : Nat → Nat) (g q pp dd : Nat → Nat → Int32) (j : Nat) (what : Int32) : XS := (if what = 0 then ((g j) 0) else if what = 1 then ((g j) 1) else if what = 2 then ((g j) 4) else if what = 3 then ((g j) 2) else if what = 4 then ((g j) 5) else if what = 5 then ((g j) 7) else if what = 6 then ((g j) 8) else if what = 7 then (if 0 ≤ ((g j) 13) ∧ ((g j) 13) < ((g j) 12) then (pp j) ((g j) 13).toNatClampNeg else -1) else if what = 8 then ((g j) 9) else if what = 9 then ((g j) 10) else if what = 10 then ((g j) 11) else -1, z, bo, g, q, pp, dd)
set_option maxHeartbeats 4000000 in
set_option maxRecDepth 100000 in
theorem c_X_about (l : Launch) (D : va_G) (cs : Nat → ClassId) (bk : Nat → Nat) (sz : Nat) (z bo : Nat → Nat) (g q pp dd : Nat → Nat → Int32) (hz0 : z 0 ≤ 200) (j : Nat) (hj : j < z 0) (h8 : g j 12 ≤ 8) (what : Int32) : Met l y_X_about w_X_about ({ frames := 3, cells := 0, slots := 0, locals := 61 }) (va_Pc [.ref (bk (0)), .int (nI j), .int (what)] (PB D classes (TY cs) (27 + 4 * z 0) bk (CW cs z bo g q pp dd bk) sz)) (va_Qi (Xr cs bk (s_X_about z bo g q pp dd j what)) (Wd D classes (TY cs) (AA (27 + 4 * z 0) bk sz)) (AA (27 + 4 * z 0) bk sz)) 0 0 (AA (27 + 4 * z 0) bk sz) := by
  refine pw_entry (cc := b_X_about) (maxL := 4) (ret := (some .int)) (by decide +kernel) rfl (Nat.le_of_ble_eq_true rfl) ?_
  intro p_ e_ s m below_ meth_ c_ ls hx hb hr hml hts hown hlocks hin hsz hP hK hD hS hA hN hl
  have hw : ∀ w ∈ WA, w.before _ s = true := fun w h => hts w (List.mem_cons_of_mem _ h)
  have hown : s.vm.findClass "IssueRows" = some m.cls := hown
  have hl : lv_has ls 4 [(0, .ref (bk (0))), (1, .int (nI j)), (2, .int (what))] := hl
  refine lv_aload_n hx hb d_X_about_0 rfl (lv_at hl 0 rfl) ?_
  refine lv_iload_n hx hb d_X_about_1 rfl (lv_at hl 1 rfl) ?_
  refine pw_callSq (va_runV (As := [.int (nI j)]) (rest := []) ⟨hx, hb, hml, hown, hw⟩ (c_X_find l D cs bk s.heap.size z bo g q pp dd hz0 j hj) (cw_V 1 hw kM_X_89 kI_X_find kV_X_find kZ_X kC_X_find rfl rfl ⟨rfl, by decide, by decide, by decide +kernel⟩ ⟨Nat.le_of_ble_eq_true rfl, Nat.le_of_ble_eq_true rfl⟩) (pw_preV hN hK hP hD (0) (by omega) rfl rfl) rfl rfl hl.1 rfl (lv_room (Nat.le_of_ble_eq_true rfl)) d_X_about_2 ⟨Nat.le_of_ble_eq_true rfl, Nat.le_of_ble_eq_true rfl⟩) (fun r_1 hr_1 => ?_)
  have hr_1 : r_1 = some (bk (27 + 4 * j)) := hr_1
  subst hr_1
  refine W.eq (g2 := F0 m 5 ls [.ref (bk (27 + 4 * j))]) rfl ?_
  refine lv_astore_n (lv' := [(3, .ref (bk (27 + 4 * j))), (0, .ref (bk (0))), (1, .int (nI j)), (2, .int (what))]) hx hb d_X_about_5 rfl hl (by decide) rfl (fun ls hl => ?_)
  refine lv_aload_n hx hb d_X_about_6 rfl (lv_at hl 0 rfl) ?_
  refine lv_ifnonnull (tgt := 14) hx hb d_X_about_7 (by decide) ?_
  refine lv_aload_n hx hb d_X_about_14 rfl (lv_at hl 0 rfl) ?_
  refine lv_iload_n hx hb d_X_about_15 rfl (lv_at hl 3 rfl) ?_
  refine pw_callSi (va_runV (As := [.int (what)]) (rest := []) ⟨hx, hb, hml, hown, hw⟩ (c_I_part l D cs (27 + 4 * z 0) bk (CW cs z bo g q pp dd bk) s.heap.size (27 + 4 * j) (28 + 4 * j) (by omega) (nI j) ((g j) 0) ((g j) 1) ((g j) 2) ((g j) 3) ((g j) 4) ((g j) 5) ((g j) 6) ((g j) 7) ((g j) 8) ((g j) 9) ((g j) 10) ((g j) 11) (CW_iss j) (29 + 4 * j) (30 + 4 * j) (by omega) ((g j) 12) ((g j) 13) ((g j) 14) (CW_rou j) (pp j) (dd j) (by omega) (CW_per j) (by omega) (CW_day j) h8 what) (cw_V 1 hw kM_X_201 kI_I_part kV_I_part kZ_I kC_I_part rfl rfl ⟨rfl, by decide, by decide, by decide +kernel⟩ ⟨Nat.le_of_ble_eq_true rfl, Nat.le_of_ble_eq_true rfl⟩) (pw_preV hN hK hP hD (27 + 4 * j) (by omega) (CW_iss j) rfl) rfl rfl hl.1 rfl (lv_room (Nat.le_of_ble_eq_true rfl)) d_X_about_16 ⟨Nat.le_of_ble_eq_true rfl, Nat.le_of_ble_eq_true rfl⟩) (fun r_2 hr_2 => ?_)
  have hr_2 : r_2 = if what = 0 then ((g j) 0) else if what = 1 then ((g j) 1) else if what = 2 then ((g j) 4) else if what = 3 then ((g j) 2) else if what = 4 then ((g j) 5) else if what = 5 then ((g j) 7) else if what = 6 then ((g j) 8) else if what = 7 then (if 0 ≤ ((g j) 13) ∧ ((g j) 13) < ((g j) 12) then (pp j) ((g j) 13).toNatClampNeg else -1) else if what = 8 then ((g j) 9) else if what = 9 then ((g j) 10) else if what = 10 then ((g j) 11) else -1 := hr_2
  subst hr_2
  exact W.iret (v := if what = 0 then ((g j) 0) else if what = 1 then ((g j) 1) else if what = 2 then ((g j) 4) else if what = 3 then ((g j) 2) else if what = 4 then ((g j) 5) else if what = 5 then ((g j) 7) else if what = 6 then ((g j) 8) else if what = 7 then (if 0 ≤ ((g j) 13) ∧ ((g j) 13) < ((g j) 12) then (pp j) ((g j) 13).toNatClampNeg else -1) else if what = 8 then ((g j) 9) else if what = 9 then ((g j) 10) else if what = 10 then ((g j) 11) else -1) hx hb hr (fun t ht hW => ⟨⟨if what = 0 then ((g j) 0) else if what = 1 then ((g j) 1) else if what = 2 then ((g j) 4) else if what = 3 then ((g j) 2) else if what = 4 then ((g j) 5) else if what = 5 then ((g j) 7) else if what = 6 then ((g j) 8) else if what = 7 then (if 0 ≤ ((g j) 13) ∧ ((g j) 13) < ((g j) 12) then (pp j) ((g j) 13).toNatClampNeg else -1) else if what = 8 then ((g j) 9) else if what = 9 then ((g j) 10) else if what = 10 then ((g j) 11) else -1, (27 + 4 * z 0, bk, CW cs z bo g q pp dd bk), rfl, Xr_of (by rw [s_X_about]) rfl, by rw [ht]; exact hP, va_K.moved hW.alike hK, hD⟩, hS.F ht⟩) hS.2.2 d_X_about_19
def s_X_rule (z bo : Nat → Nat) (g q pp dd : Nat → Nat → Int32) (p : Nat) (f : Int32) (b : Int32) (mo : Int32) : XS := (if 1 ≤ f ∧ f ≤ 1000 then (if 1 ≤ b ∧ b ≤ 1000 then (if 0 ≤ mo ∧ mo ≤ 9 then (1, z, bo, g, va_up (va_up (va_up q 0 (upd (q 0) p f)) 1 (upd (q 1) p b)) 2 (upd (q 2) p mo), pp, dd) else (-2, z, bo, g, q, pp, dd)) else (-2, z, bo, g, q, pp, dd)) else (-2, z, bo, g, q, pp, dd))
set_option maxHeartbeats 4000000 in
set_option maxRecDepth 100000 in
theorem c_X_rule (l : Launch) (D : va_G) (cs : Nat → ClassId) (bk : Nat → Nat) (sz : Nat) (z bo : Nat → Nat) (g q pp dd : Nat → Nat → Int32) (p : Nat) (hp : p < 10) (f b mo : Int32) : Met l y_X_rule w_X_rule ({ frames := 2, cells := 0, slots := 0, locals := 42 }) (va_Pc [.ref (bk (0)), .int (nI p), .int (f), .int (b), .int (mo)] (PB D classes (TY cs) (27 + 4 * z 0) bk (CW cs z bo g q pp dd bk) sz)) (va_Qi (Xr cs bk (s_X_rule z bo g q pp dd p f b mo)) (Wd D classes (TY cs) (AA (27 + 4 * z 0) bk sz)) (AA (27 + 4 * z 0) bk sz)) 0 0 (AA (27 + 4 * z 0) bk sz) := by
  refine pw_entry (cc := b_X_rule) (maxL := 6) (ret := (some .int)) (by decide +kernel) rfl (Nat.le_of_ble_eq_true rfl) ?_
  intro p_ e_ s m below_ meth_ c_ ls hx hb hr hml hts hown hlocks hin hsz hP hK hD hS hA hN hl
  have hw : ∀ w ∈ WA, w.before _ s = true := fun w h => hts w (List.mem_cons_of_mem _ h)
  have hown : s.vm.findClass "IssueRows" = some m.cls := hown
  have hl : lv_has ls 6 [(0, .ref (bk (0))), (1, .int (nI p)), (2, .int (f)), (3, .int (b)), (4, .int (mo))] := hl
  refine lv_iload_n hx hb d_X_rule_0 rfl (lv_at hl 1 rfl) ?_
  refine pw_callSi (va_runS (As := [.int (nI p)]) (rest := []) ⟨hx, hb, hml, hown, hw⟩ (c_X_isPattern l D cs (27 + 4 * z 0) bk (CW cs z bo g q pp dd bk) s.heap.size (nI p)) (cw_S 1 hw kM_X_55 kS_X_isPattern kZ_X kC_X_isPattern rfl rfl ⟨rfl, by decide, by decide, by decide +kernel⟩ ⟨Nat.le_of_ble_eq_true rfl, Nat.le_of_ble_eq_true rfl⟩) (pw_preS hN hK hP hD) rfl rfl hl.1 rfl (lv_room (Nat.le_of_ble_eq_true rfl)) d_X_rule_1 ⟨Nat.le_of_ble_eq_true rfl, Nat.le_of_ble_eq_true rfl⟩) (fun r_1 hr_1 => ?_)
  have hr_1 : r_1 = bI (0 ≤ (nI p) ∧ (nI p) ≤ 9) := hr_1
  subst hr_1
  refine pw_ifne (tgt := 9) hx hb d_X_rule_4 (by decide) (fun c_2 => ?_) (fun c_2 => ?_)
  · have c_2 : 0 ≤ (nI p) ∧ (nI p) ≤ 9 := c_2
    refine lv_iload_n hx hb d_X_rule_9 rfl (lv_at hl 2 rfl) ?_
    refine lv_iconst (v := 1) hx hb d_X_rule_10 (by decide) ?_
    refine lv_sipush (v := 1000) hx hb d_X_rule_11 (by decide) ?_
    refine pw_callSi (va_runS (As := [.int (f), .int (1), .int (1000)]) (rest := []) ⟨hx, hb, hml, hown, hw⟩ (c_X_within l D cs (27 + 4 * z 0) bk (CW cs z bo g q pp dd bk) s.heap.size f 1 1000) (cw_S 3 hw kM_X_59 kS_X_within kZ_X kC_X_within rfl rfl ⟨rfl, by decide, by decide, by decide +kernel⟩ ⟨Nat.le_of_ble_eq_true rfl, Nat.le_of_ble_eq_true rfl⟩) (pw_preS hN hK hP hD) rfl rfl hl.1 rfl (lv_room (Nat.le_of_ble_eq_true rfl)) d_X_rule_14 ⟨Nat.le_of_ble_eq_true rfl, Nat.le_of_ble_eq_true rfl⟩) (fun r_3 hr_3 => ?_)
    have hr_3 : r_3 = bI (1 ≤ f ∧ f ≤ 1000) := hr_3
    subst hr_3
    refine pw_ifeq (tgt := 42) hx hb d_X_rule_17 (by decide) (fun c_4 => ?_) (fun c_4 => ?_)
    · have c_4 : ¬ (1 ≤ f ∧ f ≤ 1000) := c_4
      refine lv_bipush (v := -2) hx hb d_X_rule_42 (by decide) ?_
      exact W.iret (v := -2) hx hb hr (fun t ht hW => ⟨⟨-2, (27 + 4 * z 0, bk, CW cs z bo g q pp dd bk), rfl, Xr_of (by rw [s_X_rule, if_neg c_4]) rfl, by rw [ht]; exact hP, va_K.moved hW.alike hK, hD⟩, hS.F ht⟩) hS.2.2 d_X_rule_44
    · have c_4 : 1 ≤ f ∧ f ≤ 1000 := c_4
      refine lv_iload_n hx hb d_X_rule_20 rfl (lv_at hl 3 rfl) ?_
      refine lv_iconst (v := 1) hx hb d_X_rule_21 (by decide) ?_
      refine lv_sipush (v := 1000) hx hb d_X_rule_22 (by decide) ?_
      refine pw_callSi (va_runS (As := [.int (b), .int (1), .int (1000)]) (rest := []) ⟨hx, hb, hml, hown, hw⟩ (c_X_within l D cs (27 + 4 * z 0) bk (CW cs z bo g q pp dd bk) s.heap.size b 1 1000) (cw_S 3 hw kM_X_59 kS_X_within kZ_X kC_X_within rfl rfl ⟨rfl, by decide, by decide, by decide +kernel⟩ ⟨Nat.le_of_ble_eq_true rfl, Nat.le_of_ble_eq_true rfl⟩) (pw_preS hN hK hP hD) rfl rfl hl.1 rfl (lv_room (Nat.le_of_ble_eq_true rfl)) d_X_rule_25 ⟨Nat.le_of_ble_eq_true rfl, Nat.le_of_ble_eq_true rfl⟩) (fun r_5 hr_5 => ?_)
      have hr_5 : r_5 = bI (1 ≤ b ∧ b ≤ 1000) := hr_5
      subst hr_5
      refine pw_ifeq (tgt := 42) hx hb d_X_rule_28 (by decide) (fun c_6 => ?_) (fun c_6 => ?_)
      · have c_6 : ¬ (1 ≤ b ∧ b ≤ 1000) := c_6
        refine lv_bipush (v := -2) hx hb d_X_rule_42 (by decide) ?_
        exact W.iret (v := -2) hx hb hr (fun t ht hW => ⟨⟨-2, (27 + 4 * z 0, bk, CW cs z bo g q pp dd bk), rfl, Xr_of (by rw [s_X_rule, if_pos c_4, if_neg c_6]) rfl, by rw [ht]; exact hP, va_K.moved hW.alike hK, hD⟩, hS.F ht⟩) hS.2.2 d_X_rule_44
      · have c_6 : 1 ≤ b ∧ b ≤ 1000 := c_6
        refine lv_iload hx hb d_X_rule_31 (lv_at hl 4 rfl) ?_
        refine lv_iconst (v := 0) hx hb d_X_rule_33 (by decide) ?_
        refine lv_bipush (v := 9) hx hb d_X_rule_34 (by decide) ?_
        refine pw_callSi (va_runS (As := [.int (mo), .int (0), .int (9)]) (rest := []) ⟨hx, hb, hml, hown, hw⟩ (c_X_within l D cs (27 + 4 * z 0) bk (CW cs z bo g q pp dd bk) s.heap.size mo 0 9) (cw_S 3 hw kM_X_59 kS_X_within kZ_X kC_X_within rfl rfl ⟨rfl, by decide, by decide, by decide +kernel⟩ ⟨Nat.le_of_ble_eq_true rfl, Nat.le_of_ble_eq_true rfl⟩) (pw_preS hN hK hP hD) rfl rfl hl.1 rfl (lv_room (Nat.le_of_ble_eq_true rfl)) d_X_rule_36 ⟨Nat.le_of_ble_eq_true rfl, Nat.le_of_ble_eq_true rfl⟩) (fun r_7 hr_7 => ?_)
        have hr_7 : r_7 = bI (0 ≤ mo ∧ mo ≤ 9) := hr_7
        subst hr_7
        refine pw_ifne (tgt := 45) hx hb d_X_rule_39 (by decide) (fun c_8 => ?_) (fun c_8 => ?_)
        · have c_8 : 0 ≤ mo ∧ mo ≤ 9 := c_8
          refine lv_aload_n hx hb d_X_rule_45 rfl (lv_at hl 0 rfl) ?_
          refine pw_get (ci := 0) (v := .ref (bk (1))) hx hb hw i_X hown hK hP (0) (by omega) rfl rfl 0 (by decide) (hw _ kF_X_11) rfl d_X_rule_46 ?_
          refine lv_iload_n hx hb d_X_rule_49 rfl (lv_at hl 1 rfl) ?_
          refine pw_aldq hx hb hK hP 2 (1) (by omega) rfl rfl (p) rfl (by omega) (by decide) (r := bk (p + 17)) (if_pos hp) d_X_rule_50 ?_
          refine lv_astore (lv' := [(5, .ref (bk (p + 17))), (0, .ref (bk (0))), (1, .int (nI p)), (2, .int (f)), (3, .int (b)), (4, .int (mo))]) hx hb d_X_rule_51 hl (by decide) rfl (fun ls hl => ?_)
          refine lv_aload hx hb d_X_rule_53 (lv_at hl 0 rfl) ?_
          refine lv_iload_n hx hb d_X_rule_55 rfl (lv_at hl 3 rfl) ?_
          refine pw_put (ci := 1) (v := .int (f)) (ty := .int) (fs' := [.int (f), .int (q 1 p), .int (q 2 p)]) hx hb hw i_U t_U t_U_ok n_U hown hK hP hD hS (p + 17) (by omega) (CW_rul p hp) rfl 0 (by decide) (hw _ kF_X_63) rfl (t_U_ok 0 (by decide)) rfl rfl (Nat.le_of_ble_eq_true rfl) rfl d_X_rule_56 (fun cw_9 H locs ecw_9 hP hD hS => ?_)
          have h_10 : cw_9 (p + 17) = .inr (1, [.int (f), .int (q 1 p), .int (q 2 p)]) := by rw [ecw_9]; exact va_up_self _ _ _
          refine lv_aload hx hb d_X_rule_59 (lv_at hl 0 rfl) ?_
          refine lv_iload_n hx hb d_X_rule_61 rfl (lv_at hl 4 rfl) ?_
          refine pw_put (ci := 1) (v := .int (b)) (ty := .int) (fs' := [.int (f), .int (b), .int (q 2 p)]) hx hb hw i_U t_U t_U_ok n_U hown hK hP hD hS (p + 17) (by omega) h_10 rfl 1 (by decide) (hw _ kF_X_66) rfl (t_U_ok 1 (by decide)) rfl rfl (Nat.le_of_ble_eq_true rfl) rfl d_X_rule_62 (fun cw_11 H locs ecw_11 hP hD hS => ?_)
          have h_12 : cw_11 (p + 17) = .inr (1, [.int (f), .int (b), .int (q 2 p)]) := by rw [ecw_11]; exact va_up_self _ _ _
          refine lv_aload hx hb d_X_rule_65 (lv_at hl 0 rfl) ?_
          refine lv_iload hx hb d_X_rule_67 (lv_at hl 5 rfl) ?_
          refine pw_put (ci := 1) (v := .int (mo)) (ty := .int) (fs' := [.int (f), .int (b), .int (mo)]) hx hb hw i_U t_U t_U_ok n_U hown hK hP hD hS (p + 17) (by omega) h_12 rfl 2 (by decide) (hw _ kF_X_69) rfl (t_U_ok 2 (by decide)) rfl rfl (Nat.le_of_ble_eq_true rfl) rfl d_X_rule_69 (fun cw_13 H locs ecw_13 hP hD hS => ?_)
          have h_14 : cw_13 (p + 17) = .inr (1, [.int (f), .int (b), .int (mo)]) := by rw [ecw_13]; exact va_up_self _ _ _
          obtain rfl : cw_13 = CW cs z bo g (va_up (va_up (va_up q 0 (upd (q 0) p f)) 1 (upd (q 1) p b)) 2 (upd (q 2) p mo)) pp dd bk := by rw [ecw_13, ecw_11, ecw_9, bx_uu, bx_uu]; exact CW_setU p hp _ _ _
          refine lv_iconst (v := 1) hx hb d_X_rule_72 (by decide) ?_
          exact W.iret (v := 1) hx hb hr (fun t ht hW => ⟨⟨1, (27 + 4 * z 0, bk, CW cs z bo g (va_up (va_up (va_up q 0 (upd (q 0) p f)) 1 (upd (q 1) p b)) 2 (upd (q 2) p mo)) pp dd bk), rfl, Xr_of (by rw [s_X_rule, if_pos c_4, if_pos c_6, if_pos c_8]) rfl, by rw [ht]; exact hP, va_K.moved hW.alike hK, hD⟩, hS.F ht⟩) hS.2.2 d_X_rule_73
        · have c_8 : ¬ (0 ≤ mo ∧ mo ≤ 9) := c_8
          refine lv_bipush (v := -2) hx hb d_X_rule_42 (by decide) ?_
          exact W.iret (v := -2) hx hb hr (fun t ht hW => ⟨⟨-2, (27 + 4 * z 0, bk, CW cs z bo g q pp dd bk), rfl, Xr_of (by rw [s_X_rule, if_pos c_4, if_pos c_6, if_neg c_8]) rfl, by rw [ht]; exact hP, va_K.moved hW.alike hK, hD⟩, hS.F ht⟩) hS.2.2 d_X_rule_44
  · have c_2 : ¬ (0 ≤ (nI p) ∧ (nI p) ≤ 9) := c_2
    exact absurd (by simp only [Int32.le_iff_toInt_le, nI_toInt (show p < 2 ^ 31 by omega), T0, T9]; omega) c_2
def s_X_rule_out (z bo : Nat → Nat) (g q pp dd : Nat → Nat → Int32) (x : Int32) (f : Int32) (b : Int32) (mo : Int32) : XS := (-1, z, bo, g, q, pp, dd)
set_option maxHeartbeats 4000000 in
set_option maxRecDepth 100000 in
theorem c_X_rule_out (l : Launch) (D : va_G) (cs : Nat → ClassId) (bk : Nat → Nat) (sz : Nat) (z bo : Nat → Nat) (g q pp dd : Nat → Nat → Int32) (x : Int32) (ho : ¬ (0 ≤ x ∧ x ≤ 9)) (f b mo : Int32) : Met l y_X_rule w_X_rule ({ frames := 2, cells := 0, slots := 0, locals := 42 }) (va_Pc [.ref (bk (0)), .int (x), .int (f), .int (b), .int (mo)] (PB D classes (TY cs) (27 + 4 * z 0) bk (CW cs z bo g q pp dd bk) sz)) (va_Qi (Xr cs bk (s_X_rule_out z bo g q pp dd x f b mo)) (Wd D classes (TY cs) (AA (27 + 4 * z 0) bk sz)) (AA (27 + 4 * z 0) bk sz)) 0 0 (AA (27 + 4 * z 0) bk sz) := by
  refine pw_entry (cc := b_X_rule) (maxL := 6) (ret := (some .int)) (by decide +kernel) rfl (Nat.le_of_ble_eq_true rfl) ?_
  intro p_ e_ s m below_ meth_ c_ ls hx hb hr hml hts hown hlocks hin hsz hP hK hD hS hA hN hl
  have hw : ∀ w ∈ WA, w.before _ s = true := fun w h => hts w (List.mem_cons_of_mem _ h)
  have hown : s.vm.findClass "IssueRows" = some m.cls := hown
  have hl : lv_has ls 6 [(0, .ref (bk (0))), (1, .int (x)), (2, .int (f)), (3, .int (b)), (4, .int (mo))] := hl
  refine lv_iload_n hx hb d_X_rule_0 rfl (lv_at hl 1 rfl) ?_
  refine pw_callSi (va_runS (As := [.int (x)]) (rest := []) ⟨hx, hb, hml, hown, hw⟩ (c_X_isPattern l D cs (27 + 4 * z 0) bk (CW cs z bo g q pp dd bk) s.heap.size x) (cw_S 1 hw kM_X_55 kS_X_isPattern kZ_X kC_X_isPattern rfl rfl ⟨rfl, by decide, by decide, by decide +kernel⟩ ⟨Nat.le_of_ble_eq_true rfl, Nat.le_of_ble_eq_true rfl⟩) (pw_preS hN hK hP hD) rfl rfl hl.1 rfl (lv_room (Nat.le_of_ble_eq_true rfl)) d_X_rule_1 ⟨Nat.le_of_ble_eq_true rfl, Nat.le_of_ble_eq_true rfl⟩) (fun r_1 hr_1 => ?_)
  have hr_1 : r_1 = bI (0 ≤ x ∧ x ≤ 9) := hr_1
  subst hr_1
  refine pw_ifne (tgt := 9) hx hb d_X_rule_4 (by decide) (fun c_2 => ?_) (fun c_2 => ?_)
  · have c_2 : 0 ≤ x ∧ x ≤ 9 := c_2
    exact absurd c_2 ho
  · have c_2 : ¬ (0 ≤ x ∧ x ≤ 9) := c_2
    refine lv_iconst (v := -1) hx hb d_X_rule_7 (by decide) ?_
    exact W.iret (v := -1) hx hb hr (fun t ht hW => ⟨⟨-1, (27 + 4 * z 0, bk, CW cs z bo g q pp dd bk), rfl, Xr_of (by rw [s_X_rule_out]) rfl, by rw [ht]; exact hP, va_K.moved hW.alike hK, hD⟩, hS.F ht⟩) hS.2.2 d_X_rule_8
theorem ix_of {x : Int32} {n : Nat} (h : 0 ≤ x ∧ x < nI n) (hn : n < 2 ^ 31) : ∃ j, j < n ∧ x = nI j := by
  obtain ⟨j, hj, rfl⟩ := nI_of (x := x) (Int32.not_lt.mpr h.1)
  exact ⟨j, (nI_ltI hj hn).mp h.2, rfl⟩
theorem c_P_partI (l : Launch) (D : va_G) (cs : Nat → ClassId) (N : Nat) (bk : Nat → Nat) (cw : Nat → va_E) (sz : Nat) (K K1 K2 : Nat) (hk : K < N) (z : Nat) (he : cw K = .inr (4, [.ref (bk K1), .ref (bk K2), .int (nI z)])) (ln : Nat) (hln : ln < 2 ^ 30) (hz : z ≤ ln) (f1 f2 : Nat → Int32) (hk1 : K1 < N) (he1 : cw K1 = .inl (cs 0, ln, .inl f1)) (hk2 : K2 < N) (he2 : cw K2 = .inl (cs 0, ln, .inl f2)) (i what : Int32) (hi : 0 ≤ i ∧ i < nI z) (hq : 0 ≤ what ∧ what ≤ 1) : Met l y_P_part w_P_part ({ frames := 2, cells := 0, slots := 0, locals := 44 }) (va_Pc [.ref (bk K), .int i, .int what] (PB D classes (TY cs) N bk cw sz)) (vp_Si (fun r => r = if what = 0 then f1 i.toNatClampNeg else f2 i.toNatClampNeg)) 0 0 (fun _ => False) := by
  obtain ⟨j, hj, rfl⟩ := ix_of hi (by omega)
  rw [nI_clamp (by omega)]
  exact c_P_part l D cs N bk cw sz K K1 K2 hk z he ln hln hz f1 f2 hk1 he1 hk2 he2 j hj what hq
theorem c_S_partI (l : Launch) (D : va_G) (cs : Nat → ClassId) (N : Nat) (bk : Nat → Nat) (cw : Nat → va_E) (sz : Nat) (K K1 K2 K3 : Nat) (hk : K < N) (z : Nat) (he : cw K = .inr (6, [.ref (bk K1), .ref (bk K2), .ref (bk K3), .int (nI z)])) (hz : z ≤ 200) (f1 f2 f3 : Nat → Int32) (hk1 : K1 < N) (he1 : cw K1 = .inl (cs 0, 200, .inl f1)) (hk2 : K2 < N) (he2 : cw K2 = .inl (cs 0, 200, .inl f2)) (hk3 : K3 < N) (he3 : cw K3 = .inl (cs 0, 200, .inl f3)) (i what : Int32) (hi : 0 ≤ i ∧ i < nI z) (hq : 0 ≤ what ∧ what ≤ 3) : Met l y_S_part w_S_part ({ frames := 2, cells := 0, slots := 0, locals := 44 }) (va_Pc [.ref (bk K), .int i, .int what] (PB D classes (TY cs) N bk cw sz)) (vp_Si (fun r => r = if what = 0 then f1 i.toNatClampNeg else if what = 1 then f2 i.toNatClampNeg else if what = 2 then f3 i.toNatClampNeg else if i.toNatClampNeg + 1 < z then 1 else 0)) 0 0 (fun _ => False) := by
  obtain ⟨j, hj, rfl⟩ := ix_of hi (by omega)
  rw [nI_clamp (by omega)]
  exact c_S_part l D cs N bk cw sz K K1 K2 K3 hk z he hz f1 f2 f3 hk1 he1 hk2 he2 hk3 he3 j hj what hq
def s_X_told (z bo : Nat → Nat) (g q pp dd : Nat → Nat → Int32) (i : Int32) (what : Int32) : XS := (if (0 ≤ i ∧ i < nI (z 2)) ∧ 0 ≤ what ∧ what ≤ 1 then (if what = 0 then (q 5) (i).toNatClampNeg else (q 6) (i).toNatClampNeg, z, bo, g, q, pp, dd) else (-1, z, bo, g, q, pp, dd))
set_option maxHeartbeats 4000000 in
set_option maxRecDepth 100000 in
theorem c_X_told (l : Launch) (D : va_G) (cs : Nat → ClassId) (bk : Nat → Nat) (sz : Nat) (z bo : Nat → Nat) (g q pp dd : Nat → Nat → Int32) (hz2 : z 2 ≤ 100) (i what : Int32) : Met l y_X_told w_X_told ({ frames := 3, cells := 0, slots := 0, locals := 66 }) (va_Pc [.ref (bk (0)), .int (i), .int (what)] (PB D classes (TY cs) (27 + 4 * z 0) bk (CW cs z bo g q pp dd bk) sz)) (va_Qi (Xr cs bk (s_X_told z bo g q pp dd i what)) (Wd D classes (TY cs) (AA (27 + 4 * z 0) bk sz)) (AA (27 + 4 * z 0) bk sz)) 0 0 (AA (27 + 4 * z 0) bk sz) := by
  refine pw_entry (cc := b_X_told) (maxL := 3) (ret := (some .int)) (by decide +kernel) rfl (Nat.le_of_ble_eq_true rfl) ?_
  intro p_ e_ s m below_ meth_ c_ ls hx hb hr hml hts hown hlocks hin hsz hP hK hD hS hA hN hl
  have hw : ∀ w ∈ WA, w.before _ s = true := fun w h => hts w (List.mem_cons_of_mem _ h)
  have hown : s.vm.findClass "IssueRows" = some m.cls := hown
  have hl : lv_has ls 3 [(0, .ref (bk (0))), (1, .int (i)), (2, .int (what))] := hl
  refine lv_aload_n hx hb d_X_told_0 rfl (lv_at hl 0 rfl) ?_
  refine pw_get (ci := 0) (v := .ref (bk (7))) hx hb hw i_X hown hK hP (0) (by omega) rfl rfl 5 (by decide) (hw _ kF_X_37) rfl d_X_told_1 ?_
  refine lv_iload_n hx hb d_X_told_4 rfl (lv_at hl 1 rfl) ?_
  refine lv_iload_n hx hb d_X_told_5 rfl (lv_at hl 2 rfl) ?_
  refine pw_callSi (va_runV (As := [.int (i), .int (what)]) (rest := []) ⟨hx, hb, hml, hown, hw⟩ (c_P_has l D cs (27 + 4 * z 0) bk (CW cs z bo g q pp dd bk) s.heap.size (7) (8) (9) (by omega) (z 2) rfl 100 (by decide) (by omega) (q 5) (q 6) (by omega) rfl (by omega) rfl i what) (cw_V 2 hw kM_X_120 kI_P_has kV_P_has kZ_P kC_P_has rfl rfl ⟨rfl, by decide, by decide, by decide +kernel⟩ ⟨Nat.le_of_ble_eq_true rfl, Nat.le_of_ble_eq_true rfl⟩) (pw_preV hN hK hP hD (7) (by omega) rfl rfl) rfl rfl hl.1 rfl (lv_room (Nat.le_of_ble_eq_true rfl)) d_X_told_6 ⟨Nat.le_of_ble_eq_true rfl, Nat.le_of_ble_eq_true rfl⟩) (fun r_1 hr_1 => ?_)
  have hr_1 : r_1 = bI ((0 ≤ i ∧ i < nI (z 2)) ∧ 0 ≤ what ∧ what ≤ 1) := hr_1
  subst hr_1
  refine pw_ifeq (tgt := 24) hx hb d_X_told_9 (by decide) (fun c_2 => ?_) (fun c_2 => ?_)
  · have c_2 : ¬ ((0 ≤ i ∧ i < nI (z 2)) ∧ 0 ≤ what ∧ what ≤ 1) := c_2
    refine lv_iconst (v := -1) hx hb d_X_told_24 (by decide) ?_
    exact W.iret (v := -1) hx hb hr (fun t ht hW => ⟨⟨-1, (27 + 4 * z 0, bk, CW cs z bo g q pp dd bk), rfl, Xr_of (by rw [s_X_told, if_neg c_2]) rfl, by rw [ht]; exact hP, va_K.moved hW.alike hK, hD⟩, hS.F ht⟩) hS.2.2 d_X_told_25
  · have c_2 : (0 ≤ i ∧ i < nI (z 2)) ∧ 0 ≤ what ∧ what ≤ 1 := c_2
    refine lv_aload_n hx hb d_X_told_12 rfl (lv_at hl 0 rfl) ?_
    refine pw_get (ci := 0) (v := .ref (bk (7))) hx hb hw i_X hown hK hP (0) (by omega) rfl rfl 5 (by decide) (hw _ kF_X_37) rfl d_X_told_13 ?_
    refine lv_iload_n hx hb d_X_told_16 rfl (lv_at hl 1 rfl) ?_
    refine lv_iload_n hx hb d_X_told_17 rfl (lv_at hl 2 rfl) ?_
    refine pw_callSi (va_runV (As := [.int (i), .int (what)]) (rest := []) ⟨hx, hb, hml, hown, hw⟩ (c_P_partI l D cs (27 + 4 * z 0) bk (CW cs z bo g q pp dd bk) s.heap.size (7) (8) (9) (by omega) (z 2) rfl 100 (by decide) (by omega) (q 5) (q 6) (by omega) rfl (by omega) rfl i what c_2.1 c_2.2) (cw_V 2 hw kM_X_130 kI_P_part kV_P_part kZ_P kC_P_part rfl rfl ⟨rfl, by decide, by decide, by decide +kernel⟩ ⟨Nat.le_of_ble_eq_true rfl, Nat.le_of_ble_eq_true rfl⟩) (pw_preV hN hK hP hD (7) (by omega) rfl rfl) rfl rfl hl.1 rfl (lv_room (Nat.le_of_ble_eq_true rfl)) d_X_told_18 ⟨Nat.le_of_ble_eq_true rfl, Nat.le_of_ble_eq_true rfl⟩) (fun r_3 hr_3 => ?_)
    have hr_3 : r_3 = if what = 0 then (q 5) (i).toNatClampNeg else (q 6) (i).toNatClampNeg := hr_3
    subst hr_3
    refine lv_goto (tgt := 25) hx hb d_X_told_21 (by decide) ?_
    exact W.iret (v := if what = 0 then (q 5) (i).toNatClampNeg else (q 6) (i).toNatClampNeg) hx hb hr (fun t ht hW => ⟨⟨if what = 0 then (q 5) (i).toNatClampNeg else (q 6) (i).toNatClampNeg, (27 + 4 * z 0, bk, CW cs z bo g q pp dd bk), rfl, Xr_of (by rw [s_X_told, if_pos c_2]) rfl, by rw [ht]; exact hP, va_K.moved hW.alike hK, hD⟩, hS.F ht⟩) hS.2.2 d_X_told_25
def s_X_claimIfDue (z bo : Nat → Nat) (g q pp dd : Nat → Nat → Int32) (j : Nat) (p : Nat) (day : Int32) : XS := (if (((g j) 4) = 1 ∧ (q 0 p) ≤ day - ((g j) 2)) ∨ (((g j) 4) = 2 ∧ (q 1 p) ≤ day - ((g j) 6)) then (if (q 2 p) ≤ ((g j) 5) then (0, va_up z 2 (nz (z 2) 100), bo, va_up g j (upd (g j) 4 4), va_up (va_up q 5 (na (z 2) 100 (q 5) 3)) 6 (na (z 2) 100 (q 6) (nI j)), pp, dd) else (0, va_up z 1 (z 1 + 1), bo, va_up g j (upd (upd (upd (g j) 4 2) 5 (((g j) 5) + 1)) 6 day), va_up (va_up q 3 (upd (q 3) (z 1) (nI j))) 4 (upd (q 4) (z 1) (((g j) 5) + 1)), pp, dd)) else (0, z, bo, g, q, pp, dd))
set_option maxHeartbeats 4000000 in
set_option maxRecDepth 100000 in
theorem c_X_claimIfDue (l : Launch) (D : va_G) (cs : Nat → ClassId) (bk : Nat → Nat) (sz : Nat) (z bo : Nat → Nat) (g q pp dd : Nat → Nat → Int32) (hz1 : z 1 < 200) (hz2 : z 2 ≤ 100) (j : Nat) (hj : j < z 0) (p : Nat) (hp : p < 10) (hpa : g j 0 = nI p) (day : Int32) : Met l y_X_claimIfDue w_X_claimIfDue ({ frames := 1, cells := 0, slots := 0, locals := 22 }) (va_Pc [.ref (bk (0)), .ref (bk (27 + 4 * j)), .int (day)] (PB D classes (TY cs) (27 + 4 * z 0) bk (CW cs z bo g q pp dd bk) sz)) (va_Qv (Xv cs bk (s_X_claimIfDue z bo g q pp dd j p day)) (Wd D classes (TY cs) (AA (27 + 4 * z 0) bk sz)) (AA (27 + 4 * z 0) bk sz)) 0 0 (AA (27 + 4 * z 0) bk sz) := by
  refine pw_entry (cc := b_X_claimIfDue) (maxL := 4) (ret := none) (by decide +kernel) rfl (Nat.le_of_ble_eq_true rfl) ?_
  intro p_ e_ s m below_ meth_ c_ ls hx hb hr hml hts hown hlocks hin hsz hP hK hD hS hA hN hl
  have hw : ∀ w ∈ WA, w.before _ s = true := fun w h => hts w (List.mem_cons_of_mem _ h)
  have hown : s.vm.findClass "IssueRows" = some m.cls := hown
  have hl : lv_has ls 4 [(0, .ref (bk (0))), (1, .ref (bk (27 + 4 * j))), (2, .int (day))] := hl
  refine lv_aload_n hx hb d_X_claimIfDue_0 rfl (lv_at hl 0 rfl) ?_
  refine pw_get (ci := 0) (v := .ref (bk (1))) hx hb hw i_X hown hK hP (0) (by omega) rfl rfl 0 (by decide) (hw _ kF_X_11) rfl d_X_claimIfDue_1 ?_
  refine lv_aload_n hx hb d_X_claimIfDue_4 rfl (lv_at hl 1 rfl) ?_
  refine pw_get (ci := 2) (v := .int ((g j) 0)) hx hb hw i_I hown hK hP (27 + 4 * j) (by omega) (CW_iss j) rfl 1 (by decide) (hw _ kF_X_167) rfl d_X_claimIfDue_5 ?_
  rw [show (g j) 0 = nI p from hpa]
  refine pw_aldq hx hb hK hP 2 (1) (by omega) rfl rfl (p) rfl (by omega) (by decide) (r := bk (p + 17)) (if_pos hp) d_X_claimIfDue_8 ?_
  refine lv_astore_n (lv' := [(3, .ref (bk (p + 17))), (0, .ref (bk (0))), (1, .ref (bk (27 + 4 * j))), (2, .int (day))]) hx hb d_X_claimIfDue_9 rfl hl (by decide) rfl (fun ls hl => ?_)
  refine lv_aload_n hx hb d_X_claimIfDue_10 rfl (lv_at hl 0 rfl) ?_
  refine lv_aload_n hx hb d_X_claimIfDue_11 rfl (lv_at hl 2 rfl) ?_
  refine lv_iload_n hx hb d_X_claimIfDue_12 rfl (lv_at hl 3 rfl) ?_
  refine pw_callSi (va_runV (As := [.ref (bk (27 + 4 * j)), .int (day)]) (rest := []) ⟨hx, hb, hml, hown, hw⟩ (c_U_isDue l D cs (27 + 4 * z 0) bk (CW cs z bo g q pp dd bk) s.heap.size (27 + 4 * j) (28 + 4 * j) (by omega) (nI j) ((g j) 0) ((g j) 1) ((g j) 2) ((g j) 3) ((g j) 4) ((g j) 5) ((g j) 6) ((g j) 7) ((g j) 8) ((g j) 9) ((g j) 10) ((g j) 11) (CW_iss j) (p + 17) (by omega) (q 0 p) (q 1 p) (q 2 p) (CW_rul p hp) day) (cw_V 2 hw kM_X_213 kI_U_isDue kV_U_isDue kZ_U kC_U_isDue rfl rfl ⟨rfl, by decide, by decide, by decide +kernel⟩ ⟨Nat.le_of_ble_eq_true rfl, Nat.le_of_ble_eq_true rfl⟩) (pw_preV hN hK hP hD (p + 17) (by omega) (CW_rul p hp) rfl) rfl rfl hl.1 rfl (lv_room (Nat.le_of_ble_eq_true rfl)) d_X_claimIfDue_13 ⟨Nat.le_of_ble_eq_true rfl, Nat.le_of_ble_eq_true rfl⟩) (fun r_1 hr_1 => ?_)
  have hr_1 : r_1 = bI ((((g j) 4) = 1 ∧ (q 0 p) ≤ day - ((g j) 2)) ∨ (((g j) 4) = 2 ∧ (q 1 p) ≤ day - ((g j) 6))) := hr_1
  subst hr_1
  refine pw_ifne (tgt := 20) hx hb d_X_claimIfDue_16 (by decide) (fun c_2 => ?_) (fun c_2 => ?_)
  · have c_2 : (((g j) 4) = 1 ∧ (q 0 p) ≤ day - ((g j) 2)) ∨ (((g j) 4) = 2 ∧ (q 1 p) ≤ day - ((g j) 6)) := c_2
    refine lv_aload_n hx hb d_X_claimIfDue_20 rfl (lv_at hl 2 rfl) ?_
    refine pw_get (ci := 2) (v := .int ((g j) 5)) hx hb hw i_I hown hK hP (27 + 4 * j) (by omega) (CW_iss j) rfl 7 (by decide) (hw _ kF_X_217) rfl d_X_claimIfDue_21 ?_
    refine lv_aload_n hx hb d_X_claimIfDue_24 rfl (lv_at hl 0 rfl) ?_
    refine pw_get (ci := 1) (v := .int (q 2 p)) hx hb hw i_U hown hK hP (p + 17) (by omega) (CW_rul p hp) rfl 2 (by decide) (hw _ kF_X_69) rfl d_X_claimIfDue_25 ?_
    refine lv_icmp_ge (tgt := 54) hx hb d_X_claimIfDue_28 (by decide) (fun c_3 => ?_) (fun c_3 => ?_)
    · have c_3 : (q 2 p) ≤ ((g j) 5) := c_3
      refine lv_aload_n hx hb d_X_claimIfDue_54 rfl (lv_at hl 2 rfl) ?_
      refine lv_iconst (v := 4) hx hb d_X_claimIfDue_55 (by decide) ?_
      refine pw_put (ci := 2) (v := .int (4)) (ty := .int) (fs' := [.int (nI j), .int ((g j) 0), .int ((g j) 1), .int ((g j) 2), .int ((g j) 3), .ref (bk (28 + 4 * j)), .int (4), .int ((g j) 5), .int ((g j) 6), .int ((g j) 7), .int ((g j) 8), .int ((g j) 9), .int ((g j) 10), .int ((g j) 11)]) hx hb hw i_I t_I t_I_ok n_I hown hK hP hD hS (27 + 4 * j) (by omega) (CW_iss j) rfl 6 (by decide) (hw _ kF_X_97) rfl (t_I_ok 6 (by decide)) rfl rfl (Nat.le_of_ble_eq_true rfl) rfl d_X_claimIfDue_56 (fun cw_4 H locs ecw_4 hP hD hS => ?_)
      obtain rfl : cw_4 = CW cs z bo (va_up g j (upd (g j) 4 4)) q pp dd bk := by rw [ecw_4]; exact (CW_setI j (upd (g j) 4 4) rfl rfl rfl)
      refine lv_aload_n hx hb d_X_claimIfDue_59 rfl (lv_at hl 1 rfl) ?_
      refine pw_get (ci := 0) (v := .ref (bk (7))) hx hb hw i_X hown hK hP (0) (by omega) rfl rfl 5 (by decide) (hw _ kF_X_37) rfl d_X_claimIfDue_60 ?_
      refine lv_iconst (v := 3) hx hb d_X_claimIfDue_63 (by decide) ?_
      refine lv_aload_n hx hb d_X_claimIfDue_64 rfl (lv_at hl 2 rfl) ?_
      refine pw_get (ci := 2) (v := .int (nI j)) hx hb hw i_I hown hK hP (27 + 4 * j) (by omega) (CW_issU j) rfl 0 (by decide) (hw _ kF_X_86) rfl d_X_claimIfDue_65 ?_
      refine pw_callv (va_runV (As := [.int (3), .int (nI j)]) (rest := []) ⟨hx, hb, hml, hown, hw⟩ (c_P_add l D cs (27 + 4 * z 0) bk (CW cs z bo (va_up g j (upd (g j) 4 4)) q pp dd bk) H.size (7) (8) (9) (by omega) (z 2) rfl 100 (by decide) (by omega) (q 5) (q 6) (by omega) rfl (by omega) rfl (by decide) (by decide) (by decide) 3 (nI j)) (cw_V 2 hw kM_X_100 kI_P_add kV_P_add kZ_P kC_P_add rfl rfl ⟨rfl, by decide, by decide, by decide +kernel⟩ ⟨Nat.le_of_ble_eq_true rfl, Nat.le_of_ble_eq_true rfl⟩) (pw_preV hN hK hP hD (7) (by omega) rfl rfl) rfl rfl hl.1 rfl (lv_room (Nat.le_of_ble_eq_true rfl)) d_X_claimIfDue_68 ⟨Nat.le_of_ble_eq_true rfl, Nat.le_of_ble_eq_true rfl⟩) hS (wl_free hD hS hA) (fun N1 bk1 cw1 H locs hu hP hD hS => ?_)
      have hP := wl_eqP (CW_note hu) hP
      have hD := wl_eqD (CW_note hu) hD
      exact W.vret hx hb hr (fun t ht hW => ⟨⟨(27 + 4 * z 0, bk, CW cs (va_up z 2 (nz (z 2) 100)) bo (va_up g j (upd (g j) 4 4)) (va_up (va_up q 5 (na (z 2) 100 (q 5) 3)) 6 (na (z 2) 100 (q 6) (nI j))) pp dd bk), rfl, Xv_of (r := 0) (by rw [s_X_claimIfDue, if_pos c_2, if_pos c_3]) rfl, by rw [ht]; exact hP, va_K.moved hW.alike hK, hD⟩, hS.F ht⟩) hS.2.2 d_X_claimIfDue_71
    · have c_3 : ¬ (q 2 p) ≤ ((g j) 5) := c_3
      refine lv_aload_n hx hb d_X_claimIfDue_31 rfl (lv_at hl 2 rfl) ?_
      refine lv_iload_n hx hb d_X_claimIfDue_32 rfl (lv_at hl 3 rfl) ?_
      refine pw_callv (va_runV (As := [.int (day)]) (rest := []) ⟨hx, hb, hml, hown, hw⟩ (c_I_claimOn l D cs (27 + 4 * z 0) bk (CW cs z bo g q pp dd bk) s.heap.size (27 + 4 * j) (28 + 4 * j) (by omega) (nI j) ((g j) 0) ((g j) 1) ((g j) 2) ((g j) 3) ((g j) 4) ((g j) 5) ((g j) 6) ((g j) 7) ((g j) 8) ((g j) 9) ((g j) 10) ((g j) 11) (CW_iss j) day) (cw_V 1 hw kM_X_220 kI_I_claimOn kV_I_claimOn kZ_I kC_I_claimOn rfl rfl ⟨rfl, by decide, by decide, by decide +kernel⟩ ⟨Nat.le_of_ble_eq_true rfl, Nat.le_of_ble_eq_true rfl⟩) (pw_preV hN hK hP hD (27 + 4 * j) (by omega) (CW_iss j) rfl) rfl rfl hl.1 rfl (lv_room (Nat.le_of_ble_eq_true rfl)) d_X_claimIfDue_33 ⟨Nat.le_of_ble_eq_true rfl, Nat.le_of_ble_eq_true rfl⟩) hS (wl_free hD hS hA) (fun N1 bk1 cw1 H locs hu hP hD hS => ?_)
      have hP : va_P D classes (wl (27 + 4 * z 0) bk (CW cs z bo (va_up g j (upd (upd (upd (g j) 4 2) 5 (((g j) 5) + 1)) 6 day)) q pp dd bk)) H := wl_eqP2 hu (CW_setI j (upd (upd (upd (g j) 4 2) 5 (((g j) 5) + 1)) 6 day) rfl rfl rfl) hP
      have hD : va_D (AA (27 + 4 * z 0) bk sz) (wl (27 + 4 * z 0) bk (CW cs z bo (va_up g j (upd (upd (upd (g j) 4 2) 5 (((g j) 5) + 1)) 6 day)) q pp dd bk)) := wl_eqD2 hu (CW_setI j (upd (upd (upd (g j) 4 2) 5 (((g j) 5) + 1)) 6 day) rfl rfl rfl) hD
      refine lv_aload_n hx hb d_X_claimIfDue_36 rfl (lv_at hl 1 rfl) ?_
      refine pw_get (ci := 0) (v := .ref (bk (4))) hx hb hw i_X hown hK hP (0) (by omega) rfl rfl 4 (by decide) (hw _ kF_X_33) rfl d_X_claimIfDue_37 ?_
      refine lv_aload_n hx hb d_X_claimIfDue_40 rfl (lv_at hl 2 rfl) ?_
      refine pw_get (ci := 2) (v := .int (nI j)) hx hb hw i_I hown hK hP (27 + 4 * j) (by omega) (CW_issU j) rfl 0 (by decide) (hw _ kF_X_86) rfl d_X_claimIfDue_41 ?_
      refine lv_aload_n hx hb d_X_claimIfDue_44 rfl (lv_at hl 2 rfl) ?_
      refine pw_get (ci := 2) (v := .int (((g j) 5) + 1)) hx hb hw i_I hown hK hP (27 + 4 * j) (by omega) (CW_issU j) rfl 7 (by decide) (hw _ kF_X_217) rfl d_X_claimIfDue_45 ?_
      refine pw_callv (va_runV (As := [.int (nI j), .int (((g j) 5) + 1)]) (rest := []) ⟨hx, hb, hml, hown, hw⟩ (c_P_add l D cs (27 + 4 * z 0) bk (CW cs z bo (va_up g j (upd (upd (upd (g j) 4 2) 5 (((g j) 5) + 1)) 6 day)) q pp dd bk) H.size (4) (5) (6) (by omega) (z 1) rfl 200 (by decide) (by omega) (q 3) (q 4) (by omega) rfl (by omega) rfl (by decide) (by decide) (by decide) (nI j) (((g j) 5) + 1)) (cw_V 2 hw kM_X_100 kI_P_add kV_P_add kZ_P kC_P_add rfl rfl ⟨rfl, by decide, by decide, by decide +kernel⟩ ⟨Nat.le_of_ble_eq_true rfl, Nat.le_of_ble_eq_true rfl⟩) (pw_preV hN hK hP hD (4) (by omega) rfl rfl) rfl rfl hl.1 rfl (lv_room (Nat.le_of_ble_eq_true rfl)) d_X_claimIfDue_48 ⟨Nat.le_of_ble_eq_true rfl, Nat.le_of_ble_eq_true rfl⟩) hS (wl_free hD hS hA) (fun N1 bk1 cw1 H locs hu hP hD hS => ?_)
      have hP : va_P D classes (wl (27 + 4 * z 0) bk (CW cs (va_up z 1 (z 1 + 1)) bo (va_up g j (upd (upd (upd (g j) 4 2) 5 (((g j) 5) + 1)) 6 day)) (va_up (va_up q 3 (upd (q 3) (z 1) (nI j))) 4 (upd (q 4) (z 1) (((g j) 5) + 1))) pp dd bk)) H := wl_eqP2 (hu.1 (by omega)) (by rw [CW_set5, CW_set6, CW_set4]) hP
      have hD : va_D (AA (27 + 4 * z 0) bk sz) (wl (27 + 4 * z 0) bk (CW cs (va_up z 1 (z 1 + 1)) bo (va_up g j (upd (upd (upd (g j) 4 2) 5 (((g j) 5) + 1)) 6 day)) (va_up (va_up q 3 (upd (q 3) (z 1) (nI j))) 4 (upd (q 4) (z 1) (((g j) 5) + 1))) pp dd bk)) := wl_eqD2 (hu.1 (by omega)) (by rw [CW_set5, CW_set6, CW_set4]) hD
      refine lv_goto (tgt := 71) hx hb d_X_claimIfDue_51 (by decide) ?_
      exact W.vret hx hb hr (fun t ht hW => ⟨⟨(27 + 4 * z 0, bk, CW cs (va_up z 1 (z 1 + 1)) bo (va_up g j (upd (upd (upd (g j) 4 2) 5 (((g j) 5) + 1)) 6 day)) (va_up (va_up q 3 (upd (q 3) (z 1) (nI j))) 4 (upd (q 4) (z 1) (((g j) 5) + 1))) pp dd bk), rfl, Xv_of (r := 0) (by rw [s_X_claimIfDue, if_pos c_2, if_neg c_3]) rfl, by rw [ht]; exact hP, va_K.moved hW.alike hK, hD⟩, hS.F ht⟩) hS.2.2 d_X_claimIfDue_71
  · have c_2 : ¬ ((((g j) 4) = 1 ∧ (q 0 p) ≤ day - ((g j) 2)) ∨ (((g j) 4) = 2 ∧ (q 1 p) ≤ day - ((g j) 6))) := c_2
    exact W.vret hx hb hr (fun t ht hW => ⟨⟨(27 + 4 * z 0, bk, CW cs z bo g q pp dd bk), rfl, Xv_of (r := 0) (by rw [s_X_claimIfDue, if_neg c_2]) rfl, by rw [ht]; exact hP, va_K.moved hW.alike hK, hD⟩, hS.F ht⟩) hS.2.2 d_X_claimIfDue_19

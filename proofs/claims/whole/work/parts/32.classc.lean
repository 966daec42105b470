def s_X_checkIn_out (z bo : Nat → Nat) (g q pp dd : Nat → Nat → Int32) (x : Int32) (cp : Int32) (day : Int32) : XS := (-1, z, bo, g, q, pp, dd)
set_option maxHeartbeats 4000000 in
set_option maxRecDepth 100000 in
theorem c_X_checkIn_out (l : Launch) (D : va_G) (cs : Nat → ClassId) (bk : Nat → Nat) (sz : Nat) (z bo : Nat → Nat) (g q pp dd : Nat → Nat → Int32) (hz0 : z 0 ≤ 200) (x : Int32) (ho : ¬ (0 ≤ x ∧ x < nI (z 0))) (cp day : Int32) : Met l y_X_checkIn w_X_checkIn ({ frames := 2, cells := 0, slots := 0, locals := 43 }) (va_Pc [.ref (bk (0)), .int (x), .int (cp), .int (day)] (PB D classes (TY cs) (27 + 4 * z 0) bk (CW cs z bo g q pp dd bk) sz)) (va_Qi (Xr cs bk (s_X_checkIn_out z bo g q pp dd x cp day)) (Wd D classes (TY cs) (AA (27 + 4 * z 0) bk sz)) (AA (27 + 4 * z 0) bk sz)) 0 0 (AA (27 + 4 * z 0) bk sz) := by
  refine pw_entry (cc := b_X_checkIn) (maxL := 6) (ret := (some .int)) (by decide +kernel) rfl (Nat.le_of_ble_eq_true rfl) ?_
  intro p_ e_ s m below_ meth_ c_ ls hx hb hr hml hts hown hlocks hin hsz hP hK hD hS hA hN hl
  have hw : ∀ w ∈ WA, w.before _ s = true := fun w h => hts w (List.mem_cons_of_mem _ h)
  have hown : s.vm.findClass "IssueRows" = some m.cls := hown
  have hl : lv_has ls 6 [(0, .ref (bk (0))), (1, .int (x)), (2, .int (cp)), (3, .int (day))] := hl
  refine lv_aload_n hx hb d_X_checkIn_0 rfl (lv_at hl 0 rfl) ?_
  refine lv_iload_n hx hb d_X_checkIn_1 rfl (lv_at hl 1 rfl) ?_
  refine pw_callSq (va_runV (As := [.int (x)]) (rest := []) ⟨hx, hb, hml, hown, hw⟩ (c_X_find_out l D cs bk s.heap.size z bo g q pp dd hz0 x ho) (cw_V 1 hw kM_X_89 kI_X_find kV_X_find kZ_X kC_X_find rfl rfl ⟨rfl, by decide, by decide, by decide +kernel⟩ ⟨Nat.le_of_ble_eq_true rfl, Nat.le_of_ble_eq_true rfl⟩) (pw_preV hN hK hP hD (0) (by omega) rfl rfl) rfl rfl hl.1 rfl (lv_room (Nat.le_of_ble_eq_true rfl)) d_X_checkIn_2 ⟨Nat.le_of_ble_eq_true rfl, Nat.le_of_ble_eq_true rfl⟩) (fun r_1 hr_1 => ?_)
  have hr_1 : r_1 = none := hr_1
  subst hr_1
  refine W.eq (g2 := F0 m 5 ls [.null]) rfl ?_
  refine lv_astoreN (lv' := [(4, .null), (0, .ref (bk (0))), (1, .int (x)), (2, .int (cp)), (3, .int (day))]) hx hb d_X_checkIn_5 hl (by decide) rfl (fun ls hl => ?_)
  refine lv_aloadN hx hb d_X_checkIn_7 (lv_at hl 0 rfl) ?_
  refine lv_ifnonnullN hx hb d_X_checkIn_9 ?_
  refine lv_iconst (v := -1) hx hb d_X_checkIn_12 (by decide) ?_
  exact W.iret (v := -1) hx hb hr (fun t ht hW => ⟨⟨-1, (27 + 4 * z 0, bk, CW cs z bo g q pp dd bk), rfl, Xr_of (by rw [s_X_checkIn_out]) rfl, by rw [ht]; exact hP, va_K.moved hW.alike hK, hD⟩, hS.F ht⟩) hS.2.2 d_X_checkIn_13
def s_X_checkIn (z bo : Nat → Nat) (g q pp dd : Nat → Nat → Int32) (j : Nat) (cp : Int32) (day : Int32) : XS := (if 1 ≤ cp ∧ cp ≤ 99 then (if 0 ≤ day ∧ day ≤ 1000000 then (if ((g j) 4) = 0 ∨ ((g j) 4) = 1 ∨ ((g j) 4) = 2 ∨ ((g j) 4) = 4 then (if ((g j) 4) = 0 then (0, va_up z 2 (nz (z 2) 100), bo, va_up g j (upd (upd (upd (g j) 4 3) 7 cp) 8 day), va_up (va_up q 5 (na (z 2) 100 (q 5) 1)) 6 (na (z 2) 100 (q 6) (nI j)), pp, dd) else (if ((g j) 4) = 4 then (1, va_up z 2 (nz (z 2) 100), bo, va_up g j (upd (upd (upd (g j) 4 3) 7 cp) 8 day), va_up (va_up q 5 (na (z 2) 100 (q 5) 2)) 6 (na (z 2) 100 (q 6) (nI j)), pp, dd) else (if day ≤ ((g j) 2) then (1, z, bo, va_up g j (upd (upd (upd (g j) 4 3) 7 cp) 8 day), q, pp, dd) else (1, va_up z 2 (nz (z 2) 100), bo, va_up g j (upd (upd (upd (g j) 4 3) 7 cp) 8 day), va_up (va_up q 5 (na (z 2) 100 (q 5) 2)) 6 (na (z 2) 100 (q 6) (nI j)), pp, dd)))) else (-3, z, bo, g, q, pp, dd)) else (-2, z, bo, g, q, pp, dd)) else (-2, z, bo, g, q, pp, dd))
set_option maxHeartbeats 4000000 in
set_option maxRecDepth 100000 in
theorem c_X_checkIn (l : Launch) (D : va_G) (cs : Nat → ClassId) (bk : Nat → Nat) (sz : Nat) (z bo : Nat → Nat) (g q pp dd : Nat → Nat → Int32) (hz0 : z 0 ≤ 200) (j : Nat) (hj : j < z 0) (hz2 : z 2 ≤ 100) (cp day : Int32) : Met l y_X_checkIn w_X_checkIn ({ frames := 2, cells := 0, slots := 0, locals := 43 }) (va_Pc [.ref (bk (0)), .int (nI j), .int (cp), .int (day)] (PB D classes (TY cs) (27 + 4 * z 0) bk (CW cs z bo g q pp dd bk) sz)) (va_Qi (Xr cs bk (s_X_checkIn z bo g q pp dd j cp day)) (Wd D classes (TY cs) (AA (27 + 4 * z 0) bk sz)) (AA (27 + 4 * z 0) bk sz)) 0 0 (AA (27 + 4 * z 0) bk sz) := by
  refine pw_entry (cc := b_X_checkIn) (maxL := 6) (ret := (some .int)) (by decide +kernel) rfl (Nat.le_of_ble_eq_true rfl) ?_
  intro p_ e_ s m below_ meth_ c_ ls hx hb hr hml hts hown hlocks hin hsz hP hK hD hS hA hN hl
  have hw : ∀ w ∈ WA, w.before _ s = true := fun w h => hts w (List.mem_cons_of_mem _ h)
  have hown : s.vm.findClass "IssueRows" = some m.cls := hown
  have hl : lv_has ls 6 [(0, .ref (bk (0))), (1, .int (nI j)), (2, .int (cp)), (3, .int (day))] := hl
  refine lv_aload_n hx hb d_X_checkIn_0 rfl (lv_at hl 0 rfl) ?_
  refine lv_iload_n hx hb d_X_checkIn_1 rfl (lv_at hl 1 rfl) ?_
  refine pw_callSq (va_runV (As := [.int (nI j)]) (rest := []) ⟨hx, hb, hml, hown, hw⟩ (c_X_find l D cs bk s.heap.size z bo g q pp dd hz0 j hj) (cw_V 1 hw kM_X_89 kI_X_find kV_X_find kZ_X kC_X_find rfl rfl ⟨rfl, by decide, by decide, by decide +kernel⟩ ⟨Nat.le_of_ble_eq_true rfl, Nat.le_of_ble_eq_true rfl⟩) (pw_preV hN hK hP hD (0) (by omega) rfl rfl) rfl rfl hl.1 rfl (lv_room (Nat.le_of_ble_eq_true rfl)) d_X_checkIn_2 ⟨Nat.le_of_ble_eq_true rfl, Nat.le_of_ble_eq_true rfl⟩) (fun r_1 hr_1 => ?_)
  have hr_1 : r_1 = some (bk (27 + 4 * j)) := hr_1
  subst hr_1
  refine W.eq (g2 := F0 m 5 ls [.ref (bk (27 + 4 * j))]) rfl ?_
  refine lv_astore (lv' := [(4, .ref (bk (27 + 4 * j))), (0, .ref (bk (0))), (1, .int (nI j)), (2, .int (cp)), (3, .int (day))]) hx hb d_X_checkIn_5 hl (by decide) rfl (fun ls hl => ?_)
  refine lv_aload hx hb d_X_checkIn_7 (lv_at hl 0 rfl) ?_
  refine lv_ifnonnull (tgt := 14) hx hb d_X_checkIn_9 (by decide) ?_
  refine lv_iload_n hx hb d_X_checkIn_14 rfl (lv_at hl 3 rfl) ?_
  refine lv_iconst (v := 1) hx hb d_X_checkIn_15 (by decide) ?_
  refine lv_bipush (v := 99) hx hb d_X_checkIn_16 (by decide) ?_
  refine pw_callSi (va_runS (As := [.int (cp), .int (1), .int (99)]) (rest := []) ⟨hx, hb, hml, hown, hw⟩ (c_X_within l D cs (27 + 4 * z 0) bk (CW cs z bo g q pp dd bk) s.heap.size cp 1 99) (cw_S 3 hw kM_X_59 kS_X_within kZ_X kC_X_within rfl rfl ⟨rfl, by decide, by decide, by decide +kernel⟩ ⟨Nat.le_of_ble_eq_true rfl, Nat.le_of_ble_eq_true rfl⟩) (pw_preS hN hK hP hD) rfl rfl hl.1 rfl (lv_room (Nat.le_of_ble_eq_true rfl)) d_X_checkIn_18 ⟨Nat.le_of_ble_eq_true rfl, Nat.le_of_ble_eq_true rfl⟩) (fun r_2 hr_2 => ?_)
  have hr_2 : r_2 = bI (1 ≤ cp ∧ cp ≤ 99) := hr_2
  subst hr_2
  refine pw_ifeq (tgt := 31) hx hb d_X_checkIn_21 (by decide) (fun c_3 => ?_) (fun c_3 => ?_)
  · have c_3 : ¬ (1 ≤ cp ∧ cp ≤ 99) := c_3
    refine lv_bipush (v := -2) hx hb d_X_checkIn_31 (by decide) ?_
    exact W.iret (v := -2) hx hb hr (fun t ht hW => ⟨⟨-2, (27 + 4 * z 0, bk, CW cs z bo g q pp dd bk), rfl, Xr_of (by rw [s_X_checkIn, if_neg c_3]) rfl, by rw [ht]; exact hP, va_K.moved hW.alike hK, hD⟩, hS.F ht⟩) hS.2.2 d_X_checkIn_33
  · have c_3 : 1 ≤ cp ∧ cp ≤ 99 := c_3
    refine lv_iload_n hx hb d_X_checkIn_24 rfl (lv_at hl 4 rfl) ?_
    refine pw_callSi (va_runS (As := [.int (day)]) (rest := []) ⟨hx, hb, hml, hown, hw⟩ (c_X_isDay l D cs (27 + 4 * z 0) bk (CW cs z bo g q pp dd bk) s.heap.size day) (cw_S 1 hw kM_X_72 kS_X_isDay kZ_X kC_X_isDay rfl rfl ⟨rfl, by decide, by decide, by decide +kernel⟩ ⟨Nat.le_of_ble_eq_true rfl, Nat.le_of_ble_eq_true rfl⟩) (pw_preS hN hK hP hD) rfl rfl hl.1 rfl (lv_room (Nat.le_of_ble_eq_true rfl)) d_X_checkIn_25 ⟨Nat.le_of_ble_eq_true rfl, Nat.le_of_ble_eq_true rfl⟩) (fun r_4 hr_4 => ?_)
    have hr_4 : r_4 = bI (0 ≤ day ∧ day ≤ 1000000) := hr_4
    subst hr_4
    refine pw_ifne (tgt := 34) hx hb d_X_checkIn_28 (by decide) (fun c_5 => ?_) (fun c_5 => ?_)
    · have c_5 : 0 ≤ day ∧ day ≤ 1000000 := c_5
      refine lv_aload hx hb d_X_checkIn_34 (lv_at hl 0 rfl) ?_
      refine pw_callSi (va_runV (As := []) (rest := []) ⟨hx, hb, hml, hown, hw⟩ (c_I_isAwaited l D cs (27 + 4 * z 0) bk (CW cs z bo g q pp dd bk) s.heap.size (27 + 4 * j) (28 + 4 * j) (by omega) (nI j) ((g j) 0) ((g j) 1) ((g j) 2) ((g j) 3) ((g j) 4) ((g j) 5) ((g j) 6) ((g j) 7) ((g j) 8) ((g j) 9) ((g j) 10) ((g j) 11) (CW_iss j)) (cw_V 0 hw kM_X_93 kI_I_isAwaited kV_I_isAwaited kZ_I kC_I_isAwaited rfl rfl ⟨rfl, by decide, by decide, by decide +kernel⟩ ⟨Nat.le_of_ble_eq_true rfl, Nat.le_of_ble_eq_true rfl⟩) (pw_preV hN hK hP hD (27 + 4 * j) (by omega) (CW_iss j) rfl) rfl rfl hl.1 rfl (lv_room (Nat.le_of_ble_eq_true rfl)) d_X_checkIn_36 ⟨Nat.le_of_ble_eq_true rfl, Nat.le_of_ble_eq_true rfl⟩) (fun r_6 hr_6 => ?_)
      have hr_6 : r_6 = bI (((g j) 4) = 0 ∨ ((g j) 4) = 1 ∨ ((g j) 4) = 2 ∨ ((g j) 4) = 4) := hr_6
      subst hr_6
      refine pw_ifne (tgt := 45) hx hb d_X_checkIn_39 (by decide) (fun c_7 => ?_) (fun c_7 => ?_)
      · have c_7 : ((g j) 4) = 0 ∨ ((g j) 4) = 1 ∨ ((g j) 4) = 2 ∨ ((g j) 4) = 4 := c_7
        refine lv_aload hx hb d_X_checkIn_45 (lv_at hl 0 rfl) ?_
        refine pw_get (ci := 2) (v := .int ((g j) 4)) hx hb hw i_I hown hK hP (27 + 4 * j) (by omega) (CW_iss j) rfl 6 (by decide) (hw _ kF_X_97) rfl d_X_checkIn_47 ?_
        refine lv_if_ne (tgt := 57) hx hb d_X_checkIn_50 (by decide) (fun c_8 => ?_) (fun c_8 => ?_)
        · have c_8 : ¬ ((g j) 4) = 0 := c_8
          refine lv_iconst (v := 0) hx hb d_X_checkIn_57 (by decide) ?_
          refine lv_istore (lv' := [(5, .int (0)), (4, .ref (bk (27 + 4 * j))), (0, .ref (bk (0))), (1, .int (nI j)), (2, .int (cp)), (3, .int (day))]) hx hb d_X_checkIn_58 hl (by decide) rfl (fun ls hl => ?_)
          refine lv_iload hx hb d_X_checkIn_60 (lv_at hl 0 rfl) ?_
          refine lv_if_eq (tgt := 81) hx hb d_X_checkIn_62 (by decide) (fun c_9 => ?_) (fun c_9 => ?_)
          · skip
            refine lv_aload hx hb d_X_checkIn_81 (lv_at hl 1 rfl) ?_
            refine pw_get (ci := 2) (v := .int ((g j) 4)) hx hb hw i_I hown hK hP (27 + 4 * j) (by omega) (CW_iss j) rfl 6 (by decide) (hw _ kF_X_97) rfl d_X_checkIn_83 ?_
            refine lv_iconst (v := 4) hx hb d_X_checkIn_86 (by decide) ?_
            refine lv_icmp_eq (tgt := 99) hx hb d_X_checkIn_87 (by decide) (fun c_10 => ?_) (fun c_10 => ?_)
            · have c_10 : ((g j) 4) = 4 := c_10
              refine lv_aload_n hx hb d_X_checkIn_99 rfl (lv_at hl 2 rfl) ?_
              refine pw_get (ci := 0) (v := .ref (bk (7))) hx hb hw i_X hown hK hP (0) (by omega) rfl rfl 5 (by decide) (hw _ kF_X_37) rfl d_X_checkIn_100 ?_
              refine lv_iconst (v := 2) hx hb d_X_checkIn_103 (by decide) ?_
              refine lv_aload hx hb d_X_checkIn_104 (lv_at hl 1 rfl) ?_
              refine pw_get (ci := 2) (v := .int (nI j)) hx hb hw i_I hown hK hP (27 + 4 * j) (by omega) (CW_iss j) rfl 0 (by decide) (hw _ kF_X_86) rfl d_X_checkIn_106 ?_
              refine pw_callv (va_runV (As := [.int (2), .int (nI j)]) (rest := []) ⟨hx, hb, hml, hown, hw⟩ (c_P_add l D cs (27 + 4 * z 0) bk (CW cs z bo g q pp dd bk) s.heap.size (7) (8) (9) (by omega) (z 2) rfl 100 (by decide) (by omega) (q 5) (q 6) (by omega) rfl (by omega) rfl (by decide) (by decide) (by decide) 2 (nI j)) (cw_V 2 hw kM_X_100 kI_P_add kV_P_add kZ_P kC_P_add rfl rfl ⟨rfl, by decide, by decide, by decide +kernel⟩ ⟨Nat.le_of_ble_eq_true rfl, Nat.le_of_ble_eq_true rfl⟩) (pw_preV hN hK hP hD (7) (by omega) rfl rfl) rfl rfl hl.1 rfl (lv_room (Nat.le_of_ble_eq_true rfl)) d_X_checkIn_109 ⟨Nat.le_of_ble_eq_true rfl, Nat.le_of_ble_eq_true rfl⟩) hS (wl_free hD hS hA) (fun N1 bk1 cw1 H locs hu hP hD hS => ?_)
              have hP := wl_eqP (CW_note hu) hP
              have hD := wl_eqD (CW_note hu) hD
              refine lv_aload hx hb d_X_checkIn_112 (lv_at hl 1 rfl) ?_
              refine lv_iload_n hx hb d_X_checkIn_114 rfl (lv_at hl 4 rfl) ?_
              refine lv_iload_n hx hb d_X_checkIn_115 rfl (lv_at hl 5 rfl) ?_
              refine pw_callv (va_runV (As := [.int (cp), .int (day)]) (rest := []) ⟨hx, hb, hml, hown, hw⟩ (c_I_arrive l D cs (27 + 4 * z 0) bk (CW cs (va_up z 2 (nz (z 2) 100)) bo g (va_up (va_up q 5 (na (z 2) 100 (q 5) 2)) 6 (na (z 2) 100 (q 6) (nI j))) pp dd bk) H.size (27 + 4 * j) (28 + 4 * j) (by omega) (nI j) ((g j) 0) ((g j) 1) ((g j) 2) ((g j) 3) ((g j) 4) ((g j) 5) ((g j) 6) ((g j) 7) ((g j) 8) ((g j) 9) ((g j) 10) ((g j) 11) (CW_iss j) cp day) (cw_V 2 hw kM_X_107 kI_I_arrive kV_I_arrive kZ_I kC_I_arrive rfl rfl ⟨rfl, by decide, by decide, by decide +kernel⟩ ⟨Nat.le_of_ble_eq_true rfl, Nat.le_of_ble_eq_true rfl⟩) (pw_preV hN hK hP hD (27 + 4 * j) (by omega) (CW_iss j) rfl) rfl rfl hl.1 rfl (lv_room (Nat.le_of_ble_eq_true rfl)) d_X_checkIn_116 ⟨Nat.le_of_ble_eq_true rfl, Nat.le_of_ble_eq_true rfl⟩) hS (wl_free hD hS hA) (fun N1 bk1 cw1 H locs hu hP hD hS => ?_)
              have hP : va_P D classes (wl (27 + 4 * z 0) bk (CW cs (va_up z 2 (nz (z 2) 100)) bo (va_up g j (upd (upd (upd (g j) 4 3) 7 cp) 8 day)) (va_up (va_up q 5 (na (z 2) 100 (q 5) 2)) 6 (na (z 2) 100 (q 6) (nI j))) pp dd bk)) H := wl_eqP2 hu (CW_setI j (upd (upd (upd (g j) 4 3) 7 cp) 8 day) rfl rfl rfl) hP
              have hD : va_D (AA (27 + 4 * z 0) bk sz) (wl (27 + 4 * z 0) bk (CW cs (va_up z 2 (nz (z 2) 100)) bo (va_up g j (upd (upd (upd (g j) 4 3) 7 cp) 8 day)) (va_up (va_up q 5 (na (z 2) 100 (q 5) 2)) 6 (na (z 2) 100 (q 6) (nI j))) pp dd bk)) := wl_eqD2 hu (CW_setI j (upd (upd (upd (g j) 4 3) 7 cp) 8 day) rfl rfl rfl) hD
              refine lv_iload hx hb d_X_checkIn_119 (lv_at hl 0 rfl) ?_
              refine lv_if_eq (tgt := 128) hx hb d_X_checkIn_121 (by decide) (fun c_11 => ?_) (fun c_11 => ?_)
              · skip
                refine lv_iconst (v := 1) hx hb d_X_checkIn_128 (by decide) ?_
                exact W.iret (v := 1) hx hb hr (fun t ht hW => ⟨⟨1, (27 + 4 * z 0, bk, CW cs (va_up z 2 (nz (z 2) 100)) bo (va_up g j (upd (upd (upd (g j) 4 3) 7 cp) 8 day)) (va_up (va_up q 5 (na (z 2) 100 (q 5) 2)) 6 (na (z 2) 100 (q 6) (nI j))) pp dd bk), rfl, Xr_of (by rw [s_X_checkIn, if_pos c_3, if_pos c_5, if_pos c_7, if_neg c_8, if_pos c_10]) rfl, by rw [ht]; exact hP, va_K.moved hW.alike hK, hD⟩, hS.F ht⟩) hS.2.2 d_X_checkIn_129
              · exact absurd c_11 (by decide)
            · have c_10 : ¬ ((g j) 4) = 4 := c_10
              refine lv_iload_n hx hb d_X_checkIn_90 rfl (lv_at hl 5 rfl) ?_
              refine lv_aload hx hb d_X_checkIn_91 (lv_at hl 1 rfl) ?_
              refine pw_get (ci := 2) (v := .int ((g j) 2)) hx hb hw i_I hown hK hP (27 + 4 * j) (by omega) (CW_iss j) rfl 3 (by decide) (hw _ kF_X_104) rfl d_X_checkIn_93 ?_
              refine lv_icmp_le (tgt := 112) hx hb d_X_checkIn_96 (by decide) (fun c_12 => ?_) (fun c_12 => ?_)
              · have c_12 : day ≤ ((g j) 2) := c_12
                refine lv_aload hx hb d_X_checkIn_112 (lv_at hl 1 rfl) ?_
                refine lv_iload_n hx hb d_X_checkIn_114 rfl (lv_at hl 4 rfl) ?_
                refine lv_iload_n hx hb d_X_checkIn_115 rfl (lv_at hl 5 rfl) ?_
                refine pw_callv (va_runV (As := [.int (cp), .int (day)]) (rest := []) ⟨hx, hb, hml, hown, hw⟩ (c_I_arrive l D cs (27 + 4 * z 0) bk (CW cs z bo g q pp dd bk) s.heap.size (27 + 4 * j) (28 + 4 * j) (by omega) (nI j) ((g j) 0) ((g j) 1) ((g j) 2) ((g j) 3) ((g j) 4) ((g j) 5) ((g j) 6) ((g j) 7) ((g j) 8) ((g j) 9) ((g j) 10) ((g j) 11) (CW_iss j) cp day) (cw_V 2 hw kM_X_107 kI_I_arrive kV_I_arrive kZ_I kC_I_arrive rfl rfl ⟨rfl, by decide, by decide, by decide +kernel⟩ ⟨Nat.le_of_ble_eq_true rfl, Nat.le_of_ble_eq_true rfl⟩) (pw_preV hN hK hP hD (27 + 4 * j) (by omega) (CW_iss j) rfl) rfl rfl hl.1 rfl (lv_room (Nat.le_of_ble_eq_true rfl)) d_X_checkIn_116 ⟨Nat.le_of_ble_eq_true rfl, Nat.le_of_ble_eq_true rfl⟩) hS (wl_free hD hS hA) (fun N1 bk1 cw1 H locs hu hP hD hS => ?_)
                have hP : va_P D classes (wl (27 + 4 * z 0) bk (CW cs z bo (va_up g j (upd (upd (upd (g j) 4 3) 7 cp) 8 day)) q pp dd bk)) H := wl_eqP2 hu (CW_setI j (upd (upd (upd (g j) 4 3) 7 cp) 8 day) rfl rfl rfl) hP
                have hD : va_D (AA (27 + 4 * z 0) bk sz) (wl (27 + 4 * z 0) bk (CW cs z bo (va_up g j (upd (upd (upd (g j) 4 3) 7 cp) 8 day)) q pp dd bk)) := wl_eqD2 hu (CW_setI j (upd (upd (upd (g j) 4 3) 7 cp) 8 day) rfl rfl rfl) hD
                refine lv_iload hx hb d_X_checkIn_119 (lv_at hl 0 rfl) ?_
                refine lv_if_eq (tgt := 128) hx hb d_X_checkIn_121 (by decide) (fun c_13 => ?_) (fun c_13 => ?_)
                · skip
                  refine lv_iconst (v := 1) hx hb d_X_checkIn_128 (by decide) ?_
                  exact W.iret (v := 1) hx hb hr (fun t ht hW => ⟨⟨1, (27 + 4 * z 0, bk, CW cs z bo (va_up g j (upd (upd (upd (g j) 4 3) 7 cp) 8 day)) q pp dd bk), rfl, Xr_of (by rw [s_X_checkIn, if_pos c_3, if_pos c_5, if_pos c_7, if_neg c_8, if_neg c_10, if_pos c_12]) rfl, by rw [ht]; exact hP, va_K.moved hW.alike hK, hD⟩, hS.F ht⟩) hS.2.2 d_X_checkIn_129
                · exact absurd c_13 (by decide)
              · have c_12 : ¬ day ≤ ((g j) 2) := c_12
                refine lv_aload_n hx hb d_X_checkIn_99 rfl (lv_at hl 2 rfl) ?_
                refine pw_get (ci := 0) (v := .ref (bk (7))) hx hb hw i_X hown hK hP (0) (by omega) rfl rfl 5 (by decide) (hw _ kF_X_37) rfl d_X_checkIn_100 ?_
                refine lv_iconst (v := 2) hx hb d_X_checkIn_103 (by decide) ?_
                refine lv_aload hx hb d_X_checkIn_104 (lv_at hl 1 rfl) ?_
                refine pw_get (ci := 2) (v := .int (nI j)) hx hb hw i_I hown hK hP (27 + 4 * j) (by omega) (CW_iss j) rfl 0 (by decide) (hw _ kF_X_86) rfl d_X_checkIn_106 ?_
                refine pw_callv (va_runV (As := [.int (2), .int (nI j)]) (rest := []) ⟨hx, hb, hml, hown, hw⟩ (c_P_add l D cs (27 + 4 * z 0) bk (CW cs z bo g q pp dd bk) s.heap.size (7) (8) (9) (by omega) (z 2) rfl 100 (by decide) (by omega) (q 5) (q 6) (by omega) rfl (by omega) rfl (by decide) (by decide) (by decide) 2 (nI j)) (cw_V 2 hw kM_X_100 kI_P_add kV_P_add kZ_P kC_P_add rfl rfl ⟨rfl, by decide, by decide, by decide +kernel⟩ ⟨Nat.le_of_ble_eq_true rfl, Nat.le_of_ble_eq_true rfl⟩) (pw_preV hN hK hP hD (7) (by omega) rfl rfl) rfl rfl hl.1 rfl (lv_room (Nat.le_of_ble_eq_true rfl)) d_X_checkIn_109 ⟨Nat.le_of_ble_eq_true rfl, Nat.le_of_ble_eq_true rfl⟩) hS (wl_free hD hS hA) (fun N1 bk1 cw1 H locs hu hP hD hS => ?_)
                have hP := wl_eqP (CW_note hu) hP
                have hD := wl_eqD (CW_note hu) hD
                refine lv_aload hx hb d_X_checkIn_112 (lv_at hl 1 rfl) ?_
                refine lv_iload_n hx hb d_X_checkIn_114 rfl (lv_at hl 4 rfl) ?_
                refine lv_iload_n hx hb d_X_checkIn_115 rfl (lv_at hl 5 rfl) ?_
                refine pw_callv (va_runV (As := [.int (cp), .int (day)]) (rest := []) ⟨hx, hb, hml, hown, hw⟩ (c_I_arrive l D cs (27 + 4 * z 0) bk (CW cs (va_up z 2 (nz (z 2) 100)) bo g (va_up (va_up q 5 (na (z 2) 100 (q 5) 2)) 6 (na (z 2) 100 (q 6) (nI j))) pp dd bk) H.size (27 + 4 * j) (28 + 4 * j) (by omega) (nI j) ((g j) 0) ((g j) 1) ((g j) 2) ((g j) 3) ((g j) 4) ((g j) 5) ((g j) 6) ((g j) 7) ((g j) 8) ((g j) 9) ((g j) 10) ((g j) 11) (CW_iss j) cp day) (cw_V 2 hw kM_X_107 kI_I_arrive kV_I_arrive kZ_I kC_I_arrive rfl rfl ⟨rfl, by decide, by decide, by decide +kernel⟩ ⟨Nat.le_of_ble_eq_true rfl, Nat.le_of_ble_eq_true rfl⟩) (pw_preV hN hK hP hD (27 + 4 * j) (by omega) (CW_iss j) rfl) rfl rfl hl.1 rfl (lv_room (Nat.le_of_ble_eq_true rfl)) d_X_checkIn_116 ⟨Nat.le_of_ble_eq_true rfl, Nat.le_of_ble_eq_true rfl⟩) hS (wl_free hD hS hA) (fun N1 bk1 cw1 H locs hu hP hD hS => ?_)
                have hP : va_P D classes (wl (27 + 4 * z 0) bk (CW cs (va_up z 2 (nz (z 2) 100)) bo (va_up g j (upd (upd (upd (g j) 4 3) 7 cp) 8 day)) (va_up (va_up q 5 (na (z 2) 100 (q 5) 2)) 6 (na (z 2) 100 (q 6) (nI j))) pp dd bk)) H := wl_eqP2 hu (CW_setI j (upd (upd (upd (g j) 4 3) 7 cp) 8 day) rfl rfl rfl) hP
                have hD : va_D (AA (27 + 4 * z 0) bk sz) (wl (27 + 4 * z 0) bk (CW cs (va_up z 2 (nz (z 2) 100)) bo (va_up g j (upd (upd (upd (g j) 4 3) 7 cp) 8 day)) (va_up (va_up q 5 (na (z 2) 100 (q 5) 2)) 6 (na (z 2) 100 (q 6) (nI j))) pp dd bk)) := wl_eqD2 hu (CW_setI j (upd (upd (upd (g j) 4 3) 7 cp) 8 day) rfl rfl rfl) hD
                refine lv_iload hx hb d_X_checkIn_119 (lv_at hl 0 rfl) ?_
                refine lv_if_eq (tgt := 128) hx hb d_X_checkIn_121 (by decide) (fun c_14 => ?_) (fun c_14 => ?_)
                · skip
                  refine lv_iconst (v := 1) hx hb d_X_checkIn_128 (by decide) ?_
                  exact W.iret (v := 1) hx hb hr (fun t ht hW => ⟨⟨1, (27 + 4 * z 0, bk, CW cs (va_up z 2 (nz (z 2) 100)) bo (va_up g j (upd (upd (upd (g j) 4 3) 7 cp) 8 day)) (va_up (va_up q 5 (na (z 2) 100 (q 5) 2)) 6 (na (z 2) 100 (q 6) (nI j))) pp dd bk), rfl, Xr_of (by rw [s_X_checkIn, if_pos c_3, if_pos c_5, if_pos c_7, if_neg c_8, if_neg c_10, if_neg c_12]) rfl, by rw [ht]; exact hP, va_K.moved hW.alike hK, hD⟩, hS.F ht⟩) hS.2.2 d_X_checkIn_129
                · exact absurd c_14 (by decide)
          · exact absurd c_9 (by decide)
        · have c_8 : ((g j) 4) = 0 := c_8
          refine lv_iconst (v := 1) hx hb d_X_checkIn_53 (by decide) ?_
          refine lv_goto (tgt := 58) hx hb d_X_checkIn_54 (by decide) ?_
          refine lv_istore (lv' := [(5, .int (1)), (4, .ref (bk (27 + 4 * j))), (0, .ref (bk (0))), (1, .int (nI j)), (2, .int (cp)), (3, .int (day))]) hx hb d_X_checkIn_58 hl (by decide) rfl (fun ls hl => ?_)
          refine lv_iload hx hb d_X_checkIn_60 (lv_at hl 0 rfl) ?_
          refine lv_if_eq (tgt := 81) hx hb d_X_checkIn_62 (by decide) (fun c_15 => ?_) (fun c_15 => ?_)
          · exact absurd c_15 (by decide)
          · skip
            refine lv_aload_n hx hb d_X_checkIn_65 rfl (lv_at hl 2 rfl) ?_
            refine pw_get (ci := 0) (v := .ref (bk (7))) hx hb hw i_X hown hK hP (0) (by omega) rfl rfl 5 (by decide) (hw _ kF_X_37) rfl d_X_checkIn_66 ?_
            refine lv_iconst (v := 1) hx hb d_X_checkIn_69 (by decide) ?_
            refine lv_aload hx hb d_X_checkIn_70 (lv_at hl 1 rfl) ?_
            refine pw_get (ci := 2) (v := .int (nI j)) hx hb hw i_I hown hK hP (27 + 4 * j) (by omega) (CW_iss j) rfl 0 (by decide) (hw _ kF_X_86) rfl d_X_checkIn_72 ?_
            refine pw_callv (va_runV (As := [.int (1), .int (nI j)]) (rest := []) ⟨hx, hb, hml, hown, hw⟩ (c_P_add l D cs (27 + 4 * z 0) bk (CW cs z bo g q pp dd bk) s.heap.size (7) (8) (9) (by omega) (z 2) rfl 100 (by decide) (by omega) (q 5) (q 6) (by omega) rfl (by omega) rfl (by decide) (by decide) (by decide) 1 (nI j)) (cw_V 2 hw kM_X_100 kI_P_add kV_P_add kZ_P kC_P_add rfl rfl ⟨rfl, by decide, by decide, by decide +kernel⟩ ⟨Nat.le_of_ble_eq_true rfl, Nat.le_of_ble_eq_true rfl⟩) (pw_preV hN hK hP hD (7) (by omega) rfl rfl) rfl rfl hl.1 rfl (lv_room (Nat.le_of_ble_eq_true rfl)) d_X_checkIn_75 ⟨Nat.le_of_ble_eq_true rfl, Nat.le_of_ble_eq_true rfl⟩) hS (wl_free hD hS hA) (fun N1 bk1 cw1 H locs hu hP hD hS => ?_)
            have hP := wl_eqP (CW_note hu) hP
            have hD := wl_eqD (CW_note hu) hD
            refine lv_goto (tgt := 112) hx hb d_X_checkIn_78 (by decide) ?_
            refine lv_aload hx hb d_X_checkIn_112 (lv_at hl 1 rfl) ?_
            refine lv_iload_n hx hb d_X_checkIn_114 rfl (lv_at hl 4 rfl) ?_
            refine lv_iload_n hx hb d_X_checkIn_115 rfl (lv_at hl 5 rfl) ?_
            refine pw_callv (va_runV (As := [.int (cp), .int (day)]) (rest := []) ⟨hx, hb, hml, hown, hw⟩ (c_I_arrive l D cs (27 + 4 * z 0) bk (CW cs (va_up z 2 (nz (z 2) 100)) bo g (va_up (va_up q 5 (na (z 2) 100 (q 5) 1)) 6 (na (z 2) 100 (q 6) (nI j))) pp dd bk) H.size (27 + 4 * j) (28 + 4 * j) (by omega) (nI j) ((g j) 0) ((g j) 1) ((g j) 2) ((g j) 3) ((g j) 4) ((g j) 5) ((g j) 6) ((g j) 7) ((g j) 8) ((g j) 9) ((g j) 10) ((g j) 11) (CW_iss j) cp day) (cw_V 2 hw kM_X_107 kI_I_arrive kV_I_arrive kZ_I kC_I_arrive rfl rfl ⟨rfl, by decide, by decide, by decide +kernel⟩ ⟨Nat.le_of_ble_eq_true rfl, Nat.le_of_ble_eq_true rfl⟩) (pw_preV hN hK hP hD (27 + 4 * j) (by omega) (CW_iss j) rfl) rfl rfl hl.1 rfl (lv_room (Nat.le_of_ble_eq_true rfl)) d_X_checkIn_116 ⟨Nat.le_of_ble_eq_true rfl, Nat.le_of_ble_eq_true rfl⟩) hS (wl_free hD hS hA) (fun N1 bk1 cw1 H locs hu hP hD hS => ?_)
            have hP : va_P D classes (wl (27 + 4 * z 0) bk (CW cs (va_up z 2 (nz (z 2) 100)) bo (va_up g j (upd (upd (upd (g j) 4 3) 7 cp) 8 day)) (va_up (va_up q 5 (na (z 2) 100 (q 5) 1)) 6 (na (z 2) 100 (q 6) (nI j))) pp dd bk)) H := wl_eqP2 hu (CW_setI j (upd (upd (upd (g j) 4 3) 7 cp) 8 day) rfl rfl rfl) hP
            have hD : va_D (AA (27 + 4 * z 0) bk sz) (wl (27 + 4 * z 0) bk (CW cs (va_up z 2 (nz (z 2) 100)) bo (va_up g j (upd (upd (upd (g j) 4 3) 7 cp) 8 day)) (va_up (va_up q 5 (na (z 2) 100 (q 5) 1)) 6 (na (z 2) 100 (q 6) (nI j))) pp dd bk)) := wl_eqD2 hu (CW_setI j (upd (upd (upd (g j) 4 3) 7 cp) 8 day) rfl rfl rfl) hD
            refine lv_iload hx hb d_X_checkIn_119 (lv_at hl 0 rfl) ?_
            refine lv_if_eq (tgt := 128) hx hb d_X_checkIn_121 (by decide) (fun c_16 => ?_) (fun c_16 => ?_)
            · exact absurd c_16 (by decide)
            · skip
              refine lv_iconst (v := 0) hx hb d_X_checkIn_124 (by decide) ?_
              refine lv_goto (tgt := 129) hx hb d_X_checkIn_125 (by decide) ?_
              exact W.iret (v := 0) hx hb hr (fun t ht hW => ⟨⟨0, (27 + 4 * z 0, bk, CW cs (va_up z 2 (nz (z 2) 100)) bo (va_up g j (upd (upd (upd (g j) 4 3) 7 cp) 8 day)) (va_up (va_up q 5 (na (z 2) 100 (q 5) 1)) 6 (na (z 2) 100 (q 6) (nI j))) pp dd bk), rfl, Xr_of (by rw [s_X_checkIn, if_pos c_3, if_pos c_5, if_pos c_7, if_pos c_8]) rfl, by rw [ht]; exact hP, va_K.moved hW.alike hK, hD⟩, hS.F ht⟩) hS.2.2 d_X_checkIn_129
      · have c_7 : ¬ (((g j) 4) = 0 ∨ ((g j) 4) = 1 ∨ ((g j) 4) = 2 ∨ ((g j) 4) = 4) := c_7
        refine lv_bipush (v := -3) hx hb d_X_checkIn_42 (by decide) ?_
        exact W.iret (v := -3) hx hb hr (fun t ht hW => ⟨⟨-3, (27 + 4 * z 0, bk, CW cs z bo g q pp dd bk), rfl, Xr_of (by rw [s_X_checkIn, if_pos c_3, if_pos c_5, if_neg c_7]) rfl, by rw [ht]; exact hP, va_K.moved hW.alike hK, hD⟩, hS.F ht⟩) hS.2.2 d_X_checkIn_44
    · have c_5 : ¬ (0 ≤ day ∧ day ≤ 1000000) := c_5
      refine lv_bipush (v := -2) hx hb d_X_checkIn_31 (by decide) ?_
      exact W.iret (v := -2) hx hb hr (fun t ht hW => ⟨⟨-2, (27 + 4 * z 0, bk, CW cs z bo g q pp dd bk), rfl, Xr_of (by rw [s_X_checkIn, if_pos c_3, if_neg c_5]) rfl, by rw [ht]; exact hP, va_K.moved hW.alike hK, hD⟩, hS.F ht⟩) hS.2.2 d_X_checkIn_33
def s_X_list_out (z bo : Nat → Nat) (g q pp dd : Nat → Nat → Int32) (x : Int32) (who : Int32) (days : Int32) : XS := (-1, z, bo, g, q, pp, dd)
set_option maxHeartbeats 4000000 in
set_option maxRecDepth 100000 in
theorem c_X_list_out (l : Launch) (D : va_G) (cs : Nat → ClassId) (bk : Nat → Nat) (sz : Nat) (z bo : Nat → Nat) (g q pp dd : Nat → Nat → Int32) (hz0 : z 0 ≤ 200) (x : Int32) (ho : ¬ (0 ≤ x ∧ x < nI (z 0))) (who days : Int32) : Met l y_X_list w_X_list ({ frames := 2, cells := 0, slots := 0, locals := 43 }) (va_Pc [.ref (bk (0)), .int (x), .int (who), .int (days)] (PB D classes (TY cs) (27 + 4 * z 0) bk (CW cs z bo g q pp dd bk) sz)) (va_Qi (Xr cs bk (s_X_list_out z bo g q pp dd x who days)) (Wd D classes (TY cs) (AA (27 + 4 * z 0) bk sz)) (AA (27 + 4 * z 0) bk sz)) 0 0 (AA (27 + 4 * z 0) bk sz) := by
  refine pw_entry (cc := b_X_list) (maxL := 5) (ret := (some .int)) (by decide +kernel) rfl (Nat.le_of_ble_eq_true rfl) ?_
  intro p_ e_ s m below_ meth_ c_ ls hx hb hr hml hts hown hlocks hin hsz hP hK hD hS hA hN hl
  have hw : ∀ w ∈ WA, w.before _ s = true := fun w h => hts w (List.mem_cons_of_mem _ h)
  have hown : s.vm.findClass "IssueRows" = some m.cls := hown
  have hl : lv_has ls 5 [(0, .ref (bk (0))), (1, .int (x)), (2, .int (who)), (3, .int (days))] := hl
  refine lv_aload_n hx hb d_X_list_0 rfl (lv_at hl 0 rfl) ?_
  refine lv_iload_n hx hb d_X_list_1 rfl (lv_at hl 1 rfl) ?_
  refine pw_callSq (va_runV (As := [.int (x)]) (rest := []) ⟨hx, hb, hml, hown, hw⟩ (c_X_find_out l D cs bk s.heap.size z bo g q pp dd hz0 x ho) (cw_V 1 hw kM_X_89 kI_X_find kV_X_find kZ_X kC_X_find rfl rfl ⟨rfl, by decide, by decide, by decide +kernel⟩ ⟨Nat.le_of_ble_eq_true rfl, Nat.le_of_ble_eq_true rfl⟩) (pw_preV hN hK hP hD (0) (by omega) rfl rfl) rfl rfl hl.1 rfl (lv_room (Nat.le_of_ble_eq_true rfl)) d_X_list_2 ⟨Nat.le_of_ble_eq_true rfl, Nat.le_of_ble_eq_true rfl⟩) (fun r_1 hr_1 => ?_)
  have hr_1 : r_1 = none := hr_1
  subst hr_1
  refine W.eq (g2 := F0 m 5 ls [.null]) rfl ?_
  refine lv_astoreN (lv' := [(4, .null), (0, .ref (bk (0))), (1, .int (x)), (2, .int (who)), (3, .int (days))]) hx hb d_X_list_5 hl (by decide) rfl (fun ls hl => ?_)
  refine lv_aloadN hx hb d_X_list_7 (lv_at hl 0 rfl) ?_
  refine lv_ifnonnullN hx hb d_X_list_9 ?_
  refine lv_iconst (v := -1) hx hb d_X_list_12 (by decide) ?_
  exact W.iret (v := -1) hx hb hr (fun t ht hW => ⟨⟨-1, (27 + 4 * z 0, bk, CW cs z bo g q pp dd bk), rfl, Xr_of (by rw [s_X_list_out]) rfl, by rw [ht]; exact hP, va_K.moved hW.alike hK, hD⟩, hS.F ht⟩) hS.2.2 d_X_list_13
def s_X_list (z bo : Nat → Nat) (g q pp dd : Nat → Nat → Int32) (j : Nat) (who : Int32) (days : Int32) : XS := (if 0 ≤ who ∧ who ≤ 999 then (if 1 ≤ days ∧ days ≤ 100 then (if ((g j) 4) = 3 then (if 0 ≤ ((g j) 13) then (-3, z, bo, g, q, pp, dd) else (if 8 ≤ ((g j) 12) then (-4, z, bo, g, q, pp, dd) else ((g j) 12 + 1, z, bo, va_up g j (upd (g j) 12 ((g j) 12 + 1)), q, va_up pp j (upd (pp j) (g j 12).toNatClampNeg who), va_up dd j (upd (dd j) (g j 12).toNatClampNeg days)))) else (-3, z, bo, g, q, pp, dd)) else (-2, z, bo, g, q, pp, dd)) else (-2, z, bo, g, q, pp, dd))
set_option maxHeartbeats 4000000 in
set_option maxRecDepth 100000 in
theorem c_X_list (l : Launch) (D : va_G) (cs : Nat → ClassId) (bk : Nat → Nat) (sz : Nat) (z bo : Nat → Nat) (g q pp dd : Nat → Nat → Int32) (hz0 : z 0 ≤ 200) (j : Nat) (hj : j < z 0) (h0 : 0 ≤ g j 12) (who days : Int32) : Met l y_X_list w_X_list ({ frames := 2, cells := 0, slots := 0, locals := 43 }) (va_Pc [.ref (bk (0)), .int (nI j), .int (who), .int (days)] (PB D classes (TY cs) (27 + 4 * z 0) bk (CW cs z bo g q pp dd bk) sz)) (va_Qi (Xr cs bk (s_X_list z bo g q pp dd j who days)) (Wd D classes (TY cs) (AA (27 + 4 * z 0) bk sz)) (AA (27 + 4 * z 0) bk sz)) 0 0 (AA (27 + 4 * z 0) bk sz) := by
  refine pw_entry (cc := b_X_list) (maxL := 5) (ret := (some .int)) (by decide +kernel) rfl (Nat.le_of_ble_eq_true rfl) ?_
  intro p_ e_ s m below_ meth_ c_ ls hx hb hr hml hts hown hlocks hin hsz hP hK hD hS hA hN hl
  have hw : ∀ w ∈ WA, w.before _ s = true := fun w h => hts w (List.mem_cons_of_mem _ h)
  have hown : s.vm.findClass "IssueRows" = some m.cls := hown
  have hl : lv_has ls 5 [(0, .ref (bk (0))), (1, .int (nI j)), (2, .int (who)), (3, .int (days))] := hl
  refine lv_aload_n hx hb d_X_list_0 rfl (lv_at hl 0 rfl) ?_
  refine lv_iload_n hx hb d_X_list_1 rfl (lv_at hl 1 rfl) ?_
  refine pw_callSq (va_runV (As := [.int (nI j)]) (rest := []) ⟨hx, hb, hml, hown, hw⟩ (c_X_find l D cs bk s.heap.size z bo g q pp dd hz0 j hj) (cw_V 1 hw kM_X_89 kI_X_find kV_X_find kZ_X kC_X_find rfl rfl ⟨rfl, by decide, by decide, by decide +kernel⟩ ⟨Nat.le_of_ble_eq_true rfl, Nat.le_of_ble_eq_true rfl⟩) (pw_preV hN hK hP hD (0) (by omega) rfl rfl) rfl rfl hl.1 rfl (lv_room (Nat.le_of_ble_eq_true rfl)) d_X_list_2 ⟨Nat.le_of_ble_eq_true rfl, Nat.le_of_ble_eq_true rfl⟩) (fun r_1 hr_1 => ?_)
  have hr_1 : r_1 = some (bk (27 + 4 * j)) := hr_1
  subst hr_1
  refine W.eq (g2 := F0 m 5 ls [.ref (bk (27 + 4 * j))]) rfl ?_
  refine lv_astore (lv' := [(4, .ref (bk (27 + 4 * j))), (0, .ref (bk (0))), (1, .int (nI j)), (2, .int (who)), (3, .int (days))]) hx hb d_X_list_5 hl (by decide) rfl (fun ls hl => ?_)
  refine lv_aload hx hb d_X_list_7 (lv_at hl 0 rfl) ?_
  refine lv_ifnonnull (tgt := 14) hx hb d_X_list_9 (by decide) ?_
  refine lv_iload_n hx hb d_X_list_14 rfl (lv_at hl 3 rfl) ?_
  refine lv_iconst (v := 0) hx hb d_X_list_15 (by decide) ?_
  refine lv_sipush (v := 999) hx hb d_X_list_16 (by decide) ?_
  refine pw_callSi (va_runS (As := [.int (who), .int (0), .int (999)]) (rest := []) ⟨hx, hb, hml, hown, hw⟩ (c_X_within l D cs (27 + 4 * z 0) bk (CW cs z bo g q pp dd bk) s.heap.size who 0 999) (cw_S 3 hw kM_X_59 kS_X_within kZ_X kC_X_within rfl rfl ⟨rfl, by decide, by decide, by decide +kernel⟩ ⟨Nat.le_of_ble_eq_true rfl, Nat.le_of_ble_eq_true rfl⟩) (pw_preS hN hK hP hD) rfl rfl hl.1 rfl (lv_room (Nat.le_of_ble_eq_true rfl)) d_X_list_19 ⟨Nat.le_of_ble_eq_true rfl, Nat.le_of_ble_eq_true rfl⟩) (fun r_2 hr_2 => ?_)
  have hr_2 : r_2 = bI (0 ≤ who ∧ who ≤ 999) := hr_2
  subst hr_2
  refine pw_ifeq (tgt := 35) hx hb d_X_list_22 (by decide) (fun c_3 => ?_) (fun c_3 => ?_)
  · have c_3 : ¬ (0 ≤ who ∧ who ≤ 999) := c_3
    refine lv_bipush (v := -2) hx hb d_X_list_35 (by decide) ?_
    exact W.iret (v := -2) hx hb hr (fun t ht hW => ⟨⟨-2, (27 + 4 * z 0, bk, CW cs z bo g q pp dd bk), rfl, Xr_of (by rw [s_X_list, if_neg c_3]) rfl, by rw [ht]; exact hP, va_K.moved hW.alike hK, hD⟩, hS.F ht⟩) hS.2.2 d_X_list_37
  · have c_3 : 0 ≤ who ∧ who ≤ 999 := c_3
    refine lv_iload_n hx hb d_X_list_25 rfl (lv_at hl 4 rfl) ?_
    refine lv_iconst (v := 1) hx hb d_X_list_26 (by decide) ?_
    refine lv_bipush (v := 100) hx hb d_X_list_27 (by decide) ?_
    refine pw_callSi (va_runS (As := [.int (days), .int (1), .int (100)]) (rest := []) ⟨hx, hb, hml, hown, hw⟩ (c_X_within l D cs (27 + 4 * z 0) bk (CW cs z bo g q pp dd bk) s.heap.size days 1 100) (cw_S 3 hw kM_X_59 kS_X_within kZ_X kC_X_within rfl rfl ⟨rfl, by decide, by decide, by decide +kernel⟩ ⟨Nat.le_of_ble_eq_true rfl, Nat.le_of_ble_eq_true rfl⟩) (pw_preS hN hK hP hD) rfl rfl hl.1 rfl (lv_room (Nat.le_of_ble_eq_true rfl)) d_X_list_29 ⟨Nat.le_of_ble_eq_true rfl, Nat.le_of_ble_eq_true rfl⟩) (fun r_4 hr_4 => ?_)
    have hr_4 : r_4 = bI (1 ≤ days ∧ days ≤ 100) := hr_4
    subst hr_4
    refine pw_ifne (tgt := 38) hx hb d_X_list_32 (by decide) (fun c_5 => ?_) (fun c_5 => ?_)
    · have c_5 : 1 ≤ days ∧ days ≤ 100 := c_5
      refine lv_aload hx hb d_X_list_38 (lv_at hl 0 rfl) ?_
      refine pw_get (ci := 2) (v := .int ((g j) 4)) hx hb hw i_I hown hK hP (27 + 4 * j) (by omega) (CW_iss j) rfl 6 (by decide) (hw _ kF_X_97) rfl d_X_list_40 ?_
      refine lv_iconst (v := 3) hx hb d_X_list_43 (by decide) ?_
      refine lv_icmp_ne (tgt := 58) hx hb d_X_list_44 (by decide) (fun c_6 => ?_) (fun c_6 => ?_)
      · have c_6 : ¬ ((g j) 4) = 3 := c_6
        refine lv_bipush (v := -3) hx hb d_X_list_58 (by decide) ?_
        exact W.iret (v := -3) hx hb hr (fun t ht hW => ⟨⟨-3, (27 + 4 * z 0, bk, CW cs z bo g q pp dd bk), rfl, Xr_of (by rw [s_X_list, if_pos c_3, if_pos c_5, if_neg c_6]) rfl, by rw [ht]; exact hP, va_K.moved hW.alike hK, hD⟩, hS.F ht⟩) hS.2.2 d_X_list_60
      · have c_6 : ((g j) 4) = 3 := c_6
        refine lv_aload hx hb d_X_list_47 (lv_at hl 0 rfl) ?_
        refine pw_get (ci := 2) (v := .ref (bk (28 + 4 * j))) hx hb hw i_I hown hK hP (27 + 4 * j) (by omega) (CW_iss j) rfl 5 (by decide) (hw _ kF_X_134) rfl d_X_list_49 ?_
        refine pw_callSi (va_runV (As := []) (rest := []) ⟨hx, hb, hml, hown, hw⟩ (c_G_isStarted l D cs (27 + 4 * z 0) bk (CW cs z bo g q pp dd bk) s.heap.size (28 + 4 * j) (29 + 4 * j) (30 + 4 * j) (by omega) ((g j) 12) ((g j) 13) ((g j) 14) (CW_rou j)) (cw_V 0 hw kM_X_138 kI_G_isStarted kV_G_isStarted kZ_G kC_G_isStarted rfl rfl ⟨rfl, by decide, by decide, by decide +kernel⟩ ⟨Nat.le_of_ble_eq_true rfl, Nat.le_of_ble_eq_true rfl⟩) (pw_preV hN hK hP hD (28 + 4 * j) (by omega) (CW_rou j) rfl) rfl rfl hl.1 rfl (lv_room (Nat.le_of_ble_eq_true rfl)) d_X_list_52 ⟨Nat.le_of_ble_eq_true rfl, Nat.le_of_ble_eq_true rfl⟩) (fun r_7 hr_7 => ?_)
        have hr_7 : r_7 = bI (0 ≤ ((g j) 13)) := hr_7
        subst hr_7
        refine pw_ifeq (tgt := 61) hx hb d_X_list_55 (by decide) (fun c_8 => ?_) (fun c_8 => ?_)
        · have c_8 : ¬ (0 ≤ ((g j) 13)) := c_8
          refine lv_aload hx hb d_X_list_61 (lv_at hl 0 rfl) ?_
          refine pw_get (ci := 2) (v := .ref (bk (28 + 4 * j))) hx hb hw i_I hown hK hP (27 + 4 * j) (by omega) (CW_iss j) rfl 5 (by decide) (hw _ kF_X_134) rfl d_X_list_63 ?_
          refine pw_callSi (va_runV (As := []) (rest := []) ⟨hx, hb, hml, hown, hw⟩ (c_G_isFull l D cs (27 + 4 * z 0) bk (CW cs z bo g q pp dd bk) s.heap.size (28 + 4 * j) (29 + 4 * j) (30 + 4 * j) (by omega) ((g j) 12) ((g j) 13) ((g j) 14) (CW_rou j)) (cw_V 0 hw kM_X_143 kI_G_isFull kV_G_isFull kZ_G kC_G_isFull rfl rfl ⟨rfl, by decide, by decide, by decide +kernel⟩ ⟨Nat.le_of_ble_eq_true rfl, Nat.le_of_ble_eq_true rfl⟩) (pw_preV hN hK hP hD (28 + 4 * j) (by omega) (CW_rou j) rfl) rfl rfl hl.1 rfl (lv_room (Nat.le_of_ble_eq_true rfl)) d_X_list_66 ⟨Nat.le_of_ble_eq_true rfl, Nat.le_of_ble_eq_true rfl⟩) (fun r_9 hr_9 => ?_)
          have hr_9 : r_9 = bI (8 ≤ ((g j) 12)) := hr_9
          subst hr_9
          refine pw_ifeq (tgt := 75) hx hb d_X_list_69 (by decide) (fun c_10 => ?_) (fun c_10 => ?_)
          · have c_10 : ¬ (8 ≤ ((g j) 12)) := c_10
            refine lv_aload hx hb d_X_list_75 (lv_at hl 0 rfl) ?_
            refine pw_get (ci := 2) (v := .ref (bk (28 + 4 * j))) hx hb hw i_I hown hK hP (27 + 4 * j) (by omega) (CW_iss j) rfl 5 (by decide) (hw _ kF_X_134) rfl d_X_list_77 ?_
            refine lv_iload_n hx hb d_X_list_80 rfl (lv_at hl 3 rfl) ?_
            refine lv_iload_n hx hb d_X_list_81 rfl (lv_at hl 4 rfl) ?_
            refine pw_callv (va_runV (As := [.int (who), .int (days)]) (rest := []) ⟨hx, hb, hml, hown, hw⟩ (c_G_add l D cs (27 + 4 * z 0) bk (CW cs z bo g q pp dd bk) s.heap.size (28 + 4 * j) (29 + 4 * j) (30 + 4 * j) (by omega) ((g j) 12) ((g j) 13) ((g j) 14) (CW_rou j) (pp j) (dd j) (by omega) (CW_per j) (by omega) (CW_day j) (by omega) (by omega) (by omega) h0 who days) (cw_V 2 hw kM_X_146 kI_G_add kV_G_add kZ_G kC_G_add rfl rfl ⟨rfl, by decide, by decide, by decide +kernel⟩ ⟨Nat.le_of_ble_eq_true rfl, Nat.le_of_ble_eq_true rfl⟩) (pw_preV hN hK hP hD (28 + 4 * j) (by omega) (CW_rou j) rfl) rfl rfl hl.1 rfl (lv_room (Nat.le_of_ble_eq_true rfl)) d_X_list_82 ⟨Nat.le_of_ble_eq_true rfl, Nat.le_of_ble_eq_true rfl⟩) hS (wl_free hD hS hA) (fun N1 bk1 cw1 H locs hu hP hD hS => ?_)
            have hP : va_P D classes (wl (27 + 4 * z 0) bk (CW cs z bo (va_up g j (upd (g j) 12 ((g j) 12 + 1))) q (va_up pp j (upd (pp j) (g j 12).toNatClampNeg who)) (va_up dd j (upd (dd j) (g j 12).toNatClampNeg days)) bk)) H := wl_eqP2 (hu.2 c_10) (by rw [CW_setP, CW_setD]; exact (CW_setR j (upd (g j) 12 ((g j) 12 + 1)) (fun f hf => (pk_un (by omega))))) hP
            have hD : va_D (AA (27 + 4 * z 0) bk sz) (wl (27 + 4 * z 0) bk (CW cs z bo (va_up g j (upd (g j) 12 ((g j) 12 + 1))) q (va_up pp j (upd (pp j) (g j 12).toNatClampNeg who)) (va_up dd j (upd (dd j) (g j 12).toNatClampNeg days)) bk)) := wl_eqD2 (hu.2 c_10) (by rw [CW_setP, CW_setD]; exact (CW_setR j (upd (g j) 12 ((g j) 12 + 1)) (fun f hf => (pk_un (by omega))))) hD
            refine lv_aload hx hb d_X_list_85 (lv_at hl 0 rfl) ?_
            refine pw_get (ci := 2) (v := .ref (bk (28 + 4 * j))) hx hb hw i_I hown hK hP (27 + 4 * j) (by omega) (CW_issU j) rfl 5 (by decide) (hw _ kF_X_134) rfl d_X_list_87 ?_
            refine pw_get (ci := 3) (v := .int ((g j) 12 + 1)) hx hb hw i_G hown hK hP (28 + 4 * j) (by omega) (CW_rouU j) rfl 2 (by decide) (hw _ kF_X_147) rfl d_X_list_90 ?_
            exact W.iret (v := (g j) 12 + 1) hx hb hr (fun t ht hW => ⟨⟨(g j) 12 + 1, (27 + 4 * z 0, bk, CW cs z bo (va_up g j (upd (g j) 12 ((g j) 12 + 1))) q (va_up pp j (upd (pp j) (g j 12).toNatClampNeg who)) (va_up dd j (upd (dd j) (g j 12).toNatClampNeg days)) bk), rfl, Xr_of (by rw [s_X_list, if_pos c_3, if_pos c_5, if_pos c_6, if_neg c_8, if_neg c_10]) rfl, by rw [ht]; exact hP, va_K.moved hW.alike hK, hD⟩, hS.F ht⟩) hS.2.2 d_X_list_93
          · have c_10 : 8 ≤ ((g j) 12) := c_10
            refine lv_bipush (v := -4) hx hb d_X_list_72 (by decide) ?_
            exact W.iret (v := -4) hx hb hr (fun t ht hW => ⟨⟨-4, (27 + 4 * z 0, bk, CW cs z bo g q pp dd bk), rfl, Xr_of (by rw [s_X_list, if_pos c_3, if_pos c_5, if_pos c_6, if_neg c_8, if_pos c_10]) rfl, by rw [ht]; exact hP, va_K.moved hW.alike hK, hD⟩, hS.F ht⟩) hS.2.2 d_X_list_74
        · have c_8 : 0 ≤ ((g j) 13) := c_8
          refine lv_bipush (v := -3) hx hb d_X_list_58 (by decide) ?_
          exact W.iret (v := -3) hx hb hr (fun t ht hW => ⟨⟨-3, (27 + 4 * z 0, bk, CW cs z bo g q pp dd bk), rfl, Xr_of (by rw [s_X_list, if_pos c_3, if_pos c_5, if_pos c_6, if_pos c_8]) rfl, by rw [ht]; exact hP, va_K.moved hW.alike hK, hD⟩, hS.F ht⟩) hS.2.2 d_X_list_60
    · have c_5 : ¬ (1 ≤ days ∧ days ≤ 100) := c_5
      refine lv_bipush (v := -2) hx hb d_X_list_35 (by decide) ?_
      exact W.iret (v := -2) hx hb hr (fun t ht hW => ⟨⟨-2, (27 + 4 * z 0, bk, CW cs z bo g q pp dd bk), rfl, Xr_of (by rw [s_X_list, if_pos c_3, if_neg c_5]) rfl, by rw [ht]; exact hP, va_K.moved hW.alike hK, hD⟩, hS.F ht⟩) hS.2.2 d_X_list_37
def s_X_route_out (z bo : Nat → Nat) (g q pp dd : Nat → Nat → Int32) (x : Int32) (day : Int32) : XS := (-1, z, bo, g, q, pp, dd)
set_option maxHeartbeats 4000000 in
set_option maxRecDepth 100000 in
theorem c_X_route_out (l : Launch) (D : va_G) (cs : Nat → ClassId) (bk : Nat → Nat) (sz : Nat) (z bo : Nat → Nat) (g q pp dd : Nat → Nat → Int32) (hz0 : z 0 ≤ 200) (x : Int32) (ho : ¬ (0 ≤ x ∧ x < nI (z 0))) (day : Int32) : Met l y_X_route w_X_route ({ frames := 2, cells := 0, slots := 0, locals := 43 }) (va_Pc [.ref (bk (0)), .int (x), .int (day)] (PB D classes (TY cs) (27 + 4 * z 0) bk (CW cs z bo g q pp dd bk) sz)) (va_Qi (Xr cs bk (s_X_route_out z bo g q pp dd x day)) (Wd D classes (TY cs) (AA (27 + 4 * z 0) bk sz)) (AA (27 + 4 * z 0) bk sz)) 0 0 (AA (27 + 4 * z 0) bk sz) := by
  refine pw_entry (cc := b_X_route) (maxL := 4) (ret := (some .int)) (by decide +kernel) rfl (Nat.le_of_ble_eq_true rfl) ?_
  intro p_ e_ s m below_ meth_ c_ ls hx hb hr hml hts hown hlocks hin hsz hP hK hD hS hA hN hl
  have hw : ∀ w ∈ WA, w.before _ s = true := fun w h => hts w (List.mem_cons_of_mem _ h)
  have hown : s.vm.findClass "IssueRows" = some m.cls := hown
  have hl : lv_has ls 4 [(0, .ref (bk (0))), (1, .int (x)), (2, .int (day))] := hl
  refine lv_aload_n hx hb d_X_route_0 rfl (lv_at hl 0 rfl) ?_
  refine lv_iload_n hx hb d_X_route_1 rfl (lv_at hl 1 rfl) ?_
  refine pw_callSq (va_runV (As := [.int (x)]) (rest := []) ⟨hx, hb, hml, hown, hw⟩ (c_X_find_out l D cs bk s.heap.size z bo g q pp dd hz0 x ho) (cw_V 1 hw kM_X_89 kI_X_find kV_X_find kZ_X kC_X_find rfl rfl ⟨rfl, by decide, by decide, by decide +kernel⟩ ⟨Nat.le_of_ble_eq_true rfl, Nat.le_of_ble_eq_true rfl⟩) (pw_preV hN hK hP hD (0) (by omega) rfl rfl) rfl rfl hl.1 rfl (lv_room (Nat.le_of_ble_eq_true rfl)) d_X_route_2 ⟨Nat.le_of_ble_eq_true rfl, Nat.le_of_ble_eq_true rfl⟩) (fun r_1 hr_1 => ?_)
  have hr_1 : r_1 = none := hr_1
  subst hr_1
  refine W.eq (g2 := F0 m 5 ls [.null]) rfl ?_
  refine lv_astore_nN (lv' := [(3, .null), (0, .ref (bk (0))), (1, .int (x)), (2, .int (day))]) hx hb d_X_route_5 rfl hl (by decide) rfl (fun ls hl => ?_)
  refine lv_aload_nN hx hb d_X_route_6 rfl (lv_at hl 0 rfl) ?_
  refine lv_ifnonnullN hx hb d_X_route_7 ?_
  refine lv_iconst (v := -1) hx hb d_X_route_10 (by decide) ?_
  exact W.iret (v := -1) hx hb hr (fun t ht hW => ⟨⟨-1, (27 + 4 * z 0, bk, CW cs z bo g q pp dd bk), rfl, Xr_of (by rw [s_X_route_out]) rfl, by rw [ht]; exact hP, va_K.moved hW.alike hK, hD⟩, hS.F ht⟩) hS.2.2 d_X_route_11
def s_X_route (z bo : Nat → Nat) (g q pp dd : Nat → Nat → Int32) (j : Nat) (day : Int32) : XS := (if 0 ≤ day ∧ day ≤ 1000000 then (if ((g j) 4) = 3 then (if 0 ≤ ((g j) 13) then (-3, z, bo, g, q, pp, dd) else (if ((g j) 12) = 0 then (-3, z, bo, g, q, pp, dd) else (if 0 ≤ (((g j) 13) + 1) ∧ (((g j) 13) + 1) < ((g j) 12) then (pp j) (((g j) 13) + 1).toNatClampNeg else -1, z, bo, va_up g j (upd (upd (g j) 13 (((g j) 13) + 1)) 14 day), q, pp, dd))) else (-3, z, bo, g, q, pp, dd)) else (-2, z, bo, g, q, pp, dd))
set_option maxHeartbeats 4000000 in
set_option maxRecDepth 100000 in
theorem c_X_route (l : Launch) (D : va_G) (cs : Nat → ClassId) (bk : Nat → Nat) (sz : Nat) (z bo : Nat → Nat) (g q pp dd : Nat → Nat → Int32) (hz0 : z 0 ≤ 200) (j : Nat) (hj : j < z 0) (h0 : 0 ≤ g j 12) (h8 : g j 12 ≤ 8) (day : Int32) : Met l y_X_route w_X_route ({ frames := 2, cells := 0, slots := 0, locals := 43 }) (va_Pc [.ref (bk (0)), .int (nI j), .int (day)] (PB D classes (TY cs) (27 + 4 * z 0) bk (CW cs z bo g q pp dd bk) sz)) (va_Qi (Xr cs bk (s_X_route z bo g q pp dd j day)) (Wd D classes (TY cs) (AA (27 + 4 * z 0) bk sz)) (AA (27 + 4 * z 0) bk sz)) 0 0 (AA (27 + 4 * z 0) bk sz) := by
  refine pw_entry (cc := b_X_route) (maxL := 4) (ret := (some .int)) (by decide +kernel) rfl (Nat.le_of_ble_eq_true rfl) ?_
  intro p_ e_ s m below_ meth_ c_ ls hx hb hr hml hts hown hlocks hin hsz hP hK hD hS hA hN hl
  have hw : ∀ w ∈ WA, w.before _ s = true := fun w h => hts w (List.mem_cons_of_mem _ h)
  have hown : s.vm.findClass "IssueRows" = some m.cls := hown
  have hl : lv_has ls 4 [(0, .ref (bk (0))), (1, .int (nI j)), (2, .int (day))] := hl
  refine lv_aload_n hx hb d_X_route_0 rfl (lv_at hl 0 rfl) ?_
  refine lv_iload_n hx hb d_X_route_1 rfl (lv_at hl 1 rfl) ?_
  refine pw_callSq (va_runV (As := [.int (nI j)]) (rest := []) ⟨hx, hb, hml, hown, hw⟩ (c_X_find l D cs bk s.heap.size z bo g q pp dd hz0 j hj) (cw_V 1 hw kM_X_89 kI_X_find kV_X_find kZ_X kC_X_find rfl rfl ⟨rfl, by decide, by decide, by decide +kernel⟩ ⟨Nat.le_of_ble_eq_true rfl, Nat.le_of_ble_eq_true rfl⟩) (pw_preV hN hK hP hD (0) (by omega) rfl rfl) rfl rfl hl.1 rfl (lv_room (Nat.le_of_ble_eq_true rfl)) d_X_route_2 ⟨Nat.le_of_ble_eq_true rfl, Nat.le_of_ble_eq_true rfl⟩) (fun r_1 hr_1 => ?_)
  have hr_1 : r_1 = some (bk (27 + 4 * j)) := hr_1
  subst hr_1
  refine W.eq (g2 := F0 m 5 ls [.ref (bk (27 + 4 * j))]) rfl ?_
  refine lv_astore_n (lv' := [(3, .ref (bk (27 + 4 * j))), (0, .ref (bk (0))), (1, .int (nI j)), (2, .int (day))]) hx hb d_X_route_5 rfl hl (by decide) rfl (fun ls hl => ?_)
  refine lv_aload_n hx hb d_X_route_6 rfl (lv_at hl 0 rfl) ?_
  refine lv_ifnonnull (tgt := 12) hx hb d_X_route_7 (by decide) ?_
  refine lv_iload_n hx hb d_X_route_12 rfl (lv_at hl 3 rfl) ?_
  refine pw_callSi (va_runS (As := [.int (day)]) (rest := []) ⟨hx, hb, hml, hown, hw⟩ (c_X_isDay l D cs (27 + 4 * z 0) bk (CW cs z bo g q pp dd bk) s.heap.size day) (cw_S 1 hw kM_X_72 kS_X_isDay kZ_X kC_X_isDay rfl rfl ⟨rfl, by decide, by decide, by decide +kernel⟩ ⟨Nat.le_of_ble_eq_true rfl, Nat.le_of_ble_eq_true rfl⟩) (pw_preS hN hK hP hD) rfl rfl hl.1 rfl (lv_room (Nat.le_of_ble_eq_true rfl)) d_X_route_13 ⟨Nat.le_of_ble_eq_true rfl, Nat.le_of_ble_eq_true rfl⟩) (fun r_2 hr_2 => ?_)
  have hr_2 : r_2 = bI (0 ≤ day ∧ day ≤ 1000000) := hr_2
  subst hr_2
  refine pw_ifne (tgt := 22) hx hb d_X_route_16 (by decide) (fun c_3 => ?_) (fun c_3 => ?_)
  · have c_3 : 0 ≤ day ∧ day ≤ 1000000 := c_3
    refine lv_aload_n hx hb d_X_route_22 rfl (lv_at hl 0 rfl) ?_
    refine pw_get (ci := 2) (v := .int ((g j) 4)) hx hb hw i_I hown hK hP (27 + 4 * j) (by omega) (CW_iss j) rfl 6 (by decide) (hw _ kF_X_97) rfl d_X_route_23 ?_
    refine lv_iconst (v := 3) hx hb d_X_route_26 (by decide) ?_
    refine lv_icmp_ne (tgt := 50) hx hb d_X_route_27 (by decide) (fun c_4 => ?_) (fun c_4 => ?_)
    · have c_4 : ¬ ((g j) 4) = 3 := c_4
      refine lv_bipush (v := -3) hx hb d_X_route_50 (by decide) ?_
      exact W.iret (v := -3) hx hb hr (fun t ht hW => ⟨⟨-3, (27 + 4 * z 0, bk, CW cs z bo g q pp dd bk), rfl, Xr_of (by rw [s_X_route, if_pos c_3, if_neg c_4]) rfl, by rw [ht]; exact hP, va_K.moved hW.alike hK, hD⟩, hS.F ht⟩) hS.2.2 d_X_route_52
    · have c_4 : ((g j) 4) = 3 := c_4
      refine lv_aload_n hx hb d_X_route_30 rfl (lv_at hl 0 rfl) ?_
      refine pw_get (ci := 2) (v := .ref (bk (28 + 4 * j))) hx hb hw i_I hown hK hP (27 + 4 * j) (by omega) (CW_iss j) rfl 5 (by decide) (hw _ kF_X_134) rfl d_X_route_31 ?_
      refine pw_callSi (va_runV (As := []) (rest := []) ⟨hx, hb, hml, hown, hw⟩ (c_G_isStarted l D cs (27 + 4 * z 0) bk (CW cs z bo g q pp dd bk) s.heap.size (28 + 4 * j) (29 + 4 * j) (30 + 4 * j) (by omega) ((g j) 12) ((g j) 13) ((g j) 14) (CW_rou j)) (cw_V 0 hw kM_X_138 kI_G_isStarted kV_G_isStarted kZ_G kC_G_isStarted rfl rfl ⟨rfl, by decide, by decide, by decide +kernel⟩ ⟨Nat.le_of_ble_eq_true rfl, Nat.le_of_ble_eq_true rfl⟩) (pw_preV hN hK hP hD (28 + 4 * j) (by omega) (CW_rou j) rfl) rfl rfl hl.1 rfl (lv_room (Nat.le_of_ble_eq_true rfl)) d_X_route_34 ⟨Nat.le_of_ble_eq_true rfl, Nat.le_of_ble_eq_true rfl⟩) (fun r_5 hr_5 => ?_)
      have hr_5 : r_5 = bI (0 ≤ ((g j) 13)) := hr_5
      subst hr_5
      refine pw_ifne (tgt := 50) hx hb d_X_route_37 (by decide) (fun c_6 => ?_) (fun c_6 => ?_)
      · have c_6 : 0 ≤ ((g j) 13) := c_6
        refine lv_bipush (v := -3) hx hb d_X_route_50 (by decide) ?_
        exact W.iret (v := -3) hx hb hr (fun t ht hW => ⟨⟨-3, (27 + 4 * z 0, bk, CW cs z bo g q pp dd bk), rfl, Xr_of (by rw [s_X_route, if_pos c_3, if_pos c_4, if_pos c_6]) rfl, by rw [ht]; exact hP, va_K.moved hW.alike hK, hD⟩, hS.F ht⟩) hS.2.2 d_X_route_52
      · have c_6 : ¬ (0 ≤ ((g j) 13)) := c_6
        refine lv_aload_n hx hb d_X_route_40 rfl (lv_at hl 0 rfl) ?_
        refine pw_get (ci := 2) (v := .ref (bk (28 + 4 * j))) hx hb hw i_I hown hK hP (27 + 4 * j) (by omega) (CW_iss j) rfl 5 (by decide) (hw _ kF_X_134) rfl d_X_route_41 ?_
        refine pw_get (ci := 3) (v := .int ((g j) 12)) hx hb hw i_G hown hK hP (28 + 4 * j) (by omega) (CW_rou j) rfl 2 (by decide) (hw _ kF_X_147) rfl d_X_route_44 ?_
        refine lv_if_ne (tgt := 53) hx hb d_X_route_47 (by decide) (fun c_7 => ?_) (fun c_7 => ?_)
        · have c_7 : ¬ ((g j) 12) = 0 := c_7
          refine lv_aload_n hx hb d_X_route_53 rfl (lv_at hl 0 rfl) ?_
          refine pw_get (ci := 2) (v := .ref (bk (28 + 4 * j))) hx hb hw i_I hown hK hP (27 + 4 * j) (by omega) (CW_iss j) rfl 5 (by decide) (hw _ kF_X_134) rfl d_X_route_54 ?_
          refine lv_iload_n hx hb d_X_route_57 rfl (lv_at hl 3 rfl) ?_
          refine pw_callv (va_runV (As := [.int (day)]) (rest := []) ⟨hx, hb, hml, hown, hw⟩ (c_G_passOn l D cs (27 + 4 * z 0) bk (CW cs z bo g q pp dd bk) s.heap.size (28 + 4 * j) (29 + 4 * j) (30 + 4 * j) (by omega) ((g j) 12) ((g j) 13) ((g j) 14) (CW_rou j) day) (cw_V 1 hw kM_X_148 kI_G_passOn kV_G_passOn kZ_G kC_G_passOn rfl rfl ⟨rfl, by decide, by decide, by decide +kernel⟩ ⟨Nat.le_of_ble_eq_true rfl, Nat.le_of_ble_eq_true rfl⟩) (pw_preV hN hK hP hD (28 + 4 * j) (by omega) (CW_rou j) rfl) rfl rfl hl.1 rfl (lv_room (Nat.le_of_ble_eq_true rfl)) d_X_route_58 ⟨Nat.le_of_ble_eq_true rfl, Nat.le_of_ble_eq_true rfl⟩) hS (wl_free hD hS hA) (fun N1 bk1 cw1 H locs hu hP hD hS => ?_)
          have hP : va_P D classes (wl (27 + 4 * z 0) bk (CW cs z bo (va_up g j (upd (upd (g j) 13 (((g j) 13) + 1)) 14 day)) q pp dd bk)) H := wl_eqP2 (hu.1 (by have h5 := c_6; have h6 := c_7; have h7 := h0; simp only [Int32.lt_iff_toInt_lt, Int32.le_iff_toInt_le, ← Int32.toInt_inj, T0, T1, T2, T3, T4, T5, T6, T7, T8, T9, T10, T40, T50, T99, T100, T200, T999, T1000, T9999, T1000000, T10000000, T1000000000, Tm1] at h5 h6 h7 ⊢; omega)) (CW_setR j (upd (upd (g j) 13 (((g j) 13) + 1)) 14 day) (fun f hf => (pk_un (by omega)).trans (pk_un (by omega)))) hP
          have hD : va_D (AA (27 + 4 * z 0) bk sz) (wl (27 + 4 * z 0) bk (CW cs z bo (va_up g j (upd (upd (g j) 13 (((g j) 13) + 1)) 14 day)) q pp dd bk)) := wl_eqD2 (hu.1 (by have h5 := c_6; have h6 := c_7; have h7 := h0; simp only [Int32.lt_iff_toInt_lt, Int32.le_iff_toInt_le, ← Int32.toInt_inj, T0, T1, T2, T3, T4, T5, T6, T7, T8, T9, T10, T40, T50, T99, T100, T200, T999, T1000, T9999, T1000000, T10000000, T1000000000, Tm1] at h5 h6 h7 ⊢; omega)) (CW_setR j (upd (upd (g j) 13 (((g j) 13) + 1)) 14 day) (fun f hf => (pk_un (by omega)).trans (pk_un (by omega)))) hD
          refine lv_aload_n hx hb d_X_route_61 rfl (lv_at hl 0 rfl) ?_
          refine pw_get (ci := 2) (v := .ref (bk (28 + 4 * j))) hx hb hw i_I hown hK hP (27 + 4 * j) (by omega) (CW_issU j) rfl 5 (by decide) (hw _ kF_X_134) rfl d_X_route_62 ?_
          refine pw_callSi (va_runV (As := []) (rest := []) ⟨hx, hb, hml, hown, hw⟩ (c_G_holder l D cs (27 + 4 * z 0) bk (CW cs z bo (va_up g j (upd (upd (g j) 13 (((g j) 13) + 1)) 14 day)) q pp dd bk) H.size (28 + 4 * j) (29 + 4 * j) (30 + 4 * j) (by omega) ((g j) 12) (((g j) 13) + 1) day (CW_rouU j) (pp j) (dd j) (by omega) (CW_per j) (by omega) (CW_day j) h8) (cw_V 0 hw kM_X_151 kI_G_holder kV_G_holder kZ_G kC_G_holder rfl rfl ⟨rfl, by decide, by decide, by decide +kernel⟩ ⟨Nat.le_of_ble_eq_true rfl, Nat.le_of_ble_eq_true rfl⟩) (pw_preV hN hK hP hD (28 + 4 * j) (by omega) (CW_rouU j) rfl) rfl rfl hl.1 rfl (lv_room (Nat.le_of_ble_eq_true rfl)) d_X_route_65 ⟨Nat.le_of_ble_eq_true rfl, Nat.le_of_ble_eq_true rfl⟩) (fun r_8 hr_8 => ?_)
          have hr_8 : r_8 = if 0 ≤ (((g j) 13) + 1) ∧ (((g j) 13) + 1) < ((g j) 12) then (pp j) (((g j) 13) + 1).toNatClampNeg else -1 := hr_8
          subst hr_8
          exact W.iret (v := if 0 ≤ (((g j) 13) + 1) ∧ (((g j) 13) + 1) < ((g j) 12) then (pp j) (((g j) 13) + 1).toNatClampNeg else -1) hx hb hr (fun t ht hW => ⟨⟨if 0 ≤ (((g j) 13) + 1) ∧ (((g j) 13) + 1) < ((g j) 12) then (pp j) (((g j) 13) + 1).toNatClampNeg else -1, (27 + 4 * z 0, bk, CW cs z bo (va_up g j (upd (upd (g j) 13 (((g j) 13) + 1)) 14 day)) q pp dd bk), rfl, Xr_of (by rw [s_X_route, if_pos c_3, if_pos c_4, if_neg c_6, if_neg c_7]) rfl, by rw [ht]; exact hP, va_K.moved hW.alike hK, hD⟩, hS.F ht⟩) hS.2.2 d_X_route_68
        · have c_7 : ((g j) 12) = 0 := c_7
          refine lv_bipush (v := -3) hx hb d_X_route_50 (by decide) ?_
          exact W.iret (v := -3) hx hb hr (fun t ht hW => ⟨⟨-3, (27 + 4 * z 0, bk, CW cs z bo g q pp dd bk), rfl, Xr_of (by rw [s_X_route, if_pos c_3, if_pos c_4, if_neg c_6, if_pos c_7]) rfl, by rw [ht]; exact hP, va_K.moved hW.alike hK, hD⟩, hS.F ht⟩) hS.2.2 d_X_route_52
  · have c_3 : ¬ (0 ≤ day ∧ day ≤ 1000000) := c_3
    refine lv_bipush (v := -2) hx hb d_X_route_19 (by decide) ?_
    exact W.iret (v := -2) hx hb hr (fun t ht hW => ⟨⟨-2, (27 + 4 * z 0, bk, CW cs z bo g q pp dd bk), rfl, Xr_of (by rw [s_X_route, if_neg c_3]) rfl, by rw [ht]; exact hP, va_K.moved hW.alike hK, hD⟩, hS.F ht⟩) hS.2.2 d_X_route_21
def s_X_cost_out (z bo : Nat → Nat) (g q pp dd : Nat → Nat → Int32) (x : Int32) (more : Int32) : XS := (-1, z, bo, g, q, pp, dd)
set_option maxHeartbeats 4000000 in
set_option maxRecDepth 100000 in
theorem c_X_cost_out (l : Launch) (D : va_G) (cs : Nat → ClassId) (bk : Nat → Nat) (sz : Nat) (z bo : Nat → Nat) (g q pp dd : Nat → Nat → Int32) (hz0 : z 0 ≤ 200) (x : Int32) (ho : ¬ (0 ≤ x ∧ x < nI (z 0))) (more : Int32) : Met l y_X_cost w_X_cost ({ frames := 2, cells := 0, slots := 0, locals := 43 }) (va_Pc [.ref (bk (0)), .int (x), .int (more)] (PB D classes (TY cs) (27 + 4 * z 0) bk (CW cs z bo g q pp dd bk) sz)) (va_Qi (Xr cs bk (s_X_cost_out z bo g q pp dd x more)) (Wd D classes (TY cs) (AA (27 + 4 * z 0) bk sz)) (AA (27 + 4 * z 0) bk sz)) 0 0 (AA (27 + 4 * z 0) bk sz) := by
  refine pw_entry (cc := b_X_cost) (maxL := 4) (ret := (some .int)) (by decide +kernel) rfl (Nat.le_of_ble_eq_true rfl) ?_
  intro p_ e_ s m below_ meth_ c_ ls hx hb hr hml hts hown hlocks hin hsz hP hK hD hS hA hN hl
  have hw : ∀ w ∈ WA, w.before _ s = true := fun w h => hts w (List.mem_cons_of_mem _ h)
  have hown : s.vm.findClass "IssueRows" = some m.cls := hown
  have hl : lv_has ls 4 [(0, .ref (bk (0))), (1, .int (x)), (2, .int (more))] := hl
  refine lv_aload_n hx hb d_X_cost_0 rfl (lv_at hl 0 rfl) ?_
  refine lv_iload_n hx hb d_X_cost_1 rfl (lv_at hl 1 rfl) ?_
  refine pw_callSq (va_runV (As := [.int (x)]) (rest := []) ⟨hx, hb, hml, hown, hw⟩ (c_X_find_out l D cs bk s.heap.size z bo g q pp dd hz0 x ho) (cw_V 1 hw kM_X_89 kI_X_find kV_X_find kZ_X kC_X_find rfl rfl ⟨rfl, by decide, by decide, by decide +kernel⟩ ⟨Nat.le_of_ble_eq_true rfl, Nat.le_of_ble_eq_true rfl⟩) (pw_preV hN hK hP hD (0) (by omega) rfl rfl) rfl rfl hl.1 rfl (lv_room (Nat.le_of_ble_eq_true rfl)) d_X_cost_2 ⟨Nat.le_of_ble_eq_true rfl, Nat.le_of_ble_eq_true rfl⟩) (fun r_1 hr_1 => ?_)
  have hr_1 : r_1 = none := hr_1
  subst hr_1
  refine W.eq (g2 := F0 m 5 ls [.null]) rfl ?_
  refine lv_astore_nN (lv' := [(3, .null), (0, .ref (bk (0))), (1, .int (x)), (2, .int (more))]) hx hb d_X_cost_5 rfl hl (by decide) rfl (fun ls hl => ?_)
  refine lv_aload_nN hx hb d_X_cost_6 rfl (lv_at hl 0 rfl) ?_
  refine lv_ifnonnullN hx hb d_X_cost_7 ?_
  refine lv_iconst (v := -1) hx hb d_X_cost_10 (by decide) ?_
  exact W.iret (v := -1) hx hb hr (fun t ht hW => ⟨⟨-1, (27 + 4 * z 0, bk, CW cs z bo g q pp dd bk), rfl, Xr_of (by rw [s_X_cost_out]) rfl, by rw [ht]; exact hP, va_K.moved hW.alike hK, hD⟩, hS.F ht⟩) hS.2.2 d_X_cost_11
def s_X_cost (z bo : Nat → Nat) (g q pp dd : Nat → Nat → Int32) (j : Nat) (more : Int32) : XS := (if 0 ≤ more ∧ more ≤ 10000000 then (if ((g j) 11) ≤ (1000000000 - more) then (((g j) 11) + more, z, bo, va_up g j (upd (g j) 11 (((g j) 11) + more)), q, pp, dd) else (-4, z, bo, g, q, pp, dd)) else (-2, z, bo, g, q, pp, dd))
set_option maxHeartbeats 4000000 in
set_option maxRecDepth 100000 in
theorem c_X_cost (l : Launch) (D : va_G) (cs : Nat → ClassId) (bk : Nat → Nat) (sz : Nat) (z bo : Nat → Nat) (g q pp dd : Nat → Nat → Int32) (hz0 : z 0 ≤ 200) (j : Nat) (hj : j < z 0)  (more : Int32) : Met l y_X_cost w_X_cost ({ frames := 2, cells := 0, slots := 0, locals := 43 }) (va_Pc [.ref (bk (0)), .int (nI j), .int (more)] (PB D classes (TY cs) (27 + 4 * z 0) bk (CW cs z bo g q pp dd bk) sz)) (va_Qi (Xr cs bk (s_X_cost z bo g q pp dd j more)) (Wd D classes (TY cs) (AA (27 + 4 * z 0) bk sz)) (AA (27 + 4 * z 0) bk sz)) 0 0 (AA (27 + 4 * z 0) bk sz) := by
  refine pw_entry (cc := b_X_cost) (maxL := 4) (ret := (some .int)) (by decide +kernel) rfl (Nat.le_of_ble_eq_true rfl) ?_
  intro p_ e_ s m below_ meth_ c_ ls hx hb hr hml hts hown hlocks hin hsz hP hK hD hS hA hN hl
  have hw : ∀ w ∈ WA, w.before _ s = true := fun w h => hts w (List.mem_cons_of_mem _ h)
  have hown : s.vm.findClass "IssueRows" = some m.cls := hown
  have hl : lv_has ls 4 [(0, .ref (bk (0))), (1, .int (nI j)), (2, .int (more))] := hl
  refine lv_aload_n hx hb d_X_cost_0 rfl (lv_at hl 0 rfl) ?_
  refine lv_iload_n hx hb d_X_cost_1 rfl (lv_at hl 1 rfl) ?_
  refine pw_callSq (va_runV (As := [.int (nI j)]) (rest := []) ⟨hx, hb, hml, hown, hw⟩ (c_X_find l D cs bk s.heap.size z bo g q pp dd hz0 j hj) (cw_V 1 hw kM_X_89 kI_X_find kV_X_find kZ_X kC_X_find rfl rfl ⟨rfl, by decide, by decide, by decide +kernel⟩ ⟨Nat.le_of_ble_eq_true rfl, Nat.le_of_ble_eq_true rfl⟩) (pw_preV hN hK hP hD (0) (by omega) rfl rfl) rfl rfl hl.1 rfl (lv_room (Nat.le_of_ble_eq_true rfl)) d_X_cost_2 ⟨Nat.le_of_ble_eq_true rfl, Nat.le_of_ble_eq_true rfl⟩) (fun r_1 hr_1 => ?_)
  have hr_1 : r_1 = some (bk (27 + 4 * j)) := hr_1
  subst hr_1
  refine W.eq (g2 := F0 m 5 ls [.ref (bk (27 + 4 * j))]) rfl ?_
  refine lv_astore_n (lv' := [(3, .ref (bk (27 + 4 * j))), (0, .ref (bk (0))), (1, .int (nI j)), (2, .int (more))]) hx hb d_X_cost_5 rfl hl (by decide) rfl (fun ls hl => ?_)
  refine lv_aload_n hx hb d_X_cost_6 rfl (lv_at hl 0 rfl) ?_
  refine lv_ifnonnull (tgt := 12) hx hb d_X_cost_7 (by decide) ?_
  refine lv_iload_n hx hb d_X_cost_12 rfl (lv_at hl 3 rfl) ?_
  refine lv_iconst (v := 0) hx hb d_X_cost_13 (by decide) ?_
  refine lv_ldc (v := 10000000) hx hb hown (hw _ kK_X_204) d_X_cost_14 ?_
  refine pw_callSi (va_runS (As := [.int (more), .int (0), .int (10000000)]) (rest := []) ⟨hx, hb, hml, hown, hw⟩ (c_X_within l D cs (27 + 4 * z 0) bk (CW cs z bo g q pp dd bk) s.heap.size more 0 10000000) (cw_S 3 hw kM_X_59 kS_X_within kZ_X kC_X_within rfl rfl ⟨rfl, by decide, by decide, by decide +kernel⟩ ⟨Nat.le_of_ble_eq_true rfl, Nat.le_of_ble_eq_true rfl⟩) (pw_preS hN hK hP hD) rfl rfl hl.1 rfl (lv_room (Nat.le_of_ble_eq_true rfl)) d_X_cost_16 ⟨Nat.le_of_ble_eq_true rfl, Nat.le_of_ble_eq_true rfl⟩) (fun r_2 hr_2 => ?_)
  have hr_2 : r_2 = bI (0 ≤ more ∧ more ≤ 10000000) := hr_2
  subst hr_2
  refine pw_ifne (tgt := 25) hx hb d_X_cost_19 (by decide) (fun c_3 => ?_) (fun c_3 => ?_)
  · have c_3 : 0 ≤ more ∧ more ≤ 10000000 := c_3
    refine lv_aload_n hx hb d_X_cost_25 rfl (lv_at hl 0 rfl) ?_
    refine pw_get (ci := 2) (v := .int ((g j) 11)) hx hb hw i_I hown hK hP (27 + 4 * j) (by omega) (CW_iss j) rfl 13 (by decide) (hw _ kF_X_205) rfl d_X_cost_26 ?_
    refine lv_ldc (v := 1000000000) hx hb hown (hw _ kK_X_208) d_X_cost_29 ?_
    refine lv_iload_n hx hb d_X_cost_31 rfl (lv_at hl 3 rfl) ?_
    refine lv_isub hx hb d_X_cost_32 ?_
    refine lv_icmp_le (tgt := 39) hx hb d_X_cost_33 (by decide) (fun c_4 => ?_) (fun c_4 => ?_)
    · have c_4 : ((g j) 11) ≤ (1000000000 - more) := c_4
      refine lv_aload_n hx hb d_X_cost_39 rfl (lv_at hl 0 rfl) ?_
      refine lv_dup hx hb d_X_cost_40 rfl ?_
      refine pw_get (ci := 2) (v := .int ((g j) 11)) hx hb hw i_I hown hK hP (27 + 4 * j) (by omega) (CW_iss j) rfl 13 (by decide) (hw _ kF_X_205) rfl d_X_cost_41 ?_
      refine lv_iload_n hx hb d_X_cost_44 rfl (lv_at hl 3 rfl) ?_
      refine lv_iadd hx hb d_X_cost_45 ?_
      refine pw_put (ci := 2) (v := .int (((g j) 11) + more)) (ty := .int) (fs' := [.int (nI j), .int ((g j) 0), .int ((g j) 1), .int ((g j) 2), .int ((g j) 3), .ref (bk (28 + 4 * j)), .int ((g j) 4), .int ((g j) 5), .int ((g j) 6), .int ((g j) 7), .int ((g j) 8), .int ((g j) 9), .int ((g j) 10), .int (((g j) 11) + more)]) hx hb hw i_I t_I t_I_ok n_I hown hK hP hD hS (27 + 4 * j) (by omega) (CW_iss j) rfl 13 (by decide) (hw _ kF_X_205) rfl (t_I_ok 13 (by decide)) rfl rfl (Nat.le_of_ble_eq_true rfl) rfl d_X_cost_46 (fun cw_5 H locs ecw_5 hP hD hS => ?_)
      obtain rfl : cw_5 = CW cs z bo (va_up g j (upd (g j) 11 (((g j) 11) + more))) q pp dd bk := by rw [ecw_5]; exact (CW_setI j (upd (g j) 11 (((g j) 11) + more)) rfl rfl rfl)
      refine lv_aload_n hx hb d_X_cost_49 rfl (lv_at hl 0 rfl) ?_
      refine pw_get (ci := 2) (v := .int (((g j) 11) + more)) hx hb hw i_I hown hK hP (27 + 4 * j) (by omega) (CW_issU j) rfl 13 (by decide) (hw _ kF_X_205) rfl d_X_cost_50 ?_
      exact W.iret (v := ((g j) 11) + more) hx hb hr (fun t ht hW => ⟨⟨((g j) 11) + more, (27 + 4 * z 0, bk, CW cs z bo (va_up g j (upd (g j) 11 (((g j) 11) + more))) q pp dd bk), rfl, Xr_of (by rw [s_X_cost, if_pos c_3, if_pos c_4]) rfl, by rw [ht]; exact hP, va_K.moved hW.alike hK, hD⟩, hS.F ht⟩) hS.2.2 d_X_cost_53
    · have c_4 : ¬ ((g j) 11) ≤ (1000000000 - more) := c_4
      refine lv_bipush (v := -4) hx hb d_X_cost_36 (by decide) ?_
      exact W.iret (v := -4) hx hb hr (fun t ht hW => ⟨⟨-4, (27 + 4 * z 0, bk, CW cs z bo g q pp dd bk), rfl, Xr_of (by rw [s_X_cost, if_pos c_3, if_neg c_4]) rfl, by rw [ht]; exact hP, va_K.moved hW.alike hK, hD⟩, hS.F ht⟩) hS.2.2 d_X_cost_38
  · have c_3 : ¬ (0 ≤ more ∧ more ≤ 10000000) := c_3
    refine lv_bipush (v := -2) hx hb d_X_cost_22 (by decide) ?_
    exact W.iret (v := -2) hx hb hr (fun t ht hW => ⟨⟨-2, (27 + 4 * z 0, bk, CW cs z bo g q pp dd bk), rfl, Xr_of (by rw [s_X_cost, if_neg c_3]) rfl, by rw [ht]; exact hP, va_K.moved hW.alike hK, hD⟩, hS.F ht⟩) hS.2.2 d_X_cost_24

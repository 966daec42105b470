def s_X_replace_out (z bo : Nat → Nat) (g q pp dd : Nat → Nat → Int32) (x : Int32) (day : Int32) : XS := (-1, z, bo, g, q, pp, dd)
set_option maxHeartbeats 4000000 in
set_option maxRecDepth 100000 in
theorem c_X_replace_out (l : Launch) (D : va_G) (cs : Nat → ClassId) (bk : Nat → Nat) (sz : Nat) (z bo : Nat → Nat) (g q pp dd : Nat → Nat → Int32) (hz0 : z 0 ≤ 200) (x : Int32) (ho : ¬ (0 ≤ x ∧ x < nI (z 0))) (day : Int32) : Met l y_X_replace w_X_replace ({ frames := 3, cells := 4, slots := 35, locals := 57 }) (va_Pc [.ref (bk (0)), .int (x), .int (day)] (PB D classes (TY cs) (27 + 4 * z 0) bk (CW cs z bo g q pp dd bk) sz)) (va_Qi (Xg cs bk (z 0) (s_X_replace_out z bo g q pp dd x day)) (Wd D classes (TY cs) (AA (27 + 4 * z 0) bk sz)) (AA (27 + 4 * z 0) bk sz)) 4 35 (AA (27 + 4 * z 0) bk sz) := by
  refine pw_entry (cc := b_X_replace) (maxL := 5) (ret := (some .int)) (by decide +kernel) rfl (Nat.le_of_ble_eq_true rfl) ?_
  intro p_ e_ s m below_ meth_ c_ ls hx hb hr hml hts hown hlocks hin hsz hP hK hD hS hA hN hl
  have hw : ∀ w ∈ WA, w.before _ s = true := fun w h => hts w (List.mem_cons_of_mem _ h)
  have hown : s.vm.findClass "IssueRows" = some m.cls := hown
  have hl : lv_has ls 5 [(0, .ref (bk (0))), (1, .int (x)), (2, .int (day))] := hl
  refine lv_aload_n hx hb d_X_replace_0 rfl (lv_at hl 0 rfl) ?_
  refine lv_iload_n hx hb d_X_replace_1 rfl (lv_at hl 1 rfl) ?_
  refine pw_callSq (va_runV (As := [.int (x)]) (rest := []) ⟨hx, hb, hml, hown, hw⟩ (c_X_find_out l D cs bk s.heap.size z bo g q pp dd hz0 x ho) (cw_V 1 hw kM_X_89 kI_X_find kV_X_find kZ_X kC_X_find rfl rfl ⟨rfl, by decide, by decide, by decide +kernel⟩ ⟨Nat.le_of_ble_eq_true rfl, Nat.le_of_ble_eq_true rfl⟩) (pw_preV hN hK hP hD (0) (by omega) rfl rfl) rfl rfl hl.1 rfl (lv_room (Nat.le_of_ble_eq_true rfl)) d_X_replace_2 ⟨Nat.le_of_ble_eq_true rfl, Nat.le_of_ble_eq_true rfl⟩) (fun r_1 hr_1 => ?_)
  have hr_1 : r_1 = none := hr_1
  subst hr_1
  refine W.eq (g2 := F0 m 5 ls [.null]) rfl ?_
  refine lv_astore_nN (lv' := [(3, .null), (0, .ref (bk (0))), (1, .int (x)), (2, .int (day))]) hx hb d_X_replace_5 rfl hl (by decide) rfl (fun ls hl => ?_)
  refine lv_aload_nN hx hb d_X_replace_6 rfl (lv_at hl 0 rfl) ?_
  refine lv_ifnonnullN hx hb d_X_replace_7 ?_
  refine lv_iconst (v := -1) hx hb d_X_replace_10 (by decide) ?_
  refine W.widen (k := 4) (n := 35) (by decide) (by decide) ?_
  exact W.iret (v := -1) hx hb hr (fun t ht hW => ⟨⟨-1, (27 + 4 * z 0, bk, CW cs z bo g q pp dd bk), rfl, Xg_of (by rw [s_X_replace_out]) rfl (fun _ _ => rfl), by rw [ht]; exact hP, va_K.moved hW.alike hK, hD⟩, hS.F ht⟩) hS.2.2 d_X_replace_11
def s_X_replace (z bo : Nat → Nat) (g q pp dd : Nat → Nat → Int32) (j : Nat) (day : Int32) : XS := (if 0 ≤ day ∧ day ≤ 1000000 then (if (((g j) 4) = 3 ∨ ((g j) 4) = 4) ∧ ¬ (0 ≤ ((g j) 13) ∧ ((g j) 13) < ((g j) 12)) then (if (nI (z 0)) < 200 then (nI (z 0), va_up z 0 (z 0 + 1), insB bo (insP bo (va_up g (z 0) (upd (upd (upd (recI ((g j) 0) ((g j) 1) ((g j) 2) 1) 4 3) 7 1) 8 day)) ((va_up g (z 0) (upd (upd (upd (recI ((g j) 0) ((g j) 1) ((g j) 2) 1) 4 3) 7 1) 8 day)) (z 0) 1) (z 0)) (z 0), va_up (va_up g (z 0) (upd (upd (upd (recI ((g j) 0) ((g j) 1) ((g j) 2) 1) 4 3) 7 1) 8 day)) j (upd (upd ((va_up g (z 0) (upd (upd (upd (recI ((g j) 0) ((g j) 1) ((g j) 2) 1) 4 3) 7 1) 8 day)) j) 4 6) 10 (nI (z 0))), q, va_up pp (z 0) (fun _ => 0), va_up dd (z 0) (fun _ => 0)) else (-4, z, bo, g, q, pp, dd)) else (-3, z, bo, g, q, pp, dd)) else (-2, z, bo, g, q, pp, dd))
set_option maxHeartbeats 4000000 in
set_option maxRecDepth 100000 in
theorem c_X_replace (l : Launch) (D : va_G) (cs : Nat → ClassId) (bk : Nat → Nat) (sz : Nat) (z bo : Nat → Nat) (g q pp dd : Nat → Nat → Int32) (hz0 : z 0 ≤ 200) (j : Nat) (hj : j < z 0) (hbo : ∀ t, t < z 0 → bo t < z 0) (day : Int32) : Met l y_X_replace w_X_replace ({ frames := 3, cells := 4, slots := 35, locals := 57 }) (va_Pc [.ref (bk (0)), .int (nI j), .int (day)] (PB D classes (TY cs) (27 + 4 * z 0) bk (CW cs z bo g q pp dd bk) sz)) (va_Qi (Xg cs bk (z 0) (s_X_replace z bo g q pp dd j day)) (Wd D classes (TY cs) (AA (27 + 4 * z 0) bk sz)) (AA (27 + 4 * z 0) bk sz)) 4 35 (AA (27 + 4 * z 0) bk sz) := by
  refine pw_entry (cc := b_X_replace) (maxL := 5) (ret := (some .int)) (by decide +kernel) rfl (Nat.le_of_ble_eq_true rfl) ?_
  intro p_ e_ s m below_ meth_ c_ ls hx hb hr hml hts hown hlocks hin hsz hP hK hD hS hA hN hl
  have hw : ∀ w ∈ WA, w.before _ s = true := fun w h => hts w (List.mem_cons_of_mem _ h)
  have hown : s.vm.findClass "IssueRows" = some m.cls := hown
  have hl : lv_has ls 5 [(0, .ref (bk (0))), (1, .int (nI j)), (2, .int (day))] := hl
  refine lv_aload_n hx hb d_X_replace_0 rfl (lv_at hl 0 rfl) ?_
  refine lv_iload_n hx hb d_X_replace_1 rfl (lv_at hl 1 rfl) ?_
  refine pw_callSq (va_runV (As := [.int (nI j)]) (rest := []) ⟨hx, hb, hml, hown, hw⟩ (c_X_find l D cs bk s.heap.size z bo g q pp dd hz0 j hj) (cw_V 1 hw kM_X_89 kI_X_find kV_X_find kZ_X kC_X_find rfl rfl ⟨rfl, by decide, by decide, by decide +kernel⟩ ⟨Nat.le_of_ble_eq_true rfl, Nat.le_of_ble_eq_true rfl⟩) (pw_preV hN hK hP hD (0) (by omega) rfl rfl) rfl rfl hl.1 rfl (lv_room (Nat.le_of_ble_eq_true rfl)) d_X_replace_2 ⟨Nat.le_of_ble_eq_true rfl, Nat.le_of_ble_eq_true rfl⟩) (fun r_1 hr_1 => ?_)
  have hr_1 : r_1 = some (bk (27 + 4 * j)) := hr_1
  subst hr_1
  refine W.eq (g2 := F0 m 5 ls [.ref (bk (27 + 4 * j))]) rfl ?_
  refine lv_astore_n (lv' := [(3, .ref (bk (27 + 4 * j))), (0, .ref (bk (0))), (1, .int (nI j)), (2, .int (day))]) hx hb d_X_replace_5 rfl hl (by decide) rfl (fun ls hl => ?_)
  refine lv_aload_n hx hb d_X_replace_6 rfl (lv_at hl 0 rfl) ?_
  refine lv_ifnonnull (tgt := 12) hx hb d_X_replace_7 (by decide) ?_
  refine lv_iload_n hx hb d_X_replace_12 rfl (lv_at hl 3 rfl) ?_
  refine pw_callSi (va_runS (As := [.int (day)]) (rest := []) ⟨hx, hb, hml, hown, hw⟩ (c_X_isDay l D cs (27 + 4 * z 0) bk (CW cs z bo g q pp dd bk) s.heap.size day) (cw_S 1 hw kM_X_72 kS_X_isDay kZ_X kC_X_isDay rfl rfl ⟨rfl, by decide, by decide, by decide +kernel⟩ ⟨Nat.le_of_ble_eq_true rfl, Nat.le_of_ble_eq_true rfl⟩) (pw_preS hN hK hP hD) rfl rfl hl.1 rfl (lv_room (Nat.le_of_ble_eq_true rfl)) d_X_replace_13 ⟨Nat.le_of_ble_eq_true rfl, Nat.le_of_ble_eq_true rfl⟩) (fun r_2 hr_2 => ?_)
  have hr_2 : r_2 = bI (0 ≤ day ∧ day ≤ 1000000) := hr_2
  subst hr_2
  refine pw_ifne (tgt := 22) hx hb d_X_replace_16 (by decide) (fun c_3 => ?_) (fun c_3 => ?_)
  · have c_3 : 0 ≤ day ∧ day ≤ 1000000 := c_3
    refine lv_aload_n hx hb d_X_replace_22 rfl (lv_at hl 0 rfl) ?_
    refine pw_callSi (va_runV (As := []) (rest := []) ⟨hx, hb, hml, hown, hw⟩ (c_I_isReplaceable l D cs (27 + 4 * z 0) bk (CW cs z bo g q pp dd bk) s.heap.size (27 + 4 * j) (28 + 4 * j) (by omega) (nI j) ((g j) 0) ((g j) 1) ((g j) 2) ((g j) 3) ((g j) 4) ((g j) 5) ((g j) 6) ((g j) 7) ((g j) 8) ((g j) 9) ((g j) 10) ((g j) 11) (CW_iss j) (29 + 4 * j) (30 + 4 * j) (by omega) ((g j) 12) ((g j) 13) ((g j) 14) (CW_rou j)) (cw_V 0 hw kM_X_164 kI_I_isReplaceable kV_I_isReplaceable kZ_I kC_I_isReplaceable rfl rfl ⟨rfl, by decide, by decide, by decide +kernel⟩ ⟨Nat.le_of_ble_eq_true rfl, Nat.le_of_ble_eq_true rfl⟩) (pw_preV hN hK hP hD (27 + 4 * j) (by omega) (CW_iss j) rfl) rfl rfl hl.1 rfl (lv_room (Nat.le_of_ble_eq_true rfl)) d_X_replace_23 ⟨Nat.le_of_ble_eq_true rfl, Nat.le_of_ble_eq_true rfl⟩) (fun r_4 hr_4 => ?_)
    have hr_4 : r_4 = bI ((((g j) 4) = 3 ∨ ((g j) 4) = 4) ∧ ¬ (0 ≤ ((g j) 13) ∧ ((g j) 13) < ((g j) 12))) := hr_4
    subst hr_4
    refine pw_ifne (tgt := 32) hx hb d_X_replace_26 (by decide) (fun c_5 => ?_) (fun c_5 => ?_)
    · have c_5 : (((g j) 4) = 3 ∨ ((g j) 4) = 4) ∧ ¬ (0 ≤ ((g j) 13) ∧ ((g j) 13) < ((g j) 12)) := c_5
      refine lv_aload_n hx hb d_X_replace_32 rfl (lv_at hl 1 rfl) ?_
      refine pw_get (ci := 0) (v := .int (nI (z 0))) hx hb hw i_X hown hK hP (0) (by omega) rfl rfl 3 (by decide) (hw _ kF_X_24) rfl d_X_replace_33 ?_
      refine lv_sipush (v := 200) hx hb d_X_replace_36 (by decide) ?_
      refine lv_icmp_lt (tgt := 45) hx hb d_X_replace_39 (by decide) (fun c_6 => ?_) (fun c_6 => ?_)
      · have c_6 : (nI (z 0)) < 200 := c_6
        have hz9 : z 0 < 200 := by have h7 := c_6; rw [show (200 : Int32) = nI 200 from rfl] at h7; (first | rw [nI_ltI (by omega) (by decide)] at h7 | rw [nI_leI (by decide) (by omega)] at h7); omega
        refine pw_new (ci := 2) (fs := [.int (0), .int (0), .int (0), .int (0), .int (0), .null, .int (0), .int (0), .int (0), .int (0), .int (0), .int (0), .int (0), .int (0)]) hx hb hw i_I t_I t_I_ok hown (hw _ kL_X_15) (hw _ kA_I) (hw _ kZ_I) hK hP hD hS hA rfl (fun j hj => by match j, hj with | 0, _ => rfl | 1, _ => rfl | 2, _ => rfl | 3, _ => rfl | 4, _ => rfl | 5, _ => rfl | 6, _ => rfl | 7, _ => rfl | 8, _ => rfl | 9, _ => rfl | 10, _ => rfl | 11, _ => rfl | 12, _ => rfl | 13, _ => rfl) (Nat.le_of_ble_eq_true rfl) (Nat.le_of_ble_eq_true rfl) d_X_replace_45 (fun qa H hP hD hS => ?_)
        obtain ⟨bk1, eb1⟩ : ∃ x, x = va_up bk (27 + 4 * z 0) qa := ⟨_, rfl⟩
        obtain ⟨cw1, ec1⟩ : ∃ x, x = va_up (CW cs z bo g q pp dd bk) (27 + 4 * z 0) (.inr (2, [.int (0), .int (0), .int (0), .int (0), .int (0), .null, .int (0), .int (0), .int (0), .int (0), .int (0), .int (0), .int (0), .int (0)])) := ⟨_, rfl⟩
        rw [← eb1, ← ec1] at hP hD
        have hqa1 : bk1 (27 + 4 * z 0) = qa := by rw [eb1]; exact va_up_self _ _ _
        have hb1 : ∀ k, k < 27 + 4 * z 0 → bk1 k = bk k := fun k h => by rw [eb1]; exact va_up_ne _ _ (by omega)
        have hc1 : ∀ k, k < 27 + 4 * z 0 → cw1 k = (CW cs z bo g q pp dd bk) k := fun k h => by rw [ec1]; exact va_up_ne _ _ (by omega)
        have hcn : cw1 (27 + 4 * z 0) = .inr (2, [.int (0), .int (0), .int (0), .int (0), .int (0), .null, .int (0), .int (0), .int (0), .int (0), .int (0), .int (0), .int (0), .int (0)]) := by rw [ec1]; exact va_up_self _ _ _
        refine lv_dup hx hb d_X_replace_48 rfl ?_
        refine lv_aload_n hx hb d_X_replace_49 rfl (lv_at hl 1 rfl) ?_
        refine pw_getA (ci := 0) (v := .int (nI (z 0))) hx hb hw i_X hown hK hP (0) (by omega) (hb1 (0) (by omega)) ((hc1 (0) (by omega)).trans rfl) rfl 3 (by decide) (hw _ kF_X_24) rfl d_X_replace_50 ?_
        refine lv_aload_n hx hb d_X_replace_53 rfl (lv_at hl 0 rfl) ?_
        refine pw_getA (ci := 2) (v := .int ((g j) 0)) hx hb hw i_I hown hK hP (27 + 4 * j) (by omega) (hb1 (27 + 4 * j) (by omega)) ((hc1 (27 + 4 * j) (by omega)).trans (CW_iss j)) rfl 1 (by decide) (hw _ kF_X_167) rfl d_X_replace_54 ?_
        refine lv_aload_n hx hb d_X_replace_57 rfl (lv_at hl 0 rfl) ?_
        refine pw_getA (ci := 2) (v := .int ((g j) 1)) hx hb hw i_I hown hK hP (27 + 4 * j) (by omega) (hb1 (27 + 4 * j) (by omega)) ((hc1 (27 + 4 * j) (by omega)).trans (CW_iss j)) rfl 2 (by decide) (hw _ kF_X_170) rfl d_X_replace_58 ?_
        refine lv_aload_n hx hb d_X_replace_61 rfl (lv_at hl 0 rfl) ?_
        refine pw_getA (ci := 2) (v := .int ((g j) 2)) hx hb hw i_I hown hK hP (27 + 4 * j) (by omega) (hb1 (27 + 4 * j) (by omega)) ((hc1 (27 + 4 * j) (by omega)).trans (CW_iss j)) rfl 3 (by decide) (hw _ kF_X_104) rfl d_X_replace_62 ?_
        refine lv_iconst (v := 1) hx hb d_X_replace_65 (by decide) ?_
        refine pw_callv (va_runI (As := [.int (nI (z 0)), .int ((g j) 0), .int ((g j) 1), .int ((g j) 2), .int (1)]) (rest := [.ref (qa)]) ⟨hx, hb, hml, hown, hw⟩ (c_I_init l D cs (27 + 4 * z 0 + 1) bk1 cw1 H.size (27 + 4 * z 0) (by omega) qa hqa1 hcn (nI (z 0)) ((g j) 0) ((g j) 1) ((g j) 2) 1 ⟨rfl, rfl⟩) (cw_I 5 hw kM_X_79 kI_I_init kZ_I kC_I_init rfl rfl rfl ⟨by decide, by decide, by decide +kernel⟩ ⟨Nat.le_of_ble_eq_true rfl, Nat.le_of_ble_eq_true rfl⟩) (pw_preS hN hK hP hD) rfl rfl hl.1 rfl (lv_room (Nat.le_of_ble_eq_true rfl)) d_X_replace_66 ⟨Nat.le_of_ble_eq_true rfl, Nat.le_of_ble_eq_true rfl⟩) hS (wl_free hD hS hA) (fun N1 bk2 cw2 H locs hu hP hD hS => ?_)
        obtain ⟨z1, z2, z3, z4, z5, z6, z7⟩ := hu
        dsimp only at z1 z2 z3 z4 z5 z6 z7
        subst z1
        rw [CW_made rfl hbo hb1 hc1 z2 z3 z4 z5 z6 z7] at hP hD
        have hb2 : ∀ k, k < 27 + 4 * z 0 → bk2 k = bk k := fun k h => (z2 k (by omega)).trans (hb1 k h)
        have hqa : bk2 (27 + 4 * z 0) = qa := (z2 _ (by omega)).trans hqa1
        refine lv_astore (lv' := [(4, .ref (qa)), (3, .ref (bk (27 + 4 * j))), (0, .ref (bk (0))), (1, .int (nI j)), (2, .int (day))]) hx hb d_X_replace_69 hl (by decide) rfl (fun ls hl => ?_)
        refine lv_aload hx hb d_X_replace_71 (lv_at hl 0 rfl) ?_
        refine lv_iconst (v := 1) hx hb d_X_replace_73 (by decide) ?_
        refine lv_iload_n hx hb d_X_replace_74 rfl (lv_at hl 4 rfl) ?_
        refine W.eq (g2 := F0 m 75 ls [.int (day), .int (1), .ref (bk2 (27 + 4 * (z 0)))]) (by rw [hqa]) ?_
        refine pw_callv (va_runV (As := [.int (1), .int (day)]) (rest := []) ⟨hx, hb, hml, hown, hw⟩ (c_I_arrive l D cs (27 + 4 * (z 0 + 1)) bk2 (CW cs z bo (va_up g (z 0) (recI ((g j) 0) ((g j) 1) ((g j) 2) 1)) q (va_up pp (z 0) (fun _ => 0)) (va_up dd (z 0) (fun _ => 0)) bk2) H.size (27 + 4 * (z 0)) (28 + 4 * (z 0)) (by omega) (nI (z 0)) ((g j) 0) ((g j) 1) ((g j) 2) 1 (if ((g j) 2) = -1 then 0 else 1) 0 (-1) 0 (-1) (-1) (-1) 0 (CW_issU (z 0)) 1 day) (cw_V 2 hw kM_X_107 kI_I_arrive kV_I_arrive kZ_I kC_I_arrive rfl rfl ⟨rfl, by decide, by decide, by decide +kernel⟩ ⟨Nat.le_of_ble_eq_true rfl, Nat.le_of_ble_eq_true rfl⟩) (pw_preV hN hK hP hD (27 + 4 * (z 0)) (by omega) (CW_issU (z 0)) rfl) rfl rfl hl.1 rfl (lv_room (Nat.le_of_ble_eq_true rfl)) d_X_replace_75 ⟨Nat.le_of_ble_eq_true rfl, Nat.le_of_ble_eq_true rfl⟩) hS (wl_free hD hS hA) (fun N1 bk3 cw3 H locs hu hP hD hS => ?_)
        have hP : va_P D classes (wl (27 + 4 * (z 0 + 1)) bk2 (CW cs z bo (va_up g (z 0) (upd (upd (upd (recI ((g j) 0) ((g j) 1) ((g j) 2) 1) 4 3) 7 1) 8 day)) q (va_up pp (z 0) (fun _ => 0)) (va_up dd (z 0) (fun _ => 0)) bk2)) H := wl_eqP2 hu ((CW_setI (z 0) (upd (upd (upd (recI ((g j) 0) ((g j) 1) ((g j) 2) 1) 4 3) 7 1) 8 day) (by first | (rw [va_up_self]; rfl) | rw [va_up_self]) (by first | (rw [va_up_self]; rfl) | rw [va_up_self]) (by first | (rw [va_up_self]; rfl) | rw [va_up_self])).trans (by rw [bx_uu])) hP
        have hD : va_D (AA (27 + 4 * z 0) bk sz) (wl (27 + 4 * (z 0 + 1)) bk2 (CW cs z bo (va_up g (z 0) (upd (upd (upd (recI ((g j) 0) ((g j) 1) ((g j) 2) 1) 4 3) 7 1) 8 day)) q (va_up pp (z 0) (fun _ => 0)) (va_up dd (z 0) (fun _ => 0)) bk2)) := wl_eqD2 hu ((CW_setI (z 0) (upd (upd (upd (recI ((g j) 0) ((g j) 1) ((g j) 2) 1) 4 3) 7 1) 8 day) (by first | (rw [va_up_self]; rfl) | rw [va_up_self]) (by first | (rw [va_up_self]; rfl) | rw [va_up_self]) (by first | (rw [va_up_self]; rfl) | rw [va_up_self])).trans (by rw [bx_uu])) hD
        refine lv_aload_n hx hb d_X_replace_78 rfl (lv_at hl 2 rfl) ?_
        refine lv_aload hx hb d_X_replace_79 (lv_at hl 0 rfl) ?_
        refine W.eq (g2 := F0 m 81 ls [.ref (bk2 (27 + 4 * z 0)), .ref (bk2 0)]) (by rw [hqa, hb2 0 (by omega)]) ?_
        refine pw_callv (va_runV (As := [.ref (bk2 (27 + 4 * z 0))]) (rest := []) ⟨hx, hb, hml, hown, hw⟩ (c_X_keep l D cs bk2 H.size z bo (va_up g (z 0) (upd (upd (upd (recI ((g j) 0) ((g j) 1) ((g j) 2) 1) 4 3) 7 1) 8 day)) q (va_up pp (z 0) (fun _ => 0)) (va_up dd (z 0) (fun _ => 0)) (z 0) rfl (by omega) hbo) (cw_V 1 hw kM_X_82 kI_X_keep kV_X_keep kZ_X kC_X_keep rfl rfl ⟨rfl, by decide, by decide, by decide +kernel⟩ ⟨Nat.le_of_ble_eq_true rfl, Nat.le_of_ble_eq_true rfl⟩) (pw_preV hN hK hP hD (0) (by omega) rfl rfl) rfl rfl hl.1 rfl (lv_room (Nat.le_of_ble_eq_true rfl)) d_X_replace_81 ⟨Nat.le_of_ble_eq_true rfl, Nat.le_of_ble_eq_true rfl⟩) hS (wl_free hD hS hA) (fun N1 bk3 cw3 H locs hu hP hD hS => ?_)
        have hP := wl_eqP hu hP
        have hD := wl_eqD hu hD
        refine lv_aload_n hx hb d_X_replace_84 rfl (lv_at hl 1 rfl) ?_
        refine lv_bipush (v := 6) hx hb d_X_replace_85 (by decide) ?_
        refine pw_putA (ci := 2) (v := .int (6)) (ty := .int) (fs' := [.int (nI j), .int (((va_up g (z 0) (upd (upd (upd (recI ((g j) 0) ((g j) 1) ((g j) 2) 1) 4 3) 7 1) 8 day)) j) 0), .int (((va_up g (z 0) (upd (upd (upd (recI ((g j) 0) ((g j) 1) ((g j) 2) 1) 4 3) 7 1) 8 day)) j) 1), .int (((va_up g (z 0) (upd (upd (upd (recI ((g j) 0) ((g j) 1) ((g j) 2) 1) 4 3) 7 1) 8 day)) j) 2), .int (((va_up g (z 0) (upd (upd (upd (recI ((g j) 0) ((g j) 1) ((g j) 2) 1) 4 3) 7 1) 8 day)) j) 3), .ref (bk2 (28 + 4 * j)), .int (6), .int (((va_up g (z 0) (upd (upd (upd (recI ((g j) 0) ((g j) 1) ((g j) 2) 1) 4 3) 7 1) 8 day)) j) 5), .int (((va_up g (z 0) (upd (upd (upd (recI ((g j) 0) ((g j) 1) ((g j) 2) 1) 4 3) 7 1) 8 day)) j) 6), .int (((va_up g (z 0) (upd (upd (upd (recI ((g j) 0) ((g j) 1) ((g j) 2) 1) 4 3) 7 1) 8 day)) j) 7), .int (((va_up g (z 0) (upd (upd (upd (recI ((g j) 0) ((g j) 1) ((g j) 2) 1) 4 3) 7 1) 8 day)) j) 8), .int (((va_up g (z 0) (upd (upd (upd (recI ((g j) 0) ((g j) 1) ((g j) 2) 1) 4 3) 7 1) 8 day)) j) 9), .int (((va_up g (z 0) (upd (upd (upd (recI ((g j) 0) ((g j) 1) ((g j) 2) 1) 4 3) 7 1) 8 day)) j) 10), .int (((va_up g (z 0) (upd (upd (upd (recI ((g j) 0) ((g j) 1) ((g j) 2) 1) 4 3) 7 1) 8 day)) j) 11)]) hx hb hw i_I t_I t_I_ok n_I hown hK hP hD hS (27 + 4 * j) (by omega) (hb2 (27 + 4 * j) (by omega)) (CW_iss j) rfl 6 (by decide) (hw _ kF_X_97) rfl (t_I_ok 6 (by decide)) rfl rfl (Nat.le_of_ble_eq_true rfl) rfl d_X_replace_87 (fun cw_7 H locs ecw_7 hP hD hS => ?_)
        obtain rfl : cw_7 = CW cs (va_up z 0 (z 0 + 1)) (insB bo (insP bo (va_up g (z 0) (upd (upd (upd (recI ((g j) 0) ((g j) 1) ((g j) 2) 1) 4 3) 7 1) 8 day)) ((va_up g (z 0) (upd (upd (upd (recI ((g j) 0) ((g j) 1) ((g j) 2) 1) 4 3) 7 1) 8 day)) (z 0) 1) (z 0)) (z 0)) (va_up (va_up g (z 0) (upd (upd (upd (recI ((g j) 0) ((g j) 1) ((g j) 2) 1) 4 3) 7 1) 8 day)) j (upd ((va_up g (z 0) (upd (upd (upd (recI ((g j) 0) ((g j) 1) ((g j) 2) 1) 4 3) 7 1) 8 day)) j) 4 6)) q (va_up pp (z 0) (fun _ => 0)) (va_up dd (z 0) (fun _ => 0)) bk2 := by rw [ecw_7]; exact (CW_setI j (upd ((va_up g (z 0) (upd (upd (upd (recI ((g j) 0) ((g j) 1) ((g j) 2) 1) 4 3) 7 1) 8 day)) j) 4 6) rfl rfl rfl)
        refine lv_aload_n hx hb d_X_replace_90 rfl (lv_at hl 1 rfl) ?_
        refine lv_aload hx hb d_X_replace_91 (lv_at hl 0 rfl) ?_
        refine pw_getA (ci := 2) (v := .int (nI (z 0))) hx hb hw i_I hown hK hP (27 + 4 * (z 0)) (by omega) hqa (CW_iss (z 0)) rfl 0 (by decide) (hw _ kF_X_86) rfl d_X_replace_93 ?_
        refine pw_putA (ci := 2) (v := .int (nI (z 0))) (ty := .int) (fs' := [.int (nI j), .int (((va_up g (z 0) (upd (upd (upd (recI ((g j) 0) ((g j) 1) ((g j) 2) 1) 4 3) 7 1) 8 day)) j) 0), .int (((va_up g (z 0) (upd (upd (upd (recI ((g j) 0) ((g j) 1) ((g j) 2) 1) 4 3) 7 1) 8 day)) j) 1), .int (((va_up g (z 0) (upd (upd (upd (recI ((g j) 0) ((g j) 1) ((g j) 2) 1) 4 3) 7 1) 8 day)) j) 2), .int (((va_up g (z 0) (upd (upd (upd (recI ((g j) 0) ((g j) 1) ((g j) 2) 1) 4 3) 7 1) 8 day)) j) 3), .ref (bk2 (28 + 4 * j)), .int (6), .int (((va_up g (z 0) (upd (upd (upd (recI ((g j) 0) ((g j) 1) ((g j) 2) 1) 4 3) 7 1) 8 day)) j) 5), .int (((va_up g (z 0) (upd (upd (upd (recI ((g j) 0) ((g j) 1) ((g j) 2) 1) 4 3) 7 1) 8 day)) j) 6), .int (((va_up g (z 0) (upd (upd (upd (recI ((g j) 0) ((g j) 1) ((g j) 2) 1) 4 3) 7 1) 8 day)) j) 7), .int (((va_up g (z 0) (upd (upd (upd (recI ((g j) 0) ((g j) 1) ((g j) 2) 1) 4 3) 7 1) 8 day)) j) 8), .int (((va_up g (z 0) (upd (upd (upd (recI ((g j) 0) ((g j) 1) ((g j) 2) 1) 4 3) 7 1) 8 day)) j) 9), .int (nI (z 0)), .int (((va_up g (z 0) (upd (upd (upd (recI ((g j) 0) ((g j) 1) ((g j) 2) 1) 4 3) 7 1) 8 day)) j) 11)]) hx hb hw i_I t_I t_I_ok n_I hown hK hP hD hS (27 + 4 * j) (by omega) (hb2 (27 + 4 * j) (by omega)) (CW_issU j) rfl 12 (by decide) (hw _ kF_X_173) rfl (t_I_ok 12 (by decide)) rfl rfl (Nat.le_of_ble_eq_true rfl) rfl d_X_replace_96 (fun cw_8 H locs ecw_8 hP hD hS => ?_)
        obtain rfl : cw_8 = CW cs (va_up z 0 (z 0 + 1)) (insB bo (insP bo (va_up g (z 0) (upd (upd (upd (recI ((g j) 0) ((g j) 1) ((g j) 2) 1) 4 3) 7 1) 8 day)) ((va_up g (z 0) (upd (upd (upd (recI ((g j) 0) ((g j) 1) ((g j) 2) 1) 4 3) 7 1) 8 day)) (z 0) 1) (z 0)) (z 0)) (va_up (va_up g (z 0) (upd (upd (upd (recI ((g j) 0) ((g j) 1) ((g j) 2) 1) 4 3) 7 1) 8 day)) j (upd (upd ((va_up g (z 0) (upd (upd (upd (recI ((g j) 0) ((g j) 1) ((g j) 2) 1) 4 3) 7 1) 8 day)) j) 4 6) 10 (nI (z 0)))) q (va_up pp (z 0) (fun _ => 0)) (va_up dd (z 0) (fun _ => 0)) bk2 := by rw [ecw_8]; exact ((CW_setI j (upd (upd ((va_up g (z 0) (upd (upd (upd (recI ((g j) 0) ((g j) 1) ((g j) 2) 1) 4 3) 7 1) 8 day)) j) 4 6) 10 (nI (z 0))) (by first | (rw [va_up_self]; rfl) | rw [va_up_self]) (by first | (rw [va_up_self]; rfl) | rw [va_up_self]) (by first | (rw [va_up_self]; rfl) | rw [va_up_self])).trans (by rw [bx_uu]))
        refine lv_aload hx hb d_X_replace_99 (lv_at hl 0 rfl) ?_
        refine pw_getA (ci := 2) (v := .int (nI (z 0))) hx hb hw i_I hown hK hP (27 + 4 * (z 0)) (by omega) hqa (CW_iss (z 0)) rfl 0 (by decide) (hw _ kF_X_86) rfl d_X_replace_101 ?_
        exact W.iret (v := nI (z 0)) hx hb hr (fun t ht hW => ⟨⟨nI (z 0), (27 + 4 * (z 0 + 1), bk2, CW cs (va_up z 0 (z 0 + 1)) (insB bo (insP bo (va_up g (z 0) (upd (upd (upd (recI ((g j) 0) ((g j) 1) ((g j) 2) 1) 4 3) 7 1) 8 day)) ((va_up g (z 0) (upd (upd (upd (recI ((g j) 0) ((g j) 1) ((g j) 2) 1) 4 3) 7 1) 8 day)) (z 0) 1) (z 0)) (z 0)) (va_up (va_up g (z 0) (upd (upd (upd (recI ((g j) 0) ((g j) 1) ((g j) 2) 1) 4 3) 7 1) 8 day)) j (upd (upd ((va_up g (z 0) (upd (upd (upd (recI ((g j) 0) ((g j) 1) ((g j) 2) 1) 4 3) 7 1) 8 day)) j) 4 6) 10 (nI (z 0)))) q (va_up pp (z 0) (fun _ => 0)) (va_up dd (z 0) (fun _ => 0)) bk2), rfl, Xg_of (by rw [s_X_replace, if_pos c_3, if_pos c_5, if_pos c_6]) rfl hb2, by rw [ht]; exact hP, va_K.moved hW.alike hK, hD⟩, hS.F ht⟩) hS.2.2 d_X_replace_104
      · have c_6 : ¬ (nI (z 0)) < 200 := c_6
        refine lv_bipush (v := -4) hx hb d_X_replace_42 (by decide) ?_
        refine W.widen (k := 4) (n := 35) (by decide) (by decide) ?_
        exact W.iret (v := -4) hx hb hr (fun t ht hW => ⟨⟨-4, (27 + 4 * z 0, bk, CW cs z bo g q pp dd bk), rfl, Xg_of (by rw [s_X_replace, if_pos c_3, if_pos c_5, if_neg c_6]) rfl (fun _ _ => rfl), by rw [ht]; exact hP, va_K.moved hW.alike hK, hD⟩, hS.F ht⟩) hS.2.2 d_X_replace_44
    · have c_5 : ¬ ((((g j) 4) = 3 ∨ ((g j) 4) = 4) ∧ ¬ (0 ≤ ((g j) 13) ∧ ((g j) 13) < ((g j) 12))) := c_5
      refine lv_bipush (v := -3) hx hb d_X_replace_29 (by decide) ?_
      refine W.widen (k := 4) (n := 35) (by decide) (by decide) ?_
      exact W.iret (v := -3) hx hb hr (fun t ht hW => ⟨⟨-3, (27 + 4 * z 0, bk, CW cs z bo g q pp dd bk), rfl, Xg_of (by rw [s_X_replace, if_pos c_3, if_neg c_5]) rfl (fun _ _ => rfl), by rw [ht]; exact hP, va_K.moved hW.alike hK, hD⟩, hS.F ht⟩) hS.2.2 d_X_replace_31
  · have c_3 : ¬ (0 ≤ day ∧ day ≤ 1000000) := c_3
    refine lv_bipush (v := -2) hx hb d_X_replace_19 (by decide) ?_
    refine W.widen (k := 4) (n := 35) (by decide) (by decide) ?_
    exact W.iret (v := -2) hx hb hr (fun t ht hW => ⟨⟨-2, (27 + 4 * z 0, bk, CW cs z bo g q pp dd bk), rfl, Xg_of (by rw [s_X_replace, if_neg c_3]) rfl (fun _ _ => rfl), by rw [ht]; exact hP, va_K.moved hW.alike hK, hD⟩, hS.F ht⟩) hS.2.2 d_X_replace_21

set_option maxHeartbeats 4000000 in
set_option maxRecDepth 100000 in
theorem c_X_init (l : Launch) (D : va_G) (cs : Nat → ClassId) (bk : Nat → Nat) (cw : Nat → va_E) (sz : Nat) (h0 : Nat) (ha0 : bk 0 = h0) (he0 : cw 0 = .inr (0, [.null, .null, .null, .int (0), .null, .null, .null, .null])) : Met l y_X_init w_X_init ({ frames := 2, cells := 26, slots := 1894, locals := 36 }) (va_Pc [.ref h0] (PB D classes (TY cs) 1 bk cw sz)) (va_Qv (fun u : Wt => u.1 = 27 ∧ u.2.1 0 = h0 ∧ u.2.2 0 = .inr (0, [.ref (u.2.1 (1)), .ref (u.2.1 (2)), .ref (u.2.1 (3)), .int 0, .ref (u.2.1 (4)), .ref (u.2.1 (7)), .ref (u.2.1 (10)), .ref (u.2.1 (13))]) ∧ u.2.2 1 = .inl (cs 2, 10, .inr (.inr (.inr (.inr (va_up (va_up (va_up (va_up (va_up (va_up (va_up (va_up (va_up (va_up (fun _ => none) (0) (some (u.2.1 (17)))) (1) (some (u.2.1 (18)))) (2) (some (u.2.1 (19)))) (3) (some (u.2.1 (20)))) (4) (some (u.2.1 (21)))) (5) (some (u.2.1 (22)))) (6) (some (u.2.1 (23)))) (7) (some (u.2.1 (24)))) (8) (some (u.2.1 (25)))) (9) (some (u.2.1 (26)))))))) ∧ u.2.2 2 = .inl (cs 3, 200, .inr (.inr (.inr (.inr (fun _ => none))))) ∧ u.2.2 3 = .inl (cs 3, 200, .inr (.inr (.inr (.inr (fun _ => none))))) ∧ u.2.2 4 = .inr (4, [.ref (u.2.1 (5)), .ref (u.2.1 (6)), .int 0]) ∧ u.2.2 5 = .inl (cs 0, 200, .inl (fun _ => 0)) ∧ u.2.2 6 = .inl (cs 0, 200, .inl (fun _ => 0)) ∧ u.2.2 7 = .inr (4, [.ref (u.2.1 (8)), .ref (u.2.1 (9)), .int 0]) ∧ u.2.2 8 = .inl (cs 0, 100, .inl (fun _ => 0)) ∧ u.2.2 9 = .inl (cs 0, 100, .inl (fun _ => 0)) ∧ u.2.2 10 = .inr (5, [.ref (u.2.1 (11)), .ref (u.2.1 (12)), .int 0]) ∧ u.2.2 11 = .inl (cs 0, 200, .inl (fun _ => 0)) ∧ u.2.2 12 = .inl (cs 0, 41, .inl (fun _ => 0)) ∧ u.2.2 13 = .inr (6, [.ref (u.2.1 (14)), .ref (u.2.1 (15)), .ref (u.2.1 (16)), .int 0]) ∧ u.2.2 14 = .inl (cs 0, 200, .inl (fun _ => 0)) ∧ u.2.2 15 = .inl (cs 0, 200, .inl (fun _ => 0)) ∧ u.2.2 16 = .inl (cs 0, 200, .inl (fun _ => 0)) ∧ u.2.2 17 = .inr (1, [.int 30, .int 20, .int 3]) ∧ u.2.2 18 = .inr (1, [.int 30, .int 20, .int 3]) ∧ u.2.2 19 = .inr (1, [.int 30, .int 20, .int 3]) ∧ u.2.2 20 = .inr (1, [.int 30, .int 20, .int 3]) ∧ u.2.2 21 = .inr (1, [.int 30, .int 20, .int 3]) ∧ u.2.2 22 = .inr (1, [.int 30, .int 20, .int 3]) ∧ u.2.2 23 = .inr (1, [.int 30, .int 20, .int 3]) ∧ u.2.2 24 = .inr (1, [.int 30, .int 20, .int 3]) ∧ u.2.2 25 = .inr (1, [.int 30, .int 20, .int 3]) ∧ u.2.2 26 = .inr (1, [.int 30, .int 20, .int 3])) (Wd D classes (TY cs) (AA 1 bk sz)) (AA 1 bk sz)) 26 1894 (AA 1 bk sz) := by
  refine pw_entry (cc := b_X_init) (maxL := 2) (ret := none) (by decide +kernel) rfl (Nat.le_of_ble_eq_true rfl) ?_
  intro p_ e_ s m below_ meth_ c_ ls hx hb hr hml hts hown hlocks hin hsz hP hK hD hS hA hN hl
  have hw : ∀ w ∈ WA, w.before _ s = true := fun w h => hts w (List.mem_cons_of_mem _ h)
  have hown : s.vm.findClass "IssueRows" = some m.cls := hown
  have hl : lv_has ls 2 [(0, .ref (h0))] := hl
  refine lv_aload_n hx hb d_X_init_0 rfl (lv_at hl 0 rfl) ?_
  refine W.objInit hx hb hown (hw _ kM_X_1) (hw _ kI_O_init) (hw _ kC_O_init) rfl (by rw [hml]; exact hl.1) rfl d_X_init_1 (Nat.le_of_ble_eq_true rfl) (Nat.le_of_ble_eq_true rfl) ?_
  refine W.eq (g2 := F0 m 4 ls []) rfl ?_
  refine lv_aload_n hx hb d_X_init_4 rfl (lv_at hl 0 rfl) ?_
  refine lv_bipush (v := 10) hx hb d_X_init_5 (by decide) ?_
  refine pw_newq hx hb hown (hw _ kL_X_9) hN.2.1 hK hP hD hS hA 2 rfl 10 rfl (by decide) (Nat.le_of_ble_eq_true rfl) (Nat.le_of_ble_eq_true rfl) d_X_init_7 (fun q_1 H hP hD hS => ?_)
  obtain ⟨bk_2, eb⟩ : ∃ x, x = va_up bk 1 q_1 := ⟨_, rfl⟩
  obtain ⟨cw_3, ec⟩ : ∃ x, x = va_up cw 1 (.inl (cs 2, 10, .inr (.inr (.inr (.inr (fun _ => none)))))) := ⟨_, rfl⟩
  replace hP : va_P D classes (wl 2 bk_2 cw_3) H := by rw [eb, ec]; exact hP
  replace hD : va_D (AA 1 bk sz) (wl 2 bk_2 cw_3) := by rw [eb, ec]; exact hD
  have a_4 : bk_2 0 = h0 := by rw [eb, va_up_ne _ _ (by decide)]; exact ha0
  have a_5 : bk_2 1 = q_1 := by rw [eb]; exact va_up_self _ _ _
  have h_6 : cw_3 0 = .inr (0, [.null, .null, .null, .int (0), .null, .null, .null, .null]) := by rw [ec, va_up_ne _ _ (by decide)]; exact he0
  have h_7 : cw_3 1 = .inl (cs 2, 10, .inr (.inr (.inr (.inr (fun _ => none))))) := by rw [ec]; exact va_up_self _ _ _
  clear eb ec
  refine pw_putFA (ci := 0) (v := .ref (q_1)) (ty := (t_X 0)) (fs' := [.ref (q_1), .null, .null, .int (0), .null, .null, .null, .null]) hx hb hw i_X t_X t_X_ok n_X hown hK hP hD hS (0) (by decide) a_4 h_6 rfl 0 (by decide) (hw _ kF_X_11) rfl hin rfl (t_X_ok 0 (by decide)) rfl rfl (Nat.le_of_ble_eq_true rfl) rfl d_X_init_10 (fun cw_8 H locs ecw_8 hP hD hS => ?_)
  have h_9 : cw_8 (0) = .inr (0, [.ref (q_1), .null, .null, .int (0), .null, .null, .null, .null]) := by rw [ecw_8]; exact va_up_self _ _ _
  have h_10 : cw_8 (1) = .inl (cs 2, 10, .inr (.inr (.inr (.inr (fun _ => none))))) := by rw [ecw_8, va_up_ne _ _ (by decide)]; exact h_7
  clear ecw_8
  clear h_6 h_7
  refine lv_aload_n hx hb d_X_init_13 rfl (lv_at hl 0 rfl) ?_
  refine lv_sipush (v := 200) hx hb d_X_init_14 (by decide) ?_
  refine pw_newq hx hb hown (hw _ kL_X_15) hN.2.2 hK hP hD hS hA 3 rfl 200 rfl (by decide) (Nat.le_of_ble_eq_true rfl) (Nat.le_of_ble_eq_true rfl) d_X_init_17 (fun q_11 H hP hD hS => ?_)
  obtain ⟨bk_12, eb⟩ : ∃ x, x = va_up bk_2 2 q_11 := ⟨_, rfl⟩
  obtain ⟨cw_13, ec⟩ : ∃ x, x = va_up cw_8 2 (.inl (cs 3, 200, .inr (.inr (.inr (.inr (fun _ => none)))))) := ⟨_, rfl⟩
  replace hP : va_P D classes (wl 3 bk_12 cw_13) H := by rw [eb, ec]; exact hP
  replace hD : va_D (AA 1 bk sz) (wl 3 bk_12 cw_13) := by rw [eb, ec]; exact hD
  have a_14 : bk_12 0 = h0 := by rw [eb, va_up_ne _ _ (by decide)]; exact a_4
  have a_15 : bk_12 1 = q_1 := by rw [eb, va_up_ne _ _ (by decide)]; exact a_5
  have a_16 : bk_12 2 = q_11 := by rw [eb]; exact va_up_self _ _ _
  have h_17 : cw_13 0 = .inr (0, [.ref (q_1), .null, .null, .int (0), .null, .null, .null, .null]) := by rw [ec, va_up_ne _ _ (by decide)]; exact h_9
  have h_18 : cw_13 1 = .inl (cs 2, 10, .inr (.inr (.inr (.inr (fun _ => none))))) := by rw [ec, va_up_ne _ _ (by decide)]; exact h_10
  have h_19 : cw_13 2 = .inl (cs 3, 200, .inr (.inr (.inr (.inr (fun _ => none))))) := by rw [ec]; exact va_up_self _ _ _
  clear eb ec
  clear a_4 a_5 h_9 h_10
  refine pw_putFA (ci := 0) (v := .ref (q_11)) (ty := (t_X 1)) (fs' := [.ref (q_1), .ref (q_11), .null, .int (0), .null, .null, .null, .null]) hx hb hw i_X t_X t_X_ok n_X hown hK hP hD hS (0) (by decide) a_14 h_17 rfl 1 (by decide) (hw _ kF_X_17) rfl hin rfl (t_X_ok 1 (by decide)) rfl rfl (Nat.le_of_ble_eq_true rfl) rfl d_X_init_20 (fun cw_20 H locs ecw_20 hP hD hS => ?_)
  have h_21 : cw_20 (0) = .inr (0, [.ref (q_1), .ref (q_11), .null, .int (0), .null, .null, .null, .null]) := by rw [ecw_20]; exact va_up_self _ _ _
  have h_22 : cw_20 (1) = .inl (cs 2, 10, .inr (.inr (.inr (.inr (fun _ => none))))) := by rw [ecw_20, va_up_ne _ _ (by decide)]; exact h_18
  have h_23 : cw_20 (2) = .inl (cs 3, 200, .inr (.inr (.inr (.inr (fun _ => none))))) := by rw [ecw_20, va_up_ne _ _ (by decide)]; exact h_19
  clear ecw_20
  clear h_17 h_18 h_19
  refine lv_aload_n hx hb d_X_init_23 rfl (lv_at hl 0 rfl) ?_
  refine lv_sipush (v := 200) hx hb d_X_init_24 (by decide) ?_
  refine pw_newq hx hb hown (hw _ kL_X_15) hN.2.2 hK hP hD hS hA 3 rfl 200 rfl (by decide) (Nat.le_of_ble_eq_true rfl) (Nat.le_of_ble_eq_true rfl) d_X_init_27 (fun q_24 H hP hD hS => ?_)
  obtain ⟨bk_25, eb⟩ : ∃ x, x = va_up bk_12 3 q_24 := ⟨_, rfl⟩
  obtain ⟨cw_26, ec⟩ : ∃ x, x = va_up cw_20 3 (.inl (cs 3, 200, .inr (.inr (.inr (.inr (fun _ => none)))))) := ⟨_, rfl⟩
  replace hP : va_P D classes (wl 4 bk_25 cw_26) H := by rw [eb, ec]; exact hP
  replace hD : va_D (AA 1 bk sz) (wl 4 bk_25 cw_26) := by rw [eb, ec]; exact hD
  have a_27 : bk_25 0 = h0 := by rw [eb, va_up_ne _ _ (by decide)]; exact a_14
  have a_28 : bk_25 1 = q_1 := by rw [eb, va_up_ne _ _ (by decide)]; exact a_15
  have a_29 : bk_25 2 = q_11 := by rw [eb, va_up_ne _ _ (by decide)]; exact a_16
  have a_30 : bk_25 3 = q_24 := by rw [eb]; exact va_up_self _ _ _
  have h_31 : cw_26 0 = .inr (0, [.ref (q_1), .ref (q_11), .null, .int (0), .null, .null, .null, .null]) := by rw [ec, va_up_ne _ _ (by decide)]; exact h_21
  have h_32 : cw_26 1 = .inl (cs 2, 10, .inr (.inr (.inr (.inr (fun _ => none))))) := by rw [ec, va_up_ne _ _ (by decide)]; exact h_22
  have h_33 : cw_26 2 = .inl (cs 3, 200, .inr (.inr (.inr (.inr (fun _ => none))))) := by rw [ec, va_up_ne _ _ (by decide)]; exact h_23
  have h_34 : cw_26 3 = .inl (cs 3, 200, .inr (.inr (.inr (.inr (fun _ => none))))) := by rw [ec]; exact va_up_self _ _ _
  clear eb ec
  clear a_14 a_15 a_16 h_21 h_22 h_23
  refine pw_putFA (ci := 0) (v := .ref (q_24)) (ty := (t_X 2)) (fs' := [.ref (q_1), .ref (q_11), .ref (q_24), .int (0), .null, .null, .null, .null]) hx hb hw i_X t_X t_X_ok n_X hown hK hP hD hS (0) (by decide) a_27 h_31 rfl 2 (by decide) (hw _ kF_X_21) rfl hin rfl (t_X_ok 2 (by decide)) rfl rfl (Nat.le_of_ble_eq_true rfl) rfl d_X_init_30 (fun cw_35 H locs ecw_35 hP hD hS => ?_)
  have h_36 : cw_35 (0) = .inr (0, [.ref (q_1), .ref (q_11), .ref (q_24), .int (0), .null, .null, .null, .null]) := by rw [ecw_35]; exact va_up_self _ _ _
  have h_37 : cw_35 (1) = .inl (cs 2, 10, .inr (.inr (.inr (.inr (fun _ => none))))) := by rw [ecw_35, va_up_ne _ _ (by decide)]; exact h_32
  have h_38 : cw_35 (2) = .inl (cs 3, 200, .inr (.inr (.inr (.inr (fun _ => none))))) := by rw [ecw_35, va_up_ne _ _ (by decide)]; exact h_33
  have h_39 : cw_35 (3) = .inl (cs 3, 200, .inr (.inr (.inr (.inr (fun _ => none))))) := by rw [ecw_35, va_up_ne _ _ (by decide)]; exact h_34
  clear ecw_35
  clear h_31 h_32 h_33 h_34
  refine lv_aload_n hx hb d_X_init_33 rfl (lv_at hl 0 rfl) ?_
  refine lv_iconst (v := 0) hx hb d_X_init_34 (by decide) ?_
  refine pw_putA (ci := 0) (v := .int (0)) (ty := .int) (fs' := [.ref (q_1), .ref (q_11), .ref (q_24), .int (0), .null, .null, .null, .null]) hx hb hw i_X t_X t_X_ok n_X hown hK hP hD hS (0) (by decide) a_27 h_36 rfl 3 (by decide) (hw _ kF_X_24) rfl (t_X_ok 3 (by decide)) rfl rfl (Nat.le_of_ble_eq_true rfl) rfl d_X_init_35 (fun cw_40 H locs ecw_40 hP hD hS => ?_)
  have h_41 : cw_40 (0) = .inr (0, [.ref (q_1), .ref (q_11), .ref (q_24), .int (0), .null, .null, .null, .null]) := by rw [ecw_40]; exact va_up_self _ _ _
  have h_42 : cw_40 (1) = .inl (cs 2, 10, .inr (.inr (.inr (.inr (fun _ => none))))) := by rw [ecw_40, va_up_ne _ _ (by decide)]; exact h_37
  have h_43 : cw_40 (2) = .inl (cs 3, 200, .inr (.inr (.inr (.inr (fun _ => none))))) := by rw [ecw_40, va_up_ne _ _ (by decide)]; exact h_38
  have h_44 : cw_40 (3) = .inl (cs 3, 200, .inr (.inr (.inr (.inr (fun _ => none))))) := by rw [ecw_40, va_up_ne _ _ (by decide)]; exact h_39
  clear ecw_40
  clear h_36 h_37 h_38 h_39
  refine lv_aload_n hx hb d_X_init_38 rfl (lv_at hl 0 rfl) ?_
  refine pw_new (ci := 4) (fs := [.null, .null, .int (0)]) hx hb hw i_P t_P t_P_ok hown (hw _ kL_X_28) (hw _ kA_P) (hw _ kZ_P) hK hP hD hS hA rfl (fun j hj => by match j, hj with | 0, _ => rfl | 1, _ => rfl | 2, _ => rfl) (Nat.le_of_ble_eq_true rfl) (Nat.le_of_ble_eq_true rfl) d_X_init_39 (fun q_45 H hP hD hS => ?_)
  obtain ⟨bk_46, eb⟩ : ∃ x, x = va_up bk_25 4 q_45 := ⟨_, rfl⟩
  obtain ⟨cw_47, ec⟩ : ∃ x, x = va_up cw_40 4 (.inr (4, [.null, .null, .int (0)])) := ⟨_, rfl⟩
  replace hP : va_P D classes (wl 5 bk_46 cw_47) H := by rw [eb, ec]; exact hP
  replace hD : va_D (AA 1 bk sz) (wl 5 bk_46 cw_47) := by rw [eb, ec]; exact hD
  have a_48 : bk_46 0 = h0 := by rw [eb, va_up_ne _ _ (by decide)]; exact a_27
  have a_49 : bk_46 1 = q_1 := by rw [eb, va_up_ne _ _ (by decide)]; exact a_28
  have a_50 : bk_46 2 = q_11 := by rw [eb, va_up_ne _ _ (by decide)]; exact a_29
  have a_51 : bk_46 3 = q_24 := by rw [eb, va_up_ne _ _ (by decide)]; exact a_30
  have a_52 : bk_46 4 = q_45 := by rw [eb]; exact va_up_self _ _ _
  have h_53 : cw_47 0 = .inr (0, [.ref (q_1), .ref (q_11), .ref (q_24), .int (0), .null, .null, .null, .null]) := by rw [ec, va_up_ne _ _ (by decide)]; exact h_41
  have h_54 : cw_47 1 = .inl (cs 2, 10, .inr (.inr (.inr (.inr (fun _ => none))))) := by rw [ec, va_up_ne _ _ (by decide)]; exact h_42
  have h_55 : cw_47 2 = .inl (cs 3, 200, .inr (.inr (.inr (.inr (fun _ => none))))) := by rw [ec, va_up_ne _ _ (by decide)]; exact h_43
  have h_56 : cw_47 3 = .inl (cs 3, 200, .inr (.inr (.inr (.inr (fun _ => none))))) := by rw [ec, va_up_ne _ _ (by decide)]; exact h_44
  have h_57 : cw_47 4 = .inr (4, [.null, .null, .int (0)]) := by rw [ec]; exact va_up_self _ _ _
  clear eb ec
  clear a_27 a_28 a_29 a_30 h_41 h_42 h_43 h_44
  refine lv_dup hx hb d_X_init_42 rfl ?_
  refine lv_sipush (v := 200) hx hb d_X_init_43 (by decide) ?_
  refine pw_callv (va_runI (As := [.int (200)]) (rest := [.ref (q_45), .ref (h0)]) ⟨hx, hb, hml, hown, hw⟩ (c_P_init200 l D cs 5 bk_46 cw_47 H.size 4 (by decide) q_45 a_52 h_57) (cw_I 1 hw kM_X_30 kI_P_init kZ_P kC_P_init rfl rfl rfl ⟨by decide, by decide, by decide +kernel⟩ ⟨Nat.le_of_ble_eq_true rfl, Nat.le_of_ble_eq_true rfl⟩) (pw_preS hN hK hP hD) rfl rfl hl.1 rfl (lv_room (Nat.le_of_ble_eq_true rfl)) d_X_init_46 ⟨Nat.le_of_ble_eq_true rfl, Nat.le_of_ble_eq_true rfl⟩) hS (wl_free hD hS hA) (fun N1 bk1 cw1 H locs hu hP hD hS => ?_)
  obtain ⟨z_0, z_1, z_2, z_3, z_4, z_5⟩ := hu
  dsimp only at z_0 z_1 z_2 z_3 z_4 z_5
  subst z_0
  skip
  skip
  skip
  skip
  replace hP : va_P D classes (wl 7 bk1 cw1) H := hP
  replace hD : va_D (AA 1 bk sz) (wl 7 bk1 cw1) := hD
  have a_62 : bk1 0 = h0 := (z_1 0 (by decide)).trans a_48
  have a_63 : bk1 1 = q_1 := (z_1 1 (by decide)).trans a_49
  have a_64 : bk1 2 = q_11 := (z_1 2 (by decide)).trans a_50
  have a_65 : bk1 3 = q_24 := (z_1 3 (by decide)).trans a_51
  have a_66 : bk1 4 = q_45 := (z_1 4 (by decide)).trans a_52
  have h_67 : cw1 0 = .inr (0, [.ref (q_1), .ref (q_11), .ref (q_24), .int (0), .null, .null, .null, .null]) := (z_2 0 (by decide) (by decide)).trans h_53
  have h_68 : cw1 1 = .inl (cs 2, 10, .inr (.inr (.inr (.inr (fun _ => none))))) := (z_2 1 (by decide) (by decide)).trans h_54
  have h_69 : cw1 2 = .inl (cs 3, 200, .inr (.inr (.inr (.inr (fun _ => none))))) := (z_2 2 (by decide) (by decide)).trans h_55
  have h_70 : cw1 3 = .inl (cs 3, 200, .inr (.inr (.inr (.inr (fun _ => none))))) := (z_2 3 (by decide) (by decide)).trans h_56
  obtain ⟨q_71, a_72⟩ : ∃ x, bk1 5 = x := ⟨_, rfl⟩
  obtain ⟨q_73, a_74⟩ : ∃ x, bk1 6 = x := ⟨_, rfl⟩
  have h_75 : cw1 4 = .inr (4, [.ref (q_71), .ref (q_73), .int 0]) := by rw [← a_72, ← a_74]; exact z_3
  have h_76 : cw1 5 = .inl (cs 0, 200, .inl (fun _ => 0)) := by exact z_4
  have h_77 : cw1 6 = .inl (cs 0, 200, .inl (fun _ => 0)) := by exact z_5
  clear z_1 z_2 z_3 z_4 z_5
  clear a_48 a_49 a_50 a_51 a_52 h_53 h_54 h_55 h_56 h_57
  refine pw_putFA (ci := 0) (v := .ref (q_45)) (ty := (t_X 4)) (fs' := [.ref (q_1), .ref (q_11), .ref (q_24), .int (0), .ref (q_45), .null, .null, .null]) hx hb hw i_X t_X t_X_ok n_X hown hK hP hD hS (0) (by decide) a_62 h_67 rfl 4 (by decide) (hw _ kF_X_33) rfl hin rfl (t_X_ok 4 (by decide)) rfl rfl (Nat.le_of_ble_eq_true rfl) rfl d_X_init_49 (fun cw_78 H locs ecw_78 hP hD hS => ?_)
  have h_79 : cw_78 (0) = .inr (0, [.ref (q_1), .ref (q_11), .ref (q_24), .int (0), .ref (q_45), .null, .null, .null]) := by rw [ecw_78]; exact va_up_self _ _ _
  have h_80 : cw_78 (1) = .inl (cs 2, 10, .inr (.inr (.inr (.inr (fun _ => none))))) := by rw [ecw_78, va_up_ne _ _ (by decide)]; exact h_68
  have h_81 : cw_78 (2) = .inl (cs 3, 200, .inr (.inr (.inr (.inr (fun _ => none))))) := by rw [ecw_78, va_up_ne _ _ (by decide)]; exact h_69
  have h_82 : cw_78 (3) = .inl (cs 3, 200, .inr (.inr (.inr (.inr (fun _ => none))))) := by rw [ecw_78, va_up_ne _ _ (by decide)]; exact h_70
  have h_83 : cw_78 (4) = .inr (4, [.ref (q_71), .ref (q_73), .int (0)]) := by rw [ecw_78, va_up_ne _ _ (by decide)]; exact h_75
  have h_84 : cw_78 (5) = .inl (cs 0, 200, .inl (fun _ => 0)) := by rw [ecw_78, va_up_ne _ _ (by decide)]; exact h_76
  have h_85 : cw_78 (6) = .inl (cs 0, 200, .inl (fun _ => 0)) := by rw [ecw_78, va_up_ne _ _ (by decide)]; exact h_77
  clear ecw_78
  clear h_67 h_68 h_69 h_70 h_75 h_76 h_77
  refine lv_aload_n hx hb d_X_init_52 rfl (lv_at hl 0 rfl) ?_
  refine pw_new (ci := 4) (fs := [.null, .null, .int (0)]) hx hb hw i_P t_P t_P_ok hown (hw _ kL_X_28) (hw _ kA_P) (hw _ kZ_P) hK hP hD hS hA rfl (fun j hj => by match j, hj with | 0, _ => rfl | 1, _ => rfl | 2, _ => rfl) (Nat.le_of_ble_eq_true rfl) (Nat.le_of_ble_eq_true rfl) d_X_init_53 (fun q_86 H hP hD hS => ?_)
  obtain ⟨bk_87, eb⟩ : ∃ x, x = va_up bk1 7 q_86 := ⟨_, rfl⟩
  obtain ⟨cw_88, ec⟩ : ∃ x, x = va_up cw_78 7 (.inr (4, [.null, .null, .int (0)])) := ⟨_, rfl⟩
  replace hP : va_P D classes (wl 8 bk_87 cw_88) H := by rw [eb, ec]; exact hP
  replace hD : va_D (AA 1 bk sz) (wl 8 bk_87 cw_88) := by rw [eb, ec]; exact hD
  have a_89 : bk_87 0 = h0 := by rw [eb, va_up_ne _ _ (by decide)]; exact a_62
  have a_90 : bk_87 1 = q_1 := by rw [eb, va_up_ne _ _ (by decide)]; exact a_63
  have a_91 : bk_87 2 = q_11 := by rw [eb, va_up_ne _ _ (by decide)]; exact a_64
  have a_92 : bk_87 3 = q_24 := by rw [eb, va_up_ne _ _ (by decide)]; exact a_65
  have a_93 : bk_87 4 = q_45 := by rw [eb, va_up_ne _ _ (by decide)]; exact a_66
  have a_94 : bk_87 5 = q_71 := by rw [eb, va_up_ne _ _ (by decide)]; exact a_72
  have a_95 : bk_87 6 = q_73 := by rw [eb, va_up_ne _ _ (by decide)]; exact a_74
  have a_96 : bk_87 7 = q_86 := by rw [eb]; exact va_up_self _ _ _
  have h_97 : cw_88 0 = .inr (0, [.ref (q_1), .ref (q_11), .ref (q_24), .int (0), .ref (q_45), .null, .null, .null]) := by rw [ec, va_up_ne _ _ (by decide)]; exact h_79
  have h_98 : cw_88 1 = .inl (cs 2, 10, .inr (.inr (.inr (.inr (fun _ => none))))) := by rw [ec, va_up_ne _ _ (by decide)]; exact h_80
  have h_99 : cw_88 2 = .inl (cs 3, 200, .inr (.inr (.inr (.inr (fun _ => none))))) := by rw [ec, va_up_ne _ _ (by decide)]; exact h_81
  have h_100 : cw_88 3 = .inl (cs 3, 200, .inr (.inr (.inr (.inr (fun _ => none))))) := by rw [ec, va_up_ne _ _ (by decide)]; exact h_82
  have h_101 : cw_88 4 = .inr (4, [.ref (q_71), .ref (q_73), .int (0)]) := by rw [ec, va_up_ne _ _ (by decide)]; exact h_83
  have h_102 : cw_88 5 = .inl (cs 0, 200, .inl (fun _ => 0)) := by rw [ec, va_up_ne _ _ (by decide)]; exact h_84
  have h_103 : cw_88 6 = .inl (cs 0, 200, .inl (fun _ => 0)) := by rw [ec, va_up_ne _ _ (by decide)]; exact h_85
  have h_104 : cw_88 7 = .inr (4, [.null, .null, .int (0)]) := by rw [ec]; exact va_up_self _ _ _
  clear eb ec
  clear a_62 a_63 a_64 a_65 a_66 a_72 a_74 h_79 h_80 h_81 h_82 h_83 h_84 h_85
  refine lv_dup hx hb d_X_init_56 rfl ?_
  refine lv_bipush (v := 100) hx hb d_X_init_57 (by decide) ?_
  refine pw_callv (va_runI (As := [.int (100)]) (rest := [.ref (q_86), .ref (h0)]) ⟨hx, hb, hml, hown, hw⟩ (c_P_init100 l D cs 8 bk_87 cw_88 H.size 7 (by decide) q_86 a_96 h_104) (cw_I 1 hw kM_X_30 kI_P_init kZ_P kC_P_init rfl rfl rfl ⟨by decide, by decide, by decide +kernel⟩ ⟨Nat.le_of_ble_eq_true rfl, Nat.le_of_ble_eq_true rfl⟩) (pw_preS hN hK hP hD) rfl rfl hl.1 rfl (lv_room (Nat.le_of_ble_eq_true rfl)) d_X_init_59 ⟨Nat.le_of_ble_eq_true rfl, Nat.le_of_ble_eq_true rfl⟩) hS (wl_free hD hS hA) (fun N1 bk1 cw1 H locs hu hP hD hS => ?_)
  obtain ⟨z_0, z_1, z_2, z_3, z_4, z_5⟩ := hu
  dsimp only at z_0 z_1 z_2 z_3 z_4 z_5
  subst z_0
  skip
  skip
  skip
  skip
  replace hP : va_P D classes (wl 10 bk1 cw1) H := hP
  replace hD : va_D (AA 1 bk sz) (wl 10 bk1 cw1) := hD
  have a_109 : bk1 0 = h0 := (z_1 0 (by decide)).trans a_89
  have a_110 : bk1 1 = q_1 := (z_1 1 (by decide)).trans a_90
  have a_111 : bk1 2 = q_11 := (z_1 2 (by decide)).trans a_91
  have a_112 : bk1 3 = q_24 := (z_1 3 (by decide)).trans a_92
  have a_113 : bk1 4 = q_45 := (z_1 4 (by decide)).trans a_93
  have a_114 : bk1 5 = q_71 := (z_1 5 (by decide)).trans a_94
  have a_115 : bk1 6 = q_73 := (z_1 6 (by decide)).trans a_95
  have a_116 : bk1 7 = q_86 := (z_1 7 (by decide)).trans a_96
  have h_117 : cw1 0 = .inr (0, [.ref (q_1), .ref (q_11), .ref (q_24), .int (0), .ref (q_45), .null, .null, .null]) := (z_2 0 (by decide) (by decide)).trans h_97
  have h_118 : cw1 1 = .inl (cs 2, 10, .inr (.inr (.inr (.inr (fun _ => none))))) := (z_2 1 (by decide) (by decide)).trans h_98
  have h_119 : cw1 2 = .inl (cs 3, 200, .inr (.inr (.inr (.inr (fun _ => none))))) := (z_2 2 (by decide) (by decide)).trans h_99
  have h_120 : cw1 3 = .inl (cs 3, 200, .inr (.inr (.inr (.inr (fun _ => none))))) := (z_2 3 (by decide) (by decide)).trans h_100
  have h_121 : cw1 4 = .inr (4, [.ref (q_71), .ref (q_73), .int (0)]) := (z_2 4 (by decide) (by decide)).trans h_101
  have h_122 : cw1 5 = .inl (cs 0, 200, .inl (fun _ => 0)) := (z_2 5 (by decide) (by decide)).trans h_102
  have h_123 : cw1 6 = .inl (cs 0, 200, .inl (fun _ => 0)) := (z_2 6 (by decide) (by decide)).trans h_103
  obtain ⟨q_124, a_125⟩ : ∃ x, bk1 8 = x := ⟨_, rfl⟩
  obtain ⟨q_126, a_127⟩ : ∃ x, bk1 9 = x := ⟨_, rfl⟩
  have h_128 : cw1 7 = .inr (4, [.ref (q_124), .ref (q_126), .int 0]) := by rw [← a_125, ← a_127]; exact z_3
  have h_129 : cw1 8 = .inl (cs 0, 100, .inl (fun _ => 0)) := by exact z_4
  have h_130 : cw1 9 = .inl (cs 0, 100, .inl (fun _ => 0)) := by exact z_5
  clear z_1 z_2 z_3 z_4 z_5
  clear a_89 a_90 a_91 a_92 a_93 a_94 a_95 a_96 h_97 h_98 h_99 h_100 h_101 h_102 h_103 h_104
  refine pw_putFA (ci := 0) (v := .ref (q_86)) (ty := (t_X 5)) (fs' := [.ref (q_1), .ref (q_11), .ref (q_24), .int (0), .ref (q_45), .ref (q_86), .null, .null]) hx hb hw i_X t_X t_X_ok n_X hown hK hP hD hS (0) (by decide) a_109 h_117 rfl 5 (by decide) (hw _ kF_X_37) rfl hin rfl (t_X_ok 5 (by decide)) rfl rfl (Nat.le_of_ble_eq_true rfl) rfl d_X_init_62 (fun cw_131 H locs ecw_131 hP hD hS => ?_)
  have h_132 : cw_131 (0) = .inr (0, [.ref (q_1), .ref (q_11), .ref (q_24), .int (0), .ref (q_45), .ref (q_86), .null, .null]) := by rw [ecw_131]; exact va_up_self _ _ _
  have h_133 : cw_131 (1) = .inl (cs 2, 10, .inr (.inr (.inr (.inr (fun _ => none))))) := by rw [ecw_131, va_up_ne _ _ (by decide)]; exact h_118
  have h_134 : cw_131 (2) = .inl (cs 3, 200, .inr (.inr (.inr (.inr (fun _ => none))))) := by rw [ecw_131, va_up_ne _ _ (by decide)]; exact h_119
  have h_135 : cw_131 (3) = .inl (cs 3, 200, .inr (.inr (.inr (.inr (fun _ => none))))) := by rw [ecw_131, va_up_ne _ _ (by decide)]; exact h_120
  have h_136 : cw_131 (4) = .inr (4, [.ref (q_71), .ref (q_73), .int (0)]) := by rw [ecw_131, va_up_ne _ _ (by decide)]; exact h_121
  have h_137 : cw_131 (5) = .inl (cs 0, 200, .inl (fun _ => 0)) := by rw [ecw_131, va_up_ne _ _ (by decide)]; exact h_122
  have h_138 : cw_131 (6) = .inl (cs 0, 200, .inl (fun _ => 0)) := by rw [ecw_131, va_up_ne _ _ (by decide)]; exact h_123
  have h_139 : cw_131 (7) = .inr (4, [.ref (q_124), .ref (q_126), .int (0)]) := by rw [ecw_131, va_up_ne _ _ (by decide)]; exact h_128
  have h_140 : cw_131 (8) = .inl (cs 0, 100, .inl (fun _ => 0)) := by rw [ecw_131, va_up_ne _ _ (by decide)]; exact h_129
  have h_141 : cw_131 (9) = .inl (cs 0, 100, .inl (fun _ => 0)) := by rw [ecw_131, va_up_ne _ _ (by decide)]; exact h_130
  clear ecw_131
  clear h_117 h_118 h_119 h_120 h_121 h_122 h_123 h_128 h_129 h_130
  refine lv_aload_n hx hb d_X_init_65 rfl (lv_at hl 0 rfl) ?_
  refine pw_new (ci := 5) (fs := [.null, .null, .int (0)]) hx hb hw i_V t_V t_V_ok hown (hw _ kL_X_40) (hw _ kA_V) (hw _ kZ_V) hK hP hD hS hA rfl (fun j hj => by match j, hj with | 0, _ => rfl | 1, _ => rfl | 2, _ => rfl) (Nat.le_of_ble_eq_true rfl) (Nat.le_of_ble_eq_true rfl) d_X_init_66 (fun q_142 H hP hD hS => ?_)
  obtain ⟨bk_143, eb⟩ : ∃ x, x = va_up bk1 10 q_142 := ⟨_, rfl⟩
  obtain ⟨cw_144, ec⟩ : ∃ x, x = va_up cw_131 10 (.inr (5, [.null, .null, .int (0)])) := ⟨_, rfl⟩
  replace hP : va_P D classes (wl 11 bk_143 cw_144) H := by rw [eb, ec]; exact hP
  replace hD : va_D (AA 1 bk sz) (wl 11 bk_143 cw_144) := by rw [eb, ec]; exact hD
  have a_145 : bk_143 0 = h0 := by rw [eb, va_up_ne _ _ (by decide)]; exact a_109
  have a_146 : bk_143 1 = q_1 := by rw [eb, va_up_ne _ _ (by decide)]; exact a_110
  have a_147 : bk_143 2 = q_11 := by rw [eb, va_up_ne _ _ (by decide)]; exact a_111
  have a_148 : bk_143 3 = q_24 := by rw [eb, va_up_ne _ _ (by decide)]; exact a_112
  have a_149 : bk_143 4 = q_45 := by rw [eb, va_up_ne _ _ (by decide)]; exact a_113
  have a_150 : bk_143 5 = q_71 := by rw [eb, va_up_ne _ _ (by decide)]; exact a_114
  have a_151 : bk_143 6 = q_73 := by rw [eb, va_up_ne _ _ (by decide)]; exact a_115
  have a_152 : bk_143 7 = q_86 := by rw [eb, va_up_ne _ _ (by decide)]; exact a_116
  have a_153 : bk_143 8 = q_124 := by rw [eb, va_up_ne _ _ (by decide)]; exact a_125
  have a_154 : bk_143 9 = q_126 := by rw [eb, va_up_ne _ _ (by decide)]; exact a_127
  have a_155 : bk_143 10 = q_142 := by rw [eb]; exact va_up_self _ _ _
  have h_156 : cw_144 0 = .inr (0, [.ref (q_1), .ref (q_11), .ref (q_24), .int (0), .ref (q_45), .ref (q_86), .null, .null]) := by rw [ec, va_up_ne _ _ (by decide)]; exact h_132
  have h_157 : cw_144 1 = .inl (cs 2, 10, .inr (.inr (.inr (.inr (fun _ => none))))) := by rw [ec, va_up_ne _ _ (by decide)]; exact h_133
  have h_158 : cw_144 2 = .inl (cs 3, 200, .inr (.inr (.inr (.inr (fun _ => none))))) := by rw [ec, va_up_ne _ _ (by decide)]; exact h_134
  have h_159 : cw_144 3 = .inl (cs 3, 200, .inr (.inr (.inr (.inr (fun _ => none))))) := by rw [ec, va_up_ne _ _ (by decide)]; exact h_135
  have h_160 : cw_144 4 = .inr (4, [.ref (q_71), .ref (q_73), .int (0)]) := by rw [ec, va_up_ne _ _ (by decide)]; exact h_136
  have h_161 : cw_144 5 = .inl (cs 0, 200, .inl (fun _ => 0)) := by rw [ec, va_up_ne _ _ (by decide)]; exact h_137
  have h_162 : cw_144 6 = .inl (cs 0, 200, .inl (fun _ => 0)) := by rw [ec, va_up_ne _ _ (by decide)]; exact h_138
  have h_163 : cw_144 7 = .inr (4, [.ref (q_124), .ref (q_126), .int (0)]) := by rw [ec, va_up_ne _ _ (by decide)]; exact h_139
  have h_164 : cw_144 8 = .inl (cs 0, 100, .inl (fun _ => 0)) := by rw [ec, va_up_ne _ _ (by decide)]; exact h_140
  have h_165 : cw_144 9 = .inl (cs 0, 100, .inl (fun _ => 0)) := by rw [ec, va_up_ne _ _ (by decide)]; exact h_141
  have h_166 : cw_144 10 = .inr (5, [.null, .null, .int (0)]) := by rw [ec]; exact va_up_self _ _ _
  clear eb ec
  clear a_109 a_110 a_111 a_112 a_113 a_114 a_115 a_116 a_125 a_127 h_132 h_133 h_134 h_135 h_136 h_137 h_138 h_139 h_140 h_141
  refine lv_dup hx hb d_X_init_69 rfl ?_
  refine pw_callv (va_runIN (As := []) (rest := [.ref (q_142), .ref (h0)]) ⟨hx, hb, hml, hown, hw⟩ (c_V_init l D cs 11 bk_143 cw_144 H.size 10 (by decide) q_142 a_155 h_166) (cw_IN 0 hw (kN_X_42 hN) kI_V_init kZ_V kC_V_init rfl rfl rfl ⟨by decide, by decide, by decide +kernel⟩ ⟨Nat.le_of_ble_eq_true rfl, Nat.le_of_ble_eq_true rfl⟩) (pw_preS hN hK hP hD) rfl rfl hl.1 rfl (lv_room (Nat.le_of_ble_eq_true rfl)) d_X_init_70 ⟨Nat.le_of_ble_eq_true rfl, Nat.le_of_ble_eq_true rfl⟩) hS (wl_free hD hS hA) (fun N1 bk1 cw1 H locs hu hP hD hS => ?_)
  obtain ⟨z_0, z_1, z_2, z_3, z_4, z_5⟩ := hu
  dsimp only at z_0 z_1 z_2 z_3 z_4 z_5
  subst z_0
  skip
  skip
  skip
  skip
  replace hP : va_P D classes (wl 13 bk1 cw1) H := hP
  replace hD : va_D (AA 1 bk sz) (wl 13 bk1 cw1) := hD
  have a_171 : bk1 0 = h0 := (z_1 0 (by decide)).trans a_145
  have a_172 : bk1 1 = q_1 := (z_1 1 (by decide)).trans a_146
  have a_173 : bk1 2 = q_11 := (z_1 2 (by decide)).trans a_147
  have a_174 : bk1 3 = q_24 := (z_1 3 (by decide)).trans a_148
  have a_175 : bk1 4 = q_45 := (z_1 4 (by decide)).trans a_149
  have a_176 : bk1 5 = q_71 := (z_1 5 (by decide)).trans a_150
  have a_177 : bk1 6 = q_73 := (z_1 6 (by decide)).trans a_151
  have a_178 : bk1 7 = q_86 := (z_1 7 (by decide)).trans a_152
  have a_179 : bk1 8 = q_124 := (z_1 8 (by decide)).trans a_153
  have a_180 : bk1 9 = q_126 := (z_1 9 (by decide)).trans a_154
  have a_181 : bk1 10 = q_142 := (z_1 10 (by decide)).trans a_155
  have h_182 : cw1 0 = .inr (0, [.ref (q_1), .ref (q_11), .ref (q_24), .int (0), .ref (q_45), .ref (q_86), .null, .null]) := (z_2 0 (by decide) (by decide)).trans h_156
  have h_183 : cw1 1 = .inl (cs 2, 10, .inr (.inr (.inr (.inr (fun _ => none))))) := (z_2 1 (by decide) (by decide)).trans h_157
  have h_184 : cw1 2 = .inl (cs 3, 200, .inr (.inr (.inr (.inr (fun _ => none))))) := (z_2 2 (by decide) (by decide)).trans h_158
  have h_185 : cw1 3 = .inl (cs 3, 200, .inr (.inr (.inr (.inr (fun _ => none))))) := (z_2 3 (by decide) (by decide)).trans h_159
  have h_186 : cw1 4 = .inr (4, [.ref (q_71), .ref (q_73), .int (0)]) := (z_2 4 (by decide) (by decide)).trans h_160
  have h_187 : cw1 5 = .inl (cs 0, 200, .inl (fun _ => 0)) := (z_2 5 (by decide) (by decide)).trans h_161
  have h_188 : cw1 6 = .inl (cs 0, 200, .inl (fun _ => 0)) := (z_2 6 (by decide) (by decide)).trans h_162
  have h_189 : cw1 7 = .inr (4, [.ref (q_124), .ref (q_126), .int (0)]) := (z_2 7 (by decide) (by decide)).trans h_163
  have h_190 : cw1 8 = .inl (cs 0, 100, .inl (fun _ => 0)) := (z_2 8 (by decide) (by decide)).trans h_164
  have h_191 : cw1 9 = .inl (cs 0, 100, .inl (fun _ => 0)) := (z_2 9 (by decide) (by decide)).trans h_165
  obtain ⟨q_192, a_193⟩ : ∃ x, bk1 11 = x := ⟨_, rfl⟩
  obtain ⟨q_194, a_195⟩ : ∃ x, bk1 12 = x := ⟨_, rfl⟩
  have h_196 : cw1 10 = .inr (5, [.ref (q_192), .ref (q_194), .int 0]) := by rw [← a_193, ← a_195]; exact z_3
  have h_197 : cw1 11 = .inl (cs 0, 200, .inl (fun _ => 0)) := by exact z_4
  have h_198 : cw1 12 = .inl (cs 0, 41, .inl (fun _ => 0)) := by exact z_5
  clear z_1 z_2 z_3 z_4 z_5
  clear a_145 a_146 a_147 a_148 a_149 a_150 a_151 a_152 a_153 a_154 a_155 h_156 h_157 h_158 h_159 h_160 h_161 h_162 h_163 h_164 h_165 h_166
  refine pw_putFA (ci := 0) (v := .ref (q_142)) (ty := (t_X 6)) (fs' := [.ref (q_1), .ref (q_11), .ref (q_24), .int (0), .ref (q_45), .ref (q_86), .ref (q_142), .null]) hx hb hw i_X t_X t_X_ok n_X hown hK hP hD hS (0) (by decide) a_171 h_182 rfl 6 (by decide) (hw _ kF_X_43) rfl hin rfl (t_X_ok 6 (by decide)) rfl rfl (Nat.le_of_ble_eq_true rfl) rfl d_X_init_73 (fun cw_199 H locs ecw_199 hP hD hS => ?_)
  have h_200 : cw_199 (0) = .inr (0, [.ref (q_1), .ref (q_11), .ref (q_24), .int (0), .ref (q_45), .ref (q_86), .ref (q_142), .null]) := by rw [ecw_199]; exact va_up_self _ _ _
  have h_201 : cw_199 (1) = .inl (cs 2, 10, .inr (.inr (.inr (.inr (fun _ => none))))) := by rw [ecw_199, va_up_ne _ _ (by decide)]; exact h_183
  have h_202 : cw_199 (2) = .inl (cs 3, 200, .inr (.inr (.inr (.inr (fun _ => none))))) := by rw [ecw_199, va_up_ne _ _ (by decide)]; exact h_184
  have h_203 : cw_199 (3) = .inl (cs 3, 200, .inr (.inr (.inr (.inr (fun _ => none))))) := by rw [ecw_199, va_up_ne _ _ (by decide)]; exact h_185
  have h_204 : cw_199 (4) = .inr (4, [.ref (q_71), .ref (q_73), .int (0)]) := by rw [ecw_199, va_up_ne _ _ (by decide)]; exact h_186
  have h_205 : cw_199 (5) = .inl (cs 0, 200, .inl (fun _ => 0)) := by rw [ecw_199, va_up_ne _ _ (by decide)]; exact h_187
  have h_206 : cw_199 (6) = .inl (cs 0, 200, .inl (fun _ => 0)) := by rw [ecw_199, va_up_ne _ _ (by decide)]; exact h_188
  have h_207 : cw_199 (7) = .inr (4, [.ref (q_124), .ref (q_126), .int (0)]) := by rw [ecw_199, va_up_ne _ _ (by decide)]; exact h_189
  have h_208 : cw_199 (8) = .inl (cs 0, 100, .inl (fun _ => 0)) := by rw [ecw_199, va_up_ne _ _ (by decide)]; exact h_190
  have h_209 : cw_199 (9) = .inl (cs 0, 100, .inl (fun _ => 0)) := by rw [ecw_199, va_up_ne _ _ (by decide)]; exact h_191
  have h_210 : cw_199 (10) = .inr (5, [.ref (q_192), .ref (q_194), .int (0)]) := by rw [ecw_199, va_up_ne _ _ (by decide)]; exact h_196
  have h_211 : cw_199 (11) = .inl (cs 0, 200, .inl (fun _ => 0)) := by rw [ecw_199, va_up_ne _ _ (by decide)]; exact h_197
  have h_212 : cw_199 (12) = .inl (cs 0, 41, .inl (fun _ => 0)) := by rw [ecw_199, va_up_ne _ _ (by decide)]; exact h_198
  clear ecw_199
  clear h_182 h_183 h_184 h_185 h_186 h_187 h_188 h_189 h_190 h_191 h_196 h_197 h_198
  refine lv_aload_n hx hb d_X_init_76 rfl (lv_at hl 0 rfl) ?_
  refine pw_new (ci := 6) (fs := [.null, .null, .null, .int (0)]) hx hb hw i_S t_S t_S_ok hown (hw _ kL_X_47) (hw _ kA_S) (hw _ kZ_S) hK hP hD hS hA rfl (fun j hj => by match j, hj with | 0, _ => rfl | 1, _ => rfl | 2, _ => rfl | 3, _ => rfl) (Nat.le_of_ble_eq_true rfl) (Nat.le_of_ble_eq_true rfl) d_X_init_77 (fun q_213 H hP hD hS => ?_)
  obtain ⟨bk_214, eb⟩ : ∃ x, x = va_up bk1 13 q_213 := ⟨_, rfl⟩
  obtain ⟨cw_215, ec⟩ : ∃ x, x = va_up cw_199 13 (.inr (6, [.null, .null, .null, .int (0)])) := ⟨_, rfl⟩
  replace hP : va_P D classes (wl 14 bk_214 cw_215) H := by rw [eb, ec]; exact hP
  replace hD : va_D (AA 1 bk sz) (wl 14 bk_214 cw_215) := by rw [eb, ec]; exact hD
  have a_216 : bk_214 0 = h0 := by rw [eb, va_up_ne _ _ (by decide)]; exact a_171
  have a_217 : bk_214 1 = q_1 := by rw [eb, va_up_ne _ _ (by decide)]; exact a_172
  have a_218 : bk_214 2 = q_11 := by rw [eb, va_up_ne _ _ (by decide)]; exact a_173
  have a_219 : bk_214 3 = q_24 := by rw [eb, va_up_ne _ _ (by decide)]; exact a_174
  have a_220 : bk_214 4 = q_45 := by rw [eb, va_up_ne _ _ (by decide)]; exact a_175
  have a_221 : bk_214 5 = q_71 := by rw [eb, va_up_ne _ _ (by decide)]; exact a_176
  have a_222 : bk_214 6 = q_73 := by rw [eb, va_up_ne _ _ (by decide)]; exact a_177
  have a_223 : bk_214 7 = q_86 := by rw [eb, va_up_ne _ _ (by decide)]; exact a_178
  have a_224 : bk_214 8 = q_124 := by rw [eb, va_up_ne _ _ (by decide)]; exact a_179
  have a_225 : bk_214 9 = q_126 := by rw [eb, va_up_ne _ _ (by decide)]; exact a_180
  have a_226 : bk_214 10 = q_142 := by rw [eb, va_up_ne _ _ (by decide)]; exact a_181
  have a_227 : bk_214 11 = q_192 := by rw [eb, va_up_ne _ _ (by decide)]; exact a_193
  have a_228 : bk_214 12 = q_194 := by rw [eb, va_up_ne _ _ (by decide)]; exact a_195
  have a_229 : bk_214 13 = q_213 := by rw [eb]; exact va_up_self _ _ _
  have h_230 : cw_215 0 = .inr (0, [.ref (q_1), .ref (q_11), .ref (q_24), .int (0), .ref (q_45), .ref (q_86), .ref (q_142), .null]) := by rw [ec, va_up_ne _ _ (by decide)]; exact h_200
  have h_231 : cw_215 1 = .inl (cs 2, 10, .inr (.inr (.inr (.inr (fun _ => none))))) := by rw [ec, va_up_ne _ _ (by decide)]; exact h_201
  have h_232 : cw_215 2 = .inl (cs 3, 200, .inr (.inr (.inr (.inr (fun _ => none))))) := by rw [ec, va_up_ne _ _ (by decide)]; exact h_202
  have h_233 : cw_215 3 = .inl (cs 3, 200, .inr (.inr (.inr (.inr (fun _ => none))))) := by rw [ec, va_up_ne _ _ (by decide)]; exact h_203
  have h_234 : cw_215 4 = .inr (4, [.ref (q_71), .ref (q_73), .int (0)]) := by rw [ec, va_up_ne _ _ (by decide)]; exact h_204
  have h_235 : cw_215 5 = .inl (cs 0, 200, .inl (fun _ => 0)) := by rw [ec, va_up_ne _ _ (by decide)]; exact h_205
  have h_236 : cw_215 6 = .inl (cs 0, 200, .inl (fun _ => 0)) := by rw [ec, va_up_ne _ _ (by decide)]; exact h_206
  have h_237 : cw_215 7 = .inr (4, [.ref (q_124), .ref (q_126), .int (0)]) := by rw [ec, va_up_ne _ _ (by decide)]; exact h_207
  have h_238 : cw_215 8 = .inl (cs 0, 100, .inl (fun _ => 0)) := by rw [ec, va_up_ne _ _ (by decide)]; exact h_208
  have h_239 : cw_215 9 = .inl (cs 0, 100, .inl (fun _ => 0)) := by rw [ec, va_up_ne _ _ (by decide)]; exact h_209
  have h_240 : cw_215 10 = .inr (5, [.ref (q_192), .ref (q_194), .int (0)]) := by rw [ec, va_up_ne _ _ (by decide)]; exact h_210
  have h_241 : cw_215 11 = .inl (cs 0, 200, .inl (fun _ => 0)) := by rw [ec, va_up_ne _ _ (by decide)]; exact h_211
  have h_242 : cw_215 12 = .inl (cs 0, 41, .inl (fun _ => 0)) := by rw [ec, va_up_ne _ _ (by decide)]; exact h_212
  have h_243 : cw_215 13 = .inr (6, [.null, .null, .null, .int (0)]) := by rw [ec]; exact va_up_self _ _ _
  clear eb ec
  clear a_171 a_172 a_173 a_174 a_175 a_176 a_177 a_178 a_179 a_180 a_181 a_193 a_195 h_200 h_201 h_202 h_203 h_204 h_205 h_206 h_207 h_208 h_209 h_210 h_211 h_212
  refine lv_dup hx hb d_X_init_80 rfl ?_
  refine pw_callv (va_runIN (As := []) (rest := [.ref (q_213), .ref (h0)]) ⟨hx, hb, hml, hown, hw⟩ (c_S_init l D cs 14 bk_214 cw_215 H.size 13 (by decide) q_213 a_229 h_243) (cw_IN 0 hw (kN_X_49 hN) kI_S_init kZ_S kC_S_init rfl rfl rfl ⟨by decide, by decide, by decide +kernel⟩ ⟨Nat.le_of_ble_eq_true rfl, Nat.le_of_ble_eq_true rfl⟩) (pw_preS hN hK hP hD) rfl rfl hl.1 rfl (lv_room (Nat.le_of_ble_eq_true rfl)) d_X_init_81 ⟨Nat.le_of_ble_eq_true rfl, Nat.le_of_ble_eq_true rfl⟩) hS (wl_free hD hS hA) (fun N1 bk1 cw1 H locs hu hP hD hS => ?_)
  obtain ⟨z_0, z_1, z_2, z_3, z_4, z_5, z_6⟩ := hu
  dsimp only at z_0 z_1 z_2 z_3 z_4 z_5 z_6
  subst z_0
  skip
  skip
  skip
  skip
  replace hP : va_P D classes (wl 17 bk1 cw1) H := hP
  replace hD : va_D (AA 1 bk sz) (wl 17 bk1 cw1) := hD
  have a_248 : bk1 0 = h0 := (z_1 0 (by decide)).trans a_216
  have a_249 : bk1 1 = q_1 := (z_1 1 (by decide)).trans a_217
  have a_250 : bk1 2 = q_11 := (z_1 2 (by decide)).trans a_218
  have a_251 : bk1 3 = q_24 := (z_1 3 (by decide)).trans a_219
  have a_252 : bk1 4 = q_45 := (z_1 4 (by decide)).trans a_220
  have a_253 : bk1 5 = q_71 := (z_1 5 (by decide)).trans a_221
  have a_254 : bk1 6 = q_73 := (z_1 6 (by decide)).trans a_222
  have a_255 : bk1 7 = q_86 := (z_1 7 (by decide)).trans a_223
  have a_256 : bk1 8 = q_124 := (z_1 8 (by decide)).trans a_224
  have a_257 : bk1 9 = q_126 := (z_1 9 (by decide)).trans a_225
  have a_258 : bk1 10 = q_142 := (z_1 10 (by decide)).trans a_226
  have a_259 : bk1 11 = q_192 := (z_1 11 (by decide)).trans a_227
  have a_260 : bk1 12 = q_194 := (z_1 12 (by decide)).trans a_228
  have a_261 : bk1 13 = q_213 := (z_1 13 (by decide)).trans a_229
  have h_262 : cw1 0 = .inr (0, [.ref (q_1), .ref (q_11), .ref (q_24), .int (0), .ref (q_45), .ref (q_86), .ref (q_142), .null]) := (z_2 0 (by decide) (by decide)).trans h_230
  have h_263 : cw1 1 = .inl (cs 2, 10, .inr (.inr (.inr (.inr (fun _ => none))))) := (z_2 1 (by decide) (by decide)).trans h_231
  have h_264 : cw1 2 = .inl (cs 3, 200, .inr (.inr (.inr (.inr (fun _ => none))))) := (z_2 2 (by decide) (by decide)).trans h_232
  have h_265 : cw1 3 = .inl (cs 3, 200, .inr (.inr (.inr (.inr (fun _ => none))))) := (z_2 3 (by decide) (by decide)).trans h_233
  have h_266 : cw1 4 = .inr (4, [.ref (q_71), .ref (q_73), .int (0)]) := (z_2 4 (by decide) (by decide)).trans h_234
  have h_267 : cw1 5 = .inl (cs 0, 200, .inl (fun _ => 0)) := (z_2 5 (by decide) (by decide)).trans h_235
  have h_268 : cw1 6 = .inl (cs 0, 200, .inl (fun _ => 0)) := (z_2 6 (by decide) (by decide)).trans h_236
  have h_269 : cw1 7 = .inr (4, [.ref (q_124), .ref (q_126), .int (0)]) := (z_2 7 (by decide) (by decide)).trans h_237
  have h_270 : cw1 8 = .inl (cs 0, 100, .inl (fun _ => 0)) := (z_2 8 (by decide) (by decide)).trans h_238
  have h_271 : cw1 9 = .inl (cs 0, 100, .inl (fun _ => 0)) := (z_2 9 (by decide) (by decide)).trans h_239
  have h_272 : cw1 10 = .inr (5, [.ref (q_192), .ref (q_194), .int (0)]) := (z_2 10 (by decide) (by decide)).trans h_240
  have h_273 : cw1 11 = .inl (cs 0, 200, .inl (fun _ => 0)) := (z_2 11 (by decide) (by decide)).trans h_241
  have h_274 : cw1 12 = .inl (cs 0, 41, .inl (fun _ => 0)) := (z_2 12 (by decide) (by decide)).trans h_242
  obtain ⟨q_275, a_276⟩ : ∃ x, bk1 14 = x := ⟨_, rfl⟩
  obtain ⟨q_277, a_278⟩ : ∃ x, bk1 15 = x := ⟨_, rfl⟩
  obtain ⟨q_279, a_280⟩ : ∃ x, bk1 16 = x := ⟨_, rfl⟩
  have h_281 : cw1 13 = .inr (6, [.ref (q_275), .ref (q_277), .ref (q_279), .int 0]) := by rw [← a_276, ← a_278, ← a_280]; exact z_3
  have h_282 : cw1 14 = .inl (cs 0, 200, .inl (fun _ => 0)) := by exact z_4
  have h_283 : cw1 15 = .inl (cs 0, 200, .inl (fun _ => 0)) := by exact z_5
  have h_284 : cw1 16 = .inl (cs 0, 200, .inl (fun _ => 0)) := by exact z_6
  clear z_1 z_2 z_3 z_4 z_5 z_6
  clear a_216 a_217 a_218 a_219 a_220 a_221 a_222 a_223 a_224 a_225 a_226 a_227 a_228 a_229 h_230 h_231 h_232 h_233 h_234 h_235 h_236 h_237 h_238 h_239 h_240 h_241 h_242 h_243
  refine pw_putFA (ci := 0) (v := .ref (q_213)) (ty := (t_X 7)) (fs' := [.ref (q_1), .ref (q_11), .ref (q_24), .int (0), .ref (q_45), .ref (q_86), .ref (q_142), .ref (q_213)]) hx hb hw i_X t_X t_X_ok n_X hown hK hP hD hS (0) (by decide) a_248 h_262 rfl 7 (by decide) (hw _ kF_X_50) rfl hin rfl (t_X_ok 7 (by decide)) rfl rfl (Nat.le_of_ble_eq_true rfl) rfl d_X_init_84 (fun cw_285 H locs ecw_285 hP hD hS => ?_)
  have h_286 : cw_285 (0) = .inr (0, [.ref (q_1), .ref (q_11), .ref (q_24), .int (0), .ref (q_45), .ref (q_86), .ref (q_142), .ref (q_213)]) := by rw [ecw_285]; exact va_up_self _ _ _
  have h_287 : cw_285 (1) = .inl (cs 2, 10, .inr (.inr (.inr (.inr (fun _ => none))))) := by rw [ecw_285, va_up_ne _ _ (by decide)]; exact h_263
  have h_288 : cw_285 (2) = .inl (cs 3, 200, .inr (.inr (.inr (.inr (fun _ => none))))) := by rw [ecw_285, va_up_ne _ _ (by decide)]; exact h_264
  have h_289 : cw_285 (3) = .inl (cs 3, 200, .inr (.inr (.inr (.inr (fun _ => none))))) := by rw [ecw_285, va_up_ne _ _ (by decide)]; exact h_265
  have h_290 : cw_285 (4) = .inr (4, [.ref (q_71), .ref (q_73), .int (0)]) := by rw [ecw_285, va_up_ne _ _ (by decide)]; exact h_266
  have h_291 : cw_285 (5) = .inl (cs 0, 200, .inl (fun _ => 0)) := by rw [ecw_285, va_up_ne _ _ (by decide)]; exact h_267
  have h_292 : cw_285 (6) = .inl (cs 0, 200, .inl (fun _ => 0)) := by rw [ecw_285, va_up_ne _ _ (by decide)]; exact h_268
  have h_293 : cw_285 (7) = .inr (4, [.ref (q_124), .ref (q_126), .int (0)]) := by rw [ecw_285, va_up_ne _ _ (by decide)]; exact h_269
  have h_294 : cw_285 (8) = .inl (cs 0, 100, .inl (fun _ => 0)) := by rw [ecw_285, va_up_ne _ _ (by decide)]; exact h_270
  have h_295 : cw_285 (9) = .inl (cs 0, 100, .inl (fun _ => 0)) := by rw [ecw_285, va_up_ne _ _ (by decide)]; exact h_271
  have h_296 : cw_285 (10) = .inr (5, [.ref (q_192), .ref (q_194), .int (0)]) := by rw [ecw_285, va_up_ne _ _ (by decide)]; exact h_272
  have h_297 : cw_285 (11) = .inl (cs 0, 200, .inl (fun _ => 0)) := by rw [ecw_285, va_up_ne _ _ (by decide)]; exact h_273
  have h_298 : cw_285 (12) = .inl (cs 0, 41, .inl (fun _ => 0)) := by rw [ecw_285, va_up_ne _ _ (by decide)]; exact h_274
  have h_299 : cw_285 (13) = .inr (6, [.ref (q_275), .ref (q_277), .ref (q_279), .int (0)]) := by rw [ecw_285, va_up_ne _ _ (by decide)]; exact h_281
  have h_300 : cw_285 (14) = .inl (cs 0, 200, .inl (fun _ => 0)) := by rw [ecw_285, va_up_ne _ _ (by decide)]; exact h_282
  have h_301 : cw_285 (15) = .inl (cs 0, 200, .inl (fun _ => 0)) := by rw [ecw_285, va_up_ne _ _ (by decide)]; exact h_283
  have h_302 : cw_285 (16) = .inl (cs 0, 200, .inl (fun _ => 0)) := by rw [ecw_285, va_up_ne _ _ (by decide)]; exact h_284
  clear ecw_285
  clear h_262 h_263 h_264 h_265 h_266 h_267 h_268 h_269 h_270 h_271 h_272 h_273 h_274 h_281 h_282 h_283 h_284
  refine lv_iconst (v := 0) hx hb d_X_init_87 (by decide) ?_
  refine lv_istore_n (lv' := [(1, .int (0)), (0, .ref (h0))]) hx hb d_X_init_88 rfl hl (by decide) rfl (fun ls hl => ?_)
  refine lv_iload_n hx hb d_X_init_89 rfl (lv_at hl 0 rfl) ?_
  refine lv_bipush (v := 10) hx hb d_X_init_90 (by decide) ?_
  refine lv_icmp_ge (tgt := 114) hx hb d_X_init_92 (by decide) (fun c_303 => ?_) (fun c_303 => ?_)
  · exact absurd c_303 (by decide)
  · skip
    refine lv_aload_n hx hb d_X_init_95 rfl (lv_at hl 1 rfl) ?_
    refine pw_getA (ci := 0) (v := .ref (q_1)) hx hb hw i_X hown hK hP (0) (by decide) a_248 h_286 rfl 0 (by decide) (hw _ kF_X_11) rfl d_X_init_96 ?_
    refine lv_iload_n hx hb d_X_init_99 rfl (lv_at hl 0 rfl) ?_
    refine pw_new (ci := 1) (fs := [.int (0), .int (0), .int (0)]) hx hb hw i_U t_U t_U_ok hown (hw _ kL_X_9) (hw _ kA_U) (hw _ kZ_U) hK hP hD hS hA rfl (fun j hj => by match j, hj with | 0, _ => rfl | 1, _ => rfl | 2, _ => rfl) (Nat.le_of_ble_eq_true rfl) (Nat.le_of_ble_eq_true rfl) d_X_init_100 (fun q_304 H hP hD hS => ?_)
    obtain ⟨bk_305, eb⟩ : ∃ x, x = va_up bk1 17 q_304 := ⟨_, rfl⟩
    obtain ⟨cw_306, ec⟩ : ∃ x, x = va_up cw_285 17 (.inr (1, [.int (0), .int (0), .int (0)])) := ⟨_, rfl⟩
    replace hP : va_P D classes (wl 18 bk_305 cw_306) H := by rw [eb, ec]; exact hP
    replace hD : va_D (AA 1 bk sz) (wl 18 bk_305 cw_306) := by rw [eb, ec]; exact hD
    have a_307 : bk_305 0 = h0 := by rw [eb, va_up_ne _ _ (by decide)]; exact a_248
    have a_308 : bk_305 1 = q_1 := by rw [eb, va_up_ne _ _ (by decide)]; exact a_249
    have a_309 : bk_305 2 = q_11 := by rw [eb, va_up_ne _ _ (by decide)]; exact a_250
    have a_310 : bk_305 3 = q_24 := by rw [eb, va_up_ne _ _ (by decide)]; exact a_251
    have a_311 : bk_305 4 = q_45 := by rw [eb, va_up_ne _ _ (by decide)]; exact a_252
    have a_312 : bk_305 5 = q_71 := by rw [eb, va_up_ne _ _ (by decide)]; exact a_253
    have a_313 : bk_305 6 = q_73 := by rw [eb, va_up_ne _ _ (by decide)]; exact a_254
    have a_314 : bk_305 7 = q_86 := by rw [eb, va_up_ne _ _ (by decide)]; exact a_255
    have a_315 : bk_305 8 = q_124 := by rw [eb, va_up_ne _ _ (by decide)]; exact a_256
    have a_316 : bk_305 9 = q_126 := by rw [eb, va_up_ne _ _ (by decide)]; exact a_257
    have a_317 : bk_305 10 = q_142 := by rw [eb, va_up_ne _ _ (by decide)]; exact a_258
    have a_318 : bk_305 11 = q_192 := by rw [eb, va_up_ne _ _ (by decide)]; exact a_259
    have a_319 : bk_305 12 = q_194 := by rw [eb, va_up_ne _ _ (by decide)]; exact a_260
    have a_320 : bk_305 13 = q_213 := by rw [eb, va_up_ne _ _ (by decide)]; exact a_261
    have a_321 : bk_305 14 = q_275 := by rw [eb, va_up_ne _ _ (by decide)]; exact a_276
    have a_322 : bk_305 15 = q_277 := by rw [eb, va_up_ne _ _ (by decide)]; exact a_278
    have a_323 : bk_305 16 = q_279 := by rw [eb, va_up_ne _ _ (by decide)]; exact a_280
    have a_324 : bk_305 17 = q_304 := by rw [eb]; exact va_up_self _ _ _
    have h_325 : cw_306 0 = .inr (0, [.ref (q_1), .ref (q_11), .ref (q_24), .int (0), .ref (q_45), .ref (q_86), .ref (q_142), .ref (q_213)]) := by rw [ec, va_up_ne _ _ (by decide)]; exact h_286
    have h_326 : cw_306 1 = .inl (cs 2, 10, .inr (.inr (.inr (.inr (fun _ => none))))) := by rw [ec, va_up_ne _ _ (by decide)]; exact h_287
    have h_327 : cw_306 2 = .inl (cs 3, 200, .inr (.inr (.inr (.inr (fun _ => none))))) := by rw [ec, va_up_ne _ _ (by decide)]; exact h_288
    have h_328 : cw_306 3 = .inl (cs 3, 200, .inr (.inr (.inr (.inr (fun _ => none))))) := by rw [ec, va_up_ne _ _ (by decide)]; exact h_289
    have h_329 : cw_306 4 = .inr (4, [.ref (q_71), .ref (q_73), .int (0)]) := by rw [ec, va_up_ne _ _ (by decide)]; exact h_290
    have h_330 : cw_306 5 = .inl (cs 0, 200, .inl (fun _ => 0)) := by rw [ec, va_up_ne _ _ (by decide)]; exact h_291
    have h_331 : cw_306 6 = .inl (cs 0, 200, .inl (fun _ => 0)) := by rw [ec, va_up_ne _ _ (by decide)]; exact h_292
    have h_332 : cw_306 7 = .inr (4, [.ref (q_124), .ref (q_126), .int (0)]) := by rw [ec, va_up_ne _ _ (by decide)]; exact h_293
    have h_333 : cw_306 8 = .inl (cs 0, 100, .inl (fun _ => 0)) := by rw [ec, va_up_ne _ _ (by decide)]; exact h_294
    have h_334 : cw_306 9 = .inl (cs 0, 100, .inl (fun _ => 0)) := by rw [ec, va_up_ne _ _ (by decide)]; exact h_295
    have h_335 : cw_306 10 = .inr (5, [.ref (q_192), .ref (q_194), .int (0)]) := by rw [ec, va_up_ne _ _ (by decide)]; exact h_296
    have h_336 : cw_306 11 = .inl (cs 0, 200, .inl (fun _ => 0)) := by rw [ec, va_up_ne _ _ (by decide)]; exact h_297
    have h_337 : cw_306 12 = .inl (cs 0, 41, .inl (fun _ => 0)) := by rw [ec, va_up_ne _ _ (by decide)]; exact h_298
    have h_338 : cw_306 13 = .inr (6, [.ref (q_275), .ref (q_277), .ref (q_279), .int (0)]) := by rw [ec, va_up_ne _ _ (by decide)]; exact h_299
    have h_339 : cw_306 14 = .inl (cs 0, 200, .inl (fun _ => 0)) := by rw [ec, va_up_ne _ _ (by decide)]; exact h_300
    have h_340 : cw_306 15 = .inl (cs 0, 200, .inl (fun _ => 0)) := by rw [ec, va_up_ne _ _ (by decide)]; exact h_301
    have h_341 : cw_306 16 = .inl (cs 0, 200, .inl (fun _ => 0)) := by rw [ec, va_up_ne _ _ (by decide)]; exact h_302
    have h_342 : cw_306 17 = .inr (1, [.int (0), .int (0), .int (0)]) := by rw [ec]; exact va_up_self _ _ _
    clear eb ec
    clear a_248 a_249 a_250 a_251 a_252 a_253 a_254 a_255 a_256 a_257 a_258 a_259 a_260 a_261 a_276 a_278 a_280 h_286 h_287 h_288 h_289 h_290 h_291 h_292 h_293 h_294 h_295 h_296 h_297 h_298 h_299 h_300 h_301 h_302
    refine lv_dup hx hb d_X_init_103 rfl ?_
    refine pw_callv (va_runIN (As := []) (rest := [.ref (q_304), .int (0), .ref (q_1)]) ⟨hx, hb, hml, hown, hw⟩ (c_U_init l D cs 18 bk_305 cw_306 H.size 17 (by decide) q_304 a_324 h_342) (cw_IN 0 hw (kN_X_54 hN) kI_U_init kZ_U kC_U_init rfl rfl rfl ⟨by decide, by decide, by decide +kernel⟩ ⟨Nat.le_of_ble_eq_true rfl, Nat.le_of_ble_eq_true rfl⟩) (pw_preS hN hK hP hD) rfl rfl hl.1 rfl (lv_room (Nat.le_of_ble_eq_true rfl)) d_X_init_104 ⟨Nat.le_of_ble_eq_true rfl, Nat.le_of_ble_eq_true rfl⟩) hS (wl_free hD hS hA) (fun N1 bk1 cw1 H locs hu hP hD hS => ?_)
    obtain ⟨z_0, z_1, z_2, z_3⟩ := hu
    dsimp only at z_0 z_1 z_2 z_3
    subst z_0
    skip
    skip
    skip
    skip
    replace hP : va_P D classes (wl 18 bk1 cw1) H := hP
    replace hD : va_D (AA 1 bk sz) (wl 18 bk1 cw1) := hD
    have a_347 : bk1 0 = h0 := (z_1 0 (by decide)).trans a_307
    have a_348 : bk1 1 = q_1 := (z_1 1 (by decide)).trans a_308
    have a_349 : bk1 2 = q_11 := (z_1 2 (by decide)).trans a_309
    have a_350 : bk1 3 = q_24 := (z_1 3 (by decide)).trans a_310
    have a_351 : bk1 4 = q_45 := (z_1 4 (by decide)).trans a_311
    have a_352 : bk1 5 = q_71 := (z_1 5 (by decide)).trans a_312
    have a_353 : bk1 6 = q_73 := (z_1 6 (by decide)).trans a_313
    have a_354 : bk1 7 = q_86 := (z_1 7 (by decide)).trans a_314
    have a_355 : bk1 8 = q_124 := (z_1 8 (by decide)).trans a_315
    have a_356 : bk1 9 = q_126 := (z_1 9 (by decide)).trans a_316
    have a_357 : bk1 10 = q_142 := (z_1 10 (by decide)).trans a_317
    have a_358 : bk1 11 = q_192 := (z_1 11 (by decide)).trans a_318
    have a_359 : bk1 12 = q_194 := (z_1 12 (by decide)).trans a_319
    have a_360 : bk1 13 = q_213 := (z_1 13 (by decide)).trans a_320
    have a_361 : bk1 14 = q_275 := (z_1 14 (by decide)).trans a_321
    have a_362 : bk1 15 = q_277 := (z_1 15 (by decide)).trans a_322
    have a_363 : bk1 16 = q_279 := (z_1 16 (by decide)).trans a_323
    have a_364 : bk1 17 = q_304 := (z_1 17 (by decide)).trans a_324
    have h_365 : cw1 0 = .inr (0, [.ref (q_1), .ref (q_11), .ref (q_24), .int (0), .ref (q_45), .ref (q_86), .ref (q_142), .ref (q_213)]) := (z_2 0 (by decide) (by decide)).trans h_325
    have h_366 : cw1 1 = .inl (cs 2, 10, .inr (.inr (.inr (.inr (fun _ => none))))) := (z_2 1 (by decide) (by decide)).trans h_326
    have h_367 : cw1 2 = .inl (cs 3, 200, .inr (.inr (.inr (.inr (fun _ => none))))) := (z_2 2 (by decide) (by decide)).trans h_327
    have h_368 : cw1 3 = .inl (cs 3, 200, .inr (.inr (.inr (.inr (fun _ => none))))) := (z_2 3 (by decide) (by decide)).trans h_328
    have h_369 : cw1 4 = .inr (4, [.ref (q_71), .ref (q_73), .int (0)]) := (z_2 4 (by decide) (by decide)).trans h_329
    have h_370 : cw1 5 = .inl (cs 0, 200, .inl (fun _ => 0)) := (z_2 5 (by decide) (by decide)).trans h_330
    have h_371 : cw1 6 = .inl (cs 0, 200, .inl (fun _ => 0)) := (z_2 6 (by decide) (by decide)).trans h_331
    have h_372 : cw1 7 = .inr (4, [.ref (q_124), .ref (q_126), .int (0)]) := (z_2 7 (by decide) (by decide)).trans h_332
    have h_373 : cw1 8 = .inl (cs 0, 100, .inl (fun _ => 0)) := (z_2 8 (by decide) (by decide)).trans h_333
    have h_374 : cw1 9 = .inl (cs 0, 100, .inl (fun _ => 0)) := (z_2 9 (by decide) (by decide)).trans h_334
    have h_375 : cw1 10 = .inr (5, [.ref (q_192), .ref (q_194), .int (0)]) := (z_2 10 (by decide) (by decide)).trans h_335
    have h_376 : cw1 11 = .inl (cs 0, 200, .inl (fun _ => 0)) := (z_2 11 (by decide) (by decide)).trans h_336
    have h_377 : cw1 12 = .inl (cs 0, 41, .inl (fun _ => 0)) := (z_2 12 (by decide) (by decide)).trans h_337
    have h_378 : cw1 13 = .inr (6, [.ref (q_275), .ref (q_277), .ref (q_279), .int (0)]) := (z_2 13 (by decide) (by decide)).trans h_338
    have h_379 : cw1 14 = .inl (cs 0, 200, .inl (fun _ => 0)) := (z_2 14 (by decide) (by decide)).trans h_339
    have h_380 : cw1 15 = .inl (cs 0, 200, .inl (fun _ => 0)) := (z_2 15 (by decide) (by decide)).trans h_340
    have h_381 : cw1 16 = .inl (cs 0, 200, .inl (fun _ => 0)) := (z_2 16 (by decide) (by decide)).trans h_341
    have h_382 : cw1 17 = .inr (1, [.int 30, .int 20, .int 3]) := by exact z_3
    clear z_1 z_2 z_3
    clear a_307 a_308 a_309 a_310 a_311 a_312 a_313 a_314 a_315 a_316 a_317 a_318 a_319 a_320 a_321 a_322 a_323 a_324 h_325 h_326 h_327 h_328 h_329 h_330 h_331 h_332 h_333 h_334 h_335 h_336 h_337 h_338 h_339 h_340 h_341 h_342
    refine pw_astqA (n := 10) (f := (fun _ => none)) hx hb hK hP hD hS 2 (1) (by decide) a_348 h_366 rfl (17) (by decide) a_364 h_382 rfl (0) rfl (by decide) (by decide) d_X_init_107 (fun cw_383 H locs ecw_383 hP hD hS => ?_)
    have h_384 : cw_383 (0) = .inr (0, [.ref (q_1), .ref (q_11), .ref (q_24), .int (0), .ref (q_45), .ref (q_86), .ref (q_142), .ref (q_213)]) := by rw [ecw_383, va_up_ne _ _ (by decide)]; exact h_365
    have h_385 : cw_383 (1) = .inl (cs 2, 10, .inr (.inr (.inr (.inr (va_up (fun _ => none) (0) (some (q_304))))))) := by rw [ecw_383]; exact va_up_self _ _ _
    have h_386 : cw_383 (2) = .inl (cs 3, 200, .inr (.inr (.inr (.inr (fun _ => none))))) := by rw [ecw_383, va_up_ne _ _ (by decide)]; exact h_367
    have h_387 : cw_383 (3) = .inl (cs 3, 200, .inr (.inr (.inr (.inr (fun _ => none))))) := by rw [ecw_383, va_up_ne _ _ (by decide)]; exact h_368
    have h_388 : cw_383 (4) = .inr (4, [.ref (q_71), .ref (q_73), .int (0)]) := by rw [ecw_383, va_up_ne _ _ (by decide)]; exact h_369
    have h_389 : cw_383 (5) = .inl (cs 0, 200, .inl (fun _ => 0)) := by rw [ecw_383, va_up_ne _ _ (by decide)]; exact h_370
    have h_390 : cw_383 (6) = .inl (cs 0, 200, .inl (fun _ => 0)) := by rw [ecw_383, va_up_ne _ _ (by decide)]; exact h_371
    have h_391 : cw_383 (7) = .inr (4, [.ref (q_124), .ref (q_126), .int (0)]) := by rw [ecw_383, va_up_ne _ _ (by decide)]; exact h_372
    have h_392 : cw_383 (8) = .inl (cs 0, 100, .inl (fun _ => 0)) := by rw [ecw_383, va_up_ne _ _ (by decide)]; exact h_373
    have h_393 : cw_383 (9) = .inl (cs 0, 100, .inl (fun _ => 0)) := by rw [ecw_383, va_up_ne _ _ (by decide)]; exact h_374
    have h_394 : cw_383 (10) = .inr (5, [.ref (q_192), .ref (q_194), .int (0)]) := by rw [ecw_383, va_up_ne _ _ (by decide)]; exact h_375
    have h_395 : cw_383 (11) = .inl (cs 0, 200, .inl (fun _ => 0)) := by rw [ecw_383, va_up_ne _ _ (by decide)]; exact h_376
    have h_396 : cw_383 (12) = .inl (cs 0, 41, .inl (fun _ => 0)) := by rw [ecw_383, va_up_ne _ _ (by decide)]; exact h_377
    have h_397 : cw_383 (13) = .inr (6, [.ref (q_275), .ref (q_277), .ref (q_279), .int (0)]) := by rw [ecw_383, va_up_ne _ _ (by decide)]; exact h_378
    have h_398 : cw_383 (14) = .inl (cs 0, 200, .inl (fun _ => 0)) := by rw [ecw_383, va_up_ne _ _ (by decide)]; exact h_379
    have h_399 : cw_383 (15) = .inl (cs 0, 200, .inl (fun _ => 0)) := by rw [ecw_383, va_up_ne _ _ (by decide)]; exact h_380
    have h_400 : cw_383 (16) = .inl (cs 0, 200, .inl (fun _ => 0)) := by rw [ecw_383, va_up_ne _ _ (by decide)]; exact h_381
    have h_401 : cw_383 (17) = .inr (1, [.int (30), .int (20), .int (3)]) := by rw [ecw_383, va_up_ne _ _ (by decide)]; exact h_382
    clear ecw_383
    clear h_365 h_366 h_367 h_368 h_369 h_370 h_371 h_372 h_373 h_374 h_375 h_376 h_377 h_378 h_379 h_380 h_381 h_382
    refine lv_iinc (v := 1) (lv' := [(1, .int (1)), (0, .ref (h0))]) hx hb d_X_init_108 hl (k := 0) rfl (by decide) (by decide) rfl (fun ls hl => ?_)
    refine lv_goto (tgt := 89) hx hb d_X_init_111 (by decide) ?_
    refine lv_iload_n hx hb d_X_init_89 rfl (lv_at hl 0 rfl) ?_
    refine lv_bipush (v := 10) hx hb d_X_init_90 (by decide) ?_
    refine lv_icmp_ge (tgt := 114) hx hb d_X_init_92 (by decide) (fun c_402 => ?_) (fun c_402 => ?_)
    · exact absurd c_402 (by decide)
    · skip
      refine lv_aload_n hx hb d_X_init_95 rfl (lv_at hl 1 rfl) ?_
      refine pw_getA (ci := 0) (v := .ref (q_1)) hx hb hw i_X hown hK hP (0) (by decide) a_347 h_384 rfl 0 (by decide) (hw _ kF_X_11) rfl d_X_init_96 ?_
      refine lv_iload_n hx hb d_X_init_99 rfl (lv_at hl 0 rfl) ?_
      refine pw_new (ci := 1) (fs := [.int (0), .int (0), .int (0)]) hx hb hw i_U t_U t_U_ok hown (hw _ kL_X_9) (hw _ kA_U) (hw _ kZ_U) hK hP hD hS hA rfl (fun j hj => by match j, hj with | 0, _ => rfl | 1, _ => rfl | 2, _ => rfl) (Nat.le_of_ble_eq_true rfl) (Nat.le_of_ble_eq_true rfl) d_X_init_100 (fun q_403 H hP hD hS => ?_)
      obtain ⟨bk_404, eb⟩ : ∃ x, x = va_up bk1 18 q_403 := ⟨_, rfl⟩
      obtain ⟨cw_405, ec⟩ : ∃ x, x = va_up cw_383 18 (.inr (1, [.int (0), .int (0), .int (0)])) := ⟨_, rfl⟩
      replace hP : va_P D classes (wl 19 bk_404 cw_405) H := by rw [eb, ec]; exact hP
      replace hD : va_D (AA 1 bk sz) (wl 19 bk_404 cw_405) := by rw [eb, ec]; exact hD
      have a_406 : bk_404 0 = h0 := by rw [eb, va_up_ne _ _ (by decide)]; exact a_347
      have a_407 : bk_404 1 = q_1 := by rw [eb, va_up_ne _ _ (by decide)]; exact a_348
      have a_408 : bk_404 2 = q_11 := by rw [eb, va_up_ne _ _ (by decide)]; exact a_349
      have a_409 : bk_404 3 = q_24 := by rw [eb, va_up_ne _ _ (by decide)]; exact a_350
      have a_410 : bk_404 4 = q_45 := by rw [eb, va_up_ne _ _ (by decide)]; exact a_351
      have a_411 : bk_404 5 = q_71 := by rw [eb, va_up_ne _ _ (by decide)]; exact a_352
      have a_412 : bk_404 6 = q_73 := by rw [eb, va_up_ne _ _ (by decide)]; exact a_353
      have a_413 : bk_404 7 = q_86 := by rw [eb, va_up_ne _ _ (by decide)]; exact a_354
      have a_414 : bk_404 8 = q_124 := by rw [eb, va_up_ne _ _ (by decide)]; exact a_355
      have a_415 : bk_404 9 = q_126 := by rw [eb, va_up_ne _ _ (by decide)]; exact a_356
      have a_416 : bk_404 10 = q_142 := by rw [eb, va_up_ne _ _ (by decide)]; exact a_357
      have a_417 : bk_404 11 = q_192 := by rw [eb, va_up_ne _ _ (by decide)]; exact a_358
      have a_418 : bk_404 12 = q_194 := by rw [eb, va_up_ne _ _ (by decide)]; exact a_359
      have a_419 : bk_404 13 = q_213 := by rw [eb, va_up_ne _ _ (by decide)]; exact a_360
      have a_420 : bk_404 14 = q_275 := by rw [eb, va_up_ne _ _ (by decide)]; exact a_361
      have a_421 : bk_404 15 = q_277 := by rw [eb, va_up_ne _ _ (by decide)]; exact a_362
      have a_422 : bk_404 16 = q_279 := by rw [eb, va_up_ne _ _ (by decide)]; exact a_363
      have a_423 : bk_404 17 = q_304 := by rw [eb, va_up_ne _ _ (by decide)]; exact a_364
      have a_424 : bk_404 18 = q_403 := by rw [eb]; exact va_up_self _ _ _
      have h_425 : cw_405 0 = .inr (0, [.ref (q_1), .ref (q_11), .ref (q_24), .int (0), .ref (q_45), .ref (q_86), .ref (q_142), .ref (q_213)]) := by rw [ec, va_up_ne _ _ (by decide)]; exact h_384
      have h_426 : cw_405 1 = .inl (cs 2, 10, .inr (.inr (.inr (.inr (va_up (fun _ => none) (0) (some (q_304))))))) := by rw [ec, va_up_ne _ _ (by decide)]; exact h_385
      have h_427 : cw_405 2 = .inl (cs 3, 200, .inr (.inr (.inr (.inr (fun _ => none))))) := by rw [ec, va_up_ne _ _ (by decide)]; exact h_386
      have h_428 : cw_405 3 = .inl (cs 3, 200, .inr (.inr (.inr (.inr (fun _ => none))))) := by rw [ec, va_up_ne _ _ (by decide)]; exact h_387
      have h_429 : cw_405 4 = .inr (4, [.ref (q_71), .ref (q_73), .int (0)]) := by rw [ec, va_up_ne _ _ (by decide)]; exact h_388
      have h_430 : cw_405 5 = .inl (cs 0, 200, .inl (fun _ => 0)) := by rw [ec, va_up_ne _ _ (by decide)]; exact h_389
      have h_431 : cw_405 6 = .inl (cs 0, 200, .inl (fun _ => 0)) := by rw [ec, va_up_ne _ _ (by decide)]; exact h_390
      have h_432 : cw_405 7 = .inr (4, [.ref (q_124), .ref (q_126), .int (0)]) := by rw [ec, va_up_ne _ _ (by decide)]; exact h_391
      have h_433 : cw_405 8 = .inl (cs 0, 100, .inl (fun _ => 0)) := by rw [ec, va_up_ne _ _ (by decide)]; exact h_392
      have h_434 : cw_405 9 = .inl (cs 0, 100, .inl (fun _ => 0)) := by rw [ec, va_up_ne _ _ (by decide)]; exact h_393
      have h_435 : cw_405 10 = .inr (5, [.ref (q_192), .ref (q_194), .int (0)]) := by rw [ec, va_up_ne _ _ (by decide)]; exact h_394
      have h_436 : cw_405 11 = .inl (cs 0, 200, .inl (fun _ => 0)) := by rw [ec, va_up_ne _ _ (by decide)]; exact h_395
      have h_437 : cw_405 12 = .inl (cs 0, 41, .inl (fun _ => 0)) := by rw [ec, va_up_ne _ _ (by decide)]; exact h_396
      have h_438 : cw_405 13 = .inr (6, [.ref (q_275), .ref (q_277), .ref (q_279), .int (0)]) := by rw [ec, va_up_ne _ _ (by decide)]; exact h_397
      have h_439 : cw_405 14 = .inl (cs 0, 200, .inl (fun _ => 0)) := by rw [ec, va_up_ne _ _ (by decide)]; exact h_398
      have h_440 : cw_405 15 = .inl (cs 0, 200, .inl (fun _ => 0)) := by rw [ec, va_up_ne _ _ (by decide)]; exact h_399
      have h_441 : cw_405 16 = .inl (cs 0, 200, .inl (fun _ => 0)) := by rw [ec, va_up_ne _ _ (by decide)]; exact h_400
      have h_442 : cw_405 17 = .inr (1, [.int (30), .int (20), .int (3)]) := by rw [ec, va_up_ne _ _ (by decide)]; exact h_401
      have h_443 : cw_405 18 = .inr (1, [.int (0), .int (0), .int (0)]) := by rw [ec]; exact va_up_self _ _ _
      clear eb ec
      clear a_347 a_348 a_349 a_350 a_351 a_352 a_353 a_354 a_355 a_356 a_357 a_358 a_359 a_360 a_361 a_362 a_363 a_364 h_384 h_385 h_386 h_387 h_388 h_389 h_390 h_391 h_392 h_393 h_394 h_395 h_396 h_397 h_398 h_399 h_400 h_401
      refine lv_dup hx hb d_X_init_103 rfl ?_
      refine pw_callv (va_runIN (As := []) (rest := [.ref (q_403), .int (1), .ref (q_1)]) ⟨hx, hb, hml, hown, hw⟩ (c_U_init l D cs 19 bk_404 cw_405 H.size 18 (by decide) q_403 a_424 h_443) (cw_IN 0 hw (kN_X_54 hN) kI_U_init kZ_U kC_U_init rfl rfl rfl ⟨by decide, by decide, by decide +kernel⟩ ⟨Nat.le_of_ble_eq_true rfl, Nat.le_of_ble_eq_true rfl⟩) (pw_preS hN hK hP hD) rfl rfl hl.1 rfl (lv_room (Nat.le_of_ble_eq_true rfl)) d_X_init_104 ⟨Nat.le_of_ble_eq_true rfl, Nat.le_of_ble_eq_true rfl⟩) hS (wl_free hD hS hA) (fun N1 bk1 cw1 H locs hu hP hD hS => ?_)
      obtain ⟨z_0, z_1, z_2, z_3⟩ := hu
      dsimp only at z_0 z_1 z_2 z_3
      subst z_0
      skip
      skip
      skip
      skip
      replace hP : va_P D classes (wl 19 bk1 cw1) H := hP
      replace hD : va_D (AA 1 bk sz) (wl 19 bk1 cw1) := hD
      have a_448 : bk1 0 = h0 := (z_1 0 (by decide)).trans a_406
      have a_449 : bk1 1 = q_1 := (z_1 1 (by decide)).trans a_407
      have a_450 : bk1 2 = q_11 := (z_1 2 (by decide)).trans a_408
      have a_451 : bk1 3 = q_24 := (z_1 3 (by decide)).trans a_409
      have a_452 : bk1 4 = q_45 := (z_1 4 (by decide)).trans a_410
      have a_453 : bk1 5 = q_71 := (z_1 5 (by decide)).trans a_411
      have a_454 : bk1 6 = q_73 := (z_1 6 (by decide)).trans a_412
      have a_455 : bk1 7 = q_86 := (z_1 7 (by decide)).trans a_413
      have a_456 : bk1 8 = q_124 := (z_1 8 (by decide)).trans a_414
      have a_457 : bk1 9 = q_126 := (z_1 9 (by decide)).trans a_415
      have a_458 : bk1 10 = q_142 := (z_1 10 (by decide)).trans a_416
      have a_459 : bk1 11 = q_192 := (z_1 11 (by decide)).trans a_417
      have a_460 : bk1 12 = q_194 := (z_1 12 (by decide)).trans a_418
      have a_461 : bk1 13 = q_213 := (z_1 13 (by decide)).trans a_419
      have a_462 : bk1 14 = q_275 := (z_1 14 (by decide)).trans a_420
      have a_463 : bk1 15 = q_277 := (z_1 15 (by decide)).trans a_421
      have a_464 : bk1 16 = q_279 := (z_1 16 (by decide)).trans a_422
      have a_465 : bk1 17 = q_304 := (z_1 17 (by decide)).trans a_423
      have a_466 : bk1 18 = q_403 := (z_1 18 (by decide)).trans a_424
      have h_467 : cw1 0 = .inr (0, [.ref (q_1), .ref (q_11), .ref (q_24), .int (0), .ref (q_45), .ref (q_86), .ref (q_142), .ref (q_213)]) := (z_2 0 (by decide) (by decide)).trans h_425
      have h_468 : cw1 1 = .inl (cs 2, 10, .inr (.inr (.inr (.inr (va_up (fun _ => none) (0) (some (q_304))))))) := (z_2 1 (by decide) (by decide)).trans h_426
      have h_469 : cw1 2 = .inl (cs 3, 200, .inr (.inr (.inr (.inr (fun _ => none))))) := (z_2 2 (by decide) (by decide)).trans h_427
      have h_470 : cw1 3 = .inl (cs 3, 200, .inr (.inr (.inr (.inr (fun _ => none))))) := (z_2 3 (by decide) (by decide)).trans h_428
      have h_471 : cw1 4 = .inr (4, [.ref (q_71), .ref (q_73), .int (0)]) := (z_2 4 (by decide) (by decide)).trans h_429
      have h_472 : cw1 5 = .inl (cs 0, 200, .inl (fun _ => 0)) := (z_2 5 (by decide) (by decide)).trans h_430
      have h_473 : cw1 6 = .inl (cs 0, 200, .inl (fun _ => 0)) := (z_2 6 (by decide) (by decide)).trans h_431
      have h_474 : cw1 7 = .inr (4, [.ref (q_124), .ref (q_126), .int (0)]) := (z_2 7 (by decide) (by decide)).trans h_432
      have h_475 : cw1 8 = .inl (cs 0, 100, .inl (fun _ => 0)) := (z_2 8 (by decide) (by decide)).trans h_433
      have h_476 : cw1 9 = .inl (cs 0, 100, .inl (fun _ => 0)) := (z_2 9 (by decide) (by decide)).trans h_434
      have h_477 : cw1 10 = .inr (5, [.ref (q_192), .ref (q_194), .int (0)]) := (z_2 10 (by decide) (by decide)).trans h_435
      have h_478 : cw1 11 = .inl (cs 0, 200, .inl (fun _ => 0)) := (z_2 11 (by decide) (by decide)).trans h_436
      have h_479 : cw1 12 = .inl (cs 0, 41, .inl (fun _ => 0)) := (z_2 12 (by decide) (by decide)).trans h_437
      have h_480 : cw1 13 = .inr (6, [.ref (q_275), .ref (q_277), .ref (q_279), .int (0)]) := (z_2 13 (by decide) (by decide)).trans h_438
      have h_481 : cw1 14 = .inl (cs 0, 200, .inl (fun _ => 0)) := (z_2 14 (by decide) (by decide)).trans h_439
      have h_482 : cw1 15 = .inl (cs 0, 200, .inl (fun _ => 0)) := (z_2 15 (by decide) (by decide)).trans h_440
      have h_483 : cw1 16 = .inl (cs 0, 200, .inl (fun _ => 0)) := (z_2 16 (by decide) (by decide)).trans h_441
      have h_484 : cw1 17 = .inr (1, [.int (30), .int (20), .int (3)]) := (z_2 17 (by decide) (by decide)).trans h_442
      have h_485 : cw1 18 = .inr (1, [.int 30, .int 20, .int 3]) := by exact z_3
      clear z_1 z_2 z_3
      clear a_406 a_407 a_408 a_409 a_410 a_411 a_412 a_413 a_414 a_415 a_416 a_417 a_418 a_419 a_420 a_421 a_422 a_423 a_424 h_425 h_426 h_427 h_428 h_429 h_430 h_431 h_432 h_433 h_434 h_435 h_436 h_437 h_438 h_439 h_440 h_441 h_442 h_443
      refine pw_astqA (n := 10) (f := (va_up (fun _ => none) (0) (some (q_304)))) hx hb hK hP hD hS 2 (1) (by decide) a_449 h_468 rfl (18) (by decide) a_466 h_485 rfl (1) rfl (by decide) (by decide) d_X_init_107 (fun cw_486 H locs ecw_486 hP hD hS => ?_)
      have h_487 : cw_486 (0) = .inr (0, [.ref (q_1), .ref (q_11), .ref (q_24), .int (0), .ref (q_45), .ref (q_86), .ref (q_142), .ref (q_213)]) := by rw [ecw_486, va_up_ne _ _ (by decide)]; exact h_467
      have h_488 : cw_486 (1) = .inl (cs 2, 10, .inr (.inr (.inr (.inr (va_up (va_up (fun _ => none) (0) (some (q_304))) (1) (some (q_403))))))) := by rw [ecw_486]; exact va_up_self _ _ _
      have h_489 : cw_486 (2) = .inl (cs 3, 200, .inr (.inr (.inr (.inr (fun _ => none))))) := by rw [ecw_486, va_up_ne _ _ (by decide)]; exact h_469
      have h_490 : cw_486 (3) = .inl (cs 3, 200, .inr (.inr (.inr (.inr (fun _ => none))))) := by rw [ecw_486, va_up_ne _ _ (by decide)]; exact h_470
      have h_491 : cw_486 (4) = .inr (4, [.ref (q_71), .ref (q_73), .int (0)]) := by rw [ecw_486, va_up_ne _ _ (by decide)]; exact h_471
      have h_492 : cw_486 (5) = .inl (cs 0, 200, .inl (fun _ => 0)) := by rw [ecw_486, va_up_ne _ _ (by decide)]; exact h_472
      have h_493 : cw_486 (6) = .inl (cs 0, 200, .inl (fun _ => 0)) := by rw [ecw_486, va_up_ne _ _ (by decide)]; exact h_473
      have h_494 : cw_486 (7) = .inr (4, [.ref (q_124), .ref (q_126), .int (0)]) := by rw [ecw_486, va_up_ne _ _ (by decide)]; exact h_474
      have h_495 : cw_486 (8) = .inl (cs 0, 100, .inl (fun _ => 0)) := by rw [ecw_486, va_up_ne _ _ (by decide)]; exact h_475
      have h_496 : cw_486 (9) = .inl (cs 0, 100, .inl (fun _ => 0)) := by rw [ecw_486, va_up_ne _ _ (by decide)]; exact h_476
      have h_497 : cw_486 (10) = .inr (5, [.ref (q_192), .ref (q_194), .int (0)]) := by rw [ecw_486, va_up_ne _ _ (by decide)]; exact h_477
      have h_498 : cw_486 (11) = .inl (cs 0, 200, .inl (fun _ => 0)) := by rw [ecw_486, va_up_ne _ _ (by decide)]; exact h_478
      have h_499 : cw_486 (12) = .inl (cs 0, 41, .inl (fun _ => 0)) := by rw [ecw_486, va_up_ne _ _ (by decide)]; exact h_479
      have h_500 : cw_486 (13) = .inr (6, [.ref (q_275), .ref (q_277), .ref (q_279), .int (0)]) := by rw [ecw_486, va_up_ne _ _ (by decide)]; exact h_480
      have h_501 : cw_486 (14) = .inl (cs 0, 200, .inl (fun _ => 0)) := by rw [ecw_486, va_up_ne _ _ (by decide)]; exact h_481
      have h_502 : cw_486 (15) = .inl (cs 0, 200, .inl (fun _ => 0)) := by rw [ecw_486, va_up_ne _ _ (by decide)]; exact h_482
      have h_503 : cw_486 (16) = .inl (cs 0, 200, .inl (fun _ => 0)) := by rw [ecw_486, va_up_ne _ _ (by decide)]; exact h_483
      have h_504 : cw_486 (17) = .inr (1, [.int (30), .int (20), .int (3)]) := by rw [ecw_486, va_up_ne _ _ (by decide)]; exact h_484
      have h_505 : cw_486 (18) = .inr (1, [.int (30), .int (20), .int (3)]) := by rw [ecw_486, va_up_ne _ _ (by decide)]; exact h_485
      clear ecw_486
      clear h_467 h_468 h_469 h_470 h_471 h_472 h_473 h_474 h_475 h_476 h_477 h_478 h_479 h_480 h_481 h_482 h_483 h_484 h_485
      refine lv_iinc (v := 2) (lv' := [(1, .int (2)), (0, .ref (h0))]) hx hb d_X_init_108 hl (k := 0) rfl (by decide) (by decide) rfl (fun ls hl => ?_)
      refine lv_goto (tgt := 89) hx hb d_X_init_111 (by decide) ?_
      refine lv_iload_n hx hb d_X_init_89 rfl (lv_at hl 0 rfl) ?_
      refine lv_bipush (v := 10) hx hb d_X_init_90 (by decide) ?_
      refine lv_icmp_ge (tgt := 114) hx hb d_X_init_92 (by decide) (fun c_506 => ?_) (fun c_506 => ?_)
      · exact absurd c_506 (by decide)
      · skip
        refine lv_aload_n hx hb d_X_init_95 rfl (lv_at hl 1 rfl) ?_
        refine pw_getA (ci := 0) (v := .ref (q_1)) hx hb hw i_X hown hK hP (0) (by decide) a_448 h_487 rfl 0 (by decide) (hw _ kF_X_11) rfl d_X_init_96 ?_
        refine lv_iload_n hx hb d_X_init_99 rfl (lv_at hl 0 rfl) ?_
        refine pw_new (ci := 1) (fs := [.int (0), .int (0), .int (0)]) hx hb hw i_U t_U t_U_ok hown (hw _ kL_X_9) (hw _ kA_U) (hw _ kZ_U) hK hP hD hS hA rfl (fun j hj => by match j, hj with | 0, _ => rfl | 1, _ => rfl | 2, _ => rfl) (Nat.le_of_ble_eq_true rfl) (Nat.le_of_ble_eq_true rfl) d_X_init_100 (fun q_507 H hP hD hS => ?_)
        obtain ⟨bk_508, eb⟩ : ∃ x, x = va_up bk1 19 q_507 := ⟨_, rfl⟩
        obtain ⟨cw_509, ec⟩ : ∃ x, x = va_up cw_486 19 (.inr (1, [.int (0), .int (0), .int (0)])) := ⟨_, rfl⟩
        replace hP : va_P D classes (wl 20 bk_508 cw_509) H := by rw [eb, ec]; exact hP
        replace hD : va_D (AA 1 bk sz) (wl 20 bk_508 cw_509) := by rw [eb, ec]; exact hD
        have a_510 : bk_508 0 = h0 := by rw [eb, va_up_ne _ _ (by decide)]; exact a_448
        have a_511 : bk_508 1 = q_1 := by rw [eb, va_up_ne _ _ (by decide)]; exact a_449
        have a_512 : bk_508 2 = q_11 := by rw [eb, va_up_ne _ _ (by decide)]; exact a_450
        have a_513 : bk_508 3 = q_24 := by rw [eb, va_up_ne _ _ (by decide)]; exact a_451
        have a_514 : bk_508 4 = q_45 := by rw [eb, va_up_ne _ _ (by decide)]; exact a_452
        have a_515 : bk_508 5 = q_71 := by rw [eb, va_up_ne _ _ (by decide)]; exact a_453
        have a_516 : bk_508 6 = q_73 := by rw [eb, va_up_ne _ _ (by decide)]; exact a_454
        have a_517 : bk_508 7 = q_86 := by rw [eb, va_up_ne _ _ (by decide)]; exact a_455
        have a_518 : bk_508 8 = q_124 := by rw [eb, va_up_ne _ _ (by decide)]; exact a_456
        have a_519 : bk_508 9 = q_126 := by rw [eb, va_up_ne _ _ (by decide)]; exact a_457
        have a_520 : bk_508 10 = q_142 := by rw [eb, va_up_ne _ _ (by decide)]; exact a_458
        have a_521 : bk_508 11 = q_192 := by rw [eb, va_up_ne _ _ (by decide)]; exact a_459
        have a_522 : bk_508 12 = q_194 := by rw [eb, va_up_ne _ _ (by decide)]; exact a_460
        have a_523 : bk_508 13 = q_213 := by rw [eb, va_up_ne _ _ (by decide)]; exact a_461
        have a_524 : bk_508 14 = q_275 := by rw [eb, va_up_ne _ _ (by decide)]; exact a_462
        have a_525 : bk_508 15 = q_277 := by rw [eb, va_up_ne _ _ (by decide)]; exact a_463
        have a_526 : bk_508 16 = q_279 := by rw [eb, va_up_ne _ _ (by decide)]; exact a_464
        have a_527 : bk_508 17 = q_304 := by rw [eb, va_up_ne _ _ (by decide)]; exact a_465
        have a_528 : bk_508 18 = q_403 := by rw [eb, va_up_ne _ _ (by decide)]; exact a_466
        have a_529 : bk_508 19 = q_507 := by rw [eb]; exact va_up_self _ _ _
        have h_530 : cw_509 0 = .inr (0, [.ref (q_1), .ref (q_11), .ref (q_24), .int (0), .ref (q_45), .ref (q_86), .ref (q_142), .ref (q_213)]) := by rw [ec, va_up_ne _ _ (by decide)]; exact h_487
        have h_531 : cw_509 1 = .inl (cs 2, 10, .inr (.inr (.inr (.inr (va_up (va_up (fun _ => none) (0) (some (q_304))) (1) (some (q_403))))))) := by rw [ec, va_up_ne _ _ (by decide)]; exact h_488
        have h_532 : cw_509 2 = .inl (cs 3, 200, .inr (.inr (.inr (.inr (fun _ => none))))) := by rw [ec, va_up_ne _ _ (by decide)]; exact h_489
        have h_533 : cw_509 3 = .inl (cs 3, 200, .inr (.inr (.inr (.inr (fun _ => none))))) := by rw [ec, va_up_ne _ _ (by decide)]; exact h_490
        have h_534 : cw_509 4 = .inr (4, [.ref (q_71), .ref (q_73), .int (0)]) := by rw [ec, va_up_ne _ _ (by decide)]; exact h_491
        have h_535 : cw_509 5 = .inl (cs 0, 200, .inl (fun _ => 0)) := by rw [ec, va_up_ne _ _ (by decide)]; exact h_492
        have h_536 : cw_509 6 = .inl (cs 0, 200, .inl (fun _ => 0)) := by rw [ec, va_up_ne _ _ (by decide)]; exact h_493
        have h_537 : cw_509 7 = .inr (4, [.ref (q_124), .ref (q_126), .int (0)]) := by rw [ec, va_up_ne _ _ (by decide)]; exact h_494
        have h_538 : cw_509 8 = .inl (cs 0, 100, .inl (fun _ => 0)) := by rw [ec, va_up_ne _ _ (by decide)]; exact h_495
        have h_539 : cw_509 9 = .inl (cs 0, 100, .inl (fun _ => 0)) := by rw [ec, va_up_ne _ _ (by decide)]; exact h_496
        have h_540 : cw_509 10 = .inr (5, [.ref (q_192), .ref (q_194), .int (0)]) := by rw [ec, va_up_ne _ _ (by decide)]; exact h_497
        have h_541 : cw_509 11 = .inl (cs 0, 200, .inl (fun _ => 0)) := by rw [ec, va_up_ne _ _ (by decide)]; exact h_498
        have h_542 : cw_509 12 = .inl (cs 0, 41, .inl (fun _ => 0)) := by rw [ec, va_up_ne _ _ (by decide)]; exact h_499
        have h_543 : cw_509 13 = .inr (6, [.ref (q_275), .ref (q_277), .ref (q_279), .int (0)]) := by rw [ec, va_up_ne _ _ (by decide)]; exact h_500
        have h_544 : cw_509 14 = .inl (cs 0, 200, .inl (fun _ => 0)) := by rw [ec, va_up_ne _ _ (by decide)]; exact h_501
        have h_545 : cw_509 15 = .inl (cs 0, 200, .inl (fun _ => 0)) := by rw [ec, va_up_ne _ _ (by decide)]; exact h_502
        have h_546 : cw_509 16 = .inl (cs 0, 200, .inl (fun _ => 0)) := by rw [ec, va_up_ne _ _ (by decide)]; exact h_503
        have h_547 : cw_509 17 = .inr (1, [.int (30), .int (20), .int (3)]) := by rw [ec, va_up_ne _ _ (by decide)]; exact h_504
        have h_548 : cw_509 18 = .inr (1, [.int (30), .int (20), .int (3)]) := by rw [ec, va_up_ne _ _ (by decide)]; exact h_505
        have h_549 : cw_509 19 = .inr (1, [.int (0), .int (0), .int (0)]) := by rw [ec]; exact va_up_self _ _ _
        clear eb ec
        clear a_448 a_449 a_450 a_451 a_452 a_453 a_454 a_455 a_456 a_457 a_458 a_459 a_460 a_461 a_462 a_463 a_464 a_465 a_466 h_487 h_488 h_489 h_490 h_491 h_492 h_493 h_494 h_495 h_496 h_497 h_498 h_499 h_500 h_501 h_502 h_503 h_504 h_505
        refine lv_dup hx hb d_X_init_103 rfl ?_
        refine pw_callv (va_runIN (As := []) (rest := [.ref (q_507), .int (2), .ref (q_1)]) ⟨hx, hb, hml, hown, hw⟩ (c_U_init l D cs 20 bk_508 cw_509 H.size 19 (by decide) q_507 a_529 h_549) (cw_IN 0 hw (kN_X_54 hN) kI_U_init kZ_U kC_U_init rfl rfl rfl ⟨by decide, by decide, by decide +kernel⟩ ⟨Nat.le_of_ble_eq_true rfl, Nat.le_of_ble_eq_true rfl⟩) (pw_preS hN hK hP hD) rfl rfl hl.1 rfl (lv_room (Nat.le_of_ble_eq_true rfl)) d_X_init_104 ⟨Nat.le_of_ble_eq_true rfl, Nat.le_of_ble_eq_true rfl⟩) hS (wl_free hD hS hA) (fun N1 bk1 cw1 H locs hu hP hD hS => ?_)
        obtain ⟨z_0, z_1, z_2, z_3⟩ := hu
        dsimp only at z_0 z_1 z_2 z_3
        subst z_0
        skip
        skip
        skip
        skip
        replace hP : va_P D classes (wl 20 bk1 cw1) H := hP
        replace hD : va_D (AA 1 bk sz) (wl 20 bk1 cw1) := hD
        have a_554 : bk1 0 = h0 := (z_1 0 (by decide)).trans a_510
        have a_555 : bk1 1 = q_1 := (z_1 1 (by decide)).trans a_511
        have a_556 : bk1 2 = q_11 := (z_1 2 (by decide)).trans a_512
        have a_557 : bk1 3 = q_24 := (z_1 3 (by decide)).trans a_513
        have a_558 : bk1 4 = q_45 := (z_1 4 (by decide)).trans a_514
        have a_559 : bk1 5 = q_71 := (z_1 5 (by decide)).trans a_515
        have a_560 : bk1 6 = q_73 := (z_1 6 (by decide)).trans a_516
        have a_561 : bk1 7 = q_86 := (z_1 7 (by decide)).trans a_517
        have a_562 : bk1 8 = q_124 := (z_1 8 (by decide)).trans a_518
        have a_563 : bk1 9 = q_126 := (z_1 9 (by decide)).trans a_519
        have a_564 : bk1 10 = q_142 := (z_1 10 (by decide)).trans a_520
        have a_565 : bk1 11 = q_192 := (z_1 11 (by decide)).trans a_521
        have a_566 : bk1 12 = q_194 := (z_1 12 (by decide)).trans a_522
        have a_567 : bk1 13 = q_213 := (z_1 13 (by decide)).trans a_523
        have a_568 : bk1 14 = q_275 := (z_1 14 (by decide)).trans a_524
        have a_569 : bk1 15 = q_277 := (z_1 15 (by decide)).trans a_525
        have a_570 : bk1 16 = q_279 := (z_1 16 (by decide)).trans a_526
        have a_571 : bk1 17 = q_304 := (z_1 17 (by decide)).trans a_527
        have a_572 : bk1 18 = q_403 := (z_1 18 (by decide)).trans a_528
        have a_573 : bk1 19 = q_507 := (z_1 19 (by decide)).trans a_529
        have h_574 : cw1 0 = .inr (0, [.ref (q_1), .ref (q_11), .ref (q_24), .int (0), .ref (q_45), .ref (q_86), .ref (q_142), .ref (q_213)]) := (z_2 0 (by decide) (by decide)).trans h_530
        have h_575 : cw1 1 = .inl (cs 2, 10, .inr (.inr (.inr (.inr (va_up (va_up (fun _ => none) (0) (some (q_304))) (1) (some (q_403))))))) := (z_2 1 (by decide) (by decide)).trans h_531
        have h_576 : cw1 2 = .inl (cs 3, 200, .inr (.inr (.inr (.inr (fun _ => none))))) := (z_2 2 (by decide) (by decide)).trans h_532
        have h_577 : cw1 3 = .inl (cs 3, 200, .inr (.inr (.inr (.inr (fun _ => none))))) := (z_2 3 (by decide) (by decide)).trans h_533
        have h_578 : cw1 4 = .inr (4, [.ref (q_71), .ref (q_73), .int (0)]) := (z_2 4 (by decide) (by decide)).trans h_534
        have h_579 : cw1 5 = .inl (cs 0, 200, .inl (fun _ => 0)) := (z_2 5 (by decide) (by decide)).trans h_535
        have h_580 : cw1 6 = .inl (cs 0, 200, .inl (fun _ => 0)) := (z_2 6 (by decide) (by decide)).trans h_536
        have h_581 : cw1 7 = .inr (4, [.ref (q_124), .ref (q_126), .int (0)]) := (z_2 7 (by decide) (by decide)).trans h_537
        have h_582 : cw1 8 = .inl (cs 0, 100, .inl (fun _ => 0)) := (z_2 8 (by decide) (by decide)).trans h_538
        have h_583 : cw1 9 = .inl (cs 0, 100, .inl (fun _ => 0)) := (z_2 9 (by decide) (by decide)).trans h_539
        have h_584 : cw1 10 = .inr (5, [.ref (q_192), .ref (q_194), .int (0)]) := (z_2 10 (by decide) (by decide)).trans h_540
        have h_585 : cw1 11 = .inl (cs 0, 200, .inl (fun _ => 0)) := (z_2 11 (by decide) (by decide)).trans h_541
        have h_586 : cw1 12 = .inl (cs 0, 41, .inl (fun _ => 0)) := (z_2 12 (by decide) (by decide)).trans h_542
        have h_587 : cw1 13 = .inr (6, [.ref (q_275), .ref (q_277), .ref (q_279), .int (0)]) := (z_2 13 (by decide) (by decide)).trans h_543
        have h_588 : cw1 14 = .inl (cs 0, 200, .inl (fun _ => 0)) := (z_2 14 (by decide) (by decide)).trans h_544
        have h_589 : cw1 15 = .inl (cs 0, 200, .inl (fun _ => 0)) := (z_2 15 (by decide) (by decide)).trans h_545
        have h_590 : cw1 16 = .inl (cs 0, 200, .inl (fun _ => 0)) := (z_2 16 (by decide) (by decide)).trans h_546
        have h_591 : cw1 17 = .inr (1, [.int (30), .int (20), .int (3)]) := (z_2 17 (by decide) (by decide)).trans h_547
        have h_592 : cw1 18 = .inr (1, [.int (30), .int (20), .int (3)]) := (z_2 18 (by decide) (by decide)).trans h_548
        have h_593 : cw1 19 = .inr (1, [.int 30, .int 20, .int 3]) := by exact z_3
        clear z_1 z_2 z_3
        clear a_510 a_511 a_512 a_513 a_514 a_515 a_516 a_517 a_518 a_519 a_520 a_521 a_522 a_523 a_524 a_525 a_526 a_527 a_528 a_529 h_530 h_531 h_532 h_533 h_534 h_535 h_536 h_537 h_538 h_539 h_540 h_541 h_542 h_543 h_544 h_545 h_546 h_547 h_548 h_549
        refine pw_astqA (n := 10) (f := (va_up (va_up (fun _ => none) (0) (some (q_304))) (1) (some (q_403)))) hx hb hK hP hD hS 2 (1) (by decide) a_555 h_575 rfl (19) (by decide) a_573 h_593 rfl (2) rfl (by decide) (by decide) d_X_init_107 (fun cw_594 H locs ecw_594 hP hD hS => ?_)
        have h_595 : cw_594 (0) = .inr (0, [.ref (q_1), .ref (q_11), .ref (q_24), .int (0), .ref (q_45), .ref (q_86), .ref (q_142), .ref (q_213)]) := by rw [ecw_594, va_up_ne _ _ (by decide)]; exact h_574
        have h_596 : cw_594 (1) = .inl (cs 2, 10, .inr (.inr (.inr (.inr (va_up (va_up (va_up (fun _ => none) (0) (some (q_304))) (1) (some (q_403))) (2) (some (q_507))))))) := by rw [ecw_594]; exact va_up_self _ _ _
        have h_597 : cw_594 (2) = .inl (cs 3, 200, .inr (.inr (.inr (.inr (fun _ => none))))) := by rw [ecw_594, va_up_ne _ _ (by decide)]; exact h_576
        have h_598 : cw_594 (3) = .inl (cs 3, 200, .inr (.inr (.inr (.inr (fun _ => none))))) := by rw [ecw_594, va_up_ne _ _ (by decide)]; exact h_577
        have h_599 : cw_594 (4) = .inr (4, [.ref (q_71), .ref (q_73), .int (0)]) := by rw [ecw_594, va_up_ne _ _ (by decide)]; exact h_578
        have h_600 : cw_594 (5) = .inl (cs 0, 200, .inl (fun _ => 0)) := by rw [ecw_594, va_up_ne _ _ (by decide)]; exact h_579
        have h_601 : cw_594 (6) = .inl (cs 0, 200, .inl (fun _ => 0)) := by rw [ecw_594, va_up_ne _ _ (by decide)]; exact h_580
        have h_602 : cw_594 (7) = .inr (4, [.ref (q_124), .ref (q_126), .int (0)]) := by rw [ecw_594, va_up_ne _ _ (by decide)]; exact h_581
        have h_603 : cw_594 (8) = .inl (cs 0, 100, .inl (fun _ => 0)) := by rw [ecw_594, va_up_ne _ _ (by decide)]; exact h_582
        have h_604 : cw_594 (9) = .inl (cs 0, 100, .inl (fun _ => 0)) := by rw [ecw_594, va_up_ne _ _ (by decide)]; exact h_583
        have h_605 : cw_594 (10) = .inr (5, [.ref (q_192), .ref (q_194), .int (0)]) := by rw [ecw_594, va_up_ne _ _ (by decide)]; exact h_584
        have h_606 : cw_594 (11) = .inl (cs 0, 200, .inl (fun _ => 0)) := by rw [ecw_594, va_up_ne _ _ (by decide)]; exact h_585
        have h_607 : cw_594 (12) = .inl (cs 0, 41, .inl (fun _ => 0)) := by rw [ecw_594, va_up_ne _ _ (by decide)]; exact h_586
        have h_608 : cw_594 (13) = .inr (6, [.ref (q_275), .ref (q_277), .ref (q_279), .int (0)]) := by rw [ecw_594, va_up_ne _ _ (by decide)]; exact h_587
        have h_609 : cw_594 (14) = .inl (cs 0, 200, .inl (fun _ => 0)) := by rw [ecw_594, va_up_ne _ _ (by decide)]; exact h_588
        have h_610 : cw_594 (15) = .inl (cs 0, 200, .inl (fun _ => 0)) := by rw [ecw_594, va_up_ne _ _ (by decide)]; exact h_589
        have h_611 : cw_594 (16) = .inl (cs 0, 200, .inl (fun _ => 0)) := by rw [ecw_594, va_up_ne _ _ (by decide)]; exact h_590
        have h_612 : cw_594 (17) = .inr (1, [.int (30), .int (20), .int (3)]) := by rw [ecw_594, va_up_ne _ _ (by decide)]; exact h_591
        have h_613 : cw_594 (18) = .inr (1, [.int (30), .int (20), .int (3)]) := by rw [ecw_594, va_up_ne _ _ (by decide)]; exact h_592
        have h_614 : cw_594 (19) = .inr (1, [.int (30), .int (20), .int (3)]) := by rw [ecw_594, va_up_ne _ _ (by decide)]; exact h_593
        clear ecw_594
        clear h_574 h_575 h_576 h_577 h_578 h_579 h_580 h_581 h_582 h_583 h_584 h_585 h_586 h_587 h_588 h_589 h_590 h_591 h_592 h_593
        refine lv_iinc (v := 3) (lv' := [(1, .int (3)), (0, .ref (h0))]) hx hb d_X_init_108 hl (k := 0) rfl (by decide) (by decide) rfl (fun ls hl => ?_)
        refine lv_goto (tgt := 89) hx hb d_X_init_111 (by decide) ?_
        refine lv_iload_n hx hb d_X_init_89 rfl (lv_at hl 0 rfl) ?_
        refine lv_bipush (v := 10) hx hb d_X_init_90 (by decide) ?_
        refine lv_icmp_ge (tgt := 114) hx hb d_X_init_92 (by decide) (fun c_615 => ?_) (fun c_615 => ?_)
        · exact absurd c_615 (by decide)
        · skip
          refine lv_aload_n hx hb d_X_init_95 rfl (lv_at hl 1 rfl) ?_
          refine pw_getA (ci := 0) (v := .ref (q_1)) hx hb hw i_X hown hK hP (0) (by decide) a_554 h_595 rfl 0 (by decide) (hw _ kF_X_11) rfl d_X_init_96 ?_
          refine lv_iload_n hx hb d_X_init_99 rfl (lv_at hl 0 rfl) ?_
          refine pw_new (ci := 1) (fs := [.int (0), .int (0), .int (0)]) hx hb hw i_U t_U t_U_ok hown (hw _ kL_X_9) (hw _ kA_U) (hw _ kZ_U) hK hP hD hS hA rfl (fun j hj => by match j, hj with | 0, _ => rfl | 1, _ => rfl | 2, _ => rfl) (Nat.le_of_ble_eq_true rfl) (Nat.le_of_ble_eq_true rfl) d_X_init_100 (fun q_616 H hP hD hS => ?_)
          obtain ⟨bk_617, eb⟩ : ∃ x, x = va_up bk1 20 q_616 := ⟨_, rfl⟩
          obtain ⟨cw_618, ec⟩ : ∃ x, x = va_up cw_594 20 (.inr (1, [.int (0), .int (0), .int (0)])) := ⟨_, rfl⟩
          replace hP : va_P D classes (wl 21 bk_617 cw_618) H := by rw [eb, ec]; exact hP
          replace hD : va_D (AA 1 bk sz) (wl 21 bk_617 cw_618) := by rw [eb, ec]; exact hD
          have a_619 : bk_617 0 = h0 := by rw [eb, va_up_ne _ _ (by decide)]; exact a_554
          have a_620 : bk_617 1 = q_1 := by rw [eb, va_up_ne _ _ (by decide)]; exact a_555
          have a_621 : bk_617 2 = q_11 := by rw [eb, va_up_ne _ _ (by decide)]; exact a_556
          have a_622 : bk_617 3 = q_24 := by rw [eb, va_up_ne _ _ (by decide)]; exact a_557
          have a_623 : bk_617 4 = q_45 := by rw [eb, va_up_ne _ _ (by decide)]; exact a_558
          have a_624 : bk_617 5 = q_71 := by rw [eb, va_up_ne _ _ (by decide)]; exact a_559
          have a_625 : bk_617 6 = q_73 := by rw [eb, va_up_ne _ _ (by decide)]; exact a_560
          have a_626 : bk_617 7 = q_86 := by rw [eb, va_up_ne _ _ (by decide)]; exact a_561
          have a_627 : bk_617 8 = q_124 := by rw [eb, va_up_ne _ _ (by decide)]; exact a_562
          have a_628 : bk_617 9 = q_126 := by rw [eb, va_up_ne _ _ (by decide)]; exact a_563
          have a_629 : bk_617 10 = q_142 := by rw [eb, va_up_ne _ _ (by decide)]; exact a_564
          have a_630 : bk_617 11 = q_192 := by rw [eb, va_up_ne _ _ (by decide)]; exact a_565
          have a_631 : bk_617 12 = q_194 := by rw [eb, va_up_ne _ _ (by decide)]; exact a_566
          have a_632 : bk_617 13 = q_213 := by rw [eb, va_up_ne _ _ (by decide)]; exact a_567
          have a_633 : bk_617 14 = q_275 := by rw [eb, va_up_ne _ _ (by decide)]; exact a_568
          have a_634 : bk_617 15 = q_277 := by rw [eb, va_up_ne _ _ (by decide)]; exact a_569
          have a_635 : bk_617 16 = q_279 := by rw [eb, va_up_ne _ _ (by decide)]; exact a_570
          have a_636 : bk_617 17 = q_304 := by rw [eb, va_up_ne _ _ (by decide)]; exact a_571
          have a_637 : bk_617 18 = q_403 := by rw [eb, va_up_ne _ _ (by decide)]; exact a_572
          have a_638 : bk_617 19 = q_507 := by rw [eb, va_up_ne _ _ (by decide)]; exact a_573
          have a_639 : bk_617 20 = q_616 := by rw [eb]; exact va_up_self _ _ _
          have h_640 : cw_618 0 = .inr (0, [.ref (q_1), .ref (q_11), .ref (q_24), .int (0), .ref (q_45), .ref (q_86), .ref (q_142), .ref (q_213)]) := by rw [ec, va_up_ne _ _ (by decide)]; exact h_595
          have h_641 : cw_618 1 = .inl (cs 2, 10, .inr (.inr (.inr (.inr (va_up (va_up (va_up (fun _ => none) (0) (some (q_304))) (1) (some (q_403))) (2) (some (q_507))))))) := by rw [ec, va_up_ne _ _ (by decide)]; exact h_596
          have h_642 : cw_618 2 = .inl (cs 3, 200, .inr (.inr (.inr (.inr (fun _ => none))))) := by rw [ec, va_up_ne _ _ (by decide)]; exact h_597
          have h_643 : cw_618 3 = .inl (cs 3, 200, .inr (.inr (.inr (.inr (fun _ => none))))) := by rw [ec, va_up_ne _ _ (by decide)]; exact h_598
          have h_644 : cw_618 4 = .inr (4, [.ref (q_71), .ref (q_73), .int (0)]) := by rw [ec, va_up_ne _ _ (by decide)]; exact h_599
          have h_645 : cw_618 5 = .inl (cs 0, 200, .inl (fun _ => 0)) := by rw [ec, va_up_ne _ _ (by decide)]; exact h_600
          have h_646 : cw_618 6 = .inl (cs 0, 200, .inl (fun _ => 0)) := by rw [ec, va_up_ne _ _ (by decide)]; exact h_601
          have h_647 : cw_618 7 = .inr (4, [.ref (q_124), .ref (q_126), .int (0)]) := by rw [ec, va_up_ne _ _ (by decide)]; exact h_602
          have h_648 : cw_618 8 = .inl (cs 0, 100, .inl (fun _ => 0)) := by rw [ec, va_up_ne _ _ (by decide)]; exact h_603
          have h_649 : cw_618 9 = .inl (cs 0, 100, .inl (fun _ => 0)) := by rw [ec, va_up_ne _ _ (by decide)]; exact h_604
          have h_650 : cw_618 10 = .inr (5, [.ref (q_192), .ref (q_194), .int (0)]) := by rw [ec, va_up_ne _ _ (by decide)]; exact h_605
          have h_651 : cw_618 11 = .inl (cs 0, 200, .inl (fun _ => 0)) := by rw [ec, va_up_ne _ _ (by decide)]; exact h_606
          have h_652 : cw_618 12 = .inl (cs 0, 41, .inl (fun _ => 0)) := by rw [ec, va_up_ne _ _ (by decide)]; exact h_607
          have h_653 : cw_618 13 = .inr (6, [.ref (q_275), .ref (q_277), .ref (q_279), .int (0)]) := by rw [ec, va_up_ne _ _ (by decide)]; exact h_608
          have h_654 : cw_618 14 = .inl (cs 0, 200, .inl (fun _ => 0)) := by rw [ec, va_up_ne _ _ (by decide)]; exact h_609
          have h_655 : cw_618 15 = .inl (cs 0, 200, .inl (fun _ => 0)) := by rw [ec, va_up_ne _ _ (by decide)]; exact h_610
          have h_656 : cw_618 16 = .inl (cs 0, 200, .inl (fun _ => 0)) := by rw [ec, va_up_ne _ _ (by decide)]; exact h_611
          have h_657 : cw_618 17 = .inr (1, [.int (30), .int (20), .int (3)]) := by rw [ec, va_up_ne _ _ (by decide)]; exact h_612
          have h_658 : cw_618 18 = .inr (1, [.int (30), .int (20), .int (3)]) := by rw [ec, va_up_ne _ _ (by decide)]; exact h_613
          have h_659 : cw_618 19 = .inr (1, [.int (30), .int (20), .int (3)]) := by rw [ec, va_up_ne _ _ (by decide)]; exact h_614
          have h_660 : cw_618 20 = .inr (1, [.int (0), .int (0), .int (0)]) := by rw [ec]; exact va_up_self _ _ _
          clear eb ec
          clear a_554 a_555 a_556 a_557 a_558 a_559 a_560 a_561 a_562 a_563 a_564 a_565 a_566 a_567 a_568 a_569 a_570 a_571 a_572 a_573 h_595 h_596 h_597 h_598 h_599 h_600 h_601 h_602 h_603 h_604 h_605 h_606 h_607 h_608 h_609 h_610 h_611 h_612 h_613 h_614
          refine lv_dup hx hb d_X_init_103 rfl ?_
          refine pw_callv (va_runIN (As := []) (rest := [.ref (q_616), .int (3), .ref (q_1)]) ⟨hx, hb, hml, hown, hw⟩ (c_U_init l D cs 21 bk_617 cw_618 H.size 20 (by decide) q_616 a_639 h_660) (cw_IN 0 hw (kN_X_54 hN) kI_U_init kZ_U kC_U_init rfl rfl rfl ⟨by decide, by decide, by decide +kernel⟩ ⟨Nat.le_of_ble_eq_true rfl, Nat.le_of_ble_eq_true rfl⟩) (pw_preS hN hK hP hD) rfl rfl hl.1 rfl (lv_room (Nat.le_of_ble_eq_true rfl)) d_X_init_104 ⟨Nat.le_of_ble_eq_true rfl, Nat.le_of_ble_eq_true rfl⟩) hS (wl_free hD hS hA) (fun N1 bk1 cw1 H locs hu hP hD hS => ?_)
          obtain ⟨z_0, z_1, z_2, z_3⟩ := hu
          dsimp only at z_0 z_1 z_2 z_3
          subst z_0
          skip
          skip
          skip
          skip
          replace hP : va_P D classes (wl 21 bk1 cw1) H := hP
          replace hD : va_D (AA 1 bk sz) (wl 21 bk1 cw1) := hD
          have a_665 : bk1 0 = h0 := (z_1 0 (by decide)).trans a_619
          have a_666 : bk1 1 = q_1 := (z_1 1 (by decide)).trans a_620
          have a_667 : bk1 2 = q_11 := (z_1 2 (by decide)).trans a_621
          have a_668 : bk1 3 = q_24 := (z_1 3 (by decide)).trans a_622
          have a_669 : bk1 4 = q_45 := (z_1 4 (by decide)).trans a_623
          have a_670 : bk1 5 = q_71 := (z_1 5 (by decide)).trans a_624
          have a_671 : bk1 6 = q_73 := (z_1 6 (by decide)).trans a_625
          have a_672 : bk1 7 = q_86 := (z_1 7 (by decide)).trans a_626
          have a_673 : bk1 8 = q_124 := (z_1 8 (by decide)).trans a_627
          have a_674 : bk1 9 = q_126 := (z_1 9 (by decide)).trans a_628
          have a_675 : bk1 10 = q_142 := (z_1 10 (by decide)).trans a_629
          have a_676 : bk1 11 = q_192 := (z_1 11 (by decide)).trans a_630
          have a_677 : bk1 12 = q_194 := (z_1 12 (by decide)).trans a_631
          have a_678 : bk1 13 = q_213 := (z_1 13 (by decide)).trans a_632
          have a_679 : bk1 14 = q_275 := (z_1 14 (by decide)).trans a_633
          have a_680 : bk1 15 = q_277 := (z_1 15 (by decide)).trans a_634
          have a_681 : bk1 16 = q_279 := (z_1 16 (by decide)).trans a_635
          have a_682 : bk1 17 = q_304 := (z_1 17 (by decide)).trans a_636
          have a_683 : bk1 18 = q_403 := (z_1 18 (by decide)).trans a_637
          have a_684 : bk1 19 = q_507 := (z_1 19 (by decide)).trans a_638
          have a_685 : bk1 20 = q_616 := (z_1 20 (by decide)).trans a_639
          have h_686 : cw1 0 = .inr (0, [.ref (q_1), .ref (q_11), .ref (q_24), .int (0), .ref (q_45), .ref (q_86), .ref (q_142), .ref (q_213)]) := (z_2 0 (by decide) (by decide)).trans h_640
          have h_687 : cw1 1 = .inl (cs 2, 10, .inr (.inr (.inr (.inr (va_up (va_up (va_up (fun _ => none) (0) (some (q_304))) (1) (some (q_403))) (2) (some (q_507))))))) := (z_2 1 (by decide) (by decide)).trans h_641
          have h_688 : cw1 2 = .inl (cs 3, 200, .inr (.inr (.inr (.inr (fun _ => none))))) := (z_2 2 (by decide) (by decide)).trans h_642
          have h_689 : cw1 3 = .inl (cs 3, 200, .inr (.inr (.inr (.inr (fun _ => none))))) := (z_2 3 (by decide) (by decide)).trans h_643
          have h_690 : cw1 4 = .inr (4, [.ref (q_71), .ref (q_73), .int (0)]) := (z_2 4 (by decide) (by decide)).trans h_644
          have h_691 : cw1 5 = .inl (cs 0, 200, .inl (fun _ => 0)) := (z_2 5 (by decide) (by decide)).trans h_645
          have h_692 : cw1 6 = .inl (cs 0, 200, .inl (fun _ => 0)) := (z_2 6 (by decide) (by decide)).trans h_646
          have h_693 : cw1 7 = .inr (4, [.ref (q_124), .ref (q_126), .int (0)]) := (z_2 7 (by decide) (by decide)).trans h_647
          have h_694 : cw1 8 = .inl (cs 0, 100, .inl (fun _ => 0)) := (z_2 8 (by decide) (by decide)).trans h_648
          have h_695 : cw1 9 = .inl (cs 0, 100, .inl (fun _ => 0)) := (z_2 9 (by decide) (by decide)).trans h_649
          have h_696 : cw1 10 = .inr (5, [.ref (q_192), .ref (q_194), .int (0)]) := (z_2 10 (by decide) (by decide)).trans h_650
          have h_697 : cw1 11 = .inl (cs 0, 200, .inl (fun _ => 0)) := (z_2 11 (by decide) (by decide)).trans h_651
          have h_698 : cw1 12 = .inl (cs 0, 41, .inl (fun _ => 0)) := (z_2 12 (by decide) (by decide)).trans h_652
          have h_699 : cw1 13 = .inr (6, [.ref (q_275), .ref (q_277), .ref (q_279), .int (0)]) := (z_2 13 (by decide) (by decide)).trans h_653
          have h_700 : cw1 14 = .inl (cs 0, 200, .inl (fun _ => 0)) := (z_2 14 (by decide) (by decide)).trans h_654
          have h_701 : cw1 15 = .inl (cs 0, 200, .inl (fun _ => 0)) := (z_2 15 (by decide) (by decide)).trans h_655
          have h_702 : cw1 16 = .inl (cs 0, 200, .inl (fun _ => 0)) := (z_2 16 (by decide) (by decide)).trans h_656
          have h_703 : cw1 17 = .inr (1, [.int (30), .int (20), .int (3)]) := (z_2 17 (by decide) (by decide)).trans h_657
          have h_704 : cw1 18 = .inr (1, [.int (30), .int (20), .int (3)]) := (z_2 18 (by decide) (by decide)).trans h_658
          have h_705 : cw1 19 = .inr (1, [.int (30), .int (20), .int (3)]) := (z_2 19 (by decide) (by decide)).trans h_659
          have h_706 : cw1 20 = .inr (1, [.int 30, .int 20, .int 3]) := by exact z_3
          clear z_1 z_2 z_3
          clear a_619 a_620 a_621 a_622 a_623 a_624 a_625 a_626 a_627 a_628 a_629 a_630 a_631 a_632 a_633 a_634 a_635 a_636 a_637 a_638 a_639 h_640 h_641 h_642 h_643 h_644 h_645 h_646 h_647 h_648 h_649 h_650 h_651 h_652 h_653 h_654 h_655 h_656 h_657 h_658 h_659 h_660
          refine pw_astqA (n := 10) (f := (va_up (va_up (va_up (fun _ => none) (0) (some (q_304))) (1) (some (q_403))) (2) (some (q_507)))) hx hb hK hP hD hS 2 (1) (by decide) a_666 h_687 rfl (20) (by decide) a_685 h_706 rfl (3) rfl (by decide) (by decide) d_X_init_107 (fun cw_707 H locs ecw_707 hP hD hS => ?_)
          have h_708 : cw_707 (0) = .inr (0, [.ref (q_1), .ref (q_11), .ref (q_24), .int (0), .ref (q_45), .ref (q_86), .ref (q_142), .ref (q_213)]) := by rw [ecw_707, va_up_ne _ _ (by decide)]; exact h_686
          have h_709 : cw_707 (1) = .inl (cs 2, 10, .inr (.inr (.inr (.inr (va_up (va_up (va_up (va_up (fun _ => none) (0) (some (q_304))) (1) (some (q_403))) (2) (some (q_507))) (3) (some (q_616))))))) := by rw [ecw_707]; exact va_up_self _ _ _
          have h_710 : cw_707 (2) = .inl (cs 3, 200, .inr (.inr (.inr (.inr (fun _ => none))))) := by rw [ecw_707, va_up_ne _ _ (by decide)]; exact h_688
          have h_711 : cw_707 (3) = .inl (cs 3, 200, .inr (.inr (.inr (.inr (fun _ => none))))) := by rw [ecw_707, va_up_ne _ _ (by decide)]; exact h_689
          have h_712 : cw_707 (4) = .inr (4, [.ref (q_71), .ref (q_73), .int (0)]) := by rw [ecw_707, va_up_ne _ _ (by decide)]; exact h_690
          have h_713 : cw_707 (5) = .inl (cs 0, 200, .inl (fun _ => 0)) := by rw [ecw_707, va_up_ne _ _ (by decide)]; exact h_691
          have h_714 : cw_707 (6) = .inl (cs 0, 200, .inl (fun _ => 0)) := by rw [ecw_707, va_up_ne _ _ (by decide)]; exact h_692
          have h_715 : cw_707 (7) = .inr (4, [.ref (q_124), .ref (q_126), .int (0)]) := by rw [ecw_707, va_up_ne _ _ (by decide)]; exact h_693
          have h_716 : cw_707 (8) = .inl (cs 0, 100, .inl (fun _ => 0)) := by rw [ecw_707, va_up_ne _ _ (by decide)]; exact h_694
          have h_717 : cw_707 (9) = .inl (cs 0, 100, .inl (fun _ => 0)) := by rw [ecw_707, va_up_ne _ _ (by decide)]; exact h_695
          have h_718 : cw_707 (10) = .inr (5, [.ref (q_192), .ref (q_194), .int (0)]) := by rw [ecw_707, va_up_ne _ _ (by decide)]; exact h_696
          have h_719 : cw_707 (11) = .inl (cs 0, 200, .inl (fun _ => 0)) := by rw [ecw_707, va_up_ne _ _ (by decide)]; exact h_697
          have h_720 : cw_707 (12) = .inl (cs 0, 41, .inl (fun _ => 0)) := by rw [ecw_707, va_up_ne _ _ (by decide)]; exact h_698
          have h_721 : cw_707 (13) = .inr (6, [.ref (q_275), .ref (q_277), .ref (q_279), .int (0)]) := by rw [ecw_707, va_up_ne _ _ (by decide)]; exact h_699
          have h_722 : cw_707 (14) = .inl (cs 0, 200, .inl (fun _ => 0)) := by rw [ecw_707, va_up_ne _ _ (by decide)]; exact h_700
          have h_723 : cw_707 (15) = .inl (cs 0, 200, .inl (fun _ => 0)) := by rw [ecw_707, va_up_ne _ _ (by decide)]; exact h_701
          have h_724 : cw_707 (16) = .inl (cs 0, 200, .inl (fun _ => 0)) := by rw [ecw_707, va_up_ne _ _ (by decide)]; exact h_702
          have h_725 : cw_707 (17) = .inr (1, [.int (30), .int (20), .int (3)]) := by rw [ecw_707, va_up_ne _ _ (by decide)]; exact h_703
          have h_726 : cw_707 (18) = .inr (1, [.int (30), .int (20), .int (3)]) := by rw [ecw_707, va_up_ne _ _ (by decide)]; exact h_704
          have h_727 : cw_707 (19) = .inr (1, [.int (30), .int (20), .int (3)]) := by rw [ecw_707, va_up_ne _ _ (by decide)]; exact h_705
          have h_728 : cw_707 (20) = .inr (1, [.int (30), .int (20), .int (3)]) := by rw [ecw_707, va_up_ne _ _ (by decide)]; exact h_706
          clear ecw_707
          clear h_686 h_687 h_688 h_689 h_690 h_691 h_692 h_693 h_694 h_695 h_696 h_697 h_698 h_699 h_700 h_701 h_702 h_703 h_704 h_705 h_706
          refine lv_iinc (v := 4) (lv' := [(1, .int (4)), (0, .ref (h0))]) hx hb d_X_init_108 hl (k := 0) rfl (by decide) (by decide) rfl (fun ls hl => ?_)
          refine lv_goto (tgt := 89) hx hb d_X_init_111 (by decide) ?_
          refine lv_iload_n hx hb d_X_init_89 rfl (lv_at hl 0 rfl) ?_
          refine lv_bipush (v := 10) hx hb d_X_init_90 (by decide) ?_
          refine lv_icmp_ge (tgt := 114) hx hb d_X_init_92 (by decide) (fun c_729 => ?_) (fun c_729 => ?_)
          · exact absurd c_729 (by decide)
          · skip
            refine lv_aload_n hx hb d_X_init_95 rfl (lv_at hl 1 rfl) ?_
            refine pw_getA (ci := 0) (v := .ref (q_1)) hx hb hw i_X hown hK hP (0) (by decide) a_665 h_708 rfl 0 (by decide) (hw _ kF_X_11) rfl d_X_init_96 ?_
            refine lv_iload_n hx hb d_X_init_99 rfl (lv_at hl 0 rfl) ?_
            refine pw_new (ci := 1) (fs := [.int (0), .int (0), .int (0)]) hx hb hw i_U t_U t_U_ok hown (hw _ kL_X_9) (hw _ kA_U) (hw _ kZ_U) hK hP hD hS hA rfl (fun j hj => by match j, hj with | 0, _ => rfl | 1, _ => rfl | 2, _ => rfl) (Nat.le_of_ble_eq_true rfl) (Nat.le_of_ble_eq_true rfl) d_X_init_100 (fun q_730 H hP hD hS => ?_)
            obtain ⟨bk_731, eb⟩ : ∃ x, x = va_up bk1 21 q_730 := ⟨_, rfl⟩
            obtain ⟨cw_732, ec⟩ : ∃ x, x = va_up cw_707 21 (.inr (1, [.int (0), .int (0), .int (0)])) := ⟨_, rfl⟩
            replace hP : va_P D classes (wl 22 bk_731 cw_732) H := by rw [eb, ec]; exact hP
            replace hD : va_D (AA 1 bk sz) (wl 22 bk_731 cw_732) := by rw [eb, ec]; exact hD
            have a_733 : bk_731 0 = h0 := by rw [eb, va_up_ne _ _ (by decide)]; exact a_665
            have a_734 : bk_731 1 = q_1 := by rw [eb, va_up_ne _ _ (by decide)]; exact a_666
            have a_735 : bk_731 2 = q_11 := by rw [eb, va_up_ne _ _ (by decide)]; exact a_667
            have a_736 : bk_731 3 = q_24 := by rw [eb, va_up_ne _ _ (by decide)]; exact a_668
            have a_737 : bk_731 4 = q_45 := by rw [eb, va_up_ne _ _ (by decide)]; exact a_669
            have a_738 : bk_731 5 = q_71 := by rw [eb, va_up_ne _ _ (by decide)]; exact a_670
            have a_739 : bk_731 6 = q_73 := by rw [eb, va_up_ne _ _ (by decide)]; exact a_671
            have a_740 : bk_731 7 = q_86 := by rw [eb, va_up_ne _ _ (by decide)]; exact a_672
            have a_741 : bk_731 8 = q_124 := by rw [eb, va_up_ne _ _ (by decide)]; exact a_673
            have a_742 : bk_731 9 = q_126 := by rw [eb, va_up_ne _ _ (by decide)]; exact a_674
            have a_743 : bk_731 10 = q_142 := by rw [eb, va_up_ne _ _ (by decide)]; exact a_675
            have a_744 : bk_731 11 = q_192 := by rw [eb, va_up_ne _ _ (by decide)]; exact a_676
            have a_745 : bk_731 12 = q_194 := by rw [eb, va_up_ne _ _ (by decide)]; exact a_677
            have a_746 : bk_731 13 = q_213 := by rw [eb, va_up_ne _ _ (by decide)]; exact a_678
            have a_747 : bk_731 14 = q_275 := by rw [eb, va_up_ne _ _ (by decide)]; exact a_679
            have a_748 : bk_731 15 = q_277 := by rw [eb, va_up_ne _ _ (by decide)]; exact a_680
            have a_749 : bk_731 16 = q_279 := by rw [eb, va_up_ne _ _ (by decide)]; exact a_681
            have a_750 : bk_731 17 = q_304 := by rw [eb, va_up_ne _ _ (by decide)]; exact a_682
            have a_751 : bk_731 18 = q_403 := by rw [eb, va_up_ne _ _ (by decide)]; exact a_683
            have a_752 : bk_731 19 = q_507 := by rw [eb, va_up_ne _ _ (by decide)]; exact a_684
            have a_753 : bk_731 20 = q_616 := by rw [eb, va_up_ne _ _ (by decide)]; exact a_685
            have a_754 : bk_731 21 = q_730 := by rw [eb]; exact va_up_self _ _ _
            have h_755 : cw_732 0 = .inr (0, [.ref (q_1), .ref (q_11), .ref (q_24), .int (0), .ref (q_45), .ref (q_86), .ref (q_142), .ref (q_213)]) := by rw [ec, va_up_ne _ _ (by decide)]; exact h_708
            have h_756 : cw_732 1 = .inl (cs 2, 10, .inr (.inr (.inr (.inr (va_up (va_up (va_up (va_up (fun _ => none) (0) (some (q_304))) (1) (some (q_403))) (2) (some (q_507))) (3) (some (q_616))))))) := by rw [ec, va_up_ne _ _ (by decide)]; exact h_709
            have h_757 : cw_732 2 = .inl (cs 3, 200, .inr (.inr (.inr (.inr (fun _ => none))))) := by rw [ec, va_up_ne _ _ (by decide)]; exact h_710
            have h_758 : cw_732 3 = .inl (cs 3, 200, .inr (.inr (.inr (.inr (fun _ => none))))) := by rw [ec, va_up_ne _ _ (by decide)]; exact h_711
            have h_759 : cw_732 4 = .inr (4, [.ref (q_71), .ref (q_73), .int (0)]) := by rw [ec, va_up_ne _ _ (by decide)]; exact h_712
            have h_760 : cw_732 5 = .inl (cs 0, 200, .inl (fun _ => 0)) := by rw [ec, va_up_ne _ _ (by decide)]; exact h_713
            have h_761 : cw_732 6 = .inl (cs 0, 200, .inl (fun _ => 0)) := by rw [ec, va_up_ne _ _ (by decide)]; exact h_714
            have h_762 : cw_732 7 = .inr (4, [.ref (q_124), .ref (q_126), .int (0)]) := by rw [ec, va_up_ne _ _ (by decide)]; exact h_715
            have h_763 : cw_732 8 = .inl (cs 0, 100, .inl (fun _ => 0)) := by rw [ec, va_up_ne _ _ (by decide)]; exact h_716
            have h_764 : cw_732 9 = .inl (cs 0, 100, .inl (fun _ => 0)) := by rw [ec, va_up_ne _ _ (by decide)]; exact h_717
            have h_765 : cw_732 10 = .inr (5, [.ref (q_192), .ref (q_194), .int (0)]) := by rw [ec, va_up_ne _ _ (by decide)]; exact h_718
            have h_766 : cw_732 11 = .inl (cs 0, 200, .inl (fun _ => 0)) := by rw [ec, va_up_ne _ _ (by decide)]; exact h_719
            have h_767 : cw_732 12 = .inl (cs 0, 41, .inl (fun _ => 0)) := by rw [ec, va_up_ne _ _ (by decide)]; exact h_720
            have h_768 : cw_732 13 = .inr (6, [.ref (q_275), .ref (q_277), .ref (q_279), .int (0)]) := by rw [ec, va_up_ne _ _ (by decide)]; exact h_721
            have h_769 : cw_732 14 = .inl (cs 0, 200, .inl (fun _ => 0)) := by rw [ec, va_up_ne _ _ (by decide)]; exact h_722
            have h_770 : cw_732 15 = .inl (cs 0, 200, .inl (fun _ => 0)) := by rw [ec, va_up_ne _ _ (by decide)]; exact h_723
            have h_771 : cw_732 16 = .inl (cs 0, 200, .inl (fun _ => 0)) := by rw [ec, va_up_ne _ _ (by decide)]; exact h_724
            have h_772 : cw_732 17 = .inr (1, [.int (30), .int (20), .int (3)]) := by rw [ec, va_up_ne _ _ (by decide)]; exact h_725
            have h_773 : cw_732 18 = .inr (1, [.int (30), .int (20), .int (3)]) := by rw [ec, va_up_ne _ _ (by decide)]; exact h_726
            have h_774 : cw_732 19 = .inr (1, [.int (30), .int (20), .int (3)]) := by rw [ec, va_up_ne _ _ (by decide)]; exact h_727
            have h_775 : cw_732 20 = .inr (1, [.int (30), .int (20), .int (3)]) := by rw [ec, va_up_ne _ _ (by decide)]; exact h_728
            have h_776 : cw_732 21 = .inr (1, [.int (0), .int (0), .int (0)]) := by rw [ec]; exact va_up_self _ _ _
            clear eb ec
            clear a_665 a_666 a_667 a_668 a_669 a_670 a_671 a_672 a_673 a_674 a_675 a_676 a_677 a_678 a_679 a_680 a_681 a_682 a_683 a_684 a_685 h_708 h_709 h_710 h_711 h_712 h_713 h_714 h_715 h_716 h_717 h_718 h_719 h_720 h_721 h_722 h_723 h_724 h_725 h_726 h_727 h_728
            refine lv_dup hx hb d_X_init_103 rfl ?_
            refine pw_callv (va_runIN (As := []) (rest := [.ref (q_730), .int (4), .ref (q_1)]) ⟨hx, hb, hml, hown, hw⟩ (c_U_init l D cs 22 bk_731 cw_732 H.size 21 (by decide) q_730 a_754 h_776) (cw_IN 0 hw (kN_X_54 hN) kI_U_init kZ_U kC_U_init rfl rfl rfl ⟨by decide, by decide, by decide +kernel⟩ ⟨Nat.le_of_ble_eq_true rfl, Nat.le_of_ble_eq_true rfl⟩) (pw_preS hN hK hP hD) rfl rfl hl.1 rfl (lv_room (Nat.le_of_ble_eq_true rfl)) d_X_init_104 ⟨Nat.le_of_ble_eq_true rfl, Nat.le_of_ble_eq_true rfl⟩) hS (wl_free hD hS hA) (fun N1 bk1 cw1 H locs hu hP hD hS => ?_)
            obtain ⟨z_0, z_1, z_2, z_3⟩ := hu
            dsimp only at z_0 z_1 z_2 z_3
            subst z_0
            skip
            skip
            skip
            skip
            replace hP : va_P D classes (wl 22 bk1 cw1) H := hP
            replace hD : va_D (AA 1 bk sz) (wl 22 bk1 cw1) := hD
            have a_781 : bk1 0 = h0 := (z_1 0 (by decide)).trans a_733
            have a_782 : bk1 1 = q_1 := (z_1 1 (by decide)).trans a_734
            have a_783 : bk1 2 = q_11 := (z_1 2 (by decide)).trans a_735
            have a_784 : bk1 3 = q_24 := (z_1 3 (by decide)).trans a_736
            have a_785 : bk1 4 = q_45 := (z_1 4 (by decide)).trans a_737
            have a_786 : bk1 5 = q_71 := (z_1 5 (by decide)).trans a_738
            have a_787 : bk1 6 = q_73 := (z_1 6 (by decide)).trans a_739
            have a_788 : bk1 7 = q_86 := (z_1 7 (by decide)).trans a_740
            have a_789 : bk1 8 = q_124 := (z_1 8 (by decide)).trans a_741
            have a_790 : bk1 9 = q_126 := (z_1 9 (by decide)).trans a_742
            have a_791 : bk1 10 = q_142 := (z_1 10 (by decide)).trans a_743
            have a_792 : bk1 11 = q_192 := (z_1 11 (by decide)).trans a_744
            have a_793 : bk1 12 = q_194 := (z_1 12 (by decide)).trans a_745
            have a_794 : bk1 13 = q_213 := (z_1 13 (by decide)).trans a_746
            have a_795 : bk1 14 = q_275 := (z_1 14 (by decide)).trans a_747
            have a_796 : bk1 15 = q_277 := (z_1 15 (by decide)).trans a_748
            have a_797 : bk1 16 = q_279 := (z_1 16 (by decide)).trans a_749
            have a_798 : bk1 17 = q_304 := (z_1 17 (by decide)).trans a_750
            have a_799 : bk1 18 = q_403 := (z_1 18 (by decide)).trans a_751
            have a_800 : bk1 19 = q_507 := (z_1 19 (by decide)).trans a_752
            have a_801 : bk1 20 = q_616 := (z_1 20 (by decide)).trans a_753
            have a_802 : bk1 21 = q_730 := (z_1 21 (by decide)).trans a_754
            have h_803 : cw1 0 = .inr (0, [.ref (q_1), .ref (q_11), .ref (q_24), .int (0), .ref (q_45), .ref (q_86), .ref (q_142), .ref (q_213)]) := (z_2 0 (by decide) (by decide)).trans h_755
            have h_804 : cw1 1 = .inl (cs 2, 10, .inr (.inr (.inr (.inr (va_up (va_up (va_up (va_up (fun _ => none) (0) (some (q_304))) (1) (some (q_403))) (2) (some (q_507))) (3) (some (q_616))))))) := (z_2 1 (by decide) (by decide)).trans h_756
            have h_805 : cw1 2 = .inl (cs 3, 200, .inr (.inr (.inr (.inr (fun _ => none))))) := (z_2 2 (by decide) (by decide)).trans h_757
            have h_806 : cw1 3 = .inl (cs 3, 200, .inr (.inr (.inr (.inr (fun _ => none))))) := (z_2 3 (by decide) (by decide)).trans h_758
            have h_807 : cw1 4 = .inr (4, [.ref (q_71), .ref (q_73), .int (0)]) := (z_2 4 (by decide) (by decide)).trans h_759
            have h_808 : cw1 5 = .inl (cs 0, 200, .inl (fun _ => 0)) := (z_2 5 (by decide) (by decide)).trans h_760
            have h_809 : cw1 6 = .inl (cs 0, 200, .inl (fun _ => 0)) := (z_2 6 (by decide) (by decide)).trans h_761
            have h_810 : cw1 7 = .inr (4, [.ref (q_124), .ref (q_126), .int (0)]) := (z_2 7 (by decide) (by decide)).trans h_762
            have h_811 : cw1 8 = .inl (cs 0, 100, .inl (fun _ => 0)) := (z_2 8 (by decide) (by decide)).trans h_763
            have h_812 : cw1 9 = .inl (cs 0, 100, .inl (fun _ => 0)) := (z_2 9 (by decide) (by decide)).trans h_764
            have h_813 : cw1 10 = .inr (5, [.ref (q_192), .ref (q_194), .int (0)]) := (z_2 10 (by decide) (by decide)).trans h_765
            have h_814 : cw1 11 = .inl (cs 0, 200, .inl (fun _ => 0)) := (z_2 11 (by decide) (by decide)).trans h_766
            have h_815 : cw1 12 = .inl (cs 0, 41, .inl (fun _ => 0)) := (z_2 12 (by decide) (by decide)).trans h_767
            have h_816 : cw1 13 = .inr (6, [.ref (q_275), .ref (q_277), .ref (q_279), .int (0)]) := (z_2 13 (by decide) (by decide)).trans h_768
            have h_817 : cw1 14 = .inl (cs 0, 200, .inl (fun _ => 0)) := (z_2 14 (by decide) (by decide)).trans h_769
            have h_818 : cw1 15 = .inl (cs 0, 200, .inl (fun _ => 0)) := (z_2 15 (by decide) (by decide)).trans h_770
            have h_819 : cw1 16 = .inl (cs 0, 200, .inl (fun _ => 0)) := (z_2 16 (by decide) (by decide)).trans h_771
            have h_820 : cw1 17 = .inr (1, [.int (30), .int (20), .int (3)]) := (z_2 17 (by decide) (by decide)).trans h_772
            have h_821 : cw1 18 = .inr (1, [.int (30), .int (20), .int (3)]) := (z_2 18 (by decide) (by decide)).trans h_773
            have h_822 : cw1 19 = .inr (1, [.int (30), .int (20), .int (3)]) := (z_2 19 (by decide) (by decide)).trans h_774
            have h_823 : cw1 20 = .inr (1, [.int (30), .int (20), .int (3)]) := (z_2 20 (by decide) (by decide)).trans h_775
            have h_824 : cw1 21 = .inr (1, [.int 30, .int 20, .int 3]) := by exact z_3
            clear z_1 z_2 z_3
            clear a_733 a_734 a_735 a_736 a_737 a_738 a_739 a_740 a_741 a_742 a_743 a_744 a_745 a_746 a_747 a_748 a_749 a_750 a_751 a_752 a_753 a_754 h_755 h_756 h_757 h_758 h_759 h_760 h_761 h_762 h_763 h_764 h_765 h_766 h_767 h_768 h_769 h_770 h_771 h_772 h_773 h_774 h_775 h_776
            refine pw_astqA (n := 10) (f := (va_up (va_up (va_up (va_up (fun _ => none) (0) (some (q_304))) (1) (some (q_403))) (2) (some (q_507))) (3) (some (q_616)))) hx hb hK hP hD hS 2 (1) (by decide) a_782 h_804 rfl (21) (by decide) a_802 h_824 rfl (4) rfl (by decide) (by decide) d_X_init_107 (fun cw_825 H locs ecw_825 hP hD hS => ?_)
            have h_826 : cw_825 (0) = .inr (0, [.ref (q_1), .ref (q_11), .ref (q_24), .int (0), .ref (q_45), .ref (q_86), .ref (q_142), .ref (q_213)]) := by rw [ecw_825, va_up_ne _ _ (by decide)]; exact h_803
            have h_827 : cw_825 (1) = .inl (cs 2, 10, .inr (.inr (.inr (.inr (va_up (va_up (va_up (va_up (va_up (fun _ => none) (0) (some (q_304))) (1) (some (q_403))) (2) (some (q_507))) (3) (some (q_616))) (4) (some (q_730))))))) := by rw [ecw_825]; exact va_up_self _ _ _
            have h_828 : cw_825 (2) = .inl (cs 3, 200, .inr (.inr (.inr (.inr (fun _ => none))))) := by rw [ecw_825, va_up_ne _ _ (by decide)]; exact h_805
            have h_829 : cw_825 (3) = .inl (cs 3, 200, .inr (.inr (.inr (.inr (fun _ => none))))) := by rw [ecw_825, va_up_ne _ _ (by decide)]; exact h_806
            have h_830 : cw_825 (4) = .inr (4, [.ref (q_71), .ref (q_73), .int (0)]) := by rw [ecw_825, va_up_ne _ _ (by decide)]; exact h_807
            have h_831 : cw_825 (5) = .inl (cs 0, 200, .inl (fun _ => 0)) := by rw [ecw_825, va_up_ne _ _ (by decide)]; exact h_808
            have h_832 : cw_825 (6) = .inl (cs 0, 200, .inl (fun _ => 0)) := by rw [ecw_825, va_up_ne _ _ (by decide)]; exact h_809
            have h_833 : cw_825 (7) = .inr (4, [.ref (q_124), .ref (q_126), .int (0)]) := by rw [ecw_825, va_up_ne _ _ (by decide)]; exact h_810
            have h_834 : cw_825 (8) = .inl (cs 0, 100, .inl (fun _ => 0)) := by rw [ecw_825, va_up_ne _ _ (by decide)]; exact h_811
            have h_835 : cw_825 (9) = .inl (cs 0, 100, .inl (fun _ => 0)) := by rw [ecw_825, va_up_ne _ _ (by decide)]; exact h_812
            have h_836 : cw_825 (10) = .inr (5, [.ref (q_192), .ref (q_194), .int (0)]) := by rw [ecw_825, va_up_ne _ _ (by decide)]; exact h_813
            have h_837 : cw_825 (11) = .inl (cs 0, 200, .inl (fun _ => 0)) := by rw [ecw_825, va_up_ne _ _ (by decide)]; exact h_814
            have h_838 : cw_825 (12) = .inl (cs 0, 41, .inl (fun _ => 0)) := by rw [ecw_825, va_up_ne _ _ (by decide)]; exact h_815
            have h_839 : cw_825 (13) = .inr (6, [.ref (q_275), .ref (q_277), .ref (q_279), .int (0)]) := by rw [ecw_825, va_up_ne _ _ (by decide)]; exact h_816
            have h_840 : cw_825 (14) = .inl (cs 0, 200, .inl (fun _ => 0)) := by rw [ecw_825, va_up_ne _ _ (by decide)]; exact h_817
            have h_841 : cw_825 (15) = .inl (cs 0, 200, .inl (fun _ => 0)) := by rw [ecw_825, va_up_ne _ _ (by decide)]; exact h_818
            have h_842 : cw_825 (16) = .inl (cs 0, 200, .inl (fun _ => 0)) := by rw [ecw_825, va_up_ne _ _ (by decide)]; exact h_819
            have h_843 : cw_825 (17) = .inr (1, [.int (30), .int (20), .int (3)]) := by rw [ecw_825, va_up_ne _ _ (by decide)]; exact h_820
            have h_844 : cw_825 (18) = .inr (1, [.int (30), .int (20), .int (3)]) := by rw [ecw_825, va_up_ne _ _ (by decide)]; exact h_821
            have h_845 : cw_825 (19) = .inr (1, [.int (30), .int (20), .int (3)]) := by rw [ecw_825, va_up_ne _ _ (by decide)]; exact h_822
            have h_846 : cw_825 (20) = .inr (1, [.int (30), .int (20), .int (3)]) := by rw [ecw_825, va_up_ne _ _ (by decide)]; exact h_823
            have h_847 : cw_825 (21) = .inr (1, [.int (30), .int (20), .int (3)]) := by rw [ecw_825, va_up_ne _ _ (by decide)]; exact h_824
            clear ecw_825
            clear h_803 h_804 h_805 h_806 h_807 h_808 h_809 h_810 h_811 h_812 h_813 h_814 h_815 h_816 h_817 h_818 h_819 h_820 h_821 h_822 h_823 h_824
            refine lv_iinc (v := 5) (lv' := [(1, .int (5)), (0, .ref (h0))]) hx hb d_X_init_108 hl (k := 0) rfl (by decide) (by decide) rfl (fun ls hl => ?_)
            refine lv_goto (tgt := 89) hx hb d_X_init_111 (by decide) ?_
            refine lv_iload_n hx hb d_X_init_89 rfl (lv_at hl 0 rfl) ?_
            refine lv_bipush (v := 10) hx hb d_X_init_90 (by decide) ?_
            refine lv_icmp_ge (tgt := 114) hx hb d_X_init_92 (by decide) (fun c_848 => ?_) (fun c_848 => ?_)
            · exact absurd c_848 (by decide)
            · skip
              refine lv_aload_n hx hb d_X_init_95 rfl (lv_at hl 1 rfl) ?_
              refine pw_getA (ci := 0) (v := .ref (q_1)) hx hb hw i_X hown hK hP (0) (by decide) a_781 h_826 rfl 0 (by decide) (hw _ kF_X_11) rfl d_X_init_96 ?_
              refine lv_iload_n hx hb d_X_init_99 rfl (lv_at hl 0 rfl) ?_
              refine pw_new (ci := 1) (fs := [.int (0), .int (0), .int (0)]) hx hb hw i_U t_U t_U_ok hown (hw _ kL_X_9) (hw _ kA_U) (hw _ kZ_U) hK hP hD hS hA rfl (fun j hj => by match j, hj with | 0, _ => rfl | 1, _ => rfl | 2, _ => rfl) (Nat.le_of_ble_eq_true rfl) (Nat.le_of_ble_eq_true rfl) d_X_init_100 (fun q_849 H hP hD hS => ?_)
              obtain ⟨bk_850, eb⟩ : ∃ x, x = va_up bk1 22 q_849 := ⟨_, rfl⟩
              obtain ⟨cw_851, ec⟩ : ∃ x, x = va_up cw_825 22 (.inr (1, [.int (0), .int (0), .int (0)])) := ⟨_, rfl⟩
              replace hP : va_P D classes (wl 23 bk_850 cw_851) H := by rw [eb, ec]; exact hP
              replace hD : va_D (AA 1 bk sz) (wl 23 bk_850 cw_851) := by rw [eb, ec]; exact hD
              have a_852 : bk_850 0 = h0 := by rw [eb, va_up_ne _ _ (by decide)]; exact a_781
              have a_853 : bk_850 1 = q_1 := by rw [eb, va_up_ne _ _ (by decide)]; exact a_782
              have a_854 : bk_850 2 = q_11 := by rw [eb, va_up_ne _ _ (by decide)]; exact a_783
              have a_855 : bk_850 3 = q_24 := by rw [eb, va_up_ne _ _ (by decide)]; exact a_784
              have a_856 : bk_850 4 = q_45 := by rw [eb, va_up_ne _ _ (by decide)]; exact a_785
              have a_857 : bk_850 5 = q_71 := by rw [eb, va_up_ne _ _ (by decide)]; exact a_786
              have a_858 : bk_850 6 = q_73 := by rw [eb, va_up_ne _ _ (by decide)]; exact a_787
              have a_859 : bk_850 7 = q_86 := by rw [eb, va_up_ne _ _ (by decide)]; exact a_788
              have a_860 : bk_850 8 = q_124 := by rw [eb, va_up_ne _ _ (by decide)]; exact a_789
              have a_861 : bk_850 9 = q_126 := by rw [eb, va_up_ne _ _ (by decide)]; exact a_790
              have a_862 : bk_850 10 = q_142 := by rw [eb, va_up_ne _ _ (by decide)]; exact a_791
              have a_863 : bk_850 11 = q_192 := by rw [eb, va_up_ne _ _ (by decide)]; exact a_792
              have a_864 : bk_850 12 = q_194 := by rw [eb, va_up_ne _ _ (by decide)]; exact a_793
              have a_865 : bk_850 13 = q_213 := by rw [eb, va_up_ne _ _ (by decide)]; exact a_794
              have a_866 : bk_850 14 = q_275 := by rw [eb, va_up_ne _ _ (by decide)]; exact a_795
              have a_867 : bk_850 15 = q_277 := by rw [eb, va_up_ne _ _ (by decide)]; exact a_796
              have a_868 : bk_850 16 = q_279 := by rw [eb, va_up_ne _ _ (by decide)]; exact a_797
              have a_869 : bk_850 17 = q_304 := by rw [eb, va_up_ne _ _ (by decide)]; exact a_798
              have a_870 : bk_850 18 = q_403 := by rw [eb, va_up_ne _ _ (by decide)]; exact a_799
              have a_871 : bk_850 19 = q_507 := by rw [eb, va_up_ne _ _ (by decide)]; exact a_800
              have a_872 : bk_850 20 = q_616 := by rw [eb, va_up_ne _ _ (by decide)]; exact a_801
              have a_873 : bk_850 21 = q_730 := by rw [eb, va_up_ne _ _ (by decide)]; exact a_802
              have a_874 : bk_850 22 = q_849 := by rw [eb]; exact va_up_self _ _ _
              have h_875 : cw_851 0 = .inr (0, [.ref (q_1), .ref (q_11), .ref (q_24), .int (0), .ref (q_45), .ref (q_86), .ref (q_142), .ref (q_213)]) := by rw [ec, va_up_ne _ _ (by decide)]; exact h_826
              have h_876 : cw_851 1 = .inl (cs 2, 10, .inr (.inr (.inr (.inr (va_up (va_up (va_up (va_up (va_up (fun _ => none) (0) (some (q_304))) (1) (some (q_403))) (2) (some (q_507))) (3) (some (q_616))) (4) (some (q_730))))))) := by rw [ec, va_up_ne _ _ (by decide)]; exact h_827
              have h_877 : cw_851 2 = .inl (cs 3, 200, .inr (.inr (.inr (.inr (fun _ => none))))) := by rw [ec, va_up_ne _ _ (by decide)]; exact h_828
              have h_878 : cw_851 3 = .inl (cs 3, 200, .inr (.inr (.inr (.inr (fun _ => none))))) := by rw [ec, va_up_ne _ _ (by decide)]; exact h_829
              have h_879 : cw_851 4 = .inr (4, [.ref (q_71), .ref (q_73), .int (0)]) := by rw [ec, va_up_ne _ _ (by decide)]; exact h_830
              have h_880 : cw_851 5 = .inl (cs 0, 200, .inl (fun _ => 0)) := by rw [ec, va_up_ne _ _ (by decide)]; exact h_831
              have h_881 : cw_851 6 = .inl (cs 0, 200, .inl (fun _ => 0)) := by rw [ec, va_up_ne _ _ (by decide)]; exact h_832
              have h_882 : cw_851 7 = .inr (4, [.ref (q_124), .ref (q_126), .int (0)]) := by rw [ec, va_up_ne _ _ (by decide)]; exact h_833
              have h_883 : cw_851 8 = .inl (cs 0, 100, .inl (fun _ => 0)) := by rw [ec, va_up_ne _ _ (by decide)]; exact h_834
              have h_884 : cw_851 9 = .inl (cs 0, 100, .inl (fun _ => 0)) := by rw [ec, va_up_ne _ _ (by decide)]; exact h_835
              have h_885 : cw_851 10 = .inr (5, [.ref (q_192), .ref (q_194), .int (0)]) := by rw [ec, va_up_ne _ _ (by decide)]; exact h_836
              have h_886 : cw_851 11 = .inl (cs 0, 200, .inl (fun _ => 0)) := by rw [ec, va_up_ne _ _ (by decide)]; exact h_837
              have h_887 : cw_851 12 = .inl (cs 0, 41, .inl (fun _ => 0)) := by rw [ec, va_up_ne _ _ (by decide)]; exact h_838
              have h_888 : cw_851 13 = .inr (6, [.ref (q_275), .ref (q_277), .ref (q_279), .int (0)]) := by rw [ec, va_up_ne _ _ (by decide)]; exact h_839
              have h_889 : cw_851 14 = .inl (cs 0, 200, .inl (fun _ => 0)) := by rw [ec, va_up_ne _ _ (by decide)]; exact h_840
              have h_890 : cw_851 15 = .inl (cs 0, 200, .inl (fun _ => 0)) := by rw [ec, va_up_ne _ _ (by decide)]; exact h_841
              have h_891 : cw_851 16 = .inl (cs 0, 200, .inl (fun _ => 0)) := by rw [ec, va_up_ne _ _ (by decide)]; exact h_842
              have h_892 : cw_851 17 = .inr (1, [.int (30), .int (20), .int (3)]) := by rw [ec, va_up_ne _ _ (by decide)]; exact h_843
              have h_893 : cw_851 18 = .inr (1, [.int (30), .int (20), .int (3)]) := by rw [ec, va_up_ne _ _ (by decide)]; exact h_844
              have h_894 : cw_851 19 = .inr (1, [.int (30), .int (20), .int (3)]) := by rw [ec, va_up_ne _ _ (by decide)]; exact h_845
              have h_895 : cw_851 20 = .inr (1, [.int (30), .int (20), .int (3)]) := by rw [ec, va_up_ne _ _ (by decide)]; exact h_846
              have h_896 : cw_851 21 = .inr (1, [.int (30), .int (20), .int (3)]) := by rw [ec, va_up_ne _ _ (by decide)]; exact h_847
              have h_897 : cw_851 22 = .inr (1, [.int (0), .int (0), .int (0)]) := by rw [ec]; exact va_up_self _ _ _
              clear eb ec
              clear a_781 a_782 a_783 a_784 a_785 a_786 a_787 a_788 a_789 a_790 a_791 a_792 a_793 a_794 a_795 a_796 a_797 a_798 a_799 a_800 a_801 a_802 h_826 h_827 h_828 h_829 h_830 h_831 h_832 h_833 h_834 h_835 h_836 h_837 h_838 h_839 h_840 h_841 h_842 h_843 h_844 h_845 h_846 h_847
              refine lv_dup hx hb d_X_init_103 rfl ?_
              refine pw_callv (va_runIN (As := []) (rest := [.ref (q_849), .int (5), .ref (q_1)]) ⟨hx, hb, hml, hown, hw⟩ (c_U_init l D cs 23 bk_850 cw_851 H.size 22 (by decide) q_849 a_874 h_897) (cw_IN 0 hw (kN_X_54 hN) kI_U_init kZ_U kC_U_init rfl rfl rfl ⟨by decide, by decide, by decide +kernel⟩ ⟨Nat.le_of_ble_eq_true rfl, Nat.le_of_ble_eq_true rfl⟩) (pw_preS hN hK hP hD) rfl rfl hl.1 rfl (lv_room (Nat.le_of_ble_eq_true rfl)) d_X_init_104 ⟨Nat.le_of_ble_eq_true rfl, Nat.le_of_ble_eq_true rfl⟩) hS (wl_free hD hS hA) (fun N1 bk1 cw1 H locs hu hP hD hS => ?_)
              obtain ⟨z_0, z_1, z_2, z_3⟩ := hu
              dsimp only at z_0 z_1 z_2 z_3
              subst z_0
              skip
              skip
              skip
              skip
              replace hP : va_P D classes (wl 23 bk1 cw1) H := hP
              replace hD : va_D (AA 1 bk sz) (wl 23 bk1 cw1) := hD
              have a_902 : bk1 0 = h0 := (z_1 0 (by decide)).trans a_852
              have a_903 : bk1 1 = q_1 := (z_1 1 (by decide)).trans a_853
              have a_904 : bk1 2 = q_11 := (z_1 2 (by decide)).trans a_854
              have a_905 : bk1 3 = q_24 := (z_1 3 (by decide)).trans a_855
              have a_906 : bk1 4 = q_45 := (z_1 4 (by decide)).trans a_856
              have a_907 : bk1 5 = q_71 := (z_1 5 (by decide)).trans a_857
              have a_908 : bk1 6 = q_73 := (z_1 6 (by decide)).trans a_858
              have a_909 : bk1 7 = q_86 := (z_1 7 (by decide)).trans a_859
              have a_910 : bk1 8 = q_124 := (z_1 8 (by decide)).trans a_860
              have a_911 : bk1 9 = q_126 := (z_1 9 (by decide)).trans a_861
              have a_912 : bk1 10 = q_142 := (z_1 10 (by decide)).trans a_862
              have a_913 : bk1 11 = q_192 := (z_1 11 (by decide)).trans a_863
              have a_914 : bk1 12 = q_194 := (z_1 12 (by decide)).trans a_864
              have a_915 : bk1 13 = q_213 := (z_1 13 (by decide)).trans a_865
              have a_916 : bk1 14 = q_275 := (z_1 14 (by decide)).trans a_866
              have a_917 : bk1 15 = q_277 := (z_1 15 (by decide)).trans a_867
              have a_918 : bk1 16 = q_279 := (z_1 16 (by decide)).trans a_868
              have a_919 : bk1 17 = q_304 := (z_1 17 (by decide)).trans a_869
              have a_920 : bk1 18 = q_403 := (z_1 18 (by decide)).trans a_870
              have a_921 : bk1 19 = q_507 := (z_1 19 (by decide)).trans a_871
              have a_922 : bk1 20 = q_616 := (z_1 20 (by decide)).trans a_872
              have a_923 : bk1 21 = q_730 := (z_1 21 (by decide)).trans a_873
              have a_924 : bk1 22 = q_849 := (z_1 22 (by decide)).trans a_874
              have h_925 : cw1 0 = .inr (0, [.ref (q_1), .ref (q_11), .ref (q_24), .int (0), .ref (q_45), .ref (q_86), .ref (q_142), .ref (q_213)]) := (z_2 0 (by decide) (by decide)).trans h_875
              have h_926 : cw1 1 = .inl (cs 2, 10, .inr (.inr (.inr (.inr (va_up (va_up (va_up (va_up (va_up (fun _ => none) (0) (some (q_304))) (1) (some (q_403))) (2) (some (q_507))) (3) (some (q_616))) (4) (some (q_730))))))) := (z_2 1 (by decide) (by decide)).trans h_876
              have h_927 : cw1 2 = .inl (cs 3, 200, .inr (.inr (.inr (.inr (fun _ => none))))) := (z_2 2 (by decide) (by decide)).trans h_877
              have h_928 : cw1 3 = .inl (cs 3, 200, .inr (.inr (.inr (.inr (fun _ => none))))) := (z_2 3 (by decide) (by decide)).trans h_878
              have h_929 : cw1 4 = .inr (4, [.ref (q_71), .ref (q_73), .int (0)]) := (z_2 4 (by decide) (by decide)).trans h_879
              have h_930 : cw1 5 = .inl (cs 0, 200, .inl (fun _ => 0)) := (z_2 5 (by decide) (by decide)).trans h_880
              have h_931 : cw1 6 = .inl (cs 0, 200, .inl (fun _ => 0)) := (z_2 6 (by decide) (by decide)).trans h_881
              have h_932 : cw1 7 = .inr (4, [.ref (q_124), .ref (q_126), .int (0)]) := (z_2 7 (by decide) (by decide)).trans h_882
              have h_933 : cw1 8 = .inl (cs 0, 100, .inl (fun _ => 0)) := (z_2 8 (by decide) (by decide)).trans h_883
              have h_934 : cw1 9 = .inl (cs 0, 100, .inl (fun _ => 0)) := (z_2 9 (by decide) (by decide)).trans h_884
              have h_935 : cw1 10 = .inr (5, [.ref (q_192), .ref (q_194), .int (0)]) := (z_2 10 (by decide) (by decide)).trans h_885
              have h_936 : cw1 11 = .inl (cs 0, 200, .inl (fun _ => 0)) := (z_2 11 (by decide) (by decide)).trans h_886
              have h_937 : cw1 12 = .inl (cs 0, 41, .inl (fun _ => 0)) := (z_2 12 (by decide) (by decide)).trans h_887
              have h_938 : cw1 13 = .inr (6, [.ref (q_275), .ref (q_277), .ref (q_279), .int (0)]) := (z_2 13 (by decide) (by decide)).trans h_888
              have h_939 : cw1 14 = .inl (cs 0, 200, .inl (fun _ => 0)) := (z_2 14 (by decide) (by decide)).trans h_889
              have h_940 : cw1 15 = .inl (cs 0, 200, .inl (fun _ => 0)) := (z_2 15 (by decide) (by decide)).trans h_890
              have h_941 : cw1 16 = .inl (cs 0, 200, .inl (fun _ => 0)) := (z_2 16 (by decide) (by decide)).trans h_891
              have h_942 : cw1 17 = .inr (1, [.int (30), .int (20), .int (3)]) := (z_2 17 (by decide) (by decide)).trans h_892
              have h_943 : cw1 18 = .inr (1, [.int (30), .int (20), .int (3)]) := (z_2 18 (by decide) (by decide)).trans h_893
              have h_944 : cw1 19 = .inr (1, [.int (30), .int (20), .int (3)]) := (z_2 19 (by decide) (by decide)).trans h_894
              have h_945 : cw1 20 = .inr (1, [.int (30), .int (20), .int (3)]) := (z_2 20 (by decide) (by decide)).trans h_895
              have h_946 : cw1 21 = .inr (1, [.int (30), .int (20), .int (3)]) := (z_2 21 (by decide) (by decide)).trans h_896
              have h_947 : cw1 22 = .inr (1, [.int 30, .int 20, .int 3]) := by exact z_3
              clear z_1 z_2 z_3
              clear a_852 a_853 a_854 a_855 a_856 a_857 a_858 a_859 a_860 a_861 a_862 a_863 a_864 a_865 a_866 a_867 a_868 a_869 a_870 a_871 a_872 a_873 a_874 h_875 h_876 h_877 h_878 h_879 h_880 h_881 h_882 h_883 h_884 h_885 h_886 h_887 h_888 h_889 h_890 h_891 h_892 h_893 h_894 h_895 h_896 h_897
              refine pw_astqA (n := 10) (f := (va_up (va_up (va_up (va_up (va_up (fun _ => none) (0) (some (q_304))) (1) (some (q_403))) (2) (some (q_507))) (3) (some (q_616))) (4) (some (q_730)))) hx hb hK hP hD hS 2 (1) (by decide) a_903 h_926 rfl (22) (by decide) a_924 h_947 rfl (5) rfl (by decide) (by decide) d_X_init_107 (fun cw_948 H locs ecw_948 hP hD hS => ?_)
              have h_949 : cw_948 (0) = .inr (0, [.ref (q_1), .ref (q_11), .ref (q_24), .int (0), .ref (q_45), .ref (q_86), .ref (q_142), .ref (q_213)]) := by rw [ecw_948, va_up_ne _ _ (by decide)]; exact h_925
              have h_950 : cw_948 (1) = .inl (cs 2, 10, .inr (.inr (.inr (.inr (va_up (va_up (va_up (va_up (va_up (va_up (fun _ => none) (0) (some (q_304))) (1) (some (q_403))) (2) (some (q_507))) (3) (some (q_616))) (4) (some (q_730))) (5) (some (q_849))))))) := by rw [ecw_948]; exact va_up_self _ _ _
              have h_951 : cw_948 (2) = .inl (cs 3, 200, .inr (.inr (.inr (.inr (fun _ => none))))) := by rw [ecw_948, va_up_ne _ _ (by decide)]; exact h_927
              have h_952 : cw_948 (3) = .inl (cs 3, 200, .inr (.inr (.inr (.inr (fun _ => none))))) := by rw [ecw_948, va_up_ne _ _ (by decide)]; exact h_928
              have h_953 : cw_948 (4) = .inr (4, [.ref (q_71), .ref (q_73), .int (0)]) := by rw [ecw_948, va_up_ne _ _ (by decide)]; exact h_929
              have h_954 : cw_948 (5) = .inl (cs 0, 200, .inl (fun _ => 0)) := by rw [ecw_948, va_up_ne _ _ (by decide)]; exact h_930
              have h_955 : cw_948 (6) = .inl (cs 0, 200, .inl (fun _ => 0)) := by rw [ecw_948, va_up_ne _ _ (by decide)]; exact h_931
              have h_956 : cw_948 (7) = .inr (4, [.ref (q_124), .ref (q_126), .int (0)]) := by rw [ecw_948, va_up_ne _ _ (by decide)]; exact h_932
              have h_957 : cw_948 (8) = .inl (cs 0, 100, .inl (fun _ => 0)) := by rw [ecw_948, va_up_ne _ _ (by decide)]; exact h_933
              have h_958 : cw_948 (9) = .inl (cs 0, 100, .inl (fun _ => 0)) := by rw [ecw_948, va_up_ne _ _ (by decide)]; exact h_934
              have h_959 : cw_948 (10) = .inr (5, [.ref (q_192), .ref (q_194), .int (0)]) := by rw [ecw_948, va_up_ne _ _ (by decide)]; exact h_935
              have h_960 : cw_948 (11) = .inl (cs 0, 200, .inl (fun _ => 0)) := by rw [ecw_948, va_up_ne _ _ (by decide)]; exact h_936
              have h_961 : cw_948 (12) = .inl (cs 0, 41, .inl (fun _ => 0)) := by rw [ecw_948, va_up_ne _ _ (by decide)]; exact h_937
              have h_962 : cw_948 (13) = .inr (6, [.ref (q_275), .ref (q_277), .ref (q_279), .int (0)]) := by rw [ecw_948, va_up_ne _ _ (by decide)]; exact h_938
              have h_963 : cw_948 (14) = .inl (cs 0, 200, .inl (fun _ => 0)) := by rw [ecw_948, va_up_ne _ _ (by decide)]; exact h_939
              have h_964 : cw_948 (15) = .inl (cs 0, 200, .inl (fun _ => 0)) := by rw [ecw_948, va_up_ne _ _ (by decide)]; exact h_940
              have h_965 : cw_948 (16) = .inl (cs 0, 200, .inl (fun _ => 0)) := by rw [ecw_948, va_up_ne _ _ (by decide)]; exact h_941
              have h_966 : cw_948 (17) = .inr (1, [.int (30), .int (20), .int (3)]) := by rw [ecw_948, va_up_ne _ _ (by decide)]; exact h_942
              have h_967 : cw_948 (18) = .inr (1, [.int (30), .int (20), .int (3)]) := by rw [ecw_948, va_up_ne _ _ (by decide)]; exact h_943
              have h_968 : cw_948 (19) = .inr (1, [.int (30), .int (20), .int (3)]) := by rw [ecw_948, va_up_ne _ _ (by decide)]; exact h_944
              have h_969 : cw_948 (20) = .inr (1, [.int (30), .int (20), .int (3)]) := by rw [ecw_948, va_up_ne _ _ (by decide)]; exact h_945
              have h_970 : cw_948 (21) = .inr (1, [.int (30), .int (20), .int (3)]) := by rw [ecw_948, va_up_ne _ _ (by decide)]; exact h_946
              have h_971 : cw_948 (22) = .inr (1, [.int (30), .int (20), .int (3)]) := by rw [ecw_948, va_up_ne _ _ (by decide)]; exact h_947
              clear ecw_948
              clear h_925 h_926 h_927 h_928 h_929 h_930 h_931 h_932 h_933 h_934 h_935 h_936 h_937 h_938 h_939 h_940 h_941 h_942 h_943 h_944 h_945 h_946 h_947
              refine lv_iinc (v := 6) (lv' := [(1, .int (6)), (0, .ref (h0))]) hx hb d_X_init_108 hl (k := 0) rfl (by decide) (by decide) rfl (fun ls hl => ?_)
              refine lv_goto (tgt := 89) hx hb d_X_init_111 (by decide) ?_
              refine lv_iload_n hx hb d_X_init_89 rfl (lv_at hl 0 rfl) ?_
              refine lv_bipush (v := 10) hx hb d_X_init_90 (by decide) ?_
              refine lv_icmp_ge (tgt := 114) hx hb d_X_init_92 (by decide) (fun c_972 => ?_) (fun c_972 => ?_)
              · exact absurd c_972 (by decide)
              · skip
                refine lv_aload_n hx hb d_X_init_95 rfl (lv_at hl 1 rfl) ?_
                refine pw_getA (ci := 0) (v := .ref (q_1)) hx hb hw i_X hown hK hP (0) (by decide) a_902 h_949 rfl 0 (by decide) (hw _ kF_X_11) rfl d_X_init_96 ?_
                refine lv_iload_n hx hb d_X_init_99 rfl (lv_at hl 0 rfl) ?_
                refine pw_new (ci := 1) (fs := [.int (0), .int (0), .int (0)]) hx hb hw i_U t_U t_U_ok hown (hw _ kL_X_9) (hw _ kA_U) (hw _ kZ_U) hK hP hD hS hA rfl (fun j hj => by match j, hj with | 0, _ => rfl | 1, _ => rfl | 2, _ => rfl) (Nat.le_of_ble_eq_true rfl) (Nat.le_of_ble_eq_true rfl) d_X_init_100 (fun q_973 H hP hD hS => ?_)
                obtain ⟨bk_974, eb⟩ : ∃ x, x = va_up bk1 23 q_973 := ⟨_, rfl⟩
                obtain ⟨cw_975, ec⟩ : ∃ x, x = va_up cw_948 23 (.inr (1, [.int (0), .int (0), .int (0)])) := ⟨_, rfl⟩
                replace hP : va_P D classes (wl 24 bk_974 cw_975) H := by rw [eb, ec]; exact hP
                replace hD : va_D (AA 1 bk sz) (wl 24 bk_974 cw_975) := by rw [eb, ec]; exact hD
                have a_976 : bk_974 0 = h0 := by rw [eb, va_up_ne _ _ (by decide)]; exact a_902
                have a_977 : bk_974 1 = q_1 := by rw [eb, va_up_ne _ _ (by decide)]; exact a_903
                have a_978 : bk_974 2 = q_11 := by rw [eb, va_up_ne _ _ (by decide)]; exact a_904
                have a_979 : bk_974 3 = q_24 := by rw [eb, va_up_ne _ _ (by decide)]; exact a_905
                have a_980 : bk_974 4 = q_45 := by rw [eb, va_up_ne _ _ (by decide)]; exact a_906
                have a_981 : bk_974 5 = q_71 := by rw [eb, va_up_ne _ _ (by decide)]; exact a_907
                have a_982 : bk_974 6 = q_73 := by rw [eb, va_up_ne _ _ (by decide)]; exact a_908
                have a_983 : bk_974 7 = q_86 := by rw [eb, va_up_ne _ _ (by decide)]; exact a_909
                have a_984 : bk_974 8 = q_124 := by rw [eb, va_up_ne _ _ (by decide)]; exact a_910
                have a_985 : bk_974 9 = q_126 := by rw [eb, va_up_ne _ _ (by decide)]; exact a_911
                have a_986 : bk_974 10 = q_142 := by rw [eb, va_up_ne _ _ (by decide)]; exact a_912
                have a_987 : bk_974 11 = q_192 := by rw [eb, va_up_ne _ _ (by decide)]; exact a_913
                have a_988 : bk_974 12 = q_194 := by rw [eb, va_up_ne _ _ (by decide)]; exact a_914
                have a_989 : bk_974 13 = q_213 := by rw [eb, va_up_ne _ _ (by decide)]; exact a_915
                have a_990 : bk_974 14 = q_275 := by rw [eb, va_up_ne _ _ (by decide)]; exact a_916
                have a_991 : bk_974 15 = q_277 := by rw [eb, va_up_ne _ _ (by decide)]; exact a_917
                have a_992 : bk_974 16 = q_279 := by rw [eb, va_up_ne _ _ (by decide)]; exact a_918
                have a_993 : bk_974 17 = q_304 := by rw [eb, va_up_ne _ _ (by decide)]; exact a_919
                have a_994 : bk_974 18 = q_403 := by rw [eb, va_up_ne _ _ (by decide)]; exact a_920
                have a_995 : bk_974 19 = q_507 := by rw [eb, va_up_ne _ _ (by decide)]; exact a_921
                have a_996 : bk_974 20 = q_616 := by rw [eb, va_up_ne _ _ (by decide)]; exact a_922
                have a_997 : bk_974 21 = q_730 := by rw [eb, va_up_ne _ _ (by decide)]; exact a_923
                have a_998 : bk_974 22 = q_849 := by rw [eb, va_up_ne _ _ (by decide)]; exact a_924
                have a_999 : bk_974 23 = q_973 := by rw [eb]; exact va_up_self _ _ _
                have h_1000 : cw_975 0 = .inr (0, [.ref (q_1), .ref (q_11), .ref (q_24), .int (0), .ref (q_45), .ref (q_86), .ref (q_142), .ref (q_213)]) := by rw [ec, va_up_ne _ _ (by decide)]; exact h_949
                have h_1001 : cw_975 1 = .inl (cs 2, 10, .inr (.inr (.inr (.inr (va_up (va_up (va_up (va_up (va_up (va_up (fun _ => none) (0) (some (q_304))) (1) (some (q_403))) (2) (some (q_507))) (3) (some (q_616))) (4) (some (q_730))) (5) (some (q_849))))))) := by rw [ec, va_up_ne _ _ (by decide)]; exact h_950
                have h_1002 : cw_975 2 = .inl (cs 3, 200, .inr (.inr (.inr (.inr (fun _ => none))))) := by rw [ec, va_up_ne _ _ (by decide)]; exact h_951
                have h_1003 : cw_975 3 = .inl (cs 3, 200, .inr (.inr (.inr (.inr (fun _ => none))))) := by rw [ec, va_up_ne _ _ (by decide)]; exact h_952
                have h_1004 : cw_975 4 = .inr (4, [.ref (q_71), .ref (q_73), .int (0)]) := by rw [ec, va_up_ne _ _ (by decide)]; exact h_953
                have h_1005 : cw_975 5 = .inl (cs 0, 200, .inl (fun _ => 0)) := by rw [ec, va_up_ne _ _ (by decide)]; exact h_954
                have h_1006 : cw_975 6 = .inl (cs 0, 200, .inl (fun _ => 0)) := by rw [ec, va_up_ne _ _ (by decide)]; exact h_955
                have h_1007 : cw_975 7 = .inr (4, [.ref (q_124), .ref (q_126), .int (0)]) := by rw [ec, va_up_ne _ _ (by decide)]; exact h_956
                have h_1008 : cw_975 8 = .inl (cs 0, 100, .inl (fun _ => 0)) := by rw [ec, va_up_ne _ _ (by decide)]; exact h_957
                have h_1009 : cw_975 9 = .inl (cs 0, 100, .inl (fun _ => 0)) := by rw [ec, va_up_ne _ _ (by decide)]; exact h_958
                have h_1010 : cw_975 10 = .inr (5, [.ref (q_192), .ref (q_194), .int (0)]) := by rw [ec, va_up_ne _ _ (by decide)]; exact h_959
                have h_1011 : cw_975 11 = .inl (cs 0, 200, .inl (fun _ => 0)) := by rw [ec, va_up_ne _ _ (by decide)]; exact h_960
                have h_1012 : cw_975 12 = .inl (cs 0, 41, .inl (fun _ => 0)) := by rw [ec, va_up_ne _ _ (by decide)]; exact h_961
                have h_1013 : cw_975 13 = .inr (6, [.ref (q_275), .ref (q_277), .ref (q_279), .int (0)]) := by rw [ec, va_up_ne _ _ (by decide)]; exact h_962
                have h_1014 : cw_975 14 = .inl (cs 0, 200, .inl (fun _ => 0)) := by rw [ec, va_up_ne _ _ (by decide)]; exact h_963
                have h_1015 : cw_975 15 = .inl (cs 0, 200, .inl (fun _ => 0)) := by rw [ec, va_up_ne _ _ (by decide)]; exact h_964
                have h_1016 : cw_975 16 = .inl (cs 0, 200, .inl (fun _ => 0)) := by rw [ec, va_up_ne _ _ (by decide)]; exact h_965
                have h_1017 : cw_975 17 = .inr (1, [.int (30), .int (20), .int (3)]) := by rw [ec, va_up_ne _ _ (by decide)]; exact h_966
                have h_1018 : cw_975 18 = .inr (1, [.int (30), .int (20), .int (3)]) := by rw [ec, va_up_ne _ _ (by decide)]; exact h_967
                have h_1019 : cw_975 19 = .inr (1, [.int (30), .int (20), .int (3)]) := by rw [ec, va_up_ne _ _ (by decide)]; exact h_968
                have h_1020 : cw_975 20 = .inr (1, [.int (30), .int (20), .int (3)]) := by rw [ec, va_up_ne _ _ (by decide)]; exact h_969
                have h_1021 : cw_975 21 = .inr (1, [.int (30), .int (20), .int (3)]) := by rw [ec, va_up_ne _ _ (by decide)]; exact h_970
                have h_1022 : cw_975 22 = .inr (1, [.int (30), .int (20), .int (3)]) := by rw [ec, va_up_ne _ _ (by decide)]; exact h_971
                have h_1023 : cw_975 23 = .inr (1, [.int (0), .int (0), .int (0)]) := by rw [ec]; exact va_up_self _ _ _
                clear eb ec
                clear a_902 a_903 a_904 a_905 a_906 a_907 a_908 a_909 a_910 a_911 a_912 a_913 a_914 a_915 a_916 a_917 a_918 a_919 a_920 a_921 a_922 a_923 a_924 h_949 h_950 h_951 h_952 h_953 h_954 h_955 h_956 h_957 h_958 h_959 h_960 h_961 h_962 h_963 h_964 h_965 h_966 h_967 h_968 h_969 h_970 h_971
                refine lv_dup hx hb d_X_init_103 rfl ?_
                refine pw_callv (va_runIN (As := []) (rest := [.ref (q_973), .int (6), .ref (q_1)]) ⟨hx, hb, hml, hown, hw⟩ (c_U_init l D cs 24 bk_974 cw_975 H.size 23 (by decide) q_973 a_999 h_1023) (cw_IN 0 hw (kN_X_54 hN) kI_U_init kZ_U kC_U_init rfl rfl rfl ⟨by decide, by decide, by decide +kernel⟩ ⟨Nat.le_of_ble_eq_true rfl, Nat.le_of_ble_eq_true rfl⟩) (pw_preS hN hK hP hD) rfl rfl hl.1 rfl (lv_room (Nat.le_of_ble_eq_true rfl)) d_X_init_104 ⟨Nat.le_of_ble_eq_true rfl, Nat.le_of_ble_eq_true rfl⟩) hS (wl_free hD hS hA) (fun N1 bk1 cw1 H locs hu hP hD hS => ?_)
                obtain ⟨z_0, z_1, z_2, z_3⟩ := hu
                dsimp only at z_0 z_1 z_2 z_3
                subst z_0
                skip
                skip
                skip
                skip
                replace hP : va_P D classes (wl 24 bk1 cw1) H := hP
                replace hD : va_D (AA 1 bk sz) (wl 24 bk1 cw1) := hD
                have a_1028 : bk1 0 = h0 := (z_1 0 (by decide)).trans a_976
                have a_1029 : bk1 1 = q_1 := (z_1 1 (by decide)).trans a_977
                have a_1030 : bk1 2 = q_11 := (z_1 2 (by decide)).trans a_978
                have a_1031 : bk1 3 = q_24 := (z_1 3 (by decide)).trans a_979
                have a_1032 : bk1 4 = q_45 := (z_1 4 (by decide)).trans a_980
                have a_1033 : bk1 5 = q_71 := (z_1 5 (by decide)).trans a_981
                have a_1034 : bk1 6 = q_73 := (z_1 6 (by decide)).trans a_982
                have a_1035 : bk1 7 = q_86 := (z_1 7 (by decide)).trans a_983
                have a_1036 : bk1 8 = q_124 := (z_1 8 (by decide)).trans a_984
                have a_1037 : bk1 9 = q_126 := (z_1 9 (by decide)).trans a_985
                have a_1038 : bk1 10 = q_142 := (z_1 10 (by decide)).trans a_986
                have a_1039 : bk1 11 = q_192 := (z_1 11 (by decide)).trans a_987
                have a_1040 : bk1 12 = q_194 := (z_1 12 (by decide)).trans a_988
                have a_1041 : bk1 13 = q_213 := (z_1 13 (by decide)).trans a_989
                have a_1042 : bk1 14 = q_275 := (z_1 14 (by decide)).trans a_990
                have a_1043 : bk1 15 = q_277 := (z_1 15 (by decide)).trans a_991
                have a_1044 : bk1 16 = q_279 := (z_1 16 (by decide)).trans a_992
                have a_1045 : bk1 17 = q_304 := (z_1 17 (by decide)).trans a_993
                have a_1046 : bk1 18 = q_403 := (z_1 18 (by decide)).trans a_994
                have a_1047 : bk1 19 = q_507 := (z_1 19 (by decide)).trans a_995
                have a_1048 : bk1 20 = q_616 := (z_1 20 (by decide)).trans a_996
                have a_1049 : bk1 21 = q_730 := (z_1 21 (by decide)).trans a_997
                have a_1050 : bk1 22 = q_849 := (z_1 22 (by decide)).trans a_998
                have a_1051 : bk1 23 = q_973 := (z_1 23 (by decide)).trans a_999
                have h_1052 : cw1 0 = .inr (0, [.ref (q_1), .ref (q_11), .ref (q_24), .int (0), .ref (q_45), .ref (q_86), .ref (q_142), .ref (q_213)]) := (z_2 0 (by decide) (by decide)).trans h_1000
                have h_1053 : cw1 1 = .inl (cs 2, 10, .inr (.inr (.inr (.inr (va_up (va_up (va_up (va_up (va_up (va_up (fun _ => none) (0) (some (q_304))) (1) (some (q_403))) (2) (some (q_507))) (3) (some (q_616))) (4) (some (q_730))) (5) (some (q_849))))))) := (z_2 1 (by decide) (by decide)).trans h_1001
                have h_1054 : cw1 2 = .inl (cs 3, 200, .inr (.inr (.inr (.inr (fun _ => none))))) := (z_2 2 (by decide) (by decide)).trans h_1002
                have h_1055 : cw1 3 = .inl (cs 3, 200, .inr (.inr (.inr (.inr (fun _ => none))))) := (z_2 3 (by decide) (by decide)).trans h_1003
                have h_1056 : cw1 4 = .inr (4, [.ref (q_71), .ref (q_73), .int (0)]) := (z_2 4 (by decide) (by decide)).trans h_1004
                have h_1057 : cw1 5 = .inl (cs 0, 200, .inl (fun _ => 0)) := (z_2 5 (by decide) (by decide)).trans h_1005
                have h_1058 : cw1 6 = .inl (cs 0, 200, .inl (fun _ => 0)) := (z_2 6 (by decide) (by decide)).trans h_1006
                have h_1059 : cw1 7 = .inr (4, [.ref (q_124), .ref (q_126), .int (0)]) := (z_2 7 (by decide) (by decide)).trans h_1007
                have h_1060 : cw1 8 = .inl (cs 0, 100, .inl (fun _ => 0)) := (z_2 8 (by decide) (by decide)).trans h_1008
                have h_1061 : cw1 9 = .inl (cs 0, 100, .inl (fun _ => 0)) := (z_2 9 (by decide) (by decide)).trans h_1009
                have h_1062 : cw1 10 = .inr (5, [.ref (q_192), .ref (q_194), .int (0)]) := (z_2 10 (by decide) (by decide)).trans h_1010
                have h_1063 : cw1 11 = .inl (cs 0, 200, .inl (fun _ => 0)) := (z_2 11 (by decide) (by decide)).trans h_1011
                have h_1064 : cw1 12 = .inl (cs 0, 41, .inl (fun _ => 0)) := (z_2 12 (by decide) (by decide)).trans h_1012
                have h_1065 : cw1 13 = .inr (6, [.ref (q_275), .ref (q_277), .ref (q_279), .int (0)]) := (z_2 13 (by decide) (by decide)).trans h_1013
                have h_1066 : cw1 14 = .inl (cs 0, 200, .inl (fun _ => 0)) := (z_2 14 (by decide) (by decide)).trans h_1014
                have h_1067 : cw1 15 = .inl (cs 0, 200, .inl (fun _ => 0)) := (z_2 15 (by decide) (by decide)).trans h_1015
                have h_1068 : cw1 16 = .inl (cs 0, 200, .inl (fun _ => 0)) := (z_2 16 (by decide) (by decide)).trans h_1016
                have h_1069 : cw1 17 = .inr (1, [.int (30), .int (20), .int (3)]) := (z_2 17 (by decide) (by decide)).trans h_1017
                have h_1070 : cw1 18 = .inr (1, [.int (30), .int (20), .int (3)]) := (z_2 18 (by decide) (by decide)).trans h_1018
                have h_1071 : cw1 19 = .inr (1, [.int (30), .int (20), .int (3)]) := (z_2 19 (by decide) (by decide)).trans h_1019
                have h_1072 : cw1 20 = .inr (1, [.int (30), .int (20), .int (3)]) := (z_2 20 (by decide) (by decide)).trans h_1020
                have h_1073 : cw1 21 = .inr (1, [.int (30), .int (20), .int (3)]) := (z_2 21 (by decide) (by decide)).trans h_1021
                have h_1074 : cw1 22 = .inr (1, [.int (30), .int (20), .int (3)]) := (z_2 22 (by decide) (by decide)).trans h_1022
                have h_1075 : cw1 23 = .inr (1, [.int 30, .int 20, .int 3]) := by exact z_3
                clear z_1 z_2 z_3
                clear a_976 a_977 a_978 a_979 a_980 a_981 a_982 a_983 a_984 a_985 a_986 a_987 a_988 a_989 a_990 a_991 a_992 a_993 a_994 a_995 a_996 a_997 a_998 a_999 h_1000 h_1001 h_1002 h_1003 h_1004 h_1005 h_1006 h_1007 h_1008 h_1009 h_1010 h_1011 h_1012 h_1013 h_1014 h_1015 h_1016 h_1017 h_1018 h_1019 h_1020 h_1021 h_1022 h_1023
                refine pw_astqA (n := 10) (f := (va_up (va_up (va_up (va_up (va_up (va_up (fun _ => none) (0) (some (q_304))) (1) (some (q_403))) (2) (some (q_507))) (3) (some (q_616))) (4) (some (q_730))) (5) (some (q_849)))) hx hb hK hP hD hS 2 (1) (by decide) a_1029 h_1053 rfl (23) (by decide) a_1051 h_1075 rfl (6) rfl (by decide) (by decide) d_X_init_107 (fun cw_1076 H locs ecw_1076 hP hD hS => ?_)
                have h_1077 : cw_1076 (0) = .inr (0, [.ref (q_1), .ref (q_11), .ref (q_24), .int (0), .ref (q_45), .ref (q_86), .ref (q_142), .ref (q_213)]) := by rw [ecw_1076, va_up_ne _ _ (by decide)]; exact h_1052
                have h_1078 : cw_1076 (1) = .inl (cs 2, 10, .inr (.inr (.inr (.inr (va_up (va_up (va_up (va_up (va_up (va_up (va_up (fun _ => none) (0) (some (q_304))) (1) (some (q_403))) (2) (some (q_507))) (3) (some (q_616))) (4) (some (q_730))) (5) (some (q_849))) (6) (some (q_973))))))) := by rw [ecw_1076]; exact va_up_self _ _ _
                have h_1079 : cw_1076 (2) = .inl (cs 3, 200, .inr (.inr (.inr (.inr (fun _ => none))))) := by rw [ecw_1076, va_up_ne _ _ (by decide)]; exact h_1054
                have h_1080 : cw_1076 (3) = .inl (cs 3, 200, .inr (.inr (.inr (.inr (fun _ => none))))) := by rw [ecw_1076, va_up_ne _ _ (by decide)]; exact h_1055
                have h_1081 : cw_1076 (4) = .inr (4, [.ref (q_71), .ref (q_73), .int (0)]) := by rw [ecw_1076, va_up_ne _ _ (by decide)]; exact h_1056
                have h_1082 : cw_1076 (5) = .inl (cs 0, 200, .inl (fun _ => 0)) := by rw [ecw_1076, va_up_ne _ _ (by decide)]; exact h_1057
                have h_1083 : cw_1076 (6) = .inl (cs 0, 200, .inl (fun _ => 0)) := by rw [ecw_1076, va_up_ne _ _ (by decide)]; exact h_1058
                have h_1084 : cw_1076 (7) = .inr (4, [.ref (q_124), .ref (q_126), .int (0)]) := by rw [ecw_1076, va_up_ne _ _ (by decide)]; exact h_1059
                have h_1085 : cw_1076 (8) = .inl (cs 0, 100, .inl (fun _ => 0)) := by rw [ecw_1076, va_up_ne _ _ (by decide)]; exact h_1060
                have h_1086 : cw_1076 (9) = .inl (cs 0, 100, .inl (fun _ => 0)) := by rw [ecw_1076, va_up_ne _ _ (by decide)]; exact h_1061
                have h_1087 : cw_1076 (10) = .inr (5, [.ref (q_192), .ref (q_194), .int (0)]) := by rw [ecw_1076, va_up_ne _ _ (by decide)]; exact h_1062
                have h_1088 : cw_1076 (11) = .inl (cs 0, 200, .inl (fun _ => 0)) := by rw [ecw_1076, va_up_ne _ _ (by decide)]; exact h_1063
                have h_1089 : cw_1076 (12) = .inl (cs 0, 41, .inl (fun _ => 0)) := by rw [ecw_1076, va_up_ne _ _ (by decide)]; exact h_1064
                have h_1090 : cw_1076 (13) = .inr (6, [.ref (q_275), .ref (q_277), .ref (q_279), .int (0)]) := by rw [ecw_1076, va_up_ne _ _ (by decide)]; exact h_1065
                have h_1091 : cw_1076 (14) = .inl (cs 0, 200, .inl (fun _ => 0)) := by rw [ecw_1076, va_up_ne _ _ (by decide)]; exact h_1066
                have h_1092 : cw_1076 (15) = .inl (cs 0, 200, .inl (fun _ => 0)) := by rw [ecw_1076, va_up_ne _ _ (by decide)]; exact h_1067
                have h_1093 : cw_1076 (16) = .inl (cs 0, 200, .inl (fun _ => 0)) := by rw [ecw_1076, va_up_ne _ _ (by decide)]; exact h_1068
                have h_1094 : cw_1076 (17) = .inr (1, [.int (30), .int (20), .int (3)]) := by rw [ecw_1076, va_up_ne _ _ (by decide)]; exact h_1069
                have h_1095 : cw_1076 (18) = .inr (1, [.int (30), .int (20), .int (3)]) := by rw [ecw_1076, va_up_ne _ _ (by decide)]; exact h_1070
                have h_1096 : cw_1076 (19) = .inr (1, [.int (30), .int (20), .int (3)]) := by rw [ecw_1076, va_up_ne _ _ (by decide)]; exact h_1071
                have h_1097 : cw_1076 (20) = .inr (1, [.int (30), .int (20), .int (3)]) := by rw [ecw_1076, va_up_ne _ _ (by decide)]; exact h_1072
                have h_1098 : cw_1076 (21) = .inr (1, [.int (30), .int (20), .int (3)]) := by rw [ecw_1076, va_up_ne _ _ (by decide)]; exact h_1073
                have h_1099 : cw_1076 (22) = .inr (1, [.int (30), .int (20), .int (3)]) := by rw [ecw_1076, va_up_ne _ _ (by decide)]; exact h_1074
                have h_1100 : cw_1076 (23) = .inr (1, [.int (30), .int (20), .int (3)]) := by rw [ecw_1076, va_up_ne _ _ (by decide)]; exact h_1075
                clear ecw_1076
                clear h_1052 h_1053 h_1054 h_1055 h_1056 h_1057 h_1058 h_1059 h_1060 h_1061 h_1062 h_1063 h_1064 h_1065 h_1066 h_1067 h_1068 h_1069 h_1070 h_1071 h_1072 h_1073 h_1074 h_1075
                refine lv_iinc (v := 7) (lv' := [(1, .int (7)), (0, .ref (h0))]) hx hb d_X_init_108 hl (k := 0) rfl (by decide) (by decide) rfl (fun ls hl => ?_)
                refine lv_goto (tgt := 89) hx hb d_X_init_111 (by decide) ?_
                refine lv_iload_n hx hb d_X_init_89 rfl (lv_at hl 0 rfl) ?_
                refine lv_bipush (v := 10) hx hb d_X_init_90 (by decide) ?_
                refine lv_icmp_ge (tgt := 114) hx hb d_X_init_92 (by decide) (fun c_1101 => ?_) (fun c_1101 => ?_)
                · exact absurd c_1101 (by decide)
                · skip
                  refine lv_aload_n hx hb d_X_init_95 rfl (lv_at hl 1 rfl) ?_
                  refine pw_getA (ci := 0) (v := .ref (q_1)) hx hb hw i_X hown hK hP (0) (by decide) a_1028 h_1077 rfl 0 (by decide) (hw _ kF_X_11) rfl d_X_init_96 ?_
                  refine lv_iload_n hx hb d_X_init_99 rfl (lv_at hl 0 rfl) ?_
                  refine pw_new (ci := 1) (fs := [.int (0), .int (0), .int (0)]) hx hb hw i_U t_U t_U_ok hown (hw _ kL_X_9) (hw _ kA_U) (hw _ kZ_U) hK hP hD hS hA rfl (fun j hj => by match j, hj with | 0, _ => rfl | 1, _ => rfl | 2, _ => rfl) (Nat.le_of_ble_eq_true rfl) (Nat.le_of_ble_eq_true rfl) d_X_init_100 (fun q_1102 H hP hD hS => ?_)
                  obtain ⟨bk_1103, eb⟩ : ∃ x, x = va_up bk1 24 q_1102 := ⟨_, rfl⟩
                  obtain ⟨cw_1104, ec⟩ : ∃ x, x = va_up cw_1076 24 (.inr (1, [.int (0), .int (0), .int (0)])) := ⟨_, rfl⟩
                  replace hP : va_P D classes (wl 25 bk_1103 cw_1104) H := by rw [eb, ec]; exact hP
                  replace hD : va_D (AA 1 bk sz) (wl 25 bk_1103 cw_1104) := by rw [eb, ec]; exact hD
                  have a_1105 : bk_1103 0 = h0 := by rw [eb, va_up_ne _ _ (by decide)]; exact a_1028
                  have a_1106 : bk_1103 1 = q_1 := by rw [eb, va_up_ne _ _ (by decide)]; exact a_1029
                  have a_1107 : bk_1103 2 = q_11 := by rw [eb, va_up_ne _ _ (by decide)]; exact a_1030
                  have a_1108 : bk_1103 3 = q_24 := by rw [eb, va_up_ne _ _ (by decide)]; exact a_1031
                  have a_1109 : bk_1103 4 = q_45 := by rw [eb, va_up_ne _ _ (by decide)]; exact a_1032
                  have a_1110 : bk_1103 5 = q_71 := by rw [eb, va_up_ne _ _ (by decide)]; exact a_1033
                  have a_1111 : bk_1103 6 = q_73 := by rw [eb, va_up_ne _ _ (by decide)]; exact a_1034
                  have a_1112 : bk_1103 7 = q_86 := by rw [eb, va_up_ne _ _ (by decide)]; exact a_1035
                  have a_1113 : bk_1103 8 = q_124 := by rw [eb, va_up_ne _ _ (by decide)]; exact a_1036
                  have a_1114 : bk_1103 9 = q_126 := by rw [eb, va_up_ne _ _ (by decide)]; exact a_1037
                  have a_1115 : bk_1103 10 = q_142 := by rw [eb, va_up_ne _ _ (by decide)]; exact a_1038
                  have a_1116 : bk_1103 11 = q_192 := by rw [eb, va_up_ne _ _ (by decide)]; exact a_1039
                  have a_1117 : bk_1103 12 = q_194 := by rw [eb, va_up_ne _ _ (by decide)]; exact a_1040
                  have a_1118 : bk_1103 13 = q_213 := by rw [eb, va_up_ne _ _ (by decide)]; exact a_1041
                  have a_1119 : bk_1103 14 = q_275 := by rw [eb, va_up_ne _ _ (by decide)]; exact a_1042
                  have a_1120 : bk_1103 15 = q_277 := by rw [eb, va_up_ne _ _ (by decide)]; exact a_1043
                  have a_1121 : bk_1103 16 = q_279 := by rw [eb, va_up_ne _ _ (by decide)]; exact a_1044
                  have a_1122 : bk_1103 17 = q_304 := by rw [eb, va_up_ne _ _ (by decide)]; exact a_1045
                  have a_1123 : bk_1103 18 = q_403 := by rw [eb, va_up_ne _ _ (by decide)]; exact a_1046
                  have a_1124 : bk_1103 19 = q_507 := by rw [eb, va_up_ne _ _ (by decide)]; exact a_1047
                  have a_1125 : bk_1103 20 = q_616 := by rw [eb, va_up_ne _ _ (by decide)]; exact a_1048
                  have a_1126 : bk_1103 21 = q_730 := by rw [eb, va_up_ne _ _ (by decide)]; exact a_1049
                  have a_1127 : bk_1103 22 = q_849 := by rw [eb, va_up_ne _ _ (by decide)]; exact a_1050
                  have a_1128 : bk_1103 23 = q_973 := by rw [eb, va_up_ne _ _ (by decide)]; exact a_1051
                  have a_1129 : bk_1103 24 = q_1102 := by rw [eb]; exact va_up_self _ _ _
                  have h_1130 : cw_1104 0 = .inr (0, [.ref (q_1), .ref (q_11), .ref (q_24), .int (0), .ref (q_45), .ref (q_86), .ref (q_142), .ref (q_213)]) := by rw [ec, va_up_ne _ _ (by decide)]; exact h_1077
                  have h_1131 : cw_1104 1 = .inl (cs 2, 10, .inr (.inr (.inr (.inr (va_up (va_up (va_up (va_up (va_up (va_up (va_up (fun _ => none) (0) (some (q_304))) (1) (some (q_403))) (2) (some (q_507))) (3) (some (q_616))) (4) (some (q_730))) (5) (some (q_849))) (6) (some (q_973))))))) := by rw [ec, va_up_ne _ _ (by decide)]; exact h_1078
                  have h_1132 : cw_1104 2 = .inl (cs 3, 200, .inr (.inr (.inr (.inr (fun _ => none))))) := by rw [ec, va_up_ne _ _ (by decide)]; exact h_1079
                  have h_1133 : cw_1104 3 = .inl (cs 3, 200, .inr (.inr (.inr (.inr (fun _ => none))))) := by rw [ec, va_up_ne _ _ (by decide)]; exact h_1080
                  have h_1134 : cw_1104 4 = .inr (4, [.ref (q_71), .ref (q_73), .int (0)]) := by rw [ec, va_up_ne _ _ (by decide)]; exact h_1081
                  have h_1135 : cw_1104 5 = .inl (cs 0, 200, .inl (fun _ => 0)) := by rw [ec, va_up_ne _ _ (by decide)]; exact h_1082
                  have h_1136 : cw_1104 6 = .inl (cs 0, 200, .inl (fun _ => 0)) := by rw [ec, va_up_ne _ _ (by decide)]; exact h_1083
                  have h_1137 : cw_1104 7 = .inr (4, [.ref (q_124), .ref (q_126), .int (0)]) := by rw [ec, va_up_ne _ _ (by decide)]; exact h_1084
                  have h_1138 : cw_1104 8 = .inl (cs 0, 100, .inl (fun _ => 0)) := by rw [ec, va_up_ne _ _ (by decide)]; exact h_1085
                  have h_1139 : cw_1104 9 = .inl (cs 0, 100, .inl (fun _ => 0)) := by rw [ec, va_up_ne _ _ (by decide)]; exact h_1086
                  have h_1140 : cw_1104 10 = .inr (5, [.ref (q_192), .ref (q_194), .int (0)]) := by rw [ec, va_up_ne _ _ (by decide)]; exact h_1087
                  have h_1141 : cw_1104 11 = .inl (cs 0, 200, .inl (fun _ => 0)) := by rw [ec, va_up_ne _ _ (by decide)]; exact h_1088
                  have h_1142 : cw_1104 12 = .inl (cs 0, 41, .inl (fun _ => 0)) := by rw [ec, va_up_ne _ _ (by decide)]; exact h_1089
                  have h_1143 : cw_1104 13 = .inr (6, [.ref (q_275), .ref (q_277), .ref (q_279), .int (0)]) := by rw [ec, va_up_ne _ _ (by decide)]; exact h_1090
                  have h_1144 : cw_1104 14 = .inl (cs 0, 200, .inl (fun _ => 0)) := by rw [ec, va_up_ne _ _ (by decide)]; exact h_1091
                  have h_1145 : cw_1104 15 = .inl (cs 0, 200, .inl (fun _ => 0)) := by rw [ec, va_up_ne _ _ (by decide)]; exact h_1092
                  have h_1146 : cw_1104 16 = .inl (cs 0, 200, .inl (fun _ => 0)) := by rw [ec, va_up_ne _ _ (by decide)]; exact h_1093
                  have h_1147 : cw_1104 17 = .inr (1, [.int (30), .int (20), .int (3)]) := by rw [ec, va_up_ne _ _ (by decide)]; exact h_1094
                  have h_1148 : cw_1104 18 = .inr (1, [.int (30), .int (20), .int (3)]) := by rw [ec, va_up_ne _ _ (by decide)]; exact h_1095
                  have h_1149 : cw_1104 19 = .inr (1, [.int (30), .int (20), .int (3)]) := by rw [ec, va_up_ne _ _ (by decide)]; exact h_1096
                  have h_1150 : cw_1104 20 = .inr (1, [.int (30), .int (20), .int (3)]) := by rw [ec, va_up_ne _ _ (by decide)]; exact h_1097
                  have h_1151 : cw_1104 21 = .inr (1, [.int (30), .int (20), .int (3)]) := by rw [ec, va_up_ne _ _ (by decide)]; exact h_1098
                  have h_1152 : cw_1104 22 = .inr (1, [.int (30), .int (20), .int (3)]) := by rw [ec, va_up_ne _ _ (by decide)]; exact h_1099
                  have h_1153 : cw_1104 23 = .inr (1, [.int (30), .int (20), .int (3)]) := by rw [ec, va_up_ne _ _ (by decide)]; exact h_1100
                  have h_1154 : cw_1104 24 = .inr (1, [.int (0), .int (0), .int (0)]) := by rw [ec]; exact va_up_self _ _ _
                  clear eb ec
                  clear a_1028 a_1029 a_1030 a_1031 a_1032 a_1033 a_1034 a_1035 a_1036 a_1037 a_1038 a_1039 a_1040 a_1041 a_1042 a_1043 a_1044 a_1045 a_1046 a_1047 a_1048 a_1049 a_1050 a_1051 h_1077 h_1078 h_1079 h_1080 h_1081 h_1082 h_1083 h_1084 h_1085 h_1086 h_1087 h_1088 h_1089 h_1090 h_1091 h_1092 h_1093 h_1094 h_1095 h_1096 h_1097 h_1098 h_1099 h_1100
                  refine lv_dup hx hb d_X_init_103 rfl ?_
                  refine pw_callv (va_runIN (As := []) (rest := [.ref (q_1102), .int (7), .ref (q_1)]) ⟨hx, hb, hml, hown, hw⟩ (c_U_init l D cs 25 bk_1103 cw_1104 H.size 24 (by decide) q_1102 a_1129 h_1154) (cw_IN 0 hw (kN_X_54 hN) kI_U_init kZ_U kC_U_init rfl rfl rfl ⟨by decide, by decide, by decide +kernel⟩ ⟨Nat.le_of_ble_eq_true rfl, Nat.le_of_ble_eq_true rfl⟩) (pw_preS hN hK hP hD) rfl rfl hl.1 rfl (lv_room (Nat.le_of_ble_eq_true rfl)) d_X_init_104 ⟨Nat.le_of_ble_eq_true rfl, Nat.le_of_ble_eq_true rfl⟩) hS (wl_free hD hS hA) (fun N1 bk1 cw1 H locs hu hP hD hS => ?_)
                  obtain ⟨z_0, z_1, z_2, z_3⟩ := hu
                  dsimp only at z_0 z_1 z_2 z_3
                  subst z_0
                  skip
                  skip
                  skip
                  skip
                  replace hP : va_P D classes (wl 25 bk1 cw1) H := hP
                  replace hD : va_D (AA 1 bk sz) (wl 25 bk1 cw1) := hD
                  have a_1159 : bk1 0 = h0 := (z_1 0 (by decide)).trans a_1105
                  have a_1160 : bk1 1 = q_1 := (z_1 1 (by decide)).trans a_1106
                  have a_1161 : bk1 2 = q_11 := (z_1 2 (by decide)).trans a_1107
                  have a_1162 : bk1 3 = q_24 := (z_1 3 (by decide)).trans a_1108
                  have a_1163 : bk1 4 = q_45 := (z_1 4 (by decide)).trans a_1109
                  have a_1164 : bk1 5 = q_71 := (z_1 5 (by decide)).trans a_1110
                  have a_1165 : bk1 6 = q_73 := (z_1 6 (by decide)).trans a_1111
                  have a_1166 : bk1 7 = q_86 := (z_1 7 (by decide)).trans a_1112
                  have a_1167 : bk1 8 = q_124 := (z_1 8 (by decide)).trans a_1113
                  have a_1168 : bk1 9 = q_126 := (z_1 9 (by decide)).trans a_1114
                  have a_1169 : bk1 10 = q_142 := (z_1 10 (by decide)).trans a_1115
                  have a_1170 : bk1 11 = q_192 := (z_1 11 (by decide)).trans a_1116
                  have a_1171 : bk1 12 = q_194 := (z_1 12 (by decide)).trans a_1117
                  have a_1172 : bk1 13 = q_213 := (z_1 13 (by decide)).trans a_1118
                  have a_1173 : bk1 14 = q_275 := (z_1 14 (by decide)).trans a_1119
                  have a_1174 : bk1 15 = q_277 := (z_1 15 (by decide)).trans a_1120
                  have a_1175 : bk1 16 = q_279 := (z_1 16 (by decide)).trans a_1121
                  have a_1176 : bk1 17 = q_304 := (z_1 17 (by decide)).trans a_1122
                  have a_1177 : bk1 18 = q_403 := (z_1 18 (by decide)).trans a_1123
                  have a_1178 : bk1 19 = q_507 := (z_1 19 (by decide)).trans a_1124
                  have a_1179 : bk1 20 = q_616 := (z_1 20 (by decide)).trans a_1125
                  have a_1180 : bk1 21 = q_730 := (z_1 21 (by decide)).trans a_1126
                  have a_1181 : bk1 22 = q_849 := (z_1 22 (by decide)).trans a_1127
                  have a_1182 : bk1 23 = q_973 := (z_1 23 (by decide)).trans a_1128
                  have a_1183 : bk1 24 = q_1102 := (z_1 24 (by decide)).trans a_1129
                  have h_1184 : cw1 0 = .inr (0, [.ref (q_1), .ref (q_11), .ref (q_24), .int (0), .ref (q_45), .ref (q_86), .ref (q_142), .ref (q_213)]) := (z_2 0 (by decide) (by decide)).trans h_1130
                  have h_1185 : cw1 1 = .inl (cs 2, 10, .inr (.inr (.inr (.inr (va_up (va_up (va_up (va_up (va_up (va_up (va_up (fun _ => none) (0) (some (q_304))) (1) (some (q_403))) (2) (some (q_507))) (3) (some (q_616))) (4) (some (q_730))) (5) (some (q_849))) (6) (some (q_973))))))) := (z_2 1 (by decide) (by decide)).trans h_1131
                  have h_1186 : cw1 2 = .inl (cs 3, 200, .inr (.inr (.inr (.inr (fun _ => none))))) := (z_2 2 (by decide) (by decide)).trans h_1132
                  have h_1187 : cw1 3 = .inl (cs 3, 200, .inr (.inr (.inr (.inr (fun _ => none))))) := (z_2 3 (by decide) (by decide)).trans h_1133
                  have h_1188 : cw1 4 = .inr (4, [.ref (q_71), .ref (q_73), .int (0)]) := (z_2 4 (by decide) (by decide)).trans h_1134
                  have h_1189 : cw1 5 = .inl (cs 0, 200, .inl (fun _ => 0)) := (z_2 5 (by decide) (by decide)).trans h_1135
                  have h_1190 : cw1 6 = .inl (cs 0, 200, .inl (fun _ => 0)) := (z_2 6 (by decide) (by decide)).trans h_1136
                  have h_1191 : cw1 7 = .inr (4, [.ref (q_124), .ref (q_126), .int (0)]) := (z_2 7 (by decide) (by decide)).trans h_1137
                  have h_1192 : cw1 8 = .inl (cs 0, 100, .inl (fun _ => 0)) := (z_2 8 (by decide) (by decide)).trans h_1138
                  have h_1193 : cw1 9 = .inl (cs 0, 100, .inl (fun _ => 0)) := (z_2 9 (by decide) (by decide)).trans h_1139
                  have h_1194 : cw1 10 = .inr (5, [.ref (q_192), .ref (q_194), .int (0)]) := (z_2 10 (by decide) (by decide)).trans h_1140
                  have h_1195 : cw1 11 = .inl (cs 0, 200, .inl (fun _ => 0)) := (z_2 11 (by decide) (by decide)).trans h_1141
                  have h_1196 : cw1 12 = .inl (cs 0, 41, .inl (fun _ => 0)) := (z_2 12 (by decide) (by decide)).trans h_1142
                  have h_1197 : cw1 13 = .inr (6, [.ref (q_275), .ref (q_277), .ref (q_279), .int (0)]) := (z_2 13 (by decide) (by decide)).trans h_1143
                  have h_1198 : cw1 14 = .inl (cs 0, 200, .inl (fun _ => 0)) := (z_2 14 (by decide) (by decide)).trans h_1144
                  have h_1199 : cw1 15 = .inl (cs 0, 200, .inl (fun _ => 0)) := (z_2 15 (by decide) (by decide)).trans h_1145
                  have h_1200 : cw1 16 = .inl (cs 0, 200, .inl (fun _ => 0)) := (z_2 16 (by decide) (by decide)).trans h_1146
                  have h_1201 : cw1 17 = .inr (1, [.int (30), .int (20), .int (3)]) := (z_2 17 (by decide) (by decide)).trans h_1147
                  have h_1202 : cw1 18 = .inr (1, [.int (30), .int (20), .int (3)]) := (z_2 18 (by decide) (by decide)).trans h_1148
                  have h_1203 : cw1 19 = .inr (1, [.int (30), .int (20), .int (3)]) := (z_2 19 (by decide) (by decide)).trans h_1149
                  have h_1204 : cw1 20 = .inr (1, [.int (30), .int (20), .int (3)]) := (z_2 20 (by decide) (by decide)).trans h_1150
                  have h_1205 : cw1 21 = .inr (1, [.int (30), .int (20), .int (3)]) := (z_2 21 (by decide) (by decide)).trans h_1151
                  have h_1206 : cw1 22 = .inr (1, [.int (30), .int (20), .int (3)]) := (z_2 22 (by decide) (by decide)).trans h_1152
                  have h_1207 : cw1 23 = .inr (1, [.int (30), .int (20), .int (3)]) := (z_2 23 (by decide) (by decide)).trans h_1153
                  have h_1208 : cw1 24 = .inr (1, [.int 30, .int 20, .int 3]) := by exact z_3
                  clear z_1 z_2 z_3
                  clear a_1105 a_1106 a_1107 a_1108 a_1109 a_1110 a_1111 a_1112 a_1113 a_1114 a_1115 a_1116 a_1117 a_1118 a_1119 a_1120 a_1121 a_1122 a_1123 a_1124 a_1125 a_1126 a_1127 a_1128 a_1129 h_1130 h_1131 h_1132 h_1133 h_1134 h_1135 h_1136 h_1137 h_1138 h_1139 h_1140 h_1141 h_1142 h_1143 h_1144 h_1145 h_1146 h_1147 h_1148 h_1149 h_1150 h_1151 h_1152 h_1153 h_1154
                  refine pw_astqA (n := 10) (f := (va_up (va_up (va_up (va_up (va_up (va_up (va_up (fun _ => none) (0) (some (q_304))) (1) (some (q_403))) (2) (some (q_507))) (3) (some (q_616))) (4) (some (q_730))) (5) (some (q_849))) (6) (some (q_973)))) hx hb hK hP hD hS 2 (1) (by decide) a_1160 h_1185 rfl (24) (by decide) a_1183 h_1208 rfl (7) rfl (by decide) (by decide) d_X_init_107 (fun cw_1209 H locs ecw_1209 hP hD hS => ?_)
                  have h_1210 : cw_1209 (0) = .inr (0, [.ref (q_1), .ref (q_11), .ref (q_24), .int (0), .ref (q_45), .ref (q_86), .ref (q_142), .ref (q_213)]) := by rw [ecw_1209, va_up_ne _ _ (by decide)]; exact h_1184
                  have h_1211 : cw_1209 (1) = .inl (cs 2, 10, .inr (.inr (.inr (.inr (va_up (va_up (va_up (va_up (va_up (va_up (va_up (va_up (fun _ => none) (0) (some (q_304))) (1) (some (q_403))) (2) (some (q_507))) (3) (some (q_616))) (4) (some (q_730))) (5) (some (q_849))) (6) (some (q_973))) (7) (some (q_1102))))))) := by rw [ecw_1209]; exact va_up_self _ _ _
                  have h_1212 : cw_1209 (2) = .inl (cs 3, 200, .inr (.inr (.inr (.inr (fun _ => none))))) := by rw [ecw_1209, va_up_ne _ _ (by decide)]; exact h_1186
                  have h_1213 : cw_1209 (3) = .inl (cs 3, 200, .inr (.inr (.inr (.inr (fun _ => none))))) := by rw [ecw_1209, va_up_ne _ _ (by decide)]; exact h_1187
                  have h_1214 : cw_1209 (4) = .inr (4, [.ref (q_71), .ref (q_73), .int (0)]) := by rw [ecw_1209, va_up_ne _ _ (by decide)]; exact h_1188
                  have h_1215 : cw_1209 (5) = .inl (cs 0, 200, .inl (fun _ => 0)) := by rw [ecw_1209, va_up_ne _ _ (by decide)]; exact h_1189
                  have h_1216 : cw_1209 (6) = .inl (cs 0, 200, .inl (fun _ => 0)) := by rw [ecw_1209, va_up_ne _ _ (by decide)]; exact h_1190
                  have h_1217 : cw_1209 (7) = .inr (4, [.ref (q_124), .ref (q_126), .int (0)]) := by rw [ecw_1209, va_up_ne _ _ (by decide)]; exact h_1191
                  have h_1218 : cw_1209 (8) = .inl (cs 0, 100, .inl (fun _ => 0)) := by rw [ecw_1209, va_up_ne _ _ (by decide)]; exact h_1192
                  have h_1219 : cw_1209 (9) = .inl (cs 0, 100, .inl (fun _ => 0)) := by rw [ecw_1209, va_up_ne _ _ (by decide)]; exact h_1193
                  have h_1220 : cw_1209 (10) = .inr (5, [.ref (q_192), .ref (q_194), .int (0)]) := by rw [ecw_1209, va_up_ne _ _ (by decide)]; exact h_1194
                  have h_1221 : cw_1209 (11) = .inl (cs 0, 200, .inl (fun _ => 0)) := by rw [ecw_1209, va_up_ne _ _ (by decide)]; exact h_1195
                  have h_1222 : cw_1209 (12) = .inl (cs 0, 41, .inl (fun _ => 0)) := by rw [ecw_1209, va_up_ne _ _ (by decide)]; exact h_1196
                  have h_1223 : cw_1209 (13) = .inr (6, [.ref (q_275), .ref (q_277), .ref (q_279), .int (0)]) := by rw [ecw_1209, va_up_ne _ _ (by decide)]; exact h_1197
                  have h_1224 : cw_1209 (14) = .inl (cs 0, 200, .inl (fun _ => 0)) := by rw [ecw_1209, va_up_ne _ _ (by decide)]; exact h_1198
                  have h_1225 : cw_1209 (15) = .inl (cs 0, 200, .inl (fun _ => 0)) := by rw [ecw_1209, va_up_ne _ _ (by decide)]; exact h_1199
                  have h_1226 : cw_1209 (16) = .inl (cs 0, 200, .inl (fun _ => 0)) := by rw [ecw_1209, va_up_ne _ _ (by decide)]; exact h_1200
                  have h_1227 : cw_1209 (17) = .inr (1, [.int (30), .int (20), .int (3)]) := by rw [ecw_1209, va_up_ne _ _ (by decide)]; exact h_1201
                  have h_1228 : cw_1209 (18) = .inr (1, [.int (30), .int (20), .int (3)]) := by rw [ecw_1209, va_up_ne _ _ (by decide)]; exact h_1202
                  have h_1229 : cw_1209 (19) = .inr (1, [.int (30), .int (20), .int (3)]) := by rw [ecw_1209, va_up_ne _ _ (by decide)]; exact h_1203
                  have h_1230 : cw_1209 (20) = .inr (1, [.int (30), .int (20), .int (3)]) := by rw [ecw_1209, va_up_ne _ _ (by decide)]; exact h_1204
                  have h_1231 : cw_1209 (21) = .inr (1, [.int (30), .int (20), .int (3)]) := by rw [ecw_1209, va_up_ne _ _ (by decide)]; exact h_1205
                  have h_1232 : cw_1209 (22) = .inr (1, [.int (30), .int (20), .int (3)]) := by rw [ecw_1209, va_up_ne _ _ (by decide)]; exact h_1206
                  have h_1233 : cw_1209 (23) = .inr (1, [.int (30), .int (20), .int (3)]) := by rw [ecw_1209, va_up_ne _ _ (by decide)]; exact h_1207
                  have h_1234 : cw_1209 (24) = .inr (1, [.int (30), .int (20), .int (3)]) := by rw [ecw_1209, va_up_ne _ _ (by decide)]; exact h_1208
                  clear ecw_1209
                  clear h_1184 h_1185 h_1186 h_1187 h_1188 h_1189 h_1190 h_1191 h_1192 h_1193 h_1194 h_1195 h_1196 h_1197 h_1198 h_1199 h_1200 h_1201 h_1202 h_1203 h_1204 h_1205 h_1206 h_1207 h_1208
                  refine lv_iinc (v := 8) (lv' := [(1, .int (8)), (0, .ref (h0))]) hx hb d_X_init_108 hl (k := 0) rfl (by decide) (by decide) rfl (fun ls hl => ?_)
                  refine lv_goto (tgt := 89) hx hb d_X_init_111 (by decide) ?_
                  refine lv_iload_n hx hb d_X_init_89 rfl (lv_at hl 0 rfl) ?_
                  refine lv_bipush (v := 10) hx hb d_X_init_90 (by decide) ?_
                  refine lv_icmp_ge (tgt := 114) hx hb d_X_init_92 (by decide) (fun c_1235 => ?_) (fun c_1235 => ?_)
                  · exact absurd c_1235 (by decide)
                  · skip
                    refine lv_aload_n hx hb d_X_init_95 rfl (lv_at hl 1 rfl) ?_
                    refine pw_getA (ci := 0) (v := .ref (q_1)) hx hb hw i_X hown hK hP (0) (by decide) a_1159 h_1210 rfl 0 (by decide) (hw _ kF_X_11) rfl d_X_init_96 ?_
                    refine lv_iload_n hx hb d_X_init_99 rfl (lv_at hl 0 rfl) ?_
                    refine pw_new (ci := 1) (fs := [.int (0), .int (0), .int (0)]) hx hb hw i_U t_U t_U_ok hown (hw _ kL_X_9) (hw _ kA_U) (hw _ kZ_U) hK hP hD hS hA rfl (fun j hj => by match j, hj with | 0, _ => rfl | 1, _ => rfl | 2, _ => rfl) (Nat.le_of_ble_eq_true rfl) (Nat.le_of_ble_eq_true rfl) d_X_init_100 (fun q_1236 H hP hD hS => ?_)
                    obtain ⟨bk_1237, eb⟩ : ∃ x, x = va_up bk1 25 q_1236 := ⟨_, rfl⟩
                    obtain ⟨cw_1238, ec⟩ : ∃ x, x = va_up cw_1209 25 (.inr (1, [.int (0), .int (0), .int (0)])) := ⟨_, rfl⟩
                    replace hP : va_P D classes (wl 26 bk_1237 cw_1238) H := by rw [eb, ec]; exact hP
                    replace hD : va_D (AA 1 bk sz) (wl 26 bk_1237 cw_1238) := by rw [eb, ec]; exact hD
                    have a_1239 : bk_1237 0 = h0 := by rw [eb, va_up_ne _ _ (by decide)]; exact a_1159
                    have a_1240 : bk_1237 1 = q_1 := by rw [eb, va_up_ne _ _ (by decide)]; exact a_1160
                    have a_1241 : bk_1237 2 = q_11 := by rw [eb, va_up_ne _ _ (by decide)]; exact a_1161
                    have a_1242 : bk_1237 3 = q_24 := by rw [eb, va_up_ne _ _ (by decide)]; exact a_1162
                    have a_1243 : bk_1237 4 = q_45 := by rw [eb, va_up_ne _ _ (by decide)]; exact a_1163
                    have a_1244 : bk_1237 5 = q_71 := by rw [eb, va_up_ne _ _ (by decide)]; exact a_1164
                    have a_1245 : bk_1237 6 = q_73 := by rw [eb, va_up_ne _ _ (by decide)]; exact a_1165
                    have a_1246 : bk_1237 7 = q_86 := by rw [eb, va_up_ne _ _ (by decide)]; exact a_1166
                    have a_1247 : bk_1237 8 = q_124 := by rw [eb, va_up_ne _ _ (by decide)]; exact a_1167
                    have a_1248 : bk_1237 9 = q_126 := by rw [eb, va_up_ne _ _ (by decide)]; exact a_1168
                    have a_1249 : bk_1237 10 = q_142 := by rw [eb, va_up_ne _ _ (by decide)]; exact a_1169
                    have a_1250 : bk_1237 11 = q_192 := by rw [eb, va_up_ne _ _ (by decide)]; exact a_1170
                    have a_1251 : bk_1237 12 = q_194 := by rw [eb, va_up_ne _ _ (by decide)]; exact a_1171
                    have a_1252 : bk_1237 13 = q_213 := by rw [eb, va_up_ne _ _ (by decide)]; exact a_1172
                    have a_1253 : bk_1237 14 = q_275 := by rw [eb, va_up_ne _ _ (by decide)]; exact a_1173
                    have a_1254 : bk_1237 15 = q_277 := by rw [eb, va_up_ne _ _ (by decide)]; exact a_1174
                    have a_1255 : bk_1237 16 = q_279 := by rw [eb, va_up_ne _ _ (by decide)]; exact a_1175
                    have a_1256 : bk_1237 17 = q_304 := by rw [eb, va_up_ne _ _ (by decide)]; exact a_1176
                    have a_1257 : bk_1237 18 = q_403 := by rw [eb, va_up_ne _ _ (by decide)]; exact a_1177
                    have a_1258 : bk_1237 19 = q_507 := by rw [eb, va_up_ne _ _ (by decide)]; exact a_1178
                    have a_1259 : bk_1237 20 = q_616 := by rw [eb, va_up_ne _ _ (by decide)]; exact a_1179
                    have a_1260 : bk_1237 21 = q_730 := by rw [eb, va_up_ne _ _ (by decide)]; exact a_1180
                    have a_1261 : bk_1237 22 = q_849 := by rw [eb, va_up_ne _ _ (by decide)]; exact a_1181
                    have a_1262 : bk_1237 23 = q_973 := by rw [eb, va_up_ne _ _ (by decide)]; exact a_1182
                    have a_1263 : bk_1237 24 = q_1102 := by rw [eb, va_up_ne _ _ (by decide)]; exact a_1183
                    have a_1264 : bk_1237 25 = q_1236 := by rw [eb]; exact va_up_self _ _ _
                    have h_1265 : cw_1238 0 = .inr (0, [.ref (q_1), .ref (q_11), .ref (q_24), .int (0), .ref (q_45), .ref (q_86), .ref (q_142), .ref (q_213)]) := by rw [ec, va_up_ne _ _ (by decide)]; exact h_1210
                    have h_1266 : cw_1238 1 = .inl (cs 2, 10, .inr (.inr (.inr (.inr (va_up (va_up (va_up (va_up (va_up (va_up (va_up (va_up (fun _ => none) (0) (some (q_304))) (1) (some (q_403))) (2) (some (q_507))) (3) (some (q_616))) (4) (some (q_730))) (5) (some (q_849))) (6) (some (q_973))) (7) (some (q_1102))))))) := by rw [ec, va_up_ne _ _ (by decide)]; exact h_1211
                    have h_1267 : cw_1238 2 = .inl (cs 3, 200, .inr (.inr (.inr (.inr (fun _ => none))))) := by rw [ec, va_up_ne _ _ (by decide)]; exact h_1212
                    have h_1268 : cw_1238 3 = .inl (cs 3, 200, .inr (.inr (.inr (.inr (fun _ => none))))) := by rw [ec, va_up_ne _ _ (by decide)]; exact h_1213
                    have h_1269 : cw_1238 4 = .inr (4, [.ref (q_71), .ref (q_73), .int (0)]) := by rw [ec, va_up_ne _ _ (by decide)]; exact h_1214
                    have h_1270 : cw_1238 5 = .inl (cs 0, 200, .inl (fun _ => 0)) := by rw [ec, va_up_ne _ _ (by decide)]; exact h_1215
                    have h_1271 : cw_1238 6 = .inl (cs 0, 200, .inl (fun _ => 0)) := by rw [ec, va_up_ne _ _ (by decide)]; exact h_1216
                    have h_1272 : cw_1238 7 = .inr (4, [.ref (q_124), .ref (q_126), .int (0)]) := by rw [ec, va_up_ne _ _ (by decide)]; exact h_1217
                    have h_1273 : cw_1238 8 = .inl (cs 0, 100, .inl (fun _ => 0)) := by rw [ec, va_up_ne _ _ (by decide)]; exact h_1218
                    have h_1274 : cw_1238 9 = .inl (cs 0, 100, .inl (fun _ => 0)) := by rw [ec, va_up_ne _ _ (by decide)]; exact h_1219
                    have h_1275 : cw_1238 10 = .inr (5, [.ref (q_192), .ref (q_194), .int (0)]) := by rw [ec, va_up_ne _ _ (by decide)]; exact h_1220
                    have h_1276 : cw_1238 11 = .inl (cs 0, 200, .inl (fun _ => 0)) := by rw [ec, va_up_ne _ _ (by decide)]; exact h_1221
                    have h_1277 : cw_1238 12 = .inl (cs 0, 41, .inl (fun _ => 0)) := by rw [ec, va_up_ne _ _ (by decide)]; exact h_1222
                    have h_1278 : cw_1238 13 = .inr (6, [.ref (q_275), .ref (q_277), .ref (q_279), .int (0)]) := by rw [ec, va_up_ne _ _ (by decide)]; exact h_1223
                    have h_1279 : cw_1238 14 = .inl (cs 0, 200, .inl (fun _ => 0)) := by rw [ec, va_up_ne _ _ (by decide)]; exact h_1224
                    have h_1280 : cw_1238 15 = .inl (cs 0, 200, .inl (fun _ => 0)) := by rw [ec, va_up_ne _ _ (by decide)]; exact h_1225
                    have h_1281 : cw_1238 16 = .inl (cs 0, 200, .inl (fun _ => 0)) := by rw [ec, va_up_ne _ _ (by decide)]; exact h_1226
                    have h_1282 : cw_1238 17 = .inr (1, [.int (30), .int (20), .int (3)]) := by rw [ec, va_up_ne _ _ (by decide)]; exact h_1227
                    have h_1283 : cw_1238 18 = .inr (1, [.int (30), .int (20), .int (3)]) := by rw [ec, va_up_ne _ _ (by decide)]; exact h_1228
                    have h_1284 : cw_1238 19 = .inr (1, [.int (30), .int (20), .int (3)]) := by rw [ec, va_up_ne _ _ (by decide)]; exact h_1229
                    have h_1285 : cw_1238 20 = .inr (1, [.int (30), .int (20), .int (3)]) := by rw [ec, va_up_ne _ _ (by decide)]; exact h_1230
                    have h_1286 : cw_1238 21 = .inr (1, [.int (30), .int (20), .int (3)]) := by rw [ec, va_up_ne _ _ (by decide)]; exact h_1231
                    have h_1287 : cw_1238 22 = .inr (1, [.int (30), .int (20), .int (3)]) := by rw [ec, va_up_ne _ _ (by decide)]; exact h_1232
                    have h_1288 : cw_1238 23 = .inr (1, [.int (30), .int (20), .int (3)]) := by rw [ec, va_up_ne _ _ (by decide)]; exact h_1233
                    have h_1289 : cw_1238 24 = .inr (1, [.int (30), .int (20), .int (3)]) := by rw [ec, va_up_ne _ _ (by decide)]; exact h_1234
                    have h_1290 : cw_1238 25 = .inr (1, [.int (0), .int (0), .int (0)]) := by rw [ec]; exact va_up_self _ _ _
                    clear eb ec
                    clear a_1159 a_1160 a_1161 a_1162 a_1163 a_1164 a_1165 a_1166 a_1167 a_1168 a_1169 a_1170 a_1171 a_1172 a_1173 a_1174 a_1175 a_1176 a_1177 a_1178 a_1179 a_1180 a_1181 a_1182 a_1183 h_1210 h_1211 h_1212 h_1213 h_1214 h_1215 h_1216 h_1217 h_1218 h_1219 h_1220 h_1221 h_1222 h_1223 h_1224 h_1225 h_1226 h_1227 h_1228 h_1229 h_1230 h_1231 h_1232 h_1233 h_1234
                    refine lv_dup hx hb d_X_init_103 rfl ?_
                    refine pw_callv (va_runIN (As := []) (rest := [.ref (q_1236), .int (8), .ref (q_1)]) ⟨hx, hb, hml, hown, hw⟩ (c_U_init l D cs 26 bk_1237 cw_1238 H.size 25 (by decide) q_1236 a_1264 h_1290) (cw_IN 0 hw (kN_X_54 hN) kI_U_init kZ_U kC_U_init rfl rfl rfl ⟨by decide, by decide, by decide +kernel⟩ ⟨Nat.le_of_ble_eq_true rfl, Nat.le_of_ble_eq_true rfl⟩) (pw_preS hN hK hP hD) rfl rfl hl.1 rfl (lv_room (Nat.le_of_ble_eq_true rfl)) d_X_init_104 ⟨Nat.le_of_ble_eq_true rfl, Nat.le_of_ble_eq_true rfl⟩) hS (wl_free hD hS hA) (fun N1 bk1 cw1 H locs hu hP hD hS => ?_)
                    obtain ⟨z_0, z_1, z_2, z_3⟩ := hu
                    dsimp only at z_0 z_1 z_2 z_3
                    subst z_0
                    skip
                    skip
                    skip
                    skip
                    replace hP : va_P D classes (wl 26 bk1 cw1) H := hP
                    replace hD : va_D (AA 1 bk sz) (wl 26 bk1 cw1) := hD
                    have a_1295 : bk1 0 = h0 := (z_1 0 (by decide)).trans a_1239
                    have a_1296 : bk1 1 = q_1 := (z_1 1 (by decide)).trans a_1240
                    have a_1297 : bk1 2 = q_11 := (z_1 2 (by decide)).trans a_1241
                    have a_1298 : bk1 3 = q_24 := (z_1 3 (by decide)).trans a_1242
                    have a_1299 : bk1 4 = q_45 := (z_1 4 (by decide)).trans a_1243
                    have a_1300 : bk1 5 = q_71 := (z_1 5 (by decide)).trans a_1244
                    have a_1301 : bk1 6 = q_73 := (z_1 6 (by decide)).trans a_1245
                    have a_1302 : bk1 7 = q_86 := (z_1 7 (by decide)).trans a_1246
                    have a_1303 : bk1 8 = q_124 := (z_1 8 (by decide)).trans a_1247
                    have a_1304 : bk1 9 = q_126 := (z_1 9 (by decide)).trans a_1248
                    have a_1305 : bk1 10 = q_142 := (z_1 10 (by decide)).trans a_1249
                    have a_1306 : bk1 11 = q_192 := (z_1 11 (by decide)).trans a_1250
                    have a_1307 : bk1 12 = q_194 := (z_1 12 (by decide)).trans a_1251
                    have a_1308 : bk1 13 = q_213 := (z_1 13 (by decide)).trans a_1252
                    have a_1309 : bk1 14 = q_275 := (z_1 14 (by decide)).trans a_1253
                    have a_1310 : bk1 15 = q_277 := (z_1 15 (by decide)).trans a_1254
                    have a_1311 : bk1 16 = q_279 := (z_1 16 (by decide)).trans a_1255
                    have a_1312 : bk1 17 = q_304 := (z_1 17 (by decide)).trans a_1256
                    have a_1313 : bk1 18 = q_403 := (z_1 18 (by decide)).trans a_1257
                    have a_1314 : bk1 19 = q_507 := (z_1 19 (by decide)).trans a_1258
                    have a_1315 : bk1 20 = q_616 := (z_1 20 (by decide)).trans a_1259
                    have a_1316 : bk1 21 = q_730 := (z_1 21 (by decide)).trans a_1260
                    have a_1317 : bk1 22 = q_849 := (z_1 22 (by decide)).trans a_1261
                    have a_1318 : bk1 23 = q_973 := (z_1 23 (by decide)).trans a_1262
                    have a_1319 : bk1 24 = q_1102 := (z_1 24 (by decide)).trans a_1263
                    have a_1320 : bk1 25 = q_1236 := (z_1 25 (by decide)).trans a_1264
                    have h_1321 : cw1 0 = .inr (0, [.ref (q_1), .ref (q_11), .ref (q_24), .int (0), .ref (q_45), .ref (q_86), .ref (q_142), .ref (q_213)]) := (z_2 0 (by decide) (by decide)).trans h_1265
                    have h_1322 : cw1 1 = .inl (cs 2, 10, .inr (.inr (.inr (.inr (va_up (va_up (va_up (va_up (va_up (va_up (va_up (va_up (fun _ => none) (0) (some (q_304))) (1) (some (q_403))) (2) (some (q_507))) (3) (some (q_616))) (4) (some (q_730))) (5) (some (q_849))) (6) (some (q_973))) (7) (some (q_1102))))))) := (z_2 1 (by decide) (by decide)).trans h_1266
                    have h_1323 : cw1 2 = .inl (cs 3, 200, .inr (.inr (.inr (.inr (fun _ => none))))) := (z_2 2 (by decide) (by decide)).trans h_1267
                    have h_1324 : cw1 3 = .inl (cs 3, 200, .inr (.inr (.inr (.inr (fun _ => none))))) := (z_2 3 (by decide) (by decide)).trans h_1268
                    have h_1325 : cw1 4 = .inr (4, [.ref (q_71), .ref (q_73), .int (0)]) := (z_2 4 (by decide) (by decide)).trans h_1269
                    have h_1326 : cw1 5 = .inl (cs 0, 200, .inl (fun _ => 0)) := (z_2 5 (by decide) (by decide)).trans h_1270
                    have h_1327 : cw1 6 = .inl (cs 0, 200, .inl (fun _ => 0)) := (z_2 6 (by decide) (by decide)).trans h_1271
                    have h_1328 : cw1 7 = .inr (4, [.ref (q_124), .ref (q_126), .int (0)]) := (z_2 7 (by decide) (by decide)).trans h_1272
                    have h_1329 : cw1 8 = .inl (cs 0, 100, .inl (fun _ => 0)) := (z_2 8 (by decide) (by decide)).trans h_1273
                    have h_1330 : cw1 9 = .inl (cs 0, 100, .inl (fun _ => 0)) := (z_2 9 (by decide) (by decide)).trans h_1274
                    have h_1331 : cw1 10 = .inr (5, [.ref (q_192), .ref (q_194), .int (0)]) := (z_2 10 (by decide) (by decide)).trans h_1275
                    have h_1332 : cw1 11 = .inl (cs 0, 200, .inl (fun _ => 0)) := (z_2 11 (by decide) (by decide)).trans h_1276
                    have h_1333 : cw1 12 = .inl (cs 0, 41, .inl (fun _ => 0)) := (z_2 12 (by decide) (by decide)).trans h_1277
                    have h_1334 : cw1 13 = .inr (6, [.ref (q_275), .ref (q_277), .ref (q_279), .int (0)]) := (z_2 13 (by decide) (by decide)).trans h_1278
                    have h_1335 : cw1 14 = .inl (cs 0, 200, .inl (fun _ => 0)) := (z_2 14 (by decide) (by decide)).trans h_1279
                    have h_1336 : cw1 15 = .inl (cs 0, 200, .inl (fun _ => 0)) := (z_2 15 (by decide) (by decide)).trans h_1280
                    have h_1337 : cw1 16 = .inl (cs 0, 200, .inl (fun _ => 0)) := (z_2 16 (by decide) (by decide)).trans h_1281
                    have h_1338 : cw1 17 = .inr (1, [.int (30), .int (20), .int (3)]) := (z_2 17 (by decide) (by decide)).trans h_1282
                    have h_1339 : cw1 18 = .inr (1, [.int (30), .int (20), .int (3)]) := (z_2 18 (by decide) (by decide)).trans h_1283
                    have h_1340 : cw1 19 = .inr (1, [.int (30), .int (20), .int (3)]) := (z_2 19 (by decide) (by decide)).trans h_1284
                    have h_1341 : cw1 20 = .inr (1, [.int (30), .int (20), .int (3)]) := (z_2 20 (by decide) (by decide)).trans h_1285
                    have h_1342 : cw1 21 = .inr (1, [.int (30), .int (20), .int (3)]) := (z_2 21 (by decide) (by decide)).trans h_1286
                    have h_1343 : cw1 22 = .inr (1, [.int (30), .int (20), .int (3)]) := (z_2 22 (by decide) (by decide)).trans h_1287
                    have h_1344 : cw1 23 = .inr (1, [.int (30), .int (20), .int (3)]) := (z_2 23 (by decide) (by decide)).trans h_1288
                    have h_1345 : cw1 24 = .inr (1, [.int (30), .int (20), .int (3)]) := (z_2 24 (by decide) (by decide)).trans h_1289
                    have h_1346 : cw1 25 = .inr (1, [.int 30, .int 20, .int 3]) := by exact z_3
                    clear z_1 z_2 z_3
                    clear a_1239 a_1240 a_1241 a_1242 a_1243 a_1244 a_1245 a_1246 a_1247 a_1248 a_1249 a_1250 a_1251 a_1252 a_1253 a_1254 a_1255 a_1256 a_1257 a_1258 a_1259 a_1260 a_1261 a_1262 a_1263 a_1264 h_1265 h_1266 h_1267 h_1268 h_1269 h_1270 h_1271 h_1272 h_1273 h_1274 h_1275 h_1276 h_1277 h_1278 h_1279 h_1280 h_1281 h_1282 h_1283 h_1284 h_1285 h_1286 h_1287 h_1288 h_1289 h_1290
                    refine pw_astqA (n := 10) (f := (va_up (va_up (va_up (va_up (va_up (va_up (va_up (va_up (fun _ => none) (0) (some (q_304))) (1) (some (q_403))) (2) (some (q_507))) (3) (some (q_616))) (4) (some (q_730))) (5) (some (q_849))) (6) (some (q_973))) (7) (some (q_1102)))) hx hb hK hP hD hS 2 (1) (by decide) a_1296 h_1322 rfl (25) (by decide) a_1320 h_1346 rfl (8) rfl (by decide) (by decide) d_X_init_107 (fun cw_1347 H locs ecw_1347 hP hD hS => ?_)
                    have h_1348 : cw_1347 (0) = .inr (0, [.ref (q_1), .ref (q_11), .ref (q_24), .int (0), .ref (q_45), .ref (q_86), .ref (q_142), .ref (q_213)]) := by rw [ecw_1347, va_up_ne _ _ (by decide)]; exact h_1321
                    have h_1349 : cw_1347 (1) = .inl (cs 2, 10, .inr (.inr (.inr (.inr (va_up (va_up (va_up (va_up (va_up (va_up (va_up (va_up (va_up (fun _ => none) (0) (some (q_304))) (1) (some (q_403))) (2) (some (q_507))) (3) (some (q_616))) (4) (some (q_730))) (5) (some (q_849))) (6) (some (q_973))) (7) (some (q_1102))) (8) (some (q_1236))))))) := by rw [ecw_1347]; exact va_up_self _ _ _
                    have h_1350 : cw_1347 (2) = .inl (cs 3, 200, .inr (.inr (.inr (.inr (fun _ => none))))) := by rw [ecw_1347, va_up_ne _ _ (by decide)]; exact h_1323
                    have h_1351 : cw_1347 (3) = .inl (cs 3, 200, .inr (.inr (.inr (.inr (fun _ => none))))) := by rw [ecw_1347, va_up_ne _ _ (by decide)]; exact h_1324
                    have h_1352 : cw_1347 (4) = .inr (4, [.ref (q_71), .ref (q_73), .int (0)]) := by rw [ecw_1347, va_up_ne _ _ (by decide)]; exact h_1325
                    have h_1353 : cw_1347 (5) = .inl (cs 0, 200, .inl (fun _ => 0)) := by rw [ecw_1347, va_up_ne _ _ (by decide)]; exact h_1326
                    have h_1354 : cw_1347 (6) = .inl (cs 0, 200, .inl (fun _ => 0)) := by rw [ecw_1347, va_up_ne _ _ (by decide)]; exact h_1327
                    have h_1355 : cw_1347 (7) = .inr (4, [.ref (q_124), .ref (q_126), .int (0)]) := by rw [ecw_1347, va_up_ne _ _ (by decide)]; exact h_1328
                    have h_1356 : cw_1347 (8) = .inl (cs 0, 100, .inl (fun _ => 0)) := by rw [ecw_1347, va_up_ne _ _ (by decide)]; exact h_1329
                    have h_1357 : cw_1347 (9) = .inl (cs 0, 100, .inl (fun _ => 0)) := by rw [ecw_1347, va_up_ne _ _ (by decide)]; exact h_1330
                    have h_1358 : cw_1347 (10) = .inr (5, [.ref (q_192), .ref (q_194), .int (0)]) := by rw [ecw_1347, va_up_ne _ _ (by decide)]; exact h_1331
                    have h_1359 : cw_1347 (11) = .inl (cs 0, 200, .inl (fun _ => 0)) := by rw [ecw_1347, va_up_ne _ _ (by decide)]; exact h_1332
                    have h_1360 : cw_1347 (12) = .inl (cs 0, 41, .inl (fun _ => 0)) := by rw [ecw_1347, va_up_ne _ _ (by decide)]; exact h_1333
                    have h_1361 : cw_1347 (13) = .inr (6, [.ref (q_275), .ref (q_277), .ref (q_279), .int (0)]) := by rw [ecw_1347, va_up_ne _ _ (by decide)]; exact h_1334
                    have h_1362 : cw_1347 (14) = .inl (cs 0, 200, .inl (fun _ => 0)) := by rw [ecw_1347, va_up_ne _ _ (by decide)]; exact h_1335
                    have h_1363 : cw_1347 (15) = .inl (cs 0, 200, .inl (fun _ => 0)) := by rw [ecw_1347, va_up_ne _ _ (by decide)]; exact h_1336
                    have h_1364 : cw_1347 (16) = .inl (cs 0, 200, .inl (fun _ => 0)) := by rw [ecw_1347, va_up_ne _ _ (by decide)]; exact h_1337
                    have h_1365 : cw_1347 (17) = .inr (1, [.int (30), .int (20), .int (3)]) := by rw [ecw_1347, va_up_ne _ _ (by decide)]; exact h_1338
                    have h_1366 : cw_1347 (18) = .inr (1, [.int (30), .int (20), .int (3)]) := by rw [ecw_1347, va_up_ne _ _ (by decide)]; exact h_1339
                    have h_1367 : cw_1347 (19) = .inr (1, [.int (30), .int (20), .int (3)]) := by rw [ecw_1347, va_up_ne _ _ (by decide)]; exact h_1340
                    have h_1368 : cw_1347 (20) = .inr (1, [.int (30), .int (20), .int (3)]) := by rw [ecw_1347, va_up_ne _ _ (by decide)]; exact h_1341
                    have h_1369 : cw_1347 (21) = .inr (1, [.int (30), .int (20), .int (3)]) := by rw [ecw_1347, va_up_ne _ _ (by decide)]; exact h_1342
                    have h_1370 : cw_1347 (22) = .inr (1, [.int (30), .int (20), .int (3)]) := by rw [ecw_1347, va_up_ne _ _ (by decide)]; exact h_1343
                    have h_1371 : cw_1347 (23) = .inr (1, [.int (30), .int (20), .int (3)]) := by rw [ecw_1347, va_up_ne _ _ (by decide)]; exact h_1344
                    have h_1372 : cw_1347 (24) = .inr (1, [.int (30), .int (20), .int (3)]) := by rw [ecw_1347, va_up_ne _ _ (by decide)]; exact h_1345
                    have h_1373 : cw_1347 (25) = .inr (1, [.int (30), .int (20), .int (3)]) := by rw [ecw_1347, va_up_ne _ _ (by decide)]; exact h_1346
                    clear ecw_1347
                    clear h_1321 h_1322 h_1323 h_1324 h_1325 h_1326 h_1327 h_1328 h_1329 h_1330 h_1331 h_1332 h_1333 h_1334 h_1335 h_1336 h_1337 h_1338 h_1339 h_1340 h_1341 h_1342 h_1343 h_1344 h_1345 h_1346
                    refine lv_iinc (v := 9) (lv' := [(1, .int (9)), (0, .ref (h0))]) hx hb d_X_init_108 hl (k := 0) rfl (by decide) (by decide) rfl (fun ls hl => ?_)
                    refine lv_goto (tgt := 89) hx hb d_X_init_111 (by decide) ?_
                    refine lv_iload_n hx hb d_X_init_89 rfl (lv_at hl 0 rfl) ?_
                    refine lv_bipush (v := 10) hx hb d_X_init_90 (by decide) ?_
                    refine lv_icmp_ge (tgt := 114) hx hb d_X_init_92 (by decide) (fun c_1374 => ?_) (fun c_1374 => ?_)
                    · exact absurd c_1374 (by decide)
                    · skip
                      refine lv_aload_n hx hb d_X_init_95 rfl (lv_at hl 1 rfl) ?_
                      refine pw_getA (ci := 0) (v := .ref (q_1)) hx hb hw i_X hown hK hP (0) (by decide) a_1295 h_1348 rfl 0 (by decide) (hw _ kF_X_11) rfl d_X_init_96 ?_
                      refine lv_iload_n hx hb d_X_init_99 rfl (lv_at hl 0 rfl) ?_
                      refine pw_new (ci := 1) (fs := [.int (0), .int (0), .int (0)]) hx hb hw i_U t_U t_U_ok hown (hw _ kL_X_9) (hw _ kA_U) (hw _ kZ_U) hK hP hD hS hA rfl (fun j hj => by match j, hj with | 0, _ => rfl | 1, _ => rfl | 2, _ => rfl) (Nat.le_of_ble_eq_true rfl) (Nat.le_of_ble_eq_true rfl) d_X_init_100 (fun q_1375 H hP hD hS => ?_)
                      obtain ⟨bk_1376, eb⟩ : ∃ x, x = va_up bk1 26 q_1375 := ⟨_, rfl⟩
                      obtain ⟨cw_1377, ec⟩ : ∃ x, x = va_up cw_1347 26 (.inr (1, [.int (0), .int (0), .int (0)])) := ⟨_, rfl⟩
                      replace hP : va_P D classes (wl 27 bk_1376 cw_1377) H := by rw [eb, ec]; exact hP
                      replace hD : va_D (AA 1 bk sz) (wl 27 bk_1376 cw_1377) := by rw [eb, ec]; exact hD
                      have a_1378 : bk_1376 0 = h0 := by rw [eb, va_up_ne _ _ (by decide)]; exact a_1295
                      have a_1379 : bk_1376 1 = q_1 := by rw [eb, va_up_ne _ _ (by decide)]; exact a_1296
                      have a_1380 : bk_1376 2 = q_11 := by rw [eb, va_up_ne _ _ (by decide)]; exact a_1297
                      have a_1381 : bk_1376 3 = q_24 := by rw [eb, va_up_ne _ _ (by decide)]; exact a_1298
                      have a_1382 : bk_1376 4 = q_45 := by rw [eb, va_up_ne _ _ (by decide)]; exact a_1299
                      have a_1383 : bk_1376 5 = q_71 := by rw [eb, va_up_ne _ _ (by decide)]; exact a_1300
                      have a_1384 : bk_1376 6 = q_73 := by rw [eb, va_up_ne _ _ (by decide)]; exact a_1301
                      have a_1385 : bk_1376 7 = q_86 := by rw [eb, va_up_ne _ _ (by decide)]; exact a_1302
                      have a_1386 : bk_1376 8 = q_124 := by rw [eb, va_up_ne _ _ (by decide)]; exact a_1303
                      have a_1387 : bk_1376 9 = q_126 := by rw [eb, va_up_ne _ _ (by decide)]; exact a_1304
                      have a_1388 : bk_1376 10 = q_142 := by rw [eb, va_up_ne _ _ (by decide)]; exact a_1305
                      have a_1389 : bk_1376 11 = q_192 := by rw [eb, va_up_ne _ _ (by decide)]; exact a_1306
                      have a_1390 : bk_1376 12 = q_194 := by rw [eb, va_up_ne _ _ (by decide)]; exact a_1307
                      have a_1391 : bk_1376 13 = q_213 := by rw [eb, va_up_ne _ _ (by decide)]; exact a_1308
                      have a_1392 : bk_1376 14 = q_275 := by rw [eb, va_up_ne _ _ (by decide)]; exact a_1309
                      have a_1393 : bk_1376 15 = q_277 := by rw [eb, va_up_ne _ _ (by decide)]; exact a_1310
                      have a_1394 : bk_1376 16 = q_279 := by rw [eb, va_up_ne _ _ (by decide)]; exact a_1311
                      have a_1395 : bk_1376 17 = q_304 := by rw [eb, va_up_ne _ _ (by decide)]; exact a_1312
                      have a_1396 : bk_1376 18 = q_403 := by rw [eb, va_up_ne _ _ (by decide)]; exact a_1313
                      have a_1397 : bk_1376 19 = q_507 := by rw [eb, va_up_ne _ _ (by decide)]; exact a_1314
                      have a_1398 : bk_1376 20 = q_616 := by rw [eb, va_up_ne _ _ (by decide)]; exact a_1315
                      have a_1399 : bk_1376 21 = q_730 := by rw [eb, va_up_ne _ _ (by decide)]; exact a_1316
                      have a_1400 : bk_1376 22 = q_849 := by rw [eb, va_up_ne _ _ (by decide)]; exact a_1317
                      have a_1401 : bk_1376 23 = q_973 := by rw [eb, va_up_ne _ _ (by decide)]; exact a_1318
                      have a_1402 : bk_1376 24 = q_1102 := by rw [eb, va_up_ne _ _ (by decide)]; exact a_1319
                      have a_1403 : bk_1376 25 = q_1236 := by rw [eb, va_up_ne _ _ (by decide)]; exact a_1320
                      have a_1404 : bk_1376 26 = q_1375 := by rw [eb]; exact va_up_self _ _ _
                      have h_1405 : cw_1377 0 = .inr (0, [.ref (q_1), .ref (q_11), .ref (q_24), .int (0), .ref (q_45), .ref (q_86), .ref (q_142), .ref (q_213)]) := by rw [ec, va_up_ne _ _ (by decide)]; exact h_1348
                      have h_1406 : cw_1377 1 = .inl (cs 2, 10, .inr (.inr (.inr (.inr (va_up (va_up (va_up (va_up (va_up (va_up (va_up (va_up (va_up (fun _ => none) (0) (some (q_304))) (1) (some (q_403))) (2) (some (q_507))) (3) (some (q_616))) (4) (some (q_730))) (5) (some (q_849))) (6) (some (q_973))) (7) (some (q_1102))) (8) (some (q_1236))))))) := by rw [ec, va_up_ne _ _ (by decide)]; exact h_1349
                      have h_1407 : cw_1377 2 = .inl (cs 3, 200, .inr (.inr (.inr (.inr (fun _ => none))))) := by rw [ec, va_up_ne _ _ (by decide)]; exact h_1350
                      have h_1408 : cw_1377 3 = .inl (cs 3, 200, .inr (.inr (.inr (.inr (fun _ => none))))) := by rw [ec, va_up_ne _ _ (by decide)]; exact h_1351
                      have h_1409 : cw_1377 4 = .inr (4, [.ref (q_71), .ref (q_73), .int (0)]) := by rw [ec, va_up_ne _ _ (by decide)]; exact h_1352
                      have h_1410 : cw_1377 5 = .inl (cs 0, 200, .inl (fun _ => 0)) := by rw [ec, va_up_ne _ _ (by decide)]; exact h_1353
                      have h_1411 : cw_1377 6 = .inl (cs 0, 200, .inl (fun _ => 0)) := by rw [ec, va_up_ne _ _ (by decide)]; exact h_1354
                      have h_1412 : cw_1377 7 = .inr (4, [.ref (q_124), .ref (q_126), .int (0)]) := by rw [ec, va_up_ne _ _ (by decide)]; exact h_1355
                      have h_1413 : cw_1377 8 = .inl (cs 0, 100, .inl (fun _ => 0)) := by rw [ec, va_up_ne _ _ (by decide)]; exact h_1356
                      have h_1414 : cw_1377 9 = .inl (cs 0, 100, .inl (fun _ => 0)) := by rw [ec, va_up_ne _ _ (by decide)]; exact h_1357
                      have h_1415 : cw_1377 10 = .inr (5, [.ref (q_192), .ref (q_194), .int (0)]) := by rw [ec, va_up_ne _ _ (by decide)]; exact h_1358
                      have h_1416 : cw_1377 11 = .inl (cs 0, 200, .inl (fun _ => 0)) := by rw [ec, va_up_ne _ _ (by decide)]; exact h_1359
                      have h_1417 : cw_1377 12 = .inl (cs 0, 41, .inl (fun _ => 0)) := by rw [ec, va_up_ne _ _ (by decide)]; exact h_1360
                      have h_1418 : cw_1377 13 = .inr (6, [.ref (q_275), .ref (q_277), .ref (q_279), .int (0)]) := by rw [ec, va_up_ne _ _ (by decide)]; exact h_1361
                      have h_1419 : cw_1377 14 = .inl (cs 0, 200, .inl (fun _ => 0)) := by rw [ec, va_up_ne _ _ (by decide)]; exact h_1362
                      have h_1420 : cw_1377 15 = .inl (cs 0, 200, .inl (fun _ => 0)) := by rw [ec, va_up_ne _ _ (by decide)]; exact h_1363
                      have h_1421 : cw_1377 16 = .inl (cs 0, 200, .inl (fun _ => 0)) := by rw [ec, va_up_ne _ _ (by decide)]; exact h_1364
                      have h_1422 : cw_1377 17 = .inr (1, [.int (30), .int (20), .int (3)]) := by rw [ec, va_up_ne _ _ (by decide)]; exact h_1365
                      have h_1423 : cw_1377 18 = .inr (1, [.int (30), .int (20), .int (3)]) := by rw [ec, va_up_ne _ _ (by decide)]; exact h_1366
                      have h_1424 : cw_1377 19 = .inr (1, [.int (30), .int (20), .int (3)]) := by rw [ec, va_up_ne _ _ (by decide)]; exact h_1367
                      have h_1425 : cw_1377 20 = .inr (1, [.int (30), .int (20), .int (3)]) := by rw [ec, va_up_ne _ _ (by decide)]; exact h_1368
                      have h_1426 : cw_1377 21 = .inr (1, [.int (30), .int (20), .int (3)]) := by rw [ec, va_up_ne _ _ (by decide)]; exact h_1369
                      have h_1427 : cw_1377 22 = .inr (1, [.int (30), .int (20), .int (3)]) := by rw [ec, va_up_ne _ _ (by decide)]; exact h_1370
                      have h_1428 : cw_1377 23 = .inr (1, [.int (30), .int (20), .int (3)]) := by rw [ec, va_up_ne _ _ (by decide)]; exact h_1371
                      have h_1429 : cw_1377 24 = .inr (1, [.int (30), .int (20), .int (3)]) := by rw [ec, va_up_ne _ _ (by decide)]; exact h_1372
                      have h_1430 : cw_1377 25 = .inr (1, [.int (30), .int (20), .int (3)]) := by rw [ec, va_up_ne _ _ (by decide)]; exact h_1373
                      have h_1431 : cw_1377 26 = .inr (1, [.int (0), .int (0), .int (0)]) := by rw [ec]; exact va_up_self _ _ _
                      clear eb ec
                      clear a_1295 a_1296 a_1297 a_1298 a_1299 a_1300 a_1301 a_1302 a_1303 a_1304 a_1305 a_1306 a_1307 a_1308 a_1309 a_1310 a_1311 a_1312 a_1313 a_1314 a_1315 a_1316 a_1317 a_1318 a_1319 a_1320 h_1348 h_1349 h_1350 h_1351 h_1352 h_1353 h_1354 h_1355 h_1356 h_1357 h_1358 h_1359 h_1360 h_1361 h_1362 h_1363 h_1364 h_1365 h_1366 h_1367 h_1368 h_1369 h_1370 h_1371 h_1372 h_1373
                      refine lv_dup hx hb d_X_init_103 rfl ?_
                      refine pw_callv (va_runIN (As := []) (rest := [.ref (q_1375), .int (9), .ref (q_1)]) ⟨hx, hb, hml, hown, hw⟩ (c_U_init l D cs 27 bk_1376 cw_1377 H.size 26 (by decide) q_1375 a_1404 h_1431) (cw_IN 0 hw (kN_X_54 hN) kI_U_init kZ_U kC_U_init rfl rfl rfl ⟨by decide, by decide, by decide +kernel⟩ ⟨Nat.le_of_ble_eq_true rfl, Nat.le_of_ble_eq_true rfl⟩) (pw_preS hN hK hP hD) rfl rfl hl.1 rfl (lv_room (Nat.le_of_ble_eq_true rfl)) d_X_init_104 ⟨Nat.le_of_ble_eq_true rfl, Nat.le_of_ble_eq_true rfl⟩) hS (wl_free hD hS hA) (fun N1 bk1 cw1 H locs hu hP hD hS => ?_)
                      obtain ⟨z_0, z_1, z_2, z_3⟩ := hu
                      dsimp only at z_0 z_1 z_2 z_3
                      subst z_0
                      skip
                      skip
                      skip
                      skip
                      replace hP : va_P D classes (wl 27 bk1 cw1) H := hP
                      replace hD : va_D (AA 1 bk sz) (wl 27 bk1 cw1) := hD
                      have a_1436 : bk1 0 = h0 := (z_1 0 (by decide)).trans a_1378
                      have a_1437 : bk1 1 = q_1 := (z_1 1 (by decide)).trans a_1379
                      have a_1438 : bk1 2 = q_11 := (z_1 2 (by decide)).trans a_1380
                      have a_1439 : bk1 3 = q_24 := (z_1 3 (by decide)).trans a_1381
                      have a_1440 : bk1 4 = q_45 := (z_1 4 (by decide)).trans a_1382
                      have a_1441 : bk1 5 = q_71 := (z_1 5 (by decide)).trans a_1383
                      have a_1442 : bk1 6 = q_73 := (z_1 6 (by decide)).trans a_1384
                      have a_1443 : bk1 7 = q_86 := (z_1 7 (by decide)).trans a_1385
                      have a_1444 : bk1 8 = q_124 := (z_1 8 (by decide)).trans a_1386
                      have a_1445 : bk1 9 = q_126 := (z_1 9 (by decide)).trans a_1387
                      have a_1446 : bk1 10 = q_142 := (z_1 10 (by decide)).trans a_1388
                      have a_1447 : bk1 11 = q_192 := (z_1 11 (by decide)).trans a_1389
                      have a_1448 : bk1 12 = q_194 := (z_1 12 (by decide)).trans a_1390
                      have a_1449 : bk1 13 = q_213 := (z_1 13 (by decide)).trans a_1391
                      have a_1450 : bk1 14 = q_275 := (z_1 14 (by decide)).trans a_1392
                      have a_1451 : bk1 15 = q_277 := (z_1 15 (by decide)).trans a_1393
                      have a_1452 : bk1 16 = q_279 := (z_1 16 (by decide)).trans a_1394
                      have a_1453 : bk1 17 = q_304 := (z_1 17 (by decide)).trans a_1395
                      have a_1454 : bk1 18 = q_403 := (z_1 18 (by decide)).trans a_1396
                      have a_1455 : bk1 19 = q_507 := (z_1 19 (by decide)).trans a_1397
                      have a_1456 : bk1 20 = q_616 := (z_1 20 (by decide)).trans a_1398
                      have a_1457 : bk1 21 = q_730 := (z_1 21 (by decide)).trans a_1399
                      have a_1458 : bk1 22 = q_849 := (z_1 22 (by decide)).trans a_1400
                      have a_1459 : bk1 23 = q_973 := (z_1 23 (by decide)).trans a_1401
                      have a_1460 : bk1 24 = q_1102 := (z_1 24 (by decide)).trans a_1402
                      have a_1461 : bk1 25 = q_1236 := (z_1 25 (by decide)).trans a_1403
                      have a_1462 : bk1 26 = q_1375 := (z_1 26 (by decide)).trans a_1404
                      have h_1463 : cw1 0 = .inr (0, [.ref (q_1), .ref (q_11), .ref (q_24), .int (0), .ref (q_45), .ref (q_86), .ref (q_142), .ref (q_213)]) := (z_2 0 (by decide) (by decide)).trans h_1405
                      have h_1464 : cw1 1 = .inl (cs 2, 10, .inr (.inr (.inr (.inr (va_up (va_up (va_up (va_up (va_up (va_up (va_up (va_up (va_up (fun _ => none) (0) (some (q_304))) (1) (some (q_403))) (2) (some (q_507))) (3) (some (q_616))) (4) (some (q_730))) (5) (some (q_849))) (6) (some (q_973))) (7) (some (q_1102))) (8) (some (q_1236))))))) := (z_2 1 (by decide) (by decide)).trans h_1406
                      have h_1465 : cw1 2 = .inl (cs 3, 200, .inr (.inr (.inr (.inr (fun _ => none))))) := (z_2 2 (by decide) (by decide)).trans h_1407
                      have h_1466 : cw1 3 = .inl (cs 3, 200, .inr (.inr (.inr (.inr (fun _ => none))))) := (z_2 3 (by decide) (by decide)).trans h_1408
                      have h_1467 : cw1 4 = .inr (4, [.ref (q_71), .ref (q_73), .int (0)]) := (z_2 4 (by decide) (by decide)).trans h_1409
                      have h_1468 : cw1 5 = .inl (cs 0, 200, .inl (fun _ => 0)) := (z_2 5 (by decide) (by decide)).trans h_1410
                      have h_1469 : cw1 6 = .inl (cs 0, 200, .inl (fun _ => 0)) := (z_2 6 (by decide) (by decide)).trans h_1411
                      have h_1470 : cw1 7 = .inr (4, [.ref (q_124), .ref (q_126), .int (0)]) := (z_2 7 (by decide) (by decide)).trans h_1412
                      have h_1471 : cw1 8 = .inl (cs 0, 100, .inl (fun _ => 0)) := (z_2 8 (by decide) (by decide)).trans h_1413
                      have h_1472 : cw1 9 = .inl (cs 0, 100, .inl (fun _ => 0)) := (z_2 9 (by decide) (by decide)).trans h_1414
                      have h_1473 : cw1 10 = .inr (5, [.ref (q_192), .ref (q_194), .int (0)]) := (z_2 10 (by decide) (by decide)).trans h_1415
                      have h_1474 : cw1 11 = .inl (cs 0, 200, .inl (fun _ => 0)) := (z_2 11 (by decide) (by decide)).trans h_1416
                      have h_1475 : cw1 12 = .inl (cs 0, 41, .inl (fun _ => 0)) := (z_2 12 (by decide) (by decide)).trans h_1417
                      have h_1476 : cw1 13 = .inr (6, [.ref (q_275), .ref (q_277), .ref (q_279), .int (0)]) := (z_2 13 (by decide) (by decide)).trans h_1418
                      have h_1477 : cw1 14 = .inl (cs 0, 200, .inl (fun _ => 0)) := (z_2 14 (by decide) (by decide)).trans h_1419
                      have h_1478 : cw1 15 = .inl (cs 0, 200, .inl (fun _ => 0)) := (z_2 15 (by decide) (by decide)).trans h_1420
                      have h_1479 : cw1 16 = .inl (cs 0, 200, .inl (fun _ => 0)) := (z_2 16 (by decide) (by decide)).trans h_1421
                      have h_1480 : cw1 17 = .inr (1, [.int (30), .int (20), .int (3)]) := (z_2 17 (by decide) (by decide)).trans h_1422
                      have h_1481 : cw1 18 = .inr (1, [.int (30), .int (20), .int (3)]) := (z_2 18 (by decide) (by decide)).trans h_1423
                      have h_1482 : cw1 19 = .inr (1, [.int (30), .int (20), .int (3)]) := (z_2 19 (by decide) (by decide)).trans h_1424
                      have h_1483 : cw1 20 = .inr (1, [.int (30), .int (20), .int (3)]) := (z_2 20 (by decide) (by decide)).trans h_1425
                      have h_1484 : cw1 21 = .inr (1, [.int (30), .int (20), .int (3)]) := (z_2 21 (by decide) (by decide)).trans h_1426
                      have h_1485 : cw1 22 = .inr (1, [.int (30), .int (20), .int (3)]) := (z_2 22 (by decide) (by decide)).trans h_1427
                      have h_1486 : cw1 23 = .inr (1, [.int (30), .int (20), .int (3)]) := (z_2 23 (by decide) (by decide)).trans h_1428
                      have h_1487 : cw1 24 = .inr (1, [.int (30), .int (20), .int (3)]) := (z_2 24 (by decide) (by decide)).trans h_1429
                      have h_1488 : cw1 25 = .inr (1, [.int (30), .int (20), .int (3)]) := (z_2 25 (by decide) (by decide)).trans h_1430
                      have h_1489 : cw1 26 = .inr (1, [.int 30, .int 20, .int 3]) := by exact z_3
                      clear z_1 z_2 z_3
                      clear a_1378 a_1379 a_1380 a_1381 a_1382 a_1383 a_1384 a_1385 a_1386 a_1387 a_1388 a_1389 a_1390 a_1391 a_1392 a_1393 a_1394 a_1395 a_1396 a_1397 a_1398 a_1399 a_1400 a_1401 a_1402 a_1403 a_1404 h_1405 h_1406 h_1407 h_1408 h_1409 h_1410 h_1411 h_1412 h_1413 h_1414 h_1415 h_1416 h_1417 h_1418 h_1419 h_1420 h_1421 h_1422 h_1423 h_1424 h_1425 h_1426 h_1427 h_1428 h_1429 h_1430 h_1431
                      refine pw_astqA (n := 10) (f := (va_up (va_up (va_up (va_up (va_up (va_up (va_up (va_up (va_up (fun _ => none) (0) (some (q_304))) (1) (some (q_403))) (2) (some (q_507))) (3) (some (q_616))) (4) (some (q_730))) (5) (some (q_849))) (6) (some (q_973))) (7) (some (q_1102))) (8) (some (q_1236)))) hx hb hK hP hD hS 2 (1) (by decide) a_1437 h_1464 rfl (26) (by decide) a_1462 h_1489 rfl (9) rfl (by decide) (by decide) d_X_init_107 (fun cw_1490 H locs ecw_1490 hP hD hS => ?_)
                      have h_1491 : cw_1490 (0) = .inr (0, [.ref (q_1), .ref (q_11), .ref (q_24), .int (0), .ref (q_45), .ref (q_86), .ref (q_142), .ref (q_213)]) := by rw [ecw_1490, va_up_ne _ _ (by decide)]; exact h_1463
                      have h_1492 : cw_1490 (1) = .inl (cs 2, 10, .inr (.inr (.inr (.inr (va_up (va_up (va_up (va_up (va_up (va_up (va_up (va_up (va_up (va_up (fun _ => none) (0) (some (q_304))) (1) (some (q_403))) (2) (some (q_507))) (3) (some (q_616))) (4) (some (q_730))) (5) (some (q_849))) (6) (some (q_973))) (7) (some (q_1102))) (8) (some (q_1236))) (9) (some (q_1375))))))) := by rw [ecw_1490]; exact va_up_self _ _ _
                      have h_1493 : cw_1490 (2) = .inl (cs 3, 200, .inr (.inr (.inr (.inr (fun _ => none))))) := by rw [ecw_1490, va_up_ne _ _ (by decide)]; exact h_1465
                      have h_1494 : cw_1490 (3) = .inl (cs 3, 200, .inr (.inr (.inr (.inr (fun _ => none))))) := by rw [ecw_1490, va_up_ne _ _ (by decide)]; exact h_1466
                      have h_1495 : cw_1490 (4) = .inr (4, [.ref (q_71), .ref (q_73), .int (0)]) := by rw [ecw_1490, va_up_ne _ _ (by decide)]; exact h_1467
                      have h_1496 : cw_1490 (5) = .inl (cs 0, 200, .inl (fun _ => 0)) := by rw [ecw_1490, va_up_ne _ _ (by decide)]; exact h_1468
                      have h_1497 : cw_1490 (6) = .inl (cs 0, 200, .inl (fun _ => 0)) := by rw [ecw_1490, va_up_ne _ _ (by decide)]; exact h_1469
                      have h_1498 : cw_1490 (7) = .inr (4, [.ref (q_124), .ref (q_126), .int (0)]) := by rw [ecw_1490, va_up_ne _ _ (by decide)]; exact h_1470
                      have h_1499 : cw_1490 (8) = .inl (cs 0, 100, .inl (fun _ => 0)) := by rw [ecw_1490, va_up_ne _ _ (by decide)]; exact h_1471
                      have h_1500 : cw_1490 (9) = .inl (cs 0, 100, .inl (fun _ => 0)) := by rw [ecw_1490, va_up_ne _ _ (by decide)]; exact h_1472
                      have h_1501 : cw_1490 (10) = .inr (5, [.ref (q_192), .ref (q_194), .int (0)]) := by rw [ecw_1490, va_up_ne _ _ (by decide)]; exact h_1473
                      have h_1502 : cw_1490 (11) = .inl (cs 0, 200, .inl (fun _ => 0)) := by rw [ecw_1490, va_up_ne _ _ (by decide)]; exact h_1474
                      have h_1503 : cw_1490 (12) = .inl (cs 0, 41, .inl (fun _ => 0)) := by rw [ecw_1490, va_up_ne _ _ (by decide)]; exact h_1475
                      have h_1504 : cw_1490 (13) = .inr (6, [.ref (q_275), .ref (q_277), .ref (q_279), .int (0)]) := by rw [ecw_1490, va_up_ne _ _ (by decide)]; exact h_1476
                      have h_1505 : cw_1490 (14) = .inl (cs 0, 200, .inl (fun _ => 0)) := by rw [ecw_1490, va_up_ne _ _ (by decide)]; exact h_1477
                      have h_1506 : cw_1490 (15) = .inl (cs 0, 200, .inl (fun _ => 0)) := by rw [ecw_1490, va_up_ne _ _ (by decide)]; exact h_1478
                      have h_1507 : cw_1490 (16) = .inl (cs 0, 200, .inl (fun _ => 0)) := by rw [ecw_1490, va_up_ne _ _ (by decide)]; exact h_1479
                      have h_1508 : cw_1490 (17) = .inr (1, [.int (30), .int (20), .int (3)]) := by rw [ecw_1490, va_up_ne _ _ (by decide)]; exact h_1480
                      have h_1509 : cw_1490 (18) = .inr (1, [.int (30), .int (20), .int (3)]) := by rw [ecw_1490, va_up_ne _ _ (by decide)]; exact h_1481
                      have h_1510 : cw_1490 (19) = .inr (1, [.int (30), .int (20), .int (3)]) := by rw [ecw_1490, va_up_ne _ _ (by decide)]; exact h_1482
                      have h_1511 : cw_1490 (20) = .inr (1, [.int (30), .int (20), .int (3)]) := by rw [ecw_1490, va_up_ne _ _ (by decide)]; exact h_1483
                      have h_1512 : cw_1490 (21) = .inr (1, [.int (30), .int (20), .int (3)]) := by rw [ecw_1490, va_up_ne _ _ (by decide)]; exact h_1484
                      have h_1513 : cw_1490 (22) = .inr (1, [.int (30), .int (20), .int (3)]) := by rw [ecw_1490, va_up_ne _ _ (by decide)]; exact h_1485
                      have h_1514 : cw_1490 (23) = .inr (1, [.int (30), .int (20), .int (3)]) := by rw [ecw_1490, va_up_ne _ _ (by decide)]; exact h_1486
                      have h_1515 : cw_1490 (24) = .inr (1, [.int (30), .int (20), .int (3)]) := by rw [ecw_1490, va_up_ne _ _ (by decide)]; exact h_1487
                      have h_1516 : cw_1490 (25) = .inr (1, [.int (30), .int (20), .int (3)]) := by rw [ecw_1490, va_up_ne _ _ (by decide)]; exact h_1488
                      have h_1517 : cw_1490 (26) = .inr (1, [.int (30), .int (20), .int (3)]) := by rw [ecw_1490, va_up_ne _ _ (by decide)]; exact h_1489
                      clear ecw_1490
                      clear h_1463 h_1464 h_1465 h_1466 h_1467 h_1468 h_1469 h_1470 h_1471 h_1472 h_1473 h_1474 h_1475 h_1476 h_1477 h_1478 h_1479 h_1480 h_1481 h_1482 h_1483 h_1484 h_1485 h_1486 h_1487 h_1488 h_1489
                      refine lv_iinc (v := 10) (lv' := [(1, .int (10)), (0, .ref (h0))]) hx hb d_X_init_108 hl (k := 0) rfl (by decide) (by decide) rfl (fun ls hl => ?_)
                      refine lv_goto (tgt := 89) hx hb d_X_init_111 (by decide) ?_
                      refine lv_iload_n hx hb d_X_init_89 rfl (lv_at hl 0 rfl) ?_
                      refine lv_bipush (v := 10) hx hb d_X_init_90 (by decide) ?_
                      refine lv_icmp_ge (tgt := 114) hx hb d_X_init_92 (by decide) (fun c_1518 => ?_) (fun c_1518 => ?_)
                      · skip
                        exact W.vret hx hb hr (fun t ht hW => ⟨⟨(27, bk1, cw_1490), rfl, ⟨rfl, a_1436, by show cw_1490 0 = .inr (0, [.ref (bk1 (1)), .ref (bk1 (2)), .ref (bk1 (3)), .int 0, .ref (bk1 (4)), .ref (bk1 (7)), .ref (bk1 (10)), .ref (bk1 (13))]); rw [a_1437, a_1438, a_1439, a_1440, a_1443, a_1446, a_1449]; exact h_1491, by show cw_1490 1 = .inl (cs 2, 10, .inr (.inr (.inr (.inr (va_up (va_up (va_up (va_up (va_up (va_up (va_up (va_up (va_up (va_up (fun _ => none) (0) (some (bk1 (17)))) (1) (some (bk1 (18)))) (2) (some (bk1 (19)))) (3) (some (bk1 (20)))) (4) (some (bk1 (21)))) (5) (some (bk1 (22)))) (6) (some (bk1 (23)))) (7) (some (bk1 (24)))) (8) (some (bk1 (25)))) (9) (some (bk1 (26)))))))); rw [a_1453, a_1454, a_1455, a_1456, a_1457, a_1458, a_1459, a_1460, a_1461, a_1462]; exact h_1492, h_1493, h_1494, by show cw_1490 4 = .inr (4, [.ref (bk1 (5)), .ref (bk1 (6)), .int 0]); rw [a_1441, a_1442]; exact h_1495, h_1496, h_1497, by show cw_1490 7 = .inr (4, [.ref (bk1 (8)), .ref (bk1 (9)), .int 0]); rw [a_1444, a_1445]; exact h_1498, h_1499, h_1500, by show cw_1490 10 = .inr (5, [.ref (bk1 (11)), .ref (bk1 (12)), .int 0]); rw [a_1447, a_1448]; exact h_1501, h_1502, h_1503, by show cw_1490 13 = .inr (6, [.ref (bk1 (14)), .ref (bk1 (15)), .ref (bk1 (16)), .int 0]); rw [a_1450, a_1451, a_1452]; exact h_1504, h_1505, h_1506, h_1507, h_1508, h_1509, h_1510, h_1511, h_1512, h_1513, h_1514, h_1515, h_1516, h_1517⟩, by rw [ht]; exact hP, va_K.moved hW.alike hK, hD⟩, hS.F ht⟩) hS.2.2 d_X_init_114
                      · exact absurd c_1518 (by decide)

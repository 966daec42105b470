set_option maxHeartbeats 4000000 in
set_option maxRecDepth 100000 in
theorem c_M_init (l : Launch) (D : va_G) (cs : Nat → ClassId) (bk : Nat → Nat) (cw : Nat → va_E) (sz : Nat) (h0 : Nat) (ha0 : bk 0 = h0) (he0 : cw 0 = .inr (7, [.int (0), .null, .null, .null, .int (0), .null, .null, .null, .null, .null, .null, .null, .null, .null, .null, .null, .null, .null, .null, .null, .null, .null, .int (0), .null, .null, .int (0), .int (0), .null, .null, .null, .int (0), .null, .null])) : Met l y_M_init w_M_init ({ frames := 1, cells := 27, slots := 7430, locals := 12 }) (va_Pc [.ref h0] (PB D classes (TY cs) 1 bk cw sz)) (va_Qv (fun u : Wt => u.1 = 28 ∧ u.2.1 0 = h0 ∧ u.2.2 0 = .inr (7, [.int 0, .ref (u.2.1 (1)), .ref (u.2.1 (2)), .ref (u.2.1 (3)), .int 0, .ref (u.2.1 (4)), .ref (u.2.1 (5)), .ref (u.2.1 (6)), .ref (u.2.1 (7)), .ref (u.2.1 (8)), .ref (u.2.1 (9)), .ref (u.2.1 (10)), .ref (u.2.1 (11)), .ref (u.2.1 (12)), .ref (u.2.1 (13)), .ref (u.2.1 (14)), .ref (u.2.1 (15)), .ref (u.2.1 (16)), .ref (u.2.1 (17)), .ref (u.2.1 (18)), .ref (u.2.1 (19)), .ref (u.2.1 (20)), .int 0, .ref (u.2.1 (21)), .ref (u.2.1 (22)), .int 0, .int 0, .ref (u.2.1 (23)), .ref (u.2.1 (24)), .ref (u.2.1 (25)), .int 0, .ref (u.2.1 (26)), .ref (u.2.1 (27))]) ∧ u.2.2 1 = .inl (cs 0, 10, .inl (upd (upd (upd (upd (upd (upd (upd (upd (upd (upd (fun _ => 0) (0) (30)) (1) (30)) (2) (30)) (3) (30)) (4) (30)) (5) (30)) (6) (30)) (7) (30)) (8) (30)) (9) (30))) ∧ u.2.2 2 = .inl (cs 0, 10, .inl (upd (upd (upd (upd (upd (upd (upd (upd (upd (upd (fun _ => 0) (0) (20)) (1) (20)) (2) (20)) (3) (20)) (4) (20)) (5) (20)) (6) (20)) (7) (20)) (8) (20)) (9) (20))) ∧ u.2.2 3 = .inl (cs 0, 10, .inl (upd (upd (upd (upd (upd (upd (upd (upd (upd (upd (fun _ => 0) (0) (3)) (1) (3)) (2) (3)) (3) (3)) (4) (3)) (5) (3)) (6) (3)) (7) (3)) (8) (3)) (9) (3))) ∧ u.2.2 4 = .inl (cs 0, 200, .inl (fun _ => 0)) ∧ u.2.2 5 = .inl (cs 0, 200, .inl (fun _ => 0)) ∧ u.2.2 6 = .inl (cs 0, 200, .inl (fun _ => 0)) ∧ u.2.2 7 = .inl (cs 0, 200, .inl (fun _ => 0)) ∧ u.2.2 8 = .inl (cs 0, 200, .inl (fun _ => 0)) ∧ u.2.2 9 = .inl (cs 0, 200, .inl (fun _ => 0)) ∧ u.2.2 10 = .inl (cs 0, 200, .inl (fun _ => 0)) ∧ u.2.2 11 = .inl (cs 0, 200, .inl (fun _ => 0)) ∧ u.2.2 12 = .inl (cs 0, 200, .inl (fun _ => 0)) ∧ u.2.2 13 = .inl (cs 0, 200, .inl (fun _ => 0)) ∧ u.2.2 14 = .inl (cs 0, 200, .inl (fun _ => 0)) ∧ u.2.2 15 = .inl (cs 1, 200, .inl (fun _ => 0)) ∧ u.2.2 16 = .inl (cs 0, 200, .inl (fun _ => 0)) ∧ u.2.2 17 = .inl (cs 0, 1600, .inl (fun _ => 0)) ∧ u.2.2 18 = .inl (cs 0, 1600, .inl (fun _ => 0)) ∧ u.2.2 19 = .inl (cs 0, 200, .inl (fun _ => 0)) ∧ u.2.2 20 = .inl (cs 0, 200, .inl (fun _ => 0)) ∧ u.2.2 21 = .inl (cs 0, 200, .inl (fun _ => 0)) ∧ u.2.2 22 = .inl (cs 0, 200, .inl (fun _ => 0)) ∧ u.2.2 23 = .inl (cs 0, 200, .inl (fun _ => 0)) ∧ u.2.2 24 = .inl (cs 0, 200, .inl (fun _ => 0)) ∧ u.2.2 25 = .inl (cs 0, 200, .inl (fun _ => 0)) ∧ u.2.2 26 = .inl (cs 0, 100, .inl (fun _ => 0)) ∧ u.2.2 27 = .inl (cs 0, 100, .inl (fun _ => 0))) (Wd D classes (TY cs) (AA 1 bk sz)) (AA 1 bk sz)) 27 7430 (AA 1 bk sz) := by
  refine pw_entry (cc := b_M_init) (maxL := 2) (ret := none) (by decide +kernel) rfl (Nat.le_of_ble_eq_true rfl) ?_
  intro p_ e_ s m below_ meth_ c_ ls hx hb hr hml hts hown hlocks hin hsz hP hK hD hS hA hN hl
  have hw : ∀ w ∈ WA, w.before _ s = true := fun w h => hts w (List.mem_cons_of_mem _ h)
  have hown : s.vm.findClass "IssueRowsModel" = some m.cls := hown
  have hl : lv_has ls 2 [(0, .ref (h0))] := hl
  refine lv_aload_n hx hb d_M_init_0 rfl (lv_at hl 0 rfl) ?_
  refine W.objInit hx hb hown (hw _ kM_M_1) (hw _ kI_O_init) (hw _ kC_O_init) rfl (by rw [hml]; exact hl.1) rfl d_M_init_1 (Nat.le_of_ble_eq_true rfl) (Nat.le_of_ble_eq_true rfl) ?_
  refine W.eq (g2 := F0 m 4 ls []) rfl ?_
  refine lv_aload_n hx hb d_M_init_4 rfl (lv_at hl 0 rfl) ?_
  refine lv_bipush (v := 10) hx hb d_M_init_5 (by decide) ?_
  refine pw_newa (atype := .int) hx hb (hw _ kR_int) rfl hK hP hD hS hA 0 rfl 10 rfl (by decide) (Nat.le_of_ble_eq_true rfl) (Nat.le_of_ble_eq_true rfl) d_M_init_7 (fun q_1 H hP hD hS => ?_)
  obtain ⟨bk_2, eb⟩ : ∃ x, x = va_up bk 1 q_1 := ⟨_, rfl⟩
  obtain ⟨cw_3, ec⟩ : ∃ x, x = va_up cw 1 (.inl (cs 0, 10, .inl (fun _ => 0))) := ⟨_, rfl⟩
  replace hP : va_P D classes (wl 2 bk_2 cw_3) H := by rw [eb, ec]; exact hP
  replace hD : va_D (AA 1 bk sz) (wl 2 bk_2 cw_3) := by rw [eb, ec]; exact hD
  have a_4 : bk_2 0 = h0 := by rw [eb, va_up_ne _ _ (by decide)]; exact ha0
  have a_5 : bk_2 1 = q_1 := by rw [eb]; exact va_up_self _ _ _
  have h_6 : cw_3 0 = .inr (7, [.int (0), .null, .null, .null, .int (0), .null, .null, .null, .null, .null, .null, .null, .null, .null, .null, .null, .null, .null, .null, .null, .null, .null, .int (0), .null, .null, .int (0), .int (0), .null, .null, .null, .int (0), .null, .null]) := by rw [ec, va_up_ne _ _ (by decide)]; exact he0
  have h_7 : cw_3 1 = .inl (cs 0, 10, .inl (fun _ => 0)) := by rw [ec]; exact va_up_self _ _ _
  clear eb ec
  refine pw_putFA (ci := 7) (v := .ref (q_1)) (ty := (t_M 1)) (fs' := [.int (0), .ref (q_1), .null, .null, .int (0), .null, .null, .null, .null, .null, .null, .null, .null, .null, .null, .null, .null, .null, .null, .null, .null, .null, .int (0), .null, .null, .int (0), .int (0), .null, .null, .null, .int (0), .null, .null]) hx hb hw i_M t_M t_M_ok n_M hown hK hP hD hS (0) (by decide) a_4 h_6 rfl 1 (by decide) (hw _ kF_M_7) rfl hin rfl (t_M_ok 1 (by decide)) rfl rfl (Nat.le_of_ble_eq_true rfl) rfl d_M_init_9 (fun cw_8 H locs ecw_8 hP hD hS => ?_)
  have h_9 : cw_8 (0) = .inr (7, [.int (0), .ref (q_1), .null, .null, .int (0), .null, .null, .null, .null, .null, .null, .null, .null, .null, .null, .null, .null, .null, .null, .null, .null, .null, .int (0), .null, .null, .int (0), .int (0), .null, .null, .null, .int (0), .null, .null]) := by rw [ecw_8]; exact va_up_self _ _ _
  have h_10 : cw_8 (1) = .inl (cs 0, 10, .inl (fun _ => 0)) := by rw [ecw_8, va_up_ne _ _ (by decide)]; exact h_7
  clear ecw_8
  clear h_6 h_7
  refine lv_aload_n hx hb d_M_init_12 rfl (lv_at hl 0 rfl) ?_
  refine lv_bipush (v := 10) hx hb d_M_init_13 (by decide) ?_
  refine pw_newa (atype := .int) hx hb (hw _ kR_int) rfl hK hP hD hS hA 0 rfl 10 rfl (by decide) (Nat.le_of_ble_eq_true rfl) (Nat.le_of_ble_eq_true rfl) d_M_init_15 (fun q_11 H hP hD hS => ?_)
  obtain ⟨bk_12, eb⟩ : ∃ x, x = va_up bk_2 2 q_11 := ⟨_, rfl⟩
  obtain ⟨cw_13, ec⟩ : ∃ x, x = va_up cw_8 2 (.inl (cs 0, 10, .inl (fun _ => 0))) := ⟨_, rfl⟩
  replace hP : va_P D classes (wl 3 bk_12 cw_13) H := by rw [eb, ec]; exact hP
  replace hD : va_D (AA 1 bk sz) (wl 3 bk_12 cw_13) := by rw [eb, ec]; exact hD
  have a_14 : bk_12 0 = h0 := by rw [eb, va_up_ne _ _ (by decide)]; exact a_4
  have a_15 : bk_12 1 = q_1 := by rw [eb, va_up_ne _ _ (by decide)]; exact a_5
  have a_16 : bk_12 2 = q_11 := by rw [eb]; exact va_up_self _ _ _
  have h_17 : cw_13 0 = .inr (7, [.int (0), .ref (q_1), .null, .null, .int (0), .null, .null, .null, .null, .null, .null, .null, .null, .null, .null, .null, .null, .null, .null, .null, .null, .null, .int (0), .null, .null, .int (0), .int (0), .null, .null, .null, .int (0), .null, .null]) := by rw [ec, va_up_ne _ _ (by decide)]; exact h_9
  have h_18 : cw_13 1 = .inl (cs 0, 10, .inl (fun _ => 0)) := by rw [ec, va_up_ne _ _ (by decide)]; exact h_10
  have h_19 : cw_13 2 = .inl (cs 0, 10, .inl (fun _ => 0)) := by rw [ec]; exact va_up_self _ _ _
  clear eb ec
  clear a_4 a_5 h_9 h_10
  refine pw_putFA (ci := 7) (v := .ref (q_11)) (ty := (t_M 2)) (fs' := [.int (0), .ref (q_1), .ref (q_11), .null, .int (0), .null, .null, .null, .null, .null, .null, .null, .null, .null, .null, .null, .null, .null, .null, .null, .null, .null, .int (0), .null, .null, .int (0), .int (0), .null, .null, .null, .int (0), .null, .null]) hx hb hw i_M t_M t_M_ok n_M hown hK hP hD hS (0) (by decide) a_14 h_17 rfl 2 (by decide) (hw _ kF_M_13) rfl hin rfl (t_M_ok 2 (by decide)) rfl rfl (Nat.le_of_ble_eq_true rfl) rfl d_M_init_17 (fun cw_20 H locs ecw_20 hP hD hS => ?_)
  have h_21 : cw_20 (0) = .inr (7, [.int (0), .ref (q_1), .ref (q_11), .null, .int (0), .null, .null, .null, .null, .null, .null, .null, .null, .null, .null, .null, .null, .null, .null, .null, .null, .null, .int (0), .null, .null, .int (0), .int (0), .null, .null, .null, .int (0), .null, .null]) := by rw [ecw_20]; exact va_up_self _ _ _
  have h_22 : cw_20 (1) = .inl (cs 0, 10, .inl (fun _ => 0)) := by rw [ecw_20, va_up_ne _ _ (by decide)]; exact h_18
  have h_23 : cw_20 (2) = .inl (cs 0, 10, .inl (fun _ => 0)) := by rw [ecw_20, va_up_ne _ _ (by decide)]; exact h_19
  clear ecw_20
  clear h_17 h_18 h_19
  refine lv_aload_n hx hb d_M_init_20 rfl (lv_at hl 0 rfl) ?_
  refine lv_bipush (v := 10) hx hb d_M_init_21 (by decide) ?_
  refine pw_newa (atype := .int) hx hb (hw _ kR_int) rfl hK hP hD hS hA 0 rfl 10 rfl (by decide) (Nat.le_of_ble_eq_true rfl) (Nat.le_of_ble_eq_true rfl) d_M_init_23 (fun q_24 H hP hD hS => ?_)
  obtain ⟨bk_25, eb⟩ : ∃ x, x = va_up bk_12 3 q_24 := ⟨_, rfl⟩
  obtain ⟨cw_26, ec⟩ : ∃ x, x = va_up cw_20 3 (.inl (cs 0, 10, .inl (fun _ => 0))) := ⟨_, rfl⟩
  replace hP : va_P D classes (wl 4 bk_25 cw_26) H := by rw [eb, ec]; exact hP
  replace hD : va_D (AA 1 bk sz) (wl 4 bk_25 cw_26) := by rw [eb, ec]; exact hD
  have a_27 : bk_25 0 = h0 := by rw [eb, va_up_ne _ _ (by decide)]; exact a_14
  have a_28 : bk_25 1 = q_1 := by rw [eb, va_up_ne _ _ (by decide)]; exact a_15
  have a_29 : bk_25 2 = q_11 := by rw [eb, va_up_ne _ _ (by decide)]; exact a_16
  have a_30 : bk_25 3 = q_24 := by rw [eb]; exact va_up_self _ _ _
  have h_31 : cw_26 0 = .inr (7, [.int (0), .ref (q_1), .ref (q_11), .null, .int (0), .null, .null, .null, .null, .null, .null, .null, .null, .null, .null, .null, .null, .null, .null, .null, .null, .null, .int (0), .null, .null, .int (0), .int (0), .null, .null, .null, .int (0), .null, .null]) := by rw [ec, va_up_ne _ _ (by decide)]; exact h_21
  have h_32 : cw_26 1 = .inl (cs 0, 10, .inl (fun _ => 0)) := by rw [ec, va_up_ne _ _ (by decide)]; exact h_22
  have h_33 : cw_26 2 = .inl (cs 0, 10, .inl (fun _ => 0)) := by rw [ec, va_up_ne _ _ (by decide)]; exact h_23
  have h_34 : cw_26 3 = .inl (cs 0, 10, .inl (fun _ => 0)) := by rw [ec]; exact va_up_self _ _ _
  clear eb ec
  clear a_14 a_15 a_16 h_21 h_22 h_23
  refine pw_putFA (ci := 7) (v := .ref (q_24)) (ty := (t_M 3)) (fs' := [.int (0), .ref (q_1), .ref (q_11), .ref (q_24), .int (0), .null, .null, .null, .null, .null, .null, .null, .null, .null, .null, .null, .null, .null, .null, .null, .null, .null, .int (0), .null, .null, .int (0), .int (0), .null, .null, .null, .int (0), .null, .null]) hx hb hw i_M t_M t_M_ok n_M hown hK hP hD hS (0) (by decide) a_27 h_31 rfl 3 (by decide) (hw _ kF_M_16) rfl hin rfl (t_M_ok 3 (by decide)) rfl rfl (Nat.le_of_ble_eq_true rfl) rfl d_M_init_25 (fun cw_35 H locs ecw_35 hP hD hS => ?_)
  have h_36 : cw_35 (0) = .inr (7, [.int (0), .ref (q_1), .ref (q_11), .ref (q_24), .int (0), .null, .null, .null, .null, .null, .null, .null, .null, .null, .null, .null, .null, .null, .null, .null, .null, .null, .int (0), .null, .null, .int (0), .int (0), .null, .null, .null, .int (0), .null, .null]) := by rw [ecw_35]; exact va_up_self _ _ _
  have h_37 : cw_35 (1) = .inl (cs 0, 10, .inl (fun _ => 0)) := by rw [ecw_35, va_up_ne _ _ (by decide)]; exact h_32
  have h_38 : cw_35 (2) = .inl (cs 0, 10, .inl (fun _ => 0)) := by rw [ecw_35, va_up_ne _ _ (by decide)]; exact h_33
  have h_39 : cw_35 (3) = .inl (cs 0, 10, .inl (fun _ => 0)) := by rw [ecw_35, va_up_ne _ _ (by decide)]; exact h_34
  clear ecw_35
  clear h_31 h_32 h_33 h_34
  refine lv_aload_n hx hb d_M_init_28 rfl (lv_at hl 0 rfl) ?_
  refine lv_sipush (v := 200) hx hb d_M_init_29 (by decide) ?_
  refine pw_newa (atype := .int) hx hb (hw _ kR_int) rfl hK hP hD hS hA 0 rfl 200 rfl (by decide) (Nat.le_of_ble_eq_true rfl) (Nat.le_of_ble_eq_true rfl) d_M_init_32 (fun q_40 H hP hD hS => ?_)
  obtain ⟨bk_41, eb⟩ : ∃ x, x = va_up bk_25 4 q_40 := ⟨_, rfl⟩
  obtain ⟨cw_42, ec⟩ : ∃ x, x = va_up cw_35 4 (.inl (cs 0, 200, .inl (fun _ => 0))) := ⟨_, rfl⟩
  replace hP : va_P D classes (wl 5 bk_41 cw_42) H := by rw [eb, ec]; exact hP
  replace hD : va_D (AA 1 bk sz) (wl 5 bk_41 cw_42) := by rw [eb, ec]; exact hD
  have a_43 : bk_41 0 = h0 := by rw [eb, va_up_ne _ _ (by decide)]; exact a_27
  have a_44 : bk_41 1 = q_1 := by rw [eb, va_up_ne _ _ (by decide)]; exact a_28
  have a_45 : bk_41 2 = q_11 := by rw [eb, va_up_ne _ _ (by decide)]; exact a_29
  have a_46 : bk_41 3 = q_24 := by rw [eb, va_up_ne _ _ (by decide)]; exact a_30
  have a_47 : bk_41 4 = q_40 := by rw [eb]; exact va_up_self _ _ _
  have h_48 : cw_42 0 = .inr (7, [.int (0), .ref (q_1), .ref (q_11), .ref (q_24), .int (0), .null, .null, .null, .null, .null, .null, .null, .null, .null, .null, .null, .null, .null, .null, .null, .null, .null, .int (0), .null, .null, .int (0), .int (0), .null, .null, .null, .int (0), .null, .null]) := by rw [ec, va_up_ne _ _ (by decide)]; exact h_36
  have h_49 : cw_42 1 = .inl (cs 0, 10, .inl (fun _ => 0)) := by rw [ec, va_up_ne _ _ (by decide)]; exact h_37
  have h_50 : cw_42 2 = .inl (cs 0, 10, .inl (fun _ => 0)) := by rw [ec, va_up_ne _ _ (by decide)]; exact h_38
  have h_51 : cw_42 3 = .inl (cs 0, 10, .inl (fun _ => 0)) := by rw [ec, va_up_ne _ _ (by decide)]; exact h_39
  have h_52 : cw_42 4 = .inl (cs 0, 200, .inl (fun _ => 0)) := by rw [ec]; exact va_up_self _ _ _
  clear eb ec
  clear a_27 a_28 a_29 a_30 h_36 h_37 h_38 h_39
  refine pw_putFA (ci := 7) (v := .ref (q_40)) (ty := (t_M 5)) (fs' := [.int (0), .ref (q_1), .ref (q_11), .ref (q_24), .int (0), .ref (q_40), .null, .null, .null, .null, .null, .null, .null, .null, .null, .null, .null, .null, .null, .null, .null, .null, .int (0), .null, .null, .int (0), .int (0), .null, .null, .null, .int (0), .null, .null]) hx hb hw i_M t_M t_M_ok n_M hown hK hP hD hS (0) (by decide) a_43 h_48 rfl 5 (by decide) (hw _ kF_M_19) rfl hin rfl (t_M_ok 5 (by decide)) rfl rfl (Nat.le_of_ble_eq_true rfl) rfl d_M_init_34 (fun cw_53 H locs ecw_53 hP hD hS => ?_)
  have h_54 : cw_53 (0) = .inr (7, [.int (0), .ref (q_1), .ref (q_11), .ref (q_24), .int (0), .ref (q_40), .null, .null, .null, .null, .null, .null, .null, .null, .null, .null, .null, .null, .null, .null, .null, .null, .int (0), .null, .null, .int (0), .int (0), .null, .null, .null, .int (0), .null, .null]) := by rw [ecw_53]; exact va_up_self _ _ _
  have h_55 : cw_53 (1) = .inl (cs 0, 10, .inl (fun _ => 0)) := by rw [ecw_53, va_up_ne _ _ (by decide)]; exact h_49
  have h_56 : cw_53 (2) = .inl (cs 0, 10, .inl (fun _ => 0)) := by rw [ecw_53, va_up_ne _ _ (by decide)]; exact h_50
  have h_57 : cw_53 (3) = .inl (cs 0, 10, .inl (fun _ => 0)) := by rw [ecw_53, va_up_ne _ _ (by decide)]; exact h_51
  have h_58 : cw_53 (4) = .inl (cs 0, 200, .inl (fun _ => 0)) := by rw [ecw_53, va_up_ne _ _ (by decide)]; exact h_52
  clear ecw_53
  clear h_48 h_49 h_50 h_51 h_52
  refine lv_aload_n hx hb d_M_init_37 rfl (lv_at hl 0 rfl) ?_
  refine lv_sipush (v := 200) hx hb d_M_init_38 (by decide) ?_
  refine pw_newa (atype := .int) hx hb (hw _ kR_int) rfl hK hP hD hS hA 0 rfl 200 rfl (by decide) (Nat.le_of_ble_eq_true rfl) (Nat.le_of_ble_eq_true rfl) d_M_init_41 (fun q_59 H hP hD hS => ?_)
  obtain ⟨bk_60, eb⟩ : ∃ x, x = va_up bk_41 5 q_59 := ⟨_, rfl⟩
  obtain ⟨cw_61, ec⟩ : ∃ x, x = va_up cw_53 5 (.inl (cs 0, 200, .inl (fun _ => 0))) := ⟨_, rfl⟩
  replace hP : va_P D classes (wl 6 bk_60 cw_61) H := by rw [eb, ec]; exact hP
  replace hD : va_D (AA 1 bk sz) (wl 6 bk_60 cw_61) := by rw [eb, ec]; exact hD
  have a_62 : bk_60 0 = h0 := by rw [eb, va_up_ne _ _ (by decide)]; exact a_43
  have a_63 : bk_60 1 = q_1 := by rw [eb, va_up_ne _ _ (by decide)]; exact a_44
  have a_64 : bk_60 2 = q_11 := by rw [eb, va_up_ne _ _ (by decide)]; exact a_45
  have a_65 : bk_60 3 = q_24 := by rw [eb, va_up_ne _ _ (by decide)]; exact a_46
  have a_66 : bk_60 4 = q_40 := by rw [eb, va_up_ne _ _ (by decide)]; exact a_47
  have a_67 : bk_60 5 = q_59 := by rw [eb]; exact va_up_self _ _ _
  have h_68 : cw_61 0 = .inr (7, [.int (0), .ref (q_1), .ref (q_11), .ref (q_24), .int (0), .ref (q_40), .null, .null, .null, .null, .null, .null, .null, .null, .null, .null, .null, .null, .null, .null, .null, .null, .int (0), .null, .null, .int (0), .int (0), .null, .null, .null, .int (0), .null, .null]) := by rw [ec, va_up_ne _ _ (by decide)]; exact h_54
  have h_69 : cw_61 1 = .inl (cs 0, 10, .inl (fun _ => 0)) := by rw [ec, va_up_ne _ _ (by decide)]; exact h_55
  have h_70 : cw_61 2 = .inl (cs 0, 10, .inl (fun _ => 0)) := by rw [ec, va_up_ne _ _ (by decide)]; exact h_56
  have h_71 : cw_61 3 = .inl (cs 0, 10, .inl (fun _ => 0)) := by rw [ec, va_up_ne _ _ (by decide)]; exact h_57
  have h_72 : cw_61 4 = .inl (cs 0, 200, .inl (fun _ => 0)) := by rw [ec, va_up_ne _ _ (by decide)]; exact h_58
  have h_73 : cw_61 5 = .inl (cs 0, 200, .inl (fun _ => 0)) := by rw [ec]; exact va_up_self _ _ _
  clear eb ec
  clear a_43 a_44 a_45 a_46 a_47 h_54 h_55 h_56 h_57 h_58
  refine pw_putFA (ci := 7) (v := .ref (q_59)) (ty := (t_M 6)) (fs' := [.int (0), .ref (q_1), .ref (q_11), .ref (q_24), .int (0), .ref (q_40), .ref (q_59), .null, .null, .null, .null, .null, .null, .null, .null, .null, .null, .null, .null, .null, .null, .null, .int (0), .null, .null, .int (0), .int (0), .null, .null, .null, .int (0), .null, .null]) hx hb hw i_M t_M t_M_ok n_M hown hK hP hD hS (0) (by decide) a_62 h_68 rfl 6 (by decide) (hw _ kF_M_22) rfl hin rfl (t_M_ok 6 (by decide)) rfl rfl (Nat.le_of_ble_eq_true rfl) rfl d_M_init_43 (fun cw_74 H locs ecw_74 hP hD hS => ?_)
  have h_75 : cw_74 (0) = .inr (7, [.int (0), .ref (q_1), .ref (q_11), .ref (q_24), .int (0), .ref (q_40), .ref (q_59), .null, .null, .null, .null, .null, .null, .null, .null, .null, .null, .null, .null, .null, .null, .null, .int (0), .null, .null, .int (0), .int (0), .null, .null, .null, .int (0), .null, .null]) := by rw [ecw_74]; exact va_up_self _ _ _
  have h_76 : cw_74 (1) = .inl (cs 0, 10, .inl (fun _ => 0)) := by rw [ecw_74, va_up_ne _ _ (by decide)]; exact h_69
  have h_77 : cw_74 (2) = .inl (cs 0, 10, .inl (fun _ => 0)) := by rw [ecw_74, va_up_ne _ _ (by decide)]; exact h_70
  have h_78 : cw_74 (3) = .inl (cs 0, 10, .inl (fun _ => 0)) := by rw [ecw_74, va_up_ne _ _ (by decide)]; exact h_71
  have h_79 : cw_74 (4) = .inl (cs 0, 200, .inl (fun _ => 0)) := by rw [ecw_74, va_up_ne _ _ (by decide)]; exact h_72
  have h_80 : cw_74 (5) = .inl (cs 0, 200, .inl (fun _ => 0)) := by rw [ecw_74, va_up_ne _ _ (by decide)]; exact h_73
  clear ecw_74
  clear h_68 h_69 h_70 h_71 h_72 h_73
  refine lv_aload_n hx hb d_M_init_46 rfl (lv_at hl 0 rfl) ?_
  refine lv_sipush (v := 200) hx hb d_M_init_47 (by decide) ?_
  refine pw_newa (atype := .int) hx hb (hw _ kR_int) rfl hK hP hD hS hA 0 rfl 200 rfl (by decide) (Nat.le_of_ble_eq_true rfl) (Nat.le_of_ble_eq_true rfl) d_M_init_50 (fun q_81 H hP hD hS => ?_)
  obtain ⟨bk_82, eb⟩ : ∃ x, x = va_up bk_60 6 q_81 := ⟨_, rfl⟩
  obtain ⟨cw_83, ec⟩ : ∃ x, x = va_up cw_74 6 (.inl (cs 0, 200, .inl (fun _ => 0))) := ⟨_, rfl⟩
  replace hP : va_P D classes (wl 7 bk_82 cw_83) H := by rw [eb, ec]; exact hP
  replace hD : va_D (AA 1 bk sz) (wl 7 bk_82 cw_83) := by rw [eb, ec]; exact hD
  have a_84 : bk_82 0 = h0 := by rw [eb, va_up_ne _ _ (by decide)]; exact a_62
  have a_85 : bk_82 1 = q_1 := by rw [eb, va_up_ne _ _ (by decide)]; exact a_63
  have a_86 : bk_82 2 = q_11 := by rw [eb, va_up_ne _ _ (by decide)]; exact a_64
  have a_87 : bk_82 3 = q_24 := by rw [eb, va_up_ne _ _ (by decide)]; exact a_65
  have a_88 : bk_82 4 = q_40 := by rw [eb, va_up_ne _ _ (by decide)]; exact a_66
  have a_89 : bk_82 5 = q_59 := by rw [eb, va_up_ne _ _ (by decide)]; exact a_67
  have a_90 : bk_82 6 = q_81 := by rw [eb]; exact va_up_self _ _ _
  have h_91 : cw_83 0 = .inr (7, [.int (0), .ref (q_1), .ref (q_11), .ref (q_24), .int (0), .ref (q_40), .ref (q_59), .null, .null, .null, .null, .null, .null, .null, .null, .null, .null, .null, .null, .null, .null, .null, .int (0), .null, .null, .int (0), .int (0), .null, .null, .null, .int (0), .null, .null]) := by rw [ec, va_up_ne _ _ (by decide)]; exact h_75
  have h_92 : cw_83 1 = .inl (cs 0, 10, .inl (fun _ => 0)) := by rw [ec, va_up_ne _ _ (by decide)]; exact h_76
  have h_93 : cw_83 2 = .inl (cs 0, 10, .inl (fun _ => 0)) := by rw [ec, va_up_ne _ _ (by decide)]; exact h_77
  have h_94 : cw_83 3 = .inl (cs 0, 10, .inl (fun _ => 0)) := by rw [ec, va_up_ne _ _ (by decide)]; exact h_78
  have h_95 : cw_83 4 = .inl (cs 0, 200, .inl (fun _ => 0)) := by rw [ec, va_up_ne _ _ (by decide)]; exact h_79
  have h_96 : cw_83 5 = .inl (cs 0, 200, .inl (fun _ => 0)) := by rw [ec, va_up_ne _ _ (by decide)]; exact h_80
  have h_97 : cw_83 6 = .inl (cs 0, 200, .inl (fun _ => 0)) := by rw [ec]; exact va_up_self _ _ _
  clear eb ec
  clear a_62 a_63 a_64 a_65 a_66 a_67 h_75 h_76 h_77 h_78 h_79 h_80
  refine pw_putFA (ci := 7) (v := .ref (q_81)) (ty := (t_M 7)) (fs' := [.int (0), .ref (q_1), .ref (q_11), .ref (q_24), .int (0), .ref (q_40), .ref (q_59), .ref (q_81), .null, .null, .null, .null, .null, .null, .null, .null, .null, .null, .null, .null, .null, .null, .int (0), .null, .null, .int (0), .int (0), .null, .null, .null, .int (0), .null, .null]) hx hb hw i_M t_M t_M_ok n_M hown hK hP hD hS (0) (by decide) a_84 h_91 rfl 7 (by decide) (hw _ kF_M_25) rfl hin rfl (t_M_ok 7 (by decide)) rfl rfl (Nat.le_of_ble_eq_true rfl) rfl d_M_init_52 (fun cw_98 H locs ecw_98 hP hD hS => ?_)
  have h_99 : cw_98 (0) = .inr (7, [.int (0), .ref (q_1), .ref (q_11), .ref (q_24), .int (0), .ref (q_40), .ref (q_59), .ref (q_81), .null, .null, .null, .null, .null, .null, .null, .null, .null, .null, .null, .null, .null, .null, .int (0), .null, .null, .int (0), .int (0), .null, .null, .null, .int (0), .null, .null]) := by rw [ecw_98]; exact va_up_self _ _ _
  have h_100 : cw_98 (1) = .inl (cs 0, 10, .inl (fun _ => 0)) := by rw [ecw_98, va_up_ne _ _ (by decide)]; exact h_92
  have h_101 : cw_98 (2) = .inl (cs 0, 10, .inl (fun _ => 0)) := by rw [ecw_98, va_up_ne _ _ (by decide)]; exact h_93
  have h_102 : cw_98 (3) = .inl (cs 0, 10, .inl (fun _ => 0)) := by rw [ecw_98, va_up_ne _ _ (by decide)]; exact h_94
  have h_103 : cw_98 (4) = .inl (cs 0, 200, .inl (fun _ => 0)) := by rw [ecw_98, va_up_ne _ _ (by decide)]; exact h_95
  have h_104 : cw_98 (5) = .inl (cs 0, 200, .inl (fun _ => 0)) := by rw [ecw_98, va_up_ne _ _ (by decide)]; exact h_96
  have h_105 : cw_98 (6) = .inl (cs 0, 200, .inl (fun _ => 0)) := by rw [ecw_98, va_up_ne _ _ (by decide)]; exact h_97
  clear ecw_98
  clear h_91 h_92 h_93 h_94 h_95 h_96 h_97
  refine lv_aload_n hx hb d_M_init_55 rfl (lv_at hl 0 rfl) ?_
  refine lv_sipush (v := 200) hx hb d_M_init_56 (by decide) ?_
  refine pw_newa (atype := .int) hx hb (hw _ kR_int) rfl hK hP hD hS hA 0 rfl 200 rfl (by decide) (Nat.le_of_ble_eq_true rfl) (Nat.le_of_ble_eq_true rfl) d_M_init_59 (fun q_106 H hP hD hS => ?_)
  obtain ⟨bk_107, eb⟩ : ∃ x, x = va_up bk_82 7 q_106 := ⟨_, rfl⟩
  obtain ⟨cw_108, ec⟩ : ∃ x, x = va_up cw_98 7 (.inl (cs 0, 200, .inl (fun _ => 0))) := ⟨_, rfl⟩
  replace hP : va_P D classes (wl 8 bk_107 cw_108) H := by rw [eb, ec]; exact hP
  replace hD : va_D (AA 1 bk sz) (wl 8 bk_107 cw_108) := by rw [eb, ec]; exact hD
  have a_109 : bk_107 0 = h0 := by rw [eb, va_up_ne _ _ (by decide)]; exact a_84
  have a_110 : bk_107 1 = q_1 := by rw [eb, va_up_ne _ _ (by decide)]; exact a_85
  have a_111 : bk_107 2 = q_11 := by rw [eb, va_up_ne _ _ (by decide)]; exact a_86
  have a_112 : bk_107 3 = q_24 := by rw [eb, va_up_ne _ _ (by decide)]; exact a_87
  have a_113 : bk_107 4 = q_40 := by rw [eb, va_up_ne _ _ (by decide)]; exact a_88
  have a_114 : bk_107 5 = q_59 := by rw [eb, va_up_ne _ _ (by decide)]; exact a_89
  have a_115 : bk_107 6 = q_81 := by rw [eb, va_up_ne _ _ (by decide)]; exact a_90
  have a_116 : bk_107 7 = q_106 := by rw [eb]; exact va_up_self _ _ _
  have h_117 : cw_108 0 = .inr (7, [.int (0), .ref (q_1), .ref (q_11), .ref (q_24), .int (0), .ref (q_40), .ref (q_59), .ref (q_81), .null, .null, .null, .null, .null, .null, .null, .null, .null, .null, .null, .null, .null, .null, .int (0), .null, .null, .int (0), .int (0), .null, .null, .null, .int (0), .null, .null]) := by rw [ec, va_up_ne _ _ (by decide)]; exact h_99
  have h_118 : cw_108 1 = .inl (cs 0, 10, .inl (fun _ => 0)) := by rw [ec, va_up_ne _ _ (by decide)]; exact h_100
  have h_119 : cw_108 2 = .inl (cs 0, 10, .inl (fun _ => 0)) := by rw [ec, va_up_ne _ _ (by decide)]; exact h_101
  have h_120 : cw_108 3 = .inl (cs 0, 10, .inl (fun _ => 0)) := by rw [ec, va_up_ne _ _ (by decide)]; exact h_102
  have h_121 : cw_108 4 = .inl (cs 0, 200, .inl (fun _ => 0)) := by rw [ec, va_up_ne _ _ (by decide)]; exact h_103
  have h_122 : cw_108 5 = .inl (cs 0, 200, .inl (fun _ => 0)) := by rw [ec, va_up_ne _ _ (by decide)]; exact h_104
  have h_123 : cw_108 6 = .inl (cs 0, 200, .inl (fun _ => 0)) := by rw [ec, va_up_ne _ _ (by decide)]; exact h_105
  have h_124 : cw_108 7 = .inl (cs 0, 200, .inl (fun _ => 0)) := by rw [ec]; exact va_up_self _ _ _
  clear eb ec
  clear a_84 a_85 a_86 a_87 a_88 a_89 a_90 h_99 h_100 h_101 h_102 h_103 h_104 h_105
  refine pw_putFA (ci := 7) (v := .ref (q_106)) (ty := (t_M 8)) (fs' := [.int (0), .ref (q_1), .ref (q_11), .ref (q_24), .int (0), .ref (q_40), .ref (q_59), .ref (q_81), .ref (q_106), .null, .null, .null, .null, .null, .null, .null, .null, .null, .null, .null, .null, .null, .int (0), .null, .null, .int (0), .int (0), .null, .null, .null, .int (0), .null, .null]) hx hb hw i_M t_M t_M_ok n_M hown hK hP hD hS (0) (by decide) a_109 h_117 rfl 8 (by decide) (hw _ kF_M_28) rfl hin rfl (t_M_ok 8 (by decide)) rfl rfl (Nat.le_of_ble_eq_true rfl) rfl d_M_init_61 (fun cw_125 H locs ecw_125 hP hD hS => ?_)
  have h_126 : cw_125 (0) = .inr (7, [.int (0), .ref (q_1), .ref (q_11), .ref (q_24), .int (0), .ref (q_40), .ref (q_59), .ref (q_81), .ref (q_106), .null, .null, .null, .null, .null, .null, .null, .null, .null, .null, .null, .null, .null, .int (0), .null, .null, .int (0), .int (0), .null, .null, .null, .int (0), .null, .null]) := by rw [ecw_125]; exact va_up_self _ _ _
  have h_127 : cw_125 (1) = .inl (cs 0, 10, .inl (fun _ => 0)) := by rw [ecw_125, va_up_ne _ _ (by decide)]; exact h_118
  have h_128 : cw_125 (2) = .inl (cs 0, 10, .inl (fun _ => 0)) := by rw [ecw_125, va_up_ne _ _ (by decide)]; exact h_119
  have h_129 : cw_125 (3) = .inl (cs 0, 10, .inl (fun _ => 0)) := by rw [ecw_125, va_up_ne _ _ (by decide)]; exact h_120
  have h_130 : cw_125 (4) = .inl (cs 0, 200, .inl (fun _ => 0)) := by rw [ecw_125, va_up_ne _ _ (by decide)]; exact h_121
  have h_131 : cw_125 (5) = .inl (cs 0, 200, .inl (fun _ => 0)) := by rw [ecw_125, va_up_ne _ _ (by decide)]; exact h_122
  have h_132 : cw_125 (6) = .inl (cs 0, 200, .inl (fun _ => 0)) := by rw [ecw_125, va_up_ne _ _ (by decide)]; exact h_123
  have h_133 : cw_125 (7) = .inl (cs 0, 200, .inl (fun _ => 0)) := by rw [ecw_125, va_up_ne _ _ (by decide)]; exact h_124
  clear ecw_125
  clear h_117 h_118 h_119 h_120 h_121 h_122 h_123 h_124
  refine lv_aload_n hx hb d_M_init_64 rfl (lv_at hl 0 rfl) ?_
  refine lv_sipush (v := 200) hx hb d_M_init_65 (by decide) ?_
  refine pw_newa (atype := .int) hx hb (hw _ kR_int) rfl hK hP hD hS hA 0 rfl 200 rfl (by decide) (Nat.le_of_ble_eq_true rfl) (Nat.le_of_ble_eq_true rfl) d_M_init_68 (fun q_134 H hP hD hS => ?_)
  obtain ⟨bk_135, eb⟩ : ∃ x, x = va_up bk_107 8 q_134 := ⟨_, rfl⟩
  obtain ⟨cw_136, ec⟩ : ∃ x, x = va_up cw_125 8 (.inl (cs 0, 200, .inl (fun _ => 0))) := ⟨_, rfl⟩
  replace hP : va_P D classes (wl 9 bk_135 cw_136) H := by rw [eb, ec]; exact hP
  replace hD : va_D (AA 1 bk sz) (wl 9 bk_135 cw_136) := by rw [eb, ec]; exact hD
  have a_137 : bk_135 0 = h0 := by rw [eb, va_up_ne _ _ (by decide)]; exact a_109
  have a_138 : bk_135 1 = q_1 := by rw [eb, va_up_ne _ _ (by decide)]; exact a_110
  have a_139 : bk_135 2 = q_11 := by rw [eb, va_up_ne _ _ (by decide)]; exact a_111
  have a_140 : bk_135 3 = q_24 := by rw [eb, va_up_ne _ _ (by decide)]; exact a_112
  have a_141 : bk_135 4 = q_40 := by rw [eb, va_up_ne _ _ (by decide)]; exact a_113
  have a_142 : bk_135 5 = q_59 := by rw [eb, va_up_ne _ _ (by decide)]; exact a_114
  have a_143 : bk_135 6 = q_81 := by rw [eb, va_up_ne _ _ (by decide)]; exact a_115
  have a_144 : bk_135 7 = q_106 := by rw [eb, va_up_ne _ _ (by decide)]; exact a_116
  have a_145 : bk_135 8 = q_134 := by rw [eb]; exact va_up_self _ _ _
  have h_146 : cw_136 0 = .inr (7, [.int (0), .ref (q_1), .ref (q_11), .ref (q_24), .int (0), .ref (q_40), .ref (q_59), .ref (q_81), .ref (q_106), .null, .null, .null, .null, .null, .null, .null, .null, .null, .null, .null, .null, .null, .int (0), .null, .null, .int (0), .int (0), .null, .null, .null, .int (0), .null, .null]) := by rw [ec, va_up_ne _ _ (by decide)]; exact h_126
  have h_147 : cw_136 1 = .inl (cs 0, 10, .inl (fun _ => 0)) := by rw [ec, va_up_ne _ _ (by decide)]; exact h_127
  have h_148 : cw_136 2 = .inl (cs 0, 10, .inl (fun _ => 0)) := by rw [ec, va_up_ne _ _ (by decide)]; exact h_128
  have h_149 : cw_136 3 = .inl (cs 0, 10, .inl (fun _ => 0)) := by rw [ec, va_up_ne _ _ (by decide)]; exact h_129
  have h_150 : cw_136 4 = .inl (cs 0, 200, .inl (fun _ => 0)) := by rw [ec, va_up_ne _ _ (by decide)]; exact h_130
  have h_151 : cw_136 5 = .inl (cs 0, 200, .inl (fun _ => 0)) := by rw [ec, va_up_ne _ _ (by decide)]; exact h_131
  have h_152 : cw_136 6 = .inl (cs 0, 200, .inl (fun _ => 0)) := by rw [ec, va_up_ne _ _ (by decide)]; exact h_132
  have h_153 : cw_136 7 = .inl (cs 0, 200, .inl (fun _ => 0)) := by rw [ec, va_up_ne _ _ (by decide)]; exact h_133
  have h_154 : cw_136 8 = .inl (cs 0, 200, .inl (fun _ => 0)) := by rw [ec]; exact va_up_self _ _ _
  clear eb ec
  clear a_109 a_110 a_111 a_112 a_113 a_114 a_115 a_116 h_126 h_127 h_128 h_129 h_130 h_131 h_132 h_133
  refine pw_putFA (ci := 7) (v := .ref (q_134)) (ty := (t_M 9)) (fs' := [.int (0), .ref (q_1), .ref (q_11), .ref (q_24), .int (0), .ref (q_40), .ref (q_59), .ref (q_81), .ref (q_106), .ref (q_134), .null, .null, .null, .null, .null, .null, .null, .null, .null, .null, .null, .null, .int (0), .null, .null, .int (0), .int (0), .null, .null, .null, .int (0), .null, .null]) hx hb hw i_M t_M t_M_ok n_M hown hK hP hD hS (0) (by decide) a_137 h_146 rfl 9 (by decide) (hw _ kF_M_31) rfl hin rfl (t_M_ok 9 (by decide)) rfl rfl (Nat.le_of_ble_eq_true rfl) rfl d_M_init_70 (fun cw_155 H locs ecw_155 hP hD hS => ?_)
  have h_156 : cw_155 (0) = .inr (7, [.int (0), .ref (q_1), .ref (q_11), .ref (q_24), .int (0), .ref (q_40), .ref (q_59), .ref (q_81), .ref (q_106), .ref (q_134), .null, .null, .null, .null, .null, .null, .null, .null, .null, .null, .null, .null, .int (0), .null, .null, .int (0), .int (0), .null, .null, .null, .int (0), .null, .null]) := by rw [ecw_155]; exact va_up_self _ _ _
  have h_157 : cw_155 (1) = .inl (cs 0, 10, .inl (fun _ => 0)) := by rw [ecw_155, va_up_ne _ _ (by decide)]; exact h_147
  have h_158 : cw_155 (2) = .inl (cs 0, 10, .inl (fun _ => 0)) := by rw [ecw_155, va_up_ne _ _ (by decide)]; exact h_148
  have h_159 : cw_155 (3) = .inl (cs 0, 10, .inl (fun _ => 0)) := by rw [ecw_155, va_up_ne _ _ (by decide)]; exact h_149
  have h_160 : cw_155 (4) = .inl (cs 0, 200, .inl (fun _ => 0)) := by rw [ecw_155, va_up_ne _ _ (by decide)]; exact h_150
  have h_161 : cw_155 (5) = .inl (cs 0, 200, .inl (fun _ => 0)) := by rw [ecw_155, va_up_ne _ _ (by decide)]; exact h_151
  have h_162 : cw_155 (6) = .inl (cs 0, 200, .inl (fun _ => 0)) := by rw [ecw_155, va_up_ne _ _ (by decide)]; exact h_152
  have h_163 : cw_155 (7) = .inl (cs 0, 200, .inl (fun _ => 0)) := by rw [ecw_155, va_up_ne _ _ (by decide)]; exact h_153
  have h_164 : cw_155 (8) = .inl (cs 0, 200, .inl (fun _ => 0)) := by rw [ecw_155, va_up_ne _ _ (by decide)]; exact h_154
  clear ecw_155
  clear h_146 h_147 h_148 h_149 h_150 h_151 h_152 h_153 h_154
  refine lv_aload_n hx hb d_M_init_73 rfl (lv_at hl 0 rfl) ?_
  refine lv_sipush (v := 200) hx hb d_M_init_74 (by decide) ?_
  refine pw_newa (atype := .int) hx hb (hw _ kR_int) rfl hK hP hD hS hA 0 rfl 200 rfl (by decide) (Nat.le_of_ble_eq_true rfl) (Nat.le_of_ble_eq_true rfl) d_M_init_77 (fun q_165 H hP hD hS => ?_)
  obtain ⟨bk_166, eb⟩ : ∃ x, x = va_up bk_135 9 q_165 := ⟨_, rfl⟩
  obtain ⟨cw_167, ec⟩ : ∃ x, x = va_up cw_155 9 (.inl (cs 0, 200, .inl (fun _ => 0))) := ⟨_, rfl⟩
  replace hP : va_P D classes (wl 10 bk_166 cw_167) H := by rw [eb, ec]; exact hP
  replace hD : va_D (AA 1 bk sz) (wl 10 bk_166 cw_167) := by rw [eb, ec]; exact hD
  have a_168 : bk_166 0 = h0 := by rw [eb, va_up_ne _ _ (by decide)]; exact a_137
  have a_169 : bk_166 1 = q_1 := by rw [eb, va_up_ne _ _ (by decide)]; exact a_138
  have a_170 : bk_166 2 = q_11 := by rw [eb, va_up_ne _ _ (by decide)]; exact a_139
  have a_171 : bk_166 3 = q_24 := by rw [eb, va_up_ne _ _ (by decide)]; exact a_140
  have a_172 : bk_166 4 = q_40 := by rw [eb, va_up_ne _ _ (by decide)]; exact a_141
  have a_173 : bk_166 5 = q_59 := by rw [eb, va_up_ne _ _ (by decide)]; exact a_142
  have a_174 : bk_166 6 = q_81 := by rw [eb, va_up_ne _ _ (by decide)]; exact a_143
  have a_175 : bk_166 7 = q_106 := by rw [eb, va_up_ne _ _ (by decide)]; exact a_144
  have a_176 : bk_166 8 = q_134 := by rw [eb, va_up_ne _ _ (by decide)]; exact a_145
  have a_177 : bk_166 9 = q_165 := by rw [eb]; exact va_up_self _ _ _
  have h_178 : cw_167 0 = .inr (7, [.int (0), .ref (q_1), .ref (q_11), .ref (q_24), .int (0), .ref (q_40), .ref (q_59), .ref (q_81), .ref (q_106), .ref (q_134), .null, .null, .null, .null, .null, .null, .null, .null, .null, .null, .null, .null, .int (0), .null, .null, .int (0), .int (0), .null, .null, .null, .int (0), .null, .null]) := by rw [ec, va_up_ne _ _ (by decide)]; exact h_156
  have h_179 : cw_167 1 = .inl (cs 0, 10, .inl (fun _ => 0)) := by rw [ec, va_up_ne _ _ (by decide)]; exact h_157
  have h_180 : cw_167 2 = .inl (cs 0, 10, .inl (fun _ => 0)) := by rw [ec, va_up_ne _ _ (by decide)]; exact h_158
  have h_181 : cw_167 3 = .inl (cs 0, 10, .inl (fun _ => 0)) := by rw [ec, va_up_ne _ _ (by decide)]; exact h_159
  have h_182 : cw_167 4 = .inl (cs 0, 200, .inl (fun _ => 0)) := by rw [ec, va_up_ne _ _ (by decide)]; exact h_160
  have h_183 : cw_167 5 = .inl (cs 0, 200, .inl (fun _ => 0)) := by rw [ec, va_up_ne _ _ (by decide)]; exact h_161
  have h_184 : cw_167 6 = .inl (cs 0, 200, .inl (fun _ => 0)) := by rw [ec, va_up_ne _ _ (by decide)]; exact h_162
  have h_185 : cw_167 7 = .inl (cs 0, 200, .inl (fun _ => 0)) := by rw [ec, va_up_ne _ _ (by decide)]; exact h_163
  have h_186 : cw_167 8 = .inl (cs 0, 200, .inl (fun _ => 0)) := by rw [ec, va_up_ne _ _ (by decide)]; exact h_164
  have h_187 : cw_167 9 = .inl (cs 0, 200, .inl (fun _ => 0)) := by rw [ec]; exact va_up_self _ _ _
  clear eb ec
  clear a_137 a_138 a_139 a_140 a_141 a_142 a_143 a_144 a_145 h_156 h_157 h_158 h_159 h_160 h_161 h_162 h_163 h_164
  refine pw_putFA (ci := 7) (v := .ref (q_165)) (ty := (t_M 10)) (fs' := [.int (0), .ref (q_1), .ref (q_11), .ref (q_24), .int (0), .ref (q_40), .ref (q_59), .ref (q_81), .ref (q_106), .ref (q_134), .ref (q_165), .null, .null, .null, .null, .null, .null, .null, .null, .null, .null, .null, .int (0), .null, .null, .int (0), .int (0), .null, .null, .null, .int (0), .null, .null]) hx hb hw i_M t_M t_M_ok n_M hown hK hP hD hS (0) (by decide) a_168 h_178 rfl 10 (by decide) (hw _ kF_M_34) rfl hin rfl (t_M_ok 10 (by decide)) rfl rfl (Nat.le_of_ble_eq_true rfl) rfl d_M_init_79 (fun cw_188 H locs ecw_188 hP hD hS => ?_)
  have h_189 : cw_188 (0) = .inr (7, [.int (0), .ref (q_1), .ref (q_11), .ref (q_24), .int (0), .ref (q_40), .ref (q_59), .ref (q_81), .ref (q_106), .ref (q_134), .ref (q_165), .null, .null, .null, .null, .null, .null, .null, .null, .null, .null, .null, .int (0), .null, .null, .int (0), .int (0), .null, .null, .null, .int (0), .null, .null]) := by rw [ecw_188]; exact va_up_self _ _ _
  have h_190 : cw_188 (1) = .inl (cs 0, 10, .inl (fun _ => 0)) := by rw [ecw_188, va_up_ne _ _ (by decide)]; exact h_179
  have h_191 : cw_188 (2) = .inl (cs 0, 10, .inl (fun _ => 0)) := by rw [ecw_188, va_up_ne _ _ (by decide)]; exact h_180
  have h_192 : cw_188 (3) = .inl (cs 0, 10, .inl (fun _ => 0)) := by rw [ecw_188, va_up_ne _ _ (by decide)]; exact h_181
  have h_193 : cw_188 (4) = .inl (cs 0, 200, .inl (fun _ => 0)) := by rw [ecw_188, va_up_ne _ _ (by decide)]; exact h_182
  have h_194 : cw_188 (5) = .inl (cs 0, 200, .inl (fun _ => 0)) := by rw [ecw_188, va_up_ne _ _ (by decide)]; exact h_183
  have h_195 : cw_188 (6) = .inl (cs 0, 200, .inl (fun _ => 0)) := by rw [ecw_188, va_up_ne _ _ (by decide)]; exact h_184
  have h_196 : cw_188 (7) = .inl (cs 0, 200, .inl (fun _ => 0)) := by rw [ecw_188, va_up_ne _ _ (by decide)]; exact h_185
  have h_197 : cw_188 (8) = .inl (cs 0, 200, .inl (fun _ => 0)) := by rw [ecw_188, va_up_ne _ _ (by decide)]; exact h_186
  have h_198 : cw_188 (9) = .inl (cs 0, 200, .inl (fun _ => 0)) := by rw [ecw_188, va_up_ne _ _ (by decide)]; exact h_187
  clear ecw_188
  clear h_178 h_179 h_180 h_181 h_182 h_183 h_184 h_185 h_186 h_187
  refine lv_aload_n hx hb d_M_init_82 rfl (lv_at hl 0 rfl) ?_
  refine lv_sipush (v := 200) hx hb d_M_init_83 (by decide) ?_
  refine pw_newa (atype := .int) hx hb (hw _ kR_int) rfl hK hP hD hS hA 0 rfl 200 rfl (by decide) (Nat.le_of_ble_eq_true rfl) (Nat.le_of_ble_eq_true rfl) d_M_init_86 (fun q_199 H hP hD hS => ?_)
  obtain ⟨bk_200, eb⟩ : ∃ x, x = va_up bk_166 10 q_199 := ⟨_, rfl⟩
  obtain ⟨cw_201, ec⟩ : ∃ x, x = va_up cw_188 10 (.inl (cs 0, 200, .inl (fun _ => 0))) := ⟨_, rfl⟩
  replace hP : va_P D classes (wl 11 bk_200 cw_201) H := by rw [eb, ec]; exact hP
  replace hD : va_D (AA 1 bk sz) (wl 11 bk_200 cw_201) := by rw [eb, ec]; exact hD
  have a_202 : bk_200 0 = h0 := by rw [eb, va_up_ne _ _ (by decide)]; exact a_168
  have a_203 : bk_200 1 = q_1 := by rw [eb, va_up_ne _ _ (by decide)]; exact a_169
  have a_204 : bk_200 2 = q_11 := by rw [eb, va_up_ne _ _ (by decide)]; exact a_170
  have a_205 : bk_200 3 = q_24 := by rw [eb, va_up_ne _ _ (by decide)]; exact a_171
  have a_206 : bk_200 4 = q_40 := by rw [eb, va_up_ne _ _ (by decide)]; exact a_172
  have a_207 : bk_200 5 = q_59 := by rw [eb, va_up_ne _ _ (by decide)]; exact a_173
  have a_208 : bk_200 6 = q_81 := by rw [eb, va_up_ne _ _ (by decide)]; exact a_174
  have a_209 : bk_200 7 = q_106 := by rw [eb, va_up_ne _ _ (by decide)]; exact a_175
  have a_210 : bk_200 8 = q_134 := by rw [eb, va_up_ne _ _ (by decide)]; exact a_176
  have a_211 : bk_200 9 = q_165 := by rw [eb, va_up_ne _ _ (by decide)]; exact a_177
  have a_212 : bk_200 10 = q_199 := by rw [eb]; exact va_up_self _ _ _
  have h_213 : cw_201 0 = .inr (7, [.int (0), .ref (q_1), .ref (q_11), .ref (q_24), .int (0), .ref (q_40), .ref (q_59), .ref (q_81), .ref (q_106), .ref (q_134), .ref (q_165), .null, .null, .null, .null, .null, .null, .null, .null, .null, .null, .null, .int (0), .null, .null, .int (0), .int (0), .null, .null, .null, .int (0), .null, .null]) := by rw [ec, va_up_ne _ _ (by decide)]; exact h_189
  have h_214 : cw_201 1 = .inl (cs 0, 10, .inl (fun _ => 0)) := by rw [ec, va_up_ne _ _ (by decide)]; exact h_190
  have h_215 : cw_201 2 = .inl (cs 0, 10, .inl (fun _ => 0)) := by rw [ec, va_up_ne _ _ (by decide)]; exact h_191
  have h_216 : cw_201 3 = .inl (cs 0, 10, .inl (fun _ => 0)) := by rw [ec, va_up_ne _ _ (by decide)]; exact h_192
  have h_217 : cw_201 4 = .inl (cs 0, 200, .inl (fun _ => 0)) := by rw [ec, va_up_ne _ _ (by decide)]; exact h_193
  have h_218 : cw_201 5 = .inl (cs 0, 200, .inl (fun _ => 0)) := by rw [ec, va_up_ne _ _ (by decide)]; exact h_194
  have h_219 : cw_201 6 = .inl (cs 0, 200, .inl (fun _ => 0)) := by rw [ec, va_up_ne _ _ (by decide)]; exact h_195
  have h_220 : cw_201 7 = .inl (cs 0, 200, .inl (fun _ => 0)) := by rw [ec, va_up_ne _ _ (by decide)]; exact h_196
  have h_221 : cw_201 8 = .inl (cs 0, 200, .inl (fun _ => 0)) := by rw [ec, va_up_ne _ _ (by decide)]; exact h_197
  have h_222 : cw_201 9 = .inl (cs 0, 200, .inl (fun _ => 0)) := by rw [ec, va_up_ne _ _ (by decide)]; exact h_198
  have h_223 : cw_201 10 = .inl (cs 0, 200, .inl (fun _ => 0)) := by rw [ec]; exact va_up_self _ _ _
  clear eb ec
  clear a_168 a_169 a_170 a_171 a_172 a_173 a_174 a_175 a_176 a_177 h_189 h_190 h_191 h_192 h_193 h_194 h_195 h_196 h_197 h_198
  refine pw_putFA (ci := 7) (v := .ref (q_199)) (ty := (t_M 11)) (fs' := [.int (0), .ref (q_1), .ref (q_11), .ref (q_24), .int (0), .ref (q_40), .ref (q_59), .ref (q_81), .ref (q_106), .ref (q_134), .ref (q_165), .ref (q_199), .null, .null, .null, .null, .null, .null, .null, .null, .null, .null, .int (0), .null, .null, .int (0), .int (0), .null, .null, .null, .int (0), .null, .null]) hx hb hw i_M t_M t_M_ok n_M hown hK hP hD hS (0) (by decide) a_202 h_213 rfl 11 (by decide) (hw _ kF_M_37) rfl hin rfl (t_M_ok 11 (by decide)) rfl rfl (Nat.le_of_ble_eq_true rfl) rfl d_M_init_88 (fun cw_224 H locs ecw_224 hP hD hS => ?_)
  have h_225 : cw_224 (0) = .inr (7, [.int (0), .ref (q_1), .ref (q_11), .ref (q_24), .int (0), .ref (q_40), .ref (q_59), .ref (q_81), .ref (q_106), .ref (q_134), .ref (q_165), .ref (q_199), .null, .null, .null, .null, .null, .null, .null, .null, .null, .null, .int (0), .null, .null, .int (0), .int (0), .null, .null, .null, .int (0), .null, .null]) := by rw [ecw_224]; exact va_up_self _ _ _
  have h_226 : cw_224 (1) = .inl (cs 0, 10, .inl (fun _ => 0)) := by rw [ecw_224, va_up_ne _ _ (by decide)]; exact h_214
  have h_227 : cw_224 (2) = .inl (cs 0, 10, .inl (fun _ => 0)) := by rw [ecw_224, va_up_ne _ _ (by decide)]; exact h_215
  have h_228 : cw_224 (3) = .inl (cs 0, 10, .inl (fun _ => 0)) := by rw [ecw_224, va_up_ne _ _ (by decide)]; exact h_216
  have h_229 : cw_224 (4) = .inl (cs 0, 200, .inl (fun _ => 0)) := by rw [ecw_224, va_up_ne _ _ (by decide)]; exact h_217
  have h_230 : cw_224 (5) = .inl (cs 0, 200, .inl (fun _ => 0)) := by rw [ecw_224, va_up_ne _ _ (by decide)]; exact h_218
  have h_231 : cw_224 (6) = .inl (cs 0, 200, .inl (fun _ => 0)) := by rw [ecw_224, va_up_ne _ _ (by decide)]; exact h_219
  have h_232 : cw_224 (7) = .inl (cs 0, 200, .inl (fun _ => 0)) := by rw [ecw_224, va_up_ne _ _ (by decide)]; exact h_220
  have h_233 : cw_224 (8) = .inl (cs 0, 200, .inl (fun _ => 0)) := by rw [ecw_224, va_up_ne _ _ (by decide)]; exact h_221
  have h_234 : cw_224 (9) = .inl (cs 0, 200, .inl (fun _ => 0)) := by rw [ecw_224, va_up_ne _ _ (by decide)]; exact h_222
  have h_235 : cw_224 (10) = .inl (cs 0, 200, .inl (fun _ => 0)) := by rw [ecw_224, va_up_ne _ _ (by decide)]; exact h_223
  clear ecw_224
  clear h_213 h_214 h_215 h_216 h_217 h_218 h_219 h_220 h_221 h_222 h_223
  refine lv_aload_n hx hb d_M_init_91 rfl (lv_at hl 0 rfl) ?_
  refine lv_sipush (v := 200) hx hb d_M_init_92 (by decide) ?_
  refine pw_newa (atype := .int) hx hb (hw _ kR_int) rfl hK hP hD hS hA 0 rfl 200 rfl (by decide) (Nat.le_of_ble_eq_true rfl) (Nat.le_of_ble_eq_true rfl) d_M_init_95 (fun q_236 H hP hD hS => ?_)
  obtain ⟨bk_237, eb⟩ : ∃ x, x = va_up bk_200 11 q_236 := ⟨_, rfl⟩
  obtain ⟨cw_238, ec⟩ : ∃ x, x = va_up cw_224 11 (.inl (cs 0, 200, .inl (fun _ => 0))) := ⟨_, rfl⟩
  replace hP : va_P D classes (wl 12 bk_237 cw_238) H := by rw [eb, ec]; exact hP
  replace hD : va_D (AA 1 bk sz) (wl 12 bk_237 cw_238) := by rw [eb, ec]; exact hD
  have a_239 : bk_237 0 = h0 := by rw [eb, va_up_ne _ _ (by decide)]; exact a_202
  have a_240 : bk_237 1 = q_1 := by rw [eb, va_up_ne _ _ (by decide)]; exact a_203
  have a_241 : bk_237 2 = q_11 := by rw [eb, va_up_ne _ _ (by decide)]; exact a_204
  have a_242 : bk_237 3 = q_24 := by rw [eb, va_up_ne _ _ (by decide)]; exact a_205
  have a_243 : bk_237 4 = q_40 := by rw [eb, va_up_ne _ _ (by decide)]; exact a_206
  have a_244 : bk_237 5 = q_59 := by rw [eb, va_up_ne _ _ (by decide)]; exact a_207
  have a_245 : bk_237 6 = q_81 := by rw [eb, va_up_ne _ _ (by decide)]; exact a_208
  have a_246 : bk_237 7 = q_106 := by rw [eb, va_up_ne _ _ (by decide)]; exact a_209
  have a_247 : bk_237 8 = q_134 := by rw [eb, va_up_ne _ _ (by decide)]; exact a_210
  have a_248 : bk_237 9 = q_165 := by rw [eb, va_up_ne _ _ (by decide)]; exact a_211
  have a_249 : bk_237 10 = q_199 := by rw [eb, va_up_ne _ _ (by decide)]; exact a_212
  have a_250 : bk_237 11 = q_236 := by rw [eb]; exact va_up_self _ _ _
  have h_251 : cw_238 0 = .inr (7, [.int (0), .ref (q_1), .ref (q_11), .ref (q_24), .int (0), .ref (q_40), .ref (q_59), .ref (q_81), .ref (q_106), .ref (q_134), .ref (q_165), .ref (q_199), .null, .null, .null, .null, .null, .null, .null, .null, .null, .null, .int (0), .null, .null, .int (0), .int (0), .null, .null, .null, .int (0), .null, .null]) := by rw [ec, va_up_ne _ _ (by decide)]; exact h_225
  have h_252 : cw_238 1 = .inl (cs 0, 10, .inl (fun _ => 0)) := by rw [ec, va_up_ne _ _ (by decide)]; exact h_226
  have h_253 : cw_238 2 = .inl (cs 0, 10, .inl (fun _ => 0)) := by rw [ec, va_up_ne _ _ (by decide)]; exact h_227
  have h_254 : cw_238 3 = .inl (cs 0, 10, .inl (fun _ => 0)) := by rw [ec, va_up_ne _ _ (by decide)]; exact h_228
  have h_255 : cw_238 4 = .inl (cs 0, 200, .inl (fun _ => 0)) := by rw [ec, va_up_ne _ _ (by decide)]; exact h_229
  have h_256 : cw_238 5 = .inl (cs 0, 200, .inl (fun _ => 0)) := by rw [ec, va_up_ne _ _ (by decide)]; exact h_230
  have h_257 : cw_238 6 = .inl (cs 0, 200, .inl (fun _ => 0)) := by rw [ec, va_up_ne _ _ (by decide)]; exact h_231
  have h_258 : cw_238 7 = .inl (cs 0, 200, .inl (fun _ => 0)) := by rw [ec, va_up_ne _ _ (by decide)]; exact h_232
  have h_259 : cw_238 8 = .inl (cs 0, 200, .inl (fun _ => 0)) := by rw [ec, va_up_ne _ _ (by decide)]; exact h_233
  have h_260 : cw_238 9 = .inl (cs 0, 200, .inl (fun _ => 0)) := by rw [ec, va_up_ne _ _ (by decide)]; exact h_234
  have h_261 : cw_238 10 = .inl (cs 0, 200, .inl (fun _ => 0)) := by rw [ec, va_up_ne _ _ (by decide)]; exact h_235
  have h_262 : cw_238 11 = .inl (cs 0, 200, .inl (fun _ => 0)) := by rw [ec]; exact va_up_self _ _ _
  clear eb ec
  clear a_202 a_203 a_204 a_205 a_206 a_207 a_208 a_209 a_210 a_211 a_212 h_225 h_226 h_227 h_228 h_229 h_230 h_231 h_232 h_233 h_234 h_235
  refine pw_putFA (ci := 7) (v := .ref (q_236)) (ty := (t_M 12)) (fs' := [.int (0), .ref (q_1), .ref (q_11), .ref (q_24), .int (0), .ref (q_40), .ref (q_59), .ref (q_81), .ref (q_106), .ref (q_134), .ref (q_165), .ref (q_199), .ref (q_236), .null, .null, .null, .null, .null, .null, .null, .null, .null, .int (0), .null, .null, .int (0), .int (0), .null, .null, .null, .int (0), .null, .null]) hx hb hw i_M t_M t_M_ok n_M hown hK hP hD hS (0) (by decide) a_239 h_251 rfl 12 (by decide) (hw _ kF_M_40) rfl hin rfl (t_M_ok 12 (by decide)) rfl rfl (Nat.le_of_ble_eq_true rfl) rfl d_M_init_97 (fun cw_263 H locs ecw_263 hP hD hS => ?_)
  have h_264 : cw_263 (0) = .inr (7, [.int (0), .ref (q_1), .ref (q_11), .ref (q_24), .int (0), .ref (q_40), .ref (q_59), .ref (q_81), .ref (q_106), .ref (q_134), .ref (q_165), .ref (q_199), .ref (q_236), .null, .null, .null, .null, .null, .null, .null, .null, .null, .int (0), .null, .null, .int (0), .int (0), .null, .null, .null, .int (0), .null, .null]) := by rw [ecw_263]; exact va_up_self _ _ _
  have h_265 : cw_263 (1) = .inl (cs 0, 10, .inl (fun _ => 0)) := by rw [ecw_263, va_up_ne _ _ (by decide)]; exact h_252
  have h_266 : cw_263 (2) = .inl (cs 0, 10, .inl (fun _ => 0)) := by rw [ecw_263, va_up_ne _ _ (by decide)]; exact h_253
  have h_267 : cw_263 (3) = .inl (cs 0, 10, .inl (fun _ => 0)) := by rw [ecw_263, va_up_ne _ _ (by decide)]; exact h_254
  have h_268 : cw_263 (4) = .inl (cs 0, 200, .inl (fun _ => 0)) := by rw [ecw_263, va_up_ne _ _ (by decide)]; exact h_255
  have h_269 : cw_263 (5) = .inl (cs 0, 200, .inl (fun _ => 0)) := by rw [ecw_263, va_up_ne _ _ (by decide)]; exact h_256
  have h_270 : cw_263 (6) = .inl (cs 0, 200, .inl (fun _ => 0)) := by rw [ecw_263, va_up_ne _ _ (by decide)]; exact h_257
  have h_271 : cw_263 (7) = .inl (cs 0, 200, .inl (fun _ => 0)) := by rw [ecw_263, va_up_ne _ _ (by decide)]; exact h_258
  have h_272 : cw_263 (8) = .inl (cs 0, 200, .inl (fun _ => 0)) := by rw [ecw_263, va_up_ne _ _ (by decide)]; exact h_259
  have h_273 : cw_263 (9) = .inl (cs 0, 200, .inl (fun _ => 0)) := by rw [ecw_263, va_up_ne _ _ (by decide)]; exact h_260
  have h_274 : cw_263 (10) = .inl (cs 0, 200, .inl (fun _ => 0)) := by rw [ecw_263, va_up_ne _ _ (by decide)]; exact h_261
  have h_275 : cw_263 (11) = .inl (cs 0, 200, .inl (fun _ => 0)) := by rw [ecw_263, va_up_ne _ _ (by decide)]; exact h_262
  clear ecw_263
  clear h_251 h_252 h_253 h_254 h_255 h_256 h_257 h_258 h_259 h_260 h_261 h_262
  refine lv_aload_n hx hb d_M_init_100 rfl (lv_at hl 0 rfl) ?_
  refine lv_sipush (v := 200) hx hb d_M_init_101 (by decide) ?_
  refine pw_newa (atype := .int) hx hb (hw _ kR_int) rfl hK hP hD hS hA 0 rfl 200 rfl (by decide) (Nat.le_of_ble_eq_true rfl) (Nat.le_of_ble_eq_true rfl) d_M_init_104 (fun q_276 H hP hD hS => ?_)
  obtain ⟨bk_277, eb⟩ : ∃ x, x = va_up bk_237 12 q_276 := ⟨_, rfl⟩
  obtain ⟨cw_278, ec⟩ : ∃ x, x = va_up cw_263 12 (.inl (cs 0, 200, .inl (fun _ => 0))) := ⟨_, rfl⟩
  replace hP : va_P D classes (wl 13 bk_277 cw_278) H := by rw [eb, ec]; exact hP
  replace hD : va_D (AA 1 bk sz) (wl 13 bk_277 cw_278) := by rw [eb, ec]; exact hD
  have a_279 : bk_277 0 = h0 := by rw [eb, va_up_ne _ _ (by decide)]; exact a_239
  have a_280 : bk_277 1 = q_1 := by rw [eb, va_up_ne _ _ (by decide)]; exact a_240
  have a_281 : bk_277 2 = q_11 := by rw [eb, va_up_ne _ _ (by decide)]; exact a_241
  have a_282 : bk_277 3 = q_24 := by rw [eb, va_up_ne _ _ (by decide)]; exact a_242
  have a_283 : bk_277 4 = q_40 := by rw [eb, va_up_ne _ _ (by decide)]; exact a_243
  have a_284 : bk_277 5 = q_59 := by rw [eb, va_up_ne _ _ (by decide)]; exact a_244
  have a_285 : bk_277 6 = q_81 := by rw [eb, va_up_ne _ _ (by decide)]; exact a_245
  have a_286 : bk_277 7 = q_106 := by rw [eb, va_up_ne _ _ (by decide)]; exact a_246
  have a_287 : bk_277 8 = q_134 := by rw [eb, va_up_ne _ _ (by decide)]; exact a_247
  have a_288 : bk_277 9 = q_165 := by rw [eb, va_up_ne _ _ (by decide)]; exact a_248
  have a_289 : bk_277 10 = q_199 := by rw [eb, va_up_ne _ _ (by decide)]; exact a_249
  have a_290 : bk_277 11 = q_236 := by rw [eb, va_up_ne _ _ (by decide)]; exact a_250
  have a_291 : bk_277 12 = q_276 := by rw [eb]; exact va_up_self _ _ _
  have h_292 : cw_278 0 = .inr (7, [.int (0), .ref (q_1), .ref (q_11), .ref (q_24), .int (0), .ref (q_40), .ref (q_59), .ref (q_81), .ref (q_106), .ref (q_134), .ref (q_165), .ref (q_199), .ref (q_236), .null, .null, .null, .null, .null, .null, .null, .null, .null, .int (0), .null, .null, .int (0), .int (0), .null, .null, .null, .int (0), .null, .null]) := by rw [ec, va_up_ne _ _ (by decide)]; exact h_264
  have h_293 : cw_278 1 = .inl (cs 0, 10, .inl (fun _ => 0)) := by rw [ec, va_up_ne _ _ (by decide)]; exact h_265
  have h_294 : cw_278 2 = .inl (cs 0, 10, .inl (fun _ => 0)) := by rw [ec, va_up_ne _ _ (by decide)]; exact h_266
  have h_295 : cw_278 3 = .inl (cs 0, 10, .inl (fun _ => 0)) := by rw [ec, va_up_ne _ _ (by decide)]; exact h_267
  have h_296 : cw_278 4 = .inl (cs 0, 200, .inl (fun _ => 0)) := by rw [ec, va_up_ne _ _ (by decide)]; exact h_268
  have h_297 : cw_278 5 = .inl (cs 0, 200, .inl (fun _ => 0)) := by rw [ec, va_up_ne _ _ (by decide)]; exact h_269
  have h_298 : cw_278 6 = .inl (cs 0, 200, .inl (fun _ => 0)) := by rw [ec, va_up_ne _ _ (by decide)]; exact h_270
  have h_299 : cw_278 7 = .inl (cs 0, 200, .inl (fun _ => 0)) := by rw [ec, va_up_ne _ _ (by decide)]; exact h_271
  have h_300 : cw_278 8 = .inl (cs 0, 200, .inl (fun _ => 0)) := by rw [ec, va_up_ne _ _ (by decide)]; exact h_272
  have h_301 : cw_278 9 = .inl (cs 0, 200, .inl (fun _ => 0)) := by rw [ec, va_up_ne _ _ (by decide)]; exact h_273
  have h_302 : cw_278 10 = .inl (cs 0, 200, .inl (fun _ => 0)) := by rw [ec, va_up_ne _ _ (by decide)]; exact h_274
  have h_303 : cw_278 11 = .inl (cs 0, 200, .inl (fun _ => 0)) := by rw [ec, va_up_ne _ _ (by decide)]; exact h_275
  have h_304 : cw_278 12 = .inl (cs 0, 200, .inl (fun _ => 0)) := by rw [ec]; exact va_up_self _ _ _
  clear eb ec
  clear a_239 a_240 a_241 a_242 a_243 a_244 a_245 a_246 a_247 a_248 a_249 a_250 h_264 h_265 h_266 h_267 h_268 h_269 h_270 h_271 h_272 h_273 h_274 h_275
  refine pw_putFA (ci := 7) (v := .ref (q_276)) (ty := (t_M 13)) (fs' := [.int (0), .ref (q_1), .ref (q_11), .ref (q_24), .int (0), .ref (q_40), .ref (q_59), .ref (q_81), .ref (q_106), .ref (q_134), .ref (q_165), .ref (q_199), .ref (q_236), .ref (q_276), .null, .null, .null, .null, .null, .null, .null, .null, .int (0), .null, .null, .int (0), .int (0), .null, .null, .null, .int (0), .null, .null]) hx hb hw i_M t_M t_M_ok n_M hown hK hP hD hS (0) (by decide) a_279 h_292 rfl 13 (by decide) (hw _ kF_M_43) rfl hin rfl (t_M_ok 13 (by decide)) rfl rfl (Nat.le_of_ble_eq_true rfl) rfl d_M_init_106 (fun cw_305 H locs ecw_305 hP hD hS => ?_)
  have h_306 : cw_305 (0) = .inr (7, [.int (0), .ref (q_1), .ref (q_11), .ref (q_24), .int (0), .ref (q_40), .ref (q_59), .ref (q_81), .ref (q_106), .ref (q_134), .ref (q_165), .ref (q_199), .ref (q_236), .ref (q_276), .null, .null, .null, .null, .null, .null, .null, .null, .int (0), .null, .null, .int (0), .int (0), .null, .null, .null, .int (0), .null, .null]) := by rw [ecw_305]; exact va_up_self _ _ _
  have h_307 : cw_305 (1) = .inl (cs 0, 10, .inl (fun _ => 0)) := by rw [ecw_305, va_up_ne _ _ (by decide)]; exact h_293
  have h_308 : cw_305 (2) = .inl (cs 0, 10, .inl (fun _ => 0)) := by rw [ecw_305, va_up_ne _ _ (by decide)]; exact h_294
  have h_309 : cw_305 (3) = .inl (cs 0, 10, .inl (fun _ => 0)) := by rw [ecw_305, va_up_ne _ _ (by decide)]; exact h_295
  have h_310 : cw_305 (4) = .inl (cs 0, 200, .inl (fun _ => 0)) := by rw [ecw_305, va_up_ne _ _ (by decide)]; exact h_296
  have h_311 : cw_305 (5) = .inl (cs 0, 200, .inl (fun _ => 0)) := by rw [ecw_305, va_up_ne _ _ (by decide)]; exact h_297
  have h_312 : cw_305 (6) = .inl (cs 0, 200, .inl (fun _ => 0)) := by rw [ecw_305, va_up_ne _ _ (by decide)]; exact h_298
  have h_313 : cw_305 (7) = .inl (cs 0, 200, .inl (fun _ => 0)) := by rw [ecw_305, va_up_ne _ _ (by decide)]; exact h_299
  have h_314 : cw_305 (8) = .inl (cs 0, 200, .inl (fun _ => 0)) := by rw [ecw_305, va_up_ne _ _ (by decide)]; exact h_300
  have h_315 : cw_305 (9) = .inl (cs 0, 200, .inl (fun _ => 0)) := by rw [ecw_305, va_up_ne _ _ (by decide)]; exact h_301
  have h_316 : cw_305 (10) = .inl (cs 0, 200, .inl (fun _ => 0)) := by rw [ecw_305, va_up_ne _ _ (by decide)]; exact h_302
  have h_317 : cw_305 (11) = .inl (cs 0, 200, .inl (fun _ => 0)) := by rw [ecw_305, va_up_ne _ _ (by decide)]; exact h_303
  have h_318 : cw_305 (12) = .inl (cs 0, 200, .inl (fun _ => 0)) := by rw [ecw_305, va_up_ne _ _ (by decide)]; exact h_304
  clear ecw_305
  clear h_292 h_293 h_294 h_295 h_296 h_297 h_298 h_299 h_300 h_301 h_302 h_303 h_304
  refine lv_aload_n hx hb d_M_init_109 rfl (lv_at hl 0 rfl) ?_
  refine lv_sipush (v := 200) hx hb d_M_init_110 (by decide) ?_
  refine pw_newa (atype := .int) hx hb (hw _ kR_int) rfl hK hP hD hS hA 0 rfl 200 rfl (by decide) (Nat.le_of_ble_eq_true rfl) (Nat.le_of_ble_eq_true rfl) d_M_init_113 (fun q_319 H hP hD hS => ?_)
  obtain ⟨bk_320, eb⟩ : ∃ x, x = va_up bk_277 13 q_319 := ⟨_, rfl⟩
  obtain ⟨cw_321, ec⟩ : ∃ x, x = va_up cw_305 13 (.inl (cs 0, 200, .inl (fun _ => 0))) := ⟨_, rfl⟩
  replace hP : va_P D classes (wl 14 bk_320 cw_321) H := by rw [eb, ec]; exact hP
  replace hD : va_D (AA 1 bk sz) (wl 14 bk_320 cw_321) := by rw [eb, ec]; exact hD
  have a_322 : bk_320 0 = h0 := by rw [eb, va_up_ne _ _ (by decide)]; exact a_279
  have a_323 : bk_320 1 = q_1 := by rw [eb, va_up_ne _ _ (by decide)]; exact a_280
  have a_324 : bk_320 2 = q_11 := by rw [eb, va_up_ne _ _ (by decide)]; exact a_281
  have a_325 : bk_320 3 = q_24 := by rw [eb, va_up_ne _ _ (by decide)]; exact a_282
  have a_326 : bk_320 4 = q_40 := by rw [eb, va_up_ne _ _ (by decide)]; exact a_283
  have a_327 : bk_320 5 = q_59 := by rw [eb, va_up_ne _ _ (by decide)]; exact a_284
  have a_328 : bk_320 6 = q_81 := by rw [eb, va_up_ne _ _ (by decide)]; exact a_285
  have a_329 : bk_320 7 = q_106 := by rw [eb, va_up_ne _ _ (by decide)]; exact a_286
  have a_330 : bk_320 8 = q_134 := by rw [eb, va_up_ne _ _ (by decide)]; exact a_287
  have a_331 : bk_320 9 = q_165 := by rw [eb, va_up_ne _ _ (by decide)]; exact a_288
  have a_332 : bk_320 10 = q_199 := by rw [eb, va_up_ne _ _ (by decide)]; exact a_289
  have a_333 : bk_320 11 = q_236 := by rw [eb, va_up_ne _ _ (by decide)]; exact a_290
  have a_334 : bk_320 12 = q_276 := by rw [eb, va_up_ne _ _ (by decide)]; exact a_291
  have a_335 : bk_320 13 = q_319 := by rw [eb]; exact va_up_self _ _ _
  have h_336 : cw_321 0 = .inr (7, [.int (0), .ref (q_1), .ref (q_11), .ref (q_24), .int (0), .ref (q_40), .ref (q_59), .ref (q_81), .ref (q_106), .ref (q_134), .ref (q_165), .ref (q_199), .ref (q_236), .ref (q_276), .null, .null, .null, .null, .null, .null, .null, .null, .int (0), .null, .null, .int (0), .int (0), .null, .null, .null, .int (0), .null, .null]) := by rw [ec, va_up_ne _ _ (by decide)]; exact h_306
  have h_337 : cw_321 1 = .inl (cs 0, 10, .inl (fun _ => 0)) := by rw [ec, va_up_ne _ _ (by decide)]; exact h_307
  have h_338 : cw_321 2 = .inl (cs 0, 10, .inl (fun _ => 0)) := by rw [ec, va_up_ne _ _ (by decide)]; exact h_308
  have h_339 : cw_321 3 = .inl (cs 0, 10, .inl (fun _ => 0)) := by rw [ec, va_up_ne _ _ (by decide)]; exact h_309
  have h_340 : cw_321 4 = .inl (cs 0, 200, .inl (fun _ => 0)) := by rw [ec, va_up_ne _ _ (by decide)]; exact h_310
  have h_341 : cw_321 5 = .inl (cs 0, 200, .inl (fun _ => 0)) := by rw [ec, va_up_ne _ _ (by decide)]; exact h_311
  have h_342 : cw_321 6 = .inl (cs 0, 200, .inl (fun _ => 0)) := by rw [ec, va_up_ne _ _ (by decide)]; exact h_312
  have h_343 : cw_321 7 = .inl (cs 0, 200, .inl (fun _ => 0)) := by rw [ec, va_up_ne _ _ (by decide)]; exact h_313
  have h_344 : cw_321 8 = .inl (cs 0, 200, .inl (fun _ => 0)) := by rw [ec, va_up_ne _ _ (by decide)]; exact h_314
  have h_345 : cw_321 9 = .inl (cs 0, 200, .inl (fun _ => 0)) := by rw [ec, va_up_ne _ _ (by decide)]; exact h_315
  have h_346 : cw_321 10 = .inl (cs 0, 200, .inl (fun _ => 0)) := by rw [ec, va_up_ne _ _ (by decide)]; exact h_316
  have h_347 : cw_321 11 = .inl (cs 0, 200, .inl (fun _ => 0)) := by rw [ec, va_up_ne _ _ (by decide)]; exact h_317
  have h_348 : cw_321 12 = .inl (cs 0, 200, .inl (fun _ => 0)) := by rw [ec, va_up_ne _ _ (by decide)]; exact h_318
  have h_349 : cw_321 13 = .inl (cs 0, 200, .inl (fun _ => 0)) := by rw [ec]; exact va_up_self _ _ _
  clear eb ec
  clear a_279 a_280 a_281 a_282 a_283 a_284 a_285 a_286 a_287 a_288 a_289 a_290 a_291 h_306 h_307 h_308 h_309 h_310 h_311 h_312 h_313 h_314 h_315 h_316 h_317 h_318
  refine pw_putFA (ci := 7) (v := .ref (q_319)) (ty := (t_M 14)) (fs' := [.int (0), .ref (q_1), .ref (q_11), .ref (q_24), .int (0), .ref (q_40), .ref (q_59), .ref (q_81), .ref (q_106), .ref (q_134), .ref (q_165), .ref (q_199), .ref (q_236), .ref (q_276), .ref (q_319), .null, .null, .null, .null, .null, .null, .null, .int (0), .null, .null, .int (0), .int (0), .null, .null, .null, .int (0), .null, .null]) hx hb hw i_M t_M t_M_ok n_M hown hK hP hD hS (0) (by decide) a_322 h_336 rfl 14 (by decide) (hw _ kF_M_46) rfl hin rfl (t_M_ok 14 (by decide)) rfl rfl (Nat.le_of_ble_eq_true rfl) rfl d_M_init_115 (fun cw_350 H locs ecw_350 hP hD hS => ?_)
  have h_351 : cw_350 (0) = .inr (7, [.int (0), .ref (q_1), .ref (q_11), .ref (q_24), .int (0), .ref (q_40), .ref (q_59), .ref (q_81), .ref (q_106), .ref (q_134), .ref (q_165), .ref (q_199), .ref (q_236), .ref (q_276), .ref (q_319), .null, .null, .null, .null, .null, .null, .null, .int (0), .null, .null, .int (0), .int (0), .null, .null, .null, .int (0), .null, .null]) := by rw [ecw_350]; exact va_up_self _ _ _
  have h_352 : cw_350 (1) = .inl (cs 0, 10, .inl (fun _ => 0)) := by rw [ecw_350, va_up_ne _ _ (by decide)]; exact h_337
  have h_353 : cw_350 (2) = .inl (cs 0, 10, .inl (fun _ => 0)) := by rw [ecw_350, va_up_ne _ _ (by decide)]; exact h_338
  have h_354 : cw_350 (3) = .inl (cs 0, 10, .inl (fun _ => 0)) := by rw [ecw_350, va_up_ne _ _ (by decide)]; exact h_339
  have h_355 : cw_350 (4) = .inl (cs 0, 200, .inl (fun _ => 0)) := by rw [ecw_350, va_up_ne _ _ (by decide)]; exact h_340
  have h_356 : cw_350 (5) = .inl (cs 0, 200, .inl (fun _ => 0)) := by rw [ecw_350, va_up_ne _ _ (by decide)]; exact h_341
  have h_357 : cw_350 (6) = .inl (cs 0, 200, .inl (fun _ => 0)) := by rw [ecw_350, va_up_ne _ _ (by decide)]; exact h_342
  have h_358 : cw_350 (7) = .inl (cs 0, 200, .inl (fun _ => 0)) := by rw [ecw_350, va_up_ne _ _ (by decide)]; exact h_343
  have h_359 : cw_350 (8) = .inl (cs 0, 200, .inl (fun _ => 0)) := by rw [ecw_350, va_up_ne _ _ (by decide)]; exact h_344
  have h_360 : cw_350 (9) = .inl (cs 0, 200, .inl (fun _ => 0)) := by rw [ecw_350, va_up_ne _ _ (by decide)]; exact h_345
  have h_361 : cw_350 (10) = .inl (cs 0, 200, .inl (fun _ => 0)) := by rw [ecw_350, va_up_ne _ _ (by decide)]; exact h_346
  have h_362 : cw_350 (11) = .inl (cs 0, 200, .inl (fun _ => 0)) := by rw [ecw_350, va_up_ne _ _ (by decide)]; exact h_347
  have h_363 : cw_350 (12) = .inl (cs 0, 200, .inl (fun _ => 0)) := by rw [ecw_350, va_up_ne _ _ (by decide)]; exact h_348
  have h_364 : cw_350 (13) = .inl (cs 0, 200, .inl (fun _ => 0)) := by rw [ecw_350, va_up_ne _ _ (by decide)]; exact h_349
  clear ecw_350
  clear h_336 h_337 h_338 h_339 h_340 h_341 h_342 h_343 h_344 h_345 h_346 h_347 h_348 h_349
  refine lv_aload_n hx hb d_M_init_118 rfl (lv_at hl 0 rfl) ?_
  refine lv_sipush (v := 200) hx hb d_M_init_119 (by decide) ?_
  refine pw_newa (atype := .int) hx hb (hw _ kR_int) rfl hK hP hD hS hA 0 rfl 200 rfl (by decide) (Nat.le_of_ble_eq_true rfl) (Nat.le_of_ble_eq_true rfl) d_M_init_122 (fun q_365 H hP hD hS => ?_)
  obtain ⟨bk_366, eb⟩ : ∃ x, x = va_up bk_320 14 q_365 := ⟨_, rfl⟩
  obtain ⟨cw_367, ec⟩ : ∃ x, x = va_up cw_350 14 (.inl (cs 0, 200, .inl (fun _ => 0))) := ⟨_, rfl⟩
  replace hP : va_P D classes (wl 15 bk_366 cw_367) H := by rw [eb, ec]; exact hP
  replace hD : va_D (AA 1 bk sz) (wl 15 bk_366 cw_367) := by rw [eb, ec]; exact hD
  have a_368 : bk_366 0 = h0 := by rw [eb, va_up_ne _ _ (by decide)]; exact a_322
  have a_369 : bk_366 1 = q_1 := by rw [eb, va_up_ne _ _ (by decide)]; exact a_323
  have a_370 : bk_366 2 = q_11 := by rw [eb, va_up_ne _ _ (by decide)]; exact a_324
  have a_371 : bk_366 3 = q_24 := by rw [eb, va_up_ne _ _ (by decide)]; exact a_325
  have a_372 : bk_366 4 = q_40 := by rw [eb, va_up_ne _ _ (by decide)]; exact a_326
  have a_373 : bk_366 5 = q_59 := by rw [eb, va_up_ne _ _ (by decide)]; exact a_327
  have a_374 : bk_366 6 = q_81 := by rw [eb, va_up_ne _ _ (by decide)]; exact a_328
  have a_375 : bk_366 7 = q_106 := by rw [eb, va_up_ne _ _ (by decide)]; exact a_329
  have a_376 : bk_366 8 = q_134 := by rw [eb, va_up_ne _ _ (by decide)]; exact a_330
  have a_377 : bk_366 9 = q_165 := by rw [eb, va_up_ne _ _ (by decide)]; exact a_331
  have a_378 : bk_366 10 = q_199 := by rw [eb, va_up_ne _ _ (by decide)]; exact a_332
  have a_379 : bk_366 11 = q_236 := by rw [eb, va_up_ne _ _ (by decide)]; exact a_333
  have a_380 : bk_366 12 = q_276 := by rw [eb, va_up_ne _ _ (by decide)]; exact a_334
  have a_381 : bk_366 13 = q_319 := by rw [eb, va_up_ne _ _ (by decide)]; exact a_335
  have a_382 : bk_366 14 = q_365 := by rw [eb]; exact va_up_self _ _ _
  have h_383 : cw_367 0 = .inr (7, [.int (0), .ref (q_1), .ref (q_11), .ref (q_24), .int (0), .ref (q_40), .ref (q_59), .ref (q_81), .ref (q_106), .ref (q_134), .ref (q_165), .ref (q_199), .ref (q_236), .ref (q_276), .ref (q_319), .null, .null, .null, .null, .null, .null, .null, .int (0), .null, .null, .int (0), .int (0), .null, .null, .null, .int (0), .null, .null]) := by rw [ec, va_up_ne _ _ (by decide)]; exact h_351
  have h_384 : cw_367 1 = .inl (cs 0, 10, .inl (fun _ => 0)) := by rw [ec, va_up_ne _ _ (by decide)]; exact h_352
  have h_385 : cw_367 2 = .inl (cs 0, 10, .inl (fun _ => 0)) := by rw [ec, va_up_ne _ _ (by decide)]; exact h_353
  have h_386 : cw_367 3 = .inl (cs 0, 10, .inl (fun _ => 0)) := by rw [ec, va_up_ne _ _ (by decide)]; exact h_354
  have h_387 : cw_367 4 = .inl (cs 0, 200, .inl (fun _ => 0)) := by rw [ec, va_up_ne _ _ (by decide)]; exact h_355
  have h_388 : cw_367 5 = .inl (cs 0, 200, .inl (fun _ => 0)) := by rw [ec, va_up_ne _ _ (by decide)]; exact h_356
  have h_389 : cw_367 6 = .inl (cs 0, 200, .inl (fun _ => 0)) := by rw [ec, va_up_ne _ _ (by decide)]; exact h_357
  have h_390 : cw_367 7 = .inl (cs 0, 200, .inl (fun _ => 0)) := by rw [ec, va_up_ne _ _ (by decide)]; exact h_358
  have h_391 : cw_367 8 = .inl (cs 0, 200, .inl (fun _ => 0)) := by rw [ec, va_up_ne _ _ (by decide)]; exact h_359
  have h_392 : cw_367 9 = .inl (cs 0, 200, .inl (fun _ => 0)) := by rw [ec, va_up_ne _ _ (by decide)]; exact h_360
  have h_393 : cw_367 10 = .inl (cs 0, 200, .inl (fun _ => 0)) := by rw [ec, va_up_ne _ _ (by decide)]; exact h_361
  have h_394 : cw_367 11 = .inl (cs 0, 200, .inl (fun _ => 0)) := by rw [ec, va_up_ne _ _ (by decide)]; exact h_362
  have h_395 : cw_367 12 = .inl (cs 0, 200, .inl (fun _ => 0)) := by rw [ec, va_up_ne _ _ (by decide)]; exact h_363
  have h_396 : cw_367 13 = .inl (cs 0, 200, .inl (fun _ => 0)) := by rw [ec, va_up_ne _ _ (by decide)]; exact h_364
  have h_397 : cw_367 14 = .inl (cs 0, 200, .inl (fun _ => 0)) := by rw [ec]; exact va_up_self _ _ _
  clear eb ec
  clear a_322 a_323 a_324 a_325 a_326 a_327 a_328 a_329 a_330 a_331 a_332 a_333 a_334 a_335 h_351 h_352 h_353 h_354 h_355 h_356 h_357 h_358 h_359 h_360 h_361 h_362 h_363 h_364
  refine pw_putFA (ci := 7) (v := .ref (q_365)) (ty := (t_M 15)) (fs' := [.int (0), .ref (q_1), .ref (q_11), .ref (q_24), .int (0), .ref (q_40), .ref (q_59), .ref (q_81), .ref (q_106), .ref (q_134), .ref (q_165), .ref (q_199), .ref (q_236), .ref (q_276), .ref (q_319), .ref (q_365), .null, .null, .null, .null, .null, .null, .int (0), .null, .null, .int (0), .int (0), .null, .null, .null, .int (0), .null, .null]) hx hb hw i_M t_M t_M_ok n_M hown hK hP hD hS (0) (by decide) a_368 h_383 rfl 15 (by decide) (hw _ kF_M_49) rfl hin rfl (t_M_ok 15 (by decide)) rfl rfl (Nat.le_of_ble_eq_true rfl) rfl d_M_init_124 (fun cw_398 H locs ecw_398 hP hD hS => ?_)
  have h_399 : cw_398 (0) = .inr (7, [.int (0), .ref (q_1), .ref (q_11), .ref (q_24), .int (0), .ref (q_40), .ref (q_59), .ref (q_81), .ref (q_106), .ref (q_134), .ref (q_165), .ref (q_199), .ref (q_236), .ref (q_276), .ref (q_319), .ref (q_365), .null, .null, .null, .null, .null, .null, .int (0), .null, .null, .int (0), .int (0), .null, .null, .null, .int (0), .null, .null]) := by rw [ecw_398]; exact va_up_self _ _ _
  have h_400 : cw_398 (1) = .inl (cs 0, 10, .inl (fun _ => 0)) := by rw [ecw_398, va_up_ne _ _ (by decide)]; exact h_384
  have h_401 : cw_398 (2) = .inl (cs 0, 10, .inl (fun _ => 0)) := by rw [ecw_398, va_up_ne _ _ (by decide)]; exact h_385
  have h_402 : cw_398 (3) = .inl (cs 0, 10, .inl (fun _ => 0)) := by rw [ecw_398, va_up_ne _ _ (by decide)]; exact h_386
  have h_403 : cw_398 (4) = .inl (cs 0, 200, .inl (fun _ => 0)) := by rw [ecw_398, va_up_ne _ _ (by decide)]; exact h_387
  have h_404 : cw_398 (5) = .inl (cs 0, 200, .inl (fun _ => 0)) := by rw [ecw_398, va_up_ne _ _ (by decide)]; exact h_388
  have h_405 : cw_398 (6) = .inl (cs 0, 200, .inl (fun _ => 0)) := by rw [ecw_398, va_up_ne _ _ (by decide)]; exact h_389
  have h_406 : cw_398 (7) = .inl (cs 0, 200, .inl (fun _ => 0)) := by rw [ecw_398, va_up_ne _ _ (by decide)]; exact h_390
  have h_407 : cw_398 (8) = .inl (cs 0, 200, .inl (fun _ => 0)) := by rw [ecw_398, va_up_ne _ _ (by decide)]; exact h_391
  have h_408 : cw_398 (9) = .inl (cs 0, 200, .inl (fun _ => 0)) := by rw [ecw_398, va_up_ne _ _ (by decide)]; exact h_392
  have h_409 : cw_398 (10) = .inl (cs 0, 200, .inl (fun _ => 0)) := by rw [ecw_398, va_up_ne _ _ (by decide)]; exact h_393
  have h_410 : cw_398 (11) = .inl (cs 0, 200, .inl (fun _ => 0)) := by rw [ecw_398, va_up_ne _ _ (by decide)]; exact h_394
  have h_411 : cw_398 (12) = .inl (cs 0, 200, .inl (fun _ => 0)) := by rw [ecw_398, va_up_ne _ _ (by decide)]; exact h_395
  have h_412 : cw_398 (13) = .inl (cs 0, 200, .inl (fun _ => 0)) := by rw [ecw_398, va_up_ne _ _ (by decide)]; exact h_396
  have h_413 : cw_398 (14) = .inl (cs 0, 200, .inl (fun _ => 0)) := by rw [ecw_398, va_up_ne _ _ (by decide)]; exact h_397
  clear ecw_398
  clear h_383 h_384 h_385 h_386 h_387 h_388 h_389 h_390 h_391 h_392 h_393 h_394 h_395 h_396 h_397
  refine lv_aload_n hx hb d_M_init_127 rfl (lv_at hl 0 rfl) ?_
  refine lv_sipush (v := 200) hx hb d_M_init_128 (by decide) ?_
  refine pw_newz hx hb (hw _ kR_boolean) hK hP hD hS hA 1 rfl 200 rfl (by decide) (Nat.le_of_ble_eq_true rfl) (Nat.le_of_ble_eq_true rfl) d_M_init_131 (fun q_414 H hP hD hS => ?_)
  obtain ⟨bk_415, eb⟩ : ∃ x, x = va_up bk_366 15 q_414 := ⟨_, rfl⟩
  obtain ⟨cw_416, ec⟩ : ∃ x, x = va_up cw_398 15 (.inl (cs 1, 200, .inl (fun _ => 0))) := ⟨_, rfl⟩
  replace hP : va_P D classes (wl 16 bk_415 cw_416) H := by rw [eb, ec]; exact hP
  replace hD : va_D (AA 1 bk sz) (wl 16 bk_415 cw_416) := by rw [eb, ec]; exact hD
  have a_417 : bk_415 0 = h0 := by rw [eb, va_up_ne _ _ (by decide)]; exact a_368
  have a_418 : bk_415 1 = q_1 := by rw [eb, va_up_ne _ _ (by decide)]; exact a_369
  have a_419 : bk_415 2 = q_11 := by rw [eb, va_up_ne _ _ (by decide)]; exact a_370
  have a_420 : bk_415 3 = q_24 := by rw [eb, va_up_ne _ _ (by decide)]; exact a_371
  have a_421 : bk_415 4 = q_40 := by rw [eb, va_up_ne _ _ (by decide)]; exact a_372
  have a_422 : bk_415 5 = q_59 := by rw [eb, va_up_ne _ _ (by decide)]; exact a_373
  have a_423 : bk_415 6 = q_81 := by rw [eb, va_up_ne _ _ (by decide)]; exact a_374
  have a_424 : bk_415 7 = q_106 := by rw [eb, va_up_ne _ _ (by decide)]; exact a_375
  have a_425 : bk_415 8 = q_134 := by rw [eb, va_up_ne _ _ (by decide)]; exact a_376
  have a_426 : bk_415 9 = q_165 := by rw [eb, va_up_ne _ _ (by decide)]; exact a_377
  have a_427 : bk_415 10 = q_199 := by rw [eb, va_up_ne _ _ (by decide)]; exact a_378
  have a_428 : bk_415 11 = q_236 := by rw [eb, va_up_ne _ _ (by decide)]; exact a_379
  have a_429 : bk_415 12 = q_276 := by rw [eb, va_up_ne _ _ (by decide)]; exact a_380
  have a_430 : bk_415 13 = q_319 := by rw [eb, va_up_ne _ _ (by decide)]; exact a_381
  have a_431 : bk_415 14 = q_365 := by rw [eb, va_up_ne _ _ (by decide)]; exact a_382
  have a_432 : bk_415 15 = q_414 := by rw [eb]; exact va_up_self _ _ _
  have h_433 : cw_416 0 = .inr (7, [.int (0), .ref (q_1), .ref (q_11), .ref (q_24), .int (0), .ref (q_40), .ref (q_59), .ref (q_81), .ref (q_106), .ref (q_134), .ref (q_165), .ref (q_199), .ref (q_236), .ref (q_276), .ref (q_319), .ref (q_365), .null, .null, .null, .null, .null, .null, .int (0), .null, .null, .int (0), .int (0), .null, .null, .null, .int (0), .null, .null]) := by rw [ec, va_up_ne _ _ (by decide)]; exact h_399
  have h_434 : cw_416 1 = .inl (cs 0, 10, .inl (fun _ => 0)) := by rw [ec, va_up_ne _ _ (by decide)]; exact h_400
  have h_435 : cw_416 2 = .inl (cs 0, 10, .inl (fun _ => 0)) := by rw [ec, va_up_ne _ _ (by decide)]; exact h_401
  have h_436 : cw_416 3 = .inl (cs 0, 10, .inl (fun _ => 0)) := by rw [ec, va_up_ne _ _ (by decide)]; exact h_402
  have h_437 : cw_416 4 = .inl (cs 0, 200, .inl (fun _ => 0)) := by rw [ec, va_up_ne _ _ (by decide)]; exact h_403
  have h_438 : cw_416 5 = .inl (cs 0, 200, .inl (fun _ => 0)) := by rw [ec, va_up_ne _ _ (by decide)]; exact h_404
  have h_439 : cw_416 6 = .inl (cs 0, 200, .inl (fun _ => 0)) := by rw [ec, va_up_ne _ _ (by decide)]; exact h_405
  have h_440 : cw_416 7 = .inl (cs 0, 200, .inl (fun _ => 0)) := by rw [ec, va_up_ne _ _ (by decide)]; exact h_406
  have h_441 : cw_416 8 = .inl (cs 0, 200, .inl (fun _ => 0)) := by rw [ec, va_up_ne _ _ (by decide)]; exact h_407
  have h_442 : cw_416 9 = .inl (cs 0, 200, .inl (fun _ => 0)) := by rw [ec, va_up_ne _ _ (by decide)]; exact h_408
  have h_443 : cw_416 10 = .inl (cs 0, 200, .inl (fun _ => 0)) := by rw [ec, va_up_ne _ _ (by decide)]; exact h_409
  have h_444 : cw_416 11 = .inl (cs 0, 200, .inl (fun _ => 0)) := by rw [ec, va_up_ne _ _ (by decide)]; exact h_410
  have h_445 : cw_416 12 = .inl (cs 0, 200, .inl (fun _ => 0)) := by rw [ec, va_up_ne _ _ (by decide)]; exact h_411
  have h_446 : cw_416 13 = .inl (cs 0, 200, .inl (fun _ => 0)) := by rw [ec, va_up_ne _ _ (by decide)]; exact h_412
  have h_447 : cw_416 14 = .inl (cs 0, 200, .inl (fun _ => 0)) := by rw [ec, va_up_ne _ _ (by decide)]; exact h_413
  have h_448 : cw_416 15 = .inl (cs 1, 200, .inl (fun _ => 0)) := by rw [ec]; exact va_up_self _ _ _
  clear eb ec
  clear a_368 a_369 a_370 a_371 a_372 a_373 a_374 a_375 a_376 a_377 a_378 a_379 a_380 a_381 a_382 h_399 h_400 h_401 h_402 h_403 h_404 h_405 h_406 h_407 h_408 h_409 h_410 h_411 h_412 h_413
  refine pw_putFA (ci := 7) (v := .ref (q_414)) (ty := (t_M 16)) (fs' := [.int (0), .ref (q_1), .ref (q_11), .ref (q_24), .int (0), .ref (q_40), .ref (q_59), .ref (q_81), .ref (q_106), .ref (q_134), .ref (q_165), .ref (q_199), .ref (q_236), .ref (q_276), .ref (q_319), .ref (q_365), .ref (q_414), .null, .null, .null, .null, .null, .int (0), .null, .null, .int (0), .int (0), .null, .null, .null, .int (0), .null, .null]) hx hb hw i_M t_M t_M_ok n_M hown hK hP hD hS (0) (by decide) a_417 h_433 rfl 16 (by decide) (hw _ kF_M_52) rfl hin rfl (t_M_ok 16 (by decide)) rfl rfl (Nat.le_of_ble_eq_true rfl) rfl d_M_init_133 (fun cw_449 H locs ecw_449 hP hD hS => ?_)
  have h_450 : cw_449 (0) = .inr (7, [.int (0), .ref (q_1), .ref (q_11), .ref (q_24), .int (0), .ref (q_40), .ref (q_59), .ref (q_81), .ref (q_106), .ref (q_134), .ref (q_165), .ref (q_199), .ref (q_236), .ref (q_276), .ref (q_319), .ref (q_365), .ref (q_414), .null, .null, .null, .null, .null, .int (0), .null, .null, .int (0), .int (0), .null, .null, .null, .int (0), .null, .null]) := by rw [ecw_449]; exact va_up_self _ _ _
  have h_451 : cw_449 (1) = .inl (cs 0, 10, .inl (fun _ => 0)) := by rw [ecw_449, va_up_ne _ _ (by decide)]; exact h_434
  have h_452 : cw_449 (2) = .inl (cs 0, 10, .inl (fun _ => 0)) := by rw [ecw_449, va_up_ne _ _ (by decide)]; exact h_435
  have h_453 : cw_449 (3) = .inl (cs 0, 10, .inl (fun _ => 0)) := by rw [ecw_449, va_up_ne _ _ (by decide)]; exact h_436
  have h_454 : cw_449 (4) = .inl (cs 0, 200, .inl (fun _ => 0)) := by rw [ecw_449, va_up_ne _ _ (by decide)]; exact h_437
  have h_455 : cw_449 (5) = .inl (cs 0, 200, .inl (fun _ => 0)) := by rw [ecw_449, va_up_ne _ _ (by decide)]; exact h_438
  have h_456 : cw_449 (6) = .inl (cs 0, 200, .inl (fun _ => 0)) := by rw [ecw_449, va_up_ne _ _ (by decide)]; exact h_439
  have h_457 : cw_449 (7) = .inl (cs 0, 200, .inl (fun _ => 0)) := by rw [ecw_449, va_up_ne _ _ (by decide)]; exact h_440
  have h_458 : cw_449 (8) = .inl (cs 0, 200, .inl (fun _ => 0)) := by rw [ecw_449, va_up_ne _ _ (by decide)]; exact h_441
  have h_459 : cw_449 (9) = .inl (cs 0, 200, .inl (fun _ => 0)) := by rw [ecw_449, va_up_ne _ _ (by decide)]; exact h_442
  have h_460 : cw_449 (10) = .inl (cs 0, 200, .inl (fun _ => 0)) := by rw [ecw_449, va_up_ne _ _ (by decide)]; exact h_443
  have h_461 : cw_449 (11) = .inl (cs 0, 200, .inl (fun _ => 0)) := by rw [ecw_449, va_up_ne _ _ (by decide)]; exact h_444
  have h_462 : cw_449 (12) = .inl (cs 0, 200, .inl (fun _ => 0)) := by rw [ecw_449, va_up_ne _ _ (by decide)]; exact h_445
  have h_463 : cw_449 (13) = .inl (cs 0, 200, .inl (fun _ => 0)) := by rw [ecw_449, va_up_ne _ _ (by decide)]; exact h_446
  have h_464 : cw_449 (14) = .inl (cs 0, 200, .inl (fun _ => 0)) := by rw [ecw_449, va_up_ne _ _ (by decide)]; exact h_447
  have h_465 : cw_449 (15) = .inl (cs 1, 200, .inl (fun _ => 0)) := by rw [ecw_449, va_up_ne _ _ (by decide)]; exact h_448
  clear ecw_449
  clear h_433 h_434 h_435 h_436 h_437 h_438 h_439 h_440 h_441 h_442 h_443 h_444 h_445 h_446 h_447 h_448
  refine lv_aload_n hx hb d_M_init_136 rfl (lv_at hl 0 rfl) ?_
  refine lv_sipush (v := 200) hx hb d_M_init_137 (by decide) ?_
  refine pw_newa (atype := .int) hx hb (hw _ kR_int) rfl hK hP hD hS hA 0 rfl 200 rfl (by decide) (Nat.le_of_ble_eq_true rfl) (Nat.le_of_ble_eq_true rfl) d_M_init_140 (fun q_466 H hP hD hS => ?_)
  obtain ⟨bk_467, eb⟩ : ∃ x, x = va_up bk_415 16 q_466 := ⟨_, rfl⟩
  obtain ⟨cw_468, ec⟩ : ∃ x, x = va_up cw_449 16 (.inl (cs 0, 200, .inl (fun _ => 0))) := ⟨_, rfl⟩
  replace hP : va_P D classes (wl 17 bk_467 cw_468) H := by rw [eb, ec]; exact hP
  replace hD : va_D (AA 1 bk sz) (wl 17 bk_467 cw_468) := by rw [eb, ec]; exact hD
  have a_469 : bk_467 0 = h0 := by rw [eb, va_up_ne _ _ (by decide)]; exact a_417
  have a_470 : bk_467 1 = q_1 := by rw [eb, va_up_ne _ _ (by decide)]; exact a_418
  have a_471 : bk_467 2 = q_11 := by rw [eb, va_up_ne _ _ (by decide)]; exact a_419
  have a_472 : bk_467 3 = q_24 := by rw [eb, va_up_ne _ _ (by decide)]; exact a_420
  have a_473 : bk_467 4 = q_40 := by rw [eb, va_up_ne _ _ (by decide)]; exact a_421
  have a_474 : bk_467 5 = q_59 := by rw [eb, va_up_ne _ _ (by decide)]; exact a_422
  have a_475 : bk_467 6 = q_81 := by rw [eb, va_up_ne _ _ (by decide)]; exact a_423
  have a_476 : bk_467 7 = q_106 := by rw [eb, va_up_ne _ _ (by decide)]; exact a_424
  have a_477 : bk_467 8 = q_134 := by rw [eb, va_up_ne _ _ (by decide)]; exact a_425
  have a_478 : bk_467 9 = q_165 := by rw [eb, va_up_ne _ _ (by decide)]; exact a_426
  have a_479 : bk_467 10 = q_199 := by rw [eb, va_up_ne _ _ (by decide)]; exact a_427
  have a_480 : bk_467 11 = q_236 := by rw [eb, va_up_ne _ _ (by decide)]; exact a_428
  have a_481 : bk_467 12 = q_276 := by rw [eb, va_up_ne _ _ (by decide)]; exact a_429
  have a_482 : bk_467 13 = q_319 := by rw [eb, va_up_ne _ _ (by decide)]; exact a_430
  have a_483 : bk_467 14 = q_365 := by rw [eb, va_up_ne _ _ (by decide)]; exact a_431
  have a_484 : bk_467 15 = q_414 := by rw [eb, va_up_ne _ _ (by decide)]; exact a_432
  have a_485 : bk_467 16 = q_466 := by rw [eb]; exact va_up_self _ _ _
  have h_486 : cw_468 0 = .inr (7, [.int (0), .ref (q_1), .ref (q_11), .ref (q_24), .int (0), .ref (q_40), .ref (q_59), .ref (q_81), .ref (q_106), .ref (q_134), .ref (q_165), .ref (q_199), .ref (q_236), .ref (q_276), .ref (q_319), .ref (q_365), .ref (q_414), .null, .null, .null, .null, .null, .int (0), .null, .null, .int (0), .int (0), .null, .null, .null, .int (0), .null, .null]) := by rw [ec, va_up_ne _ _ (by decide)]; exact h_450
  have h_487 : cw_468 1 = .inl (cs 0, 10, .inl (fun _ => 0)) := by rw [ec, va_up_ne _ _ (by decide)]; exact h_451
  have h_488 : cw_468 2 = .inl (cs 0, 10, .inl (fun _ => 0)) := by rw [ec, va_up_ne _ _ (by decide)]; exact h_452
  have h_489 : cw_468 3 = .inl (cs 0, 10, .inl (fun _ => 0)) := by rw [ec, va_up_ne _ _ (by decide)]; exact h_453
  have h_490 : cw_468 4 = .inl (cs 0, 200, .inl (fun _ => 0)) := by rw [ec, va_up_ne _ _ (by decide)]; exact h_454
  have h_491 : cw_468 5 = .inl (cs 0, 200, .inl (fun _ => 0)) := by rw [ec, va_up_ne _ _ (by decide)]; exact h_455
  have h_492 : cw_468 6 = .inl (cs 0, 200, .inl (fun _ => 0)) := by rw [ec, va_up_ne _ _ (by decide)]; exact h_456
  have h_493 : cw_468 7 = .inl (cs 0, 200, .inl (fun _ => 0)) := by rw [ec, va_up_ne _ _ (by decide)]; exact h_457
  have h_494 : cw_468 8 = .inl (cs 0, 200, .inl (fun _ => 0)) := by rw [ec, va_up_ne _ _ (by decide)]; exact h_458
  have h_495 : cw_468 9 = .inl (cs 0, 200, .inl (fun _ => 0)) := by rw [ec, va_up_ne _ _ (by decide)]; exact h_459
  have h_496 : cw_468 10 = .inl (cs 0, 200, .inl (fun _ => 0)) := by rw [ec, va_up_ne _ _ (by decide)]; exact h_460
  have h_497 : cw_468 11 = .inl (cs 0, 200, .inl (fun _ => 0)) := by rw [ec, va_up_ne _ _ (by decide)]; exact h_461
  have h_498 : cw_468 12 = .inl (cs 0, 200, .inl (fun _ => 0)) := by rw [ec, va_up_ne _ _ (by decide)]; exact h_462
  have h_499 : cw_468 13 = .inl (cs 0, 200, .inl (fun _ => 0)) := by rw [ec, va_up_ne _ _ (by decide)]; exact h_463
  have h_500 : cw_468 14 = .inl (cs 0, 200, .inl (fun _ => 0)) := by rw [ec, va_up_ne _ _ (by decide)]; exact h_464
  have h_501 : cw_468 15 = .inl (cs 1, 200, .inl (fun _ => 0)) := by rw [ec, va_up_ne _ _ (by decide)]; exact h_465
  have h_502 : cw_468 16 = .inl (cs 0, 200, .inl (fun _ => 0)) := by rw [ec]; exact va_up_self _ _ _
  clear eb ec
  clear a_417 a_418 a_419 a_420 a_421 a_422 a_423 a_424 a_425 a_426 a_427 a_428 a_429 a_430 a_431 a_432 h_450 h_451 h_452 h_453 h_454 h_455 h_456 h_457 h_458 h_459 h_460 h_461 h_462 h_463 h_464 h_465
  refine pw_putFA (ci := 7) (v := .ref (q_466)) (ty := (t_M 17)) (fs' := [.int (0), .ref (q_1), .ref (q_11), .ref (q_24), .int (0), .ref (q_40), .ref (q_59), .ref (q_81), .ref (q_106), .ref (q_134), .ref (q_165), .ref (q_199), .ref (q_236), .ref (q_276), .ref (q_319), .ref (q_365), .ref (q_414), .ref (q_466), .null, .null, .null, .null, .int (0), .null, .null, .int (0), .int (0), .null, .null, .null, .int (0), .null, .null]) hx hb hw i_M t_M t_M_ok n_M hown hK hP hD hS (0) (by decide) a_469 h_486 rfl 17 (by decide) (hw _ kF_M_56) rfl hin rfl (t_M_ok 17 (by decide)) rfl rfl (Nat.le_of_ble_eq_true rfl) rfl d_M_init_142 (fun cw_503 H locs ecw_503 hP hD hS => ?_)
  have h_504 : cw_503 (0) = .inr (7, [.int (0), .ref (q_1), .ref (q_11), .ref (q_24), .int (0), .ref (q_40), .ref (q_59), .ref (q_81), .ref (q_106), .ref (q_134), .ref (q_165), .ref (q_199), .ref (q_236), .ref (q_276), .ref (q_319), .ref (q_365), .ref (q_414), .ref (q_466), .null, .null, .null, .null, .int (0), .null, .null, .int (0), .int (0), .null, .null, .null, .int (0), .null, .null]) := by rw [ecw_503]; exact va_up_self _ _ _
  have h_505 : cw_503 (1) = .inl (cs 0, 10, .inl (fun _ => 0)) := by rw [ecw_503, va_up_ne _ _ (by decide)]; exact h_487
  have h_506 : cw_503 (2) = .inl (cs 0, 10, .inl (fun _ => 0)) := by rw [ecw_503, va_up_ne _ _ (by decide)]; exact h_488
  have h_507 : cw_503 (3) = .inl (cs 0, 10, .inl (fun _ => 0)) := by rw [ecw_503, va_up_ne _ _ (by decide)]; exact h_489
  have h_508 : cw_503 (4) = .inl (cs 0, 200, .inl (fun _ => 0)) := by rw [ecw_503, va_up_ne _ _ (by decide)]; exact h_490
  have h_509 : cw_503 (5) = .inl (cs 0, 200, .inl (fun _ => 0)) := by rw [ecw_503, va_up_ne _ _ (by decide)]; exact h_491
  have h_510 : cw_503 (6) = .inl (cs 0, 200, .inl (fun _ => 0)) := by rw [ecw_503, va_up_ne _ _ (by decide)]; exact h_492
  have h_511 : cw_503 (7) = .inl (cs 0, 200, .inl (fun _ => 0)) := by rw [ecw_503, va_up_ne _ _ (by decide)]; exact h_493
  have h_512 : cw_503 (8) = .inl (cs 0, 200, .inl (fun _ => 0)) := by rw [ecw_503, va_up_ne _ _ (by decide)]; exact h_494
  have h_513 : cw_503 (9) = .inl (cs 0, 200, .inl (fun _ => 0)) := by rw [ecw_503, va_up_ne _ _ (by decide)]; exact h_495
  have h_514 : cw_503 (10) = .inl (cs 0, 200, .inl (fun _ => 0)) := by rw [ecw_503, va_up_ne _ _ (by decide)]; exact h_496
  have h_515 : cw_503 (11) = .inl (cs 0, 200, .inl (fun _ => 0)) := by rw [ecw_503, va_up_ne _ _ (by decide)]; exact h_497
  have h_516 : cw_503 (12) = .inl (cs 0, 200, .inl (fun _ => 0)) := by rw [ecw_503, va_up_ne _ _ (by decide)]; exact h_498
  have h_517 : cw_503 (13) = .inl (cs 0, 200, .inl (fun _ => 0)) := by rw [ecw_503, va_up_ne _ _ (by decide)]; exact h_499
  have h_518 : cw_503 (14) = .inl (cs 0, 200, .inl (fun _ => 0)) := by rw [ecw_503, va_up_ne _ _ (by decide)]; exact h_500
  have h_519 : cw_503 (15) = .inl (cs 1, 200, .inl (fun _ => 0)) := by rw [ecw_503, va_up_ne _ _ (by decide)]; exact h_501
  have h_520 : cw_503 (16) = .inl (cs 0, 200, .inl (fun _ => 0)) := by rw [ecw_503, va_up_ne _ _ (by decide)]; exact h_502
  clear ecw_503
  clear h_486 h_487 h_488 h_489 h_490 h_491 h_492 h_493 h_494 h_495 h_496 h_497 h_498 h_499 h_500 h_501 h_502
  refine lv_aload_n hx hb d_M_init_145 rfl (lv_at hl 0 rfl) ?_
  refine lv_sipush (v := 1600) hx hb d_M_init_146 (by decide) ?_
  refine pw_newa (atype := .int) hx hb (hw _ kR_int) rfl hK hP hD hS hA 0 rfl 1600 rfl (by decide) (Nat.le_of_ble_eq_true rfl) (Nat.le_of_ble_eq_true rfl) d_M_init_149 (fun q_521 H hP hD hS => ?_)
  obtain ⟨bk_522, eb⟩ : ∃ x, x = va_up bk_467 17 q_521 := ⟨_, rfl⟩
  obtain ⟨cw_523, ec⟩ : ∃ x, x = va_up cw_503 17 (.inl (cs 0, 1600, .inl (fun _ => 0))) := ⟨_, rfl⟩
  replace hP : va_P D classes (wl 18 bk_522 cw_523) H := by rw [eb, ec]; exact hP
  replace hD : va_D (AA 1 bk sz) (wl 18 bk_522 cw_523) := by rw [eb, ec]; exact hD
  have a_524 : bk_522 0 = h0 := by rw [eb, va_up_ne _ _ (by decide)]; exact a_469
  have a_525 : bk_522 1 = q_1 := by rw [eb, va_up_ne _ _ (by decide)]; exact a_470
  have a_526 : bk_522 2 = q_11 := by rw [eb, va_up_ne _ _ (by decide)]; exact a_471
  have a_527 : bk_522 3 = q_24 := by rw [eb, va_up_ne _ _ (by decide)]; exact a_472
  have a_528 : bk_522 4 = q_40 := by rw [eb, va_up_ne _ _ (by decide)]; exact a_473
  have a_529 : bk_522 5 = q_59 := by rw [eb, va_up_ne _ _ (by decide)]; exact a_474
  have a_530 : bk_522 6 = q_81 := by rw [eb, va_up_ne _ _ (by decide)]; exact a_475
  have a_531 : bk_522 7 = q_106 := by rw [eb, va_up_ne _ _ (by decide)]; exact a_476
  have a_532 : bk_522 8 = q_134 := by rw [eb, va_up_ne _ _ (by decide)]; exact a_477
  have a_533 : bk_522 9 = q_165 := by rw [eb, va_up_ne _ _ (by decide)]; exact a_478
  have a_534 : bk_522 10 = q_199 := by rw [eb, va_up_ne _ _ (by decide)]; exact a_479
  have a_535 : bk_522 11 = q_236 := by rw [eb, va_up_ne _ _ (by decide)]; exact a_480
  have a_536 : bk_522 12 = q_276 := by rw [eb, va_up_ne _ _ (by decide)]; exact a_481
  have a_537 : bk_522 13 = q_319 := by rw [eb, va_up_ne _ _ (by decide)]; exact a_482
  have a_538 : bk_522 14 = q_365 := by rw [eb, va_up_ne _ _ (by decide)]; exact a_483
  have a_539 : bk_522 15 = q_414 := by rw [eb, va_up_ne _ _ (by decide)]; exact a_484
  have a_540 : bk_522 16 = q_466 := by rw [eb, va_up_ne _ _ (by decide)]; exact a_485
  have a_541 : bk_522 17 = q_521 := by rw [eb]; exact va_up_self _ _ _
  have h_542 : cw_523 0 = .inr (7, [.int (0), .ref (q_1), .ref (q_11), .ref (q_24), .int (0), .ref (q_40), .ref (q_59), .ref (q_81), .ref (q_106), .ref (q_134), .ref (q_165), .ref (q_199), .ref (q_236), .ref (q_276), .ref (q_319), .ref (q_365), .ref (q_414), .ref (q_466), .null, .null, .null, .null, .int (0), .null, .null, .int (0), .int (0), .null, .null, .null, .int (0), .null, .null]) := by rw [ec, va_up_ne _ _ (by decide)]; exact h_504
  have h_543 : cw_523 1 = .inl (cs 0, 10, .inl (fun _ => 0)) := by rw [ec, va_up_ne _ _ (by decide)]; exact h_505
  have h_544 : cw_523 2 = .inl (cs 0, 10, .inl (fun _ => 0)) := by rw [ec, va_up_ne _ _ (by decide)]; exact h_506
  have h_545 : cw_523 3 = .inl (cs 0, 10, .inl (fun _ => 0)) := by rw [ec, va_up_ne _ _ (by decide)]; exact h_507
  have h_546 : cw_523 4 = .inl (cs 0, 200, .inl (fun _ => 0)) := by rw [ec, va_up_ne _ _ (by decide)]; exact h_508
  have h_547 : cw_523 5 = .inl (cs 0, 200, .inl (fun _ => 0)) := by rw [ec, va_up_ne _ _ (by decide)]; exact h_509
  have h_548 : cw_523 6 = .inl (cs 0, 200, .inl (fun _ => 0)) := by rw [ec, va_up_ne _ _ (by decide)]; exact h_510
  have h_549 : cw_523 7 = .inl (cs 0, 200, .inl (fun _ => 0)) := by rw [ec, va_up_ne _ _ (by decide)]; exact h_511
  have h_550 : cw_523 8 = .inl (cs 0, 200, .inl (fun _ => 0)) := by rw [ec, va_up_ne _ _ (by decide)]; exact h_512
  have h_551 : cw_523 9 = .inl (cs 0, 200, .inl (fun _ => 0)) := by rw [ec, va_up_ne _ _ (by decide)]; exact h_513
  have h_552 : cw_523 10 = .inl (cs 0, 200, .inl (fun _ => 0)) := by rw [ec, va_up_ne _ _ (by decide)]; exact h_514
  have h_553 : cw_523 11 = .inl (cs 0, 200, .inl (fun _ => 0)) := by rw [ec, va_up_ne _ _ (by decide)]; exact h_515
  have h_554 : cw_523 12 = .inl (cs 0, 200, .inl (fun _ => 0)) := by rw [ec, va_up_ne _ _ (by decide)]; exact h_516
  have h_555 : cw_523 13 = .inl (cs 0, 200, .inl (fun _ => 0)) := by rw [ec, va_up_ne _ _ (by decide)]; exact h_517
  have h_556 : cw_523 14 = .inl (cs 0, 200, .inl (fun _ => 0)) := by rw [ec, va_up_ne _ _ (by decide)]; exact h_518
  have h_557 : cw_523 15 = .inl (cs 1, 200, .inl (fun _ => 0)) := by rw [ec, va_up_ne _ _ (by decide)]; exact h_519
  have h_558 : cw_523 16 = .inl (cs 0, 200, .inl (fun _ => 0)) := by rw [ec, va_up_ne _ _ (by decide)]; exact h_520
  have h_559 : cw_523 17 = .inl (cs 0, 1600, .inl (fun _ => 0)) := by rw [ec]; exact va_up_self _ _ _
  clear eb ec
  clear a_469 a_470 a_471 a_472 a_473 a_474 a_475 a_476 a_477 a_478 a_479 a_480 a_481 a_482 a_483 a_484 a_485 h_504 h_505 h_506 h_507 h_508 h_509 h_510 h_511 h_512 h_513 h_514 h_515 h_516 h_517 h_518 h_519 h_520
  refine pw_putFA (ci := 7) (v := .ref (q_521)) (ty := (t_M 18)) (fs' := [.int (0), .ref (q_1), .ref (q_11), .ref (q_24), .int (0), .ref (q_40), .ref (q_59), .ref (q_81), .ref (q_106), .ref (q_134), .ref (q_165), .ref (q_199), .ref (q_236), .ref (q_276), .ref (q_319), .ref (q_365), .ref (q_414), .ref (q_466), .ref (q_521), .null, .null, .null, .int (0), .null, .null, .int (0), .int (0), .null, .null, .null, .int (0), .null, .null]) hx hb hw i_M t_M t_M_ok n_M hown hK hP hD hS (0) (by decide) a_524 h_542 rfl 18 (by decide) (hw _ kF_M_59) rfl hin rfl (t_M_ok 18 (by decide)) rfl rfl (Nat.le_of_ble_eq_true rfl) rfl d_M_init_151 (fun cw_560 H locs ecw_560 hP hD hS => ?_)
  have h_561 : cw_560 (0) = .inr (7, [.int (0), .ref (q_1), .ref (q_11), .ref (q_24), .int (0), .ref (q_40), .ref (q_59), .ref (q_81), .ref (q_106), .ref (q_134), .ref (q_165), .ref (q_199), .ref (q_236), .ref (q_276), .ref (q_319), .ref (q_365), .ref (q_414), .ref (q_466), .ref (q_521), .null, .null, .null, .int (0), .null, .null, .int (0), .int (0), .null, .null, .null, .int (0), .null, .null]) := by rw [ecw_560]; exact va_up_self _ _ _
  have h_562 : cw_560 (1) = .inl (cs 0, 10, .inl (fun _ => 0)) := by rw [ecw_560, va_up_ne _ _ (by decide)]; exact h_543
  have h_563 : cw_560 (2) = .inl (cs 0, 10, .inl (fun _ => 0)) := by rw [ecw_560, va_up_ne _ _ (by decide)]; exact h_544
  have h_564 : cw_560 (3) = .inl (cs 0, 10, .inl (fun _ => 0)) := by rw [ecw_560, va_up_ne _ _ (by decide)]; exact h_545
  have h_565 : cw_560 (4) = .inl (cs 0, 200, .inl (fun _ => 0)) := by rw [ecw_560, va_up_ne _ _ (by decide)]; exact h_546
  have h_566 : cw_560 (5) = .inl (cs 0, 200, .inl (fun _ => 0)) := by rw [ecw_560, va_up_ne _ _ (by decide)]; exact h_547
  have h_567 : cw_560 (6) = .inl (cs 0, 200, .inl (fun _ => 0)) := by rw [ecw_560, va_up_ne _ _ (by decide)]; exact h_548
  have h_568 : cw_560 (7) = .inl (cs 0, 200, .inl (fun _ => 0)) := by rw [ecw_560, va_up_ne _ _ (by decide)]; exact h_549
  have h_569 : cw_560 (8) = .inl (cs 0, 200, .inl (fun _ => 0)) := by rw [ecw_560, va_up_ne _ _ (by decide)]; exact h_550
  have h_570 : cw_560 (9) = .inl (cs 0, 200, .inl (fun _ => 0)) := by rw [ecw_560, va_up_ne _ _ (by decide)]; exact h_551
  have h_571 : cw_560 (10) = .inl (cs 0, 200, .inl (fun _ => 0)) := by rw [ecw_560, va_up_ne _ _ (by decide)]; exact h_552
  have h_572 : cw_560 (11) = .inl (cs 0, 200, .inl (fun _ => 0)) := by rw [ecw_560, va_up_ne _ _ (by decide)]; exact h_553
  have h_573 : cw_560 (12) = .inl (cs 0, 200, .inl (fun _ => 0)) := by rw [ecw_560, va_up_ne _ _ (by decide)]; exact h_554
  have h_574 : cw_560 (13) = .inl (cs 0, 200, .inl (fun _ => 0)) := by rw [ecw_560, va_up_ne _ _ (by decide)]; exact h_555
  have h_575 : cw_560 (14) = .inl (cs 0, 200, .inl (fun _ => 0)) := by rw [ecw_560, va_up_ne _ _ (by decide)]; exact h_556
  have h_576 : cw_560 (15) = .inl (cs 1, 200, .inl (fun _ => 0)) := by rw [ecw_560, va_up_ne _ _ (by decide)]; exact h_557
  have h_577 : cw_560 (16) = .inl (cs 0, 200, .inl (fun _ => 0)) := by rw [ecw_560, va_up_ne _ _ (by decide)]; exact h_558
  have h_578 : cw_560 (17) = .inl (cs 0, 1600, .inl (fun _ => 0)) := by rw [ecw_560, va_up_ne _ _ (by decide)]; exact h_559
  clear ecw_560
  clear h_542 h_543 h_544 h_545 h_546 h_547 h_548 h_549 h_550 h_551 h_552 h_553 h_554 h_555 h_556 h_557 h_558 h_559
  refine lv_aload_n hx hb d_M_init_154 rfl (lv_at hl 0 rfl) ?_
  refine lv_sipush (v := 1600) hx hb d_M_init_155 (by decide) ?_
  refine pw_newa (atype := .int) hx hb (hw _ kR_int) rfl hK hP hD hS hA 0 rfl 1600 rfl (by decide) (Nat.le_of_ble_eq_true rfl) (Nat.le_of_ble_eq_true rfl) d_M_init_158 (fun q_579 H hP hD hS => ?_)
  obtain ⟨bk_580, eb⟩ : ∃ x, x = va_up bk_522 18 q_579 := ⟨_, rfl⟩
  obtain ⟨cw_581, ec⟩ : ∃ x, x = va_up cw_560 18 (.inl (cs 0, 1600, .inl (fun _ => 0))) := ⟨_, rfl⟩
  replace hP : va_P D classes (wl 19 bk_580 cw_581) H := by rw [eb, ec]; exact hP
  replace hD : va_D (AA 1 bk sz) (wl 19 bk_580 cw_581) := by rw [eb, ec]; exact hD
  have a_582 : bk_580 0 = h0 := by rw [eb, va_up_ne _ _ (by decide)]; exact a_524
  have a_583 : bk_580 1 = q_1 := by rw [eb, va_up_ne _ _ (by decide)]; exact a_525
  have a_584 : bk_580 2 = q_11 := by rw [eb, va_up_ne _ _ (by decide)]; exact a_526
  have a_585 : bk_580 3 = q_24 := by rw [eb, va_up_ne _ _ (by decide)]; exact a_527
  have a_586 : bk_580 4 = q_40 := by rw [eb, va_up_ne _ _ (by decide)]; exact a_528
  have a_587 : bk_580 5 = q_59 := by rw [eb, va_up_ne _ _ (by decide)]; exact a_529
  have a_588 : bk_580 6 = q_81 := by rw [eb, va_up_ne _ _ (by decide)]; exact a_530
  have a_589 : bk_580 7 = q_106 := by rw [eb, va_up_ne _ _ (by decide)]; exact a_531
  have a_590 : bk_580 8 = q_134 := by rw [eb, va_up_ne _ _ (by decide)]; exact a_532
  have a_591 : bk_580 9 = q_165 := by rw [eb, va_up_ne _ _ (by decide)]; exact a_533
  have a_592 : bk_580 10 = q_199 := by rw [eb, va_up_ne _ _ (by decide)]; exact a_534
  have a_593 : bk_580 11 = q_236 := by rw [eb, va_up_ne _ _ (by decide)]; exact a_535
  have a_594 : bk_580 12 = q_276 := by rw [eb, va_up_ne _ _ (by decide)]; exact a_536
  have a_595 : bk_580 13 = q_319 := by rw [eb, va_up_ne _ _ (by decide)]; exact a_537
  have a_596 : bk_580 14 = q_365 := by rw [eb, va_up_ne _ _ (by decide)]; exact a_538
  have a_597 : bk_580 15 = q_414 := by rw [eb, va_up_ne _ _ (by decide)]; exact a_539
  have a_598 : bk_580 16 = q_466 := by rw [eb, va_up_ne _ _ (by decide)]; exact a_540
  have a_599 : bk_580 17 = q_521 := by rw [eb, va_up_ne _ _ (by decide)]; exact a_541
  have a_600 : bk_580 18 = q_579 := by rw [eb]; exact va_up_self _ _ _
  have h_601 : cw_581 0 = .inr (7, [.int (0), .ref (q_1), .ref (q_11), .ref (q_24), .int (0), .ref (q_40), .ref (q_59), .ref (q_81), .ref (q_106), .ref (q_134), .ref (q_165), .ref (q_199), .ref (q_236), .ref (q_276), .ref (q_319), .ref (q_365), .ref (q_414), .ref (q_466), .ref (q_521), .null, .null, .null, .int (0), .null, .null, .int (0), .int (0), .null, .null, .null, .int (0), .null, .null]) := by rw [ec, va_up_ne _ _ (by decide)]; exact h_561
  have h_602 : cw_581 1 = .inl (cs 0, 10, .inl (fun _ => 0)) := by rw [ec, va_up_ne _ _ (by decide)]; exact h_562
  have h_603 : cw_581 2 = .inl (cs 0, 10, .inl (fun _ => 0)) := by rw [ec, va_up_ne _ _ (by decide)]; exact h_563
  have h_604 : cw_581 3 = .inl (cs 0, 10, .inl (fun _ => 0)) := by rw [ec, va_up_ne _ _ (by decide)]; exact h_564
  have h_605 : cw_581 4 = .inl (cs 0, 200, .inl (fun _ => 0)) := by rw [ec, va_up_ne _ _ (by decide)]; exact h_565
  have h_606 : cw_581 5 = .inl (cs 0, 200, .inl (fun _ => 0)) := by rw [ec, va_up_ne _ _ (by decide)]; exact h_566
  have h_607 : cw_581 6 = .inl (cs 0, 200, .inl (fun _ => 0)) := by rw [ec, va_up_ne _ _ (by decide)]; exact h_567
  have h_608 : cw_581 7 = .inl (cs 0, 200, .inl (fun _ => 0)) := by rw [ec, va_up_ne _ _ (by decide)]; exact h_568
  have h_609 : cw_581 8 = .inl (cs 0, 200, .inl (fun _ => 0)) := by rw [ec, va_up_ne _ _ (by decide)]; exact h_569
  have h_610 : cw_581 9 = .inl (cs 0, 200, .inl (fun _ => 0)) := by rw [ec, va_up_ne _ _ (by decide)]; exact h_570
  have h_611 : cw_581 10 = .inl (cs 0, 200, .inl (fun _ => 0)) := by rw [ec, va_up_ne _ _ (by decide)]; exact h_571
  have h_612 : cw_581 11 = .inl (cs 0, 200, .inl (fun _ => 0)) := by rw [ec, va_up_ne _ _ (by decide)]; exact h_572
  have h_613 : cw_581 12 = .inl (cs 0, 200, .inl (fun _ => 0)) := by rw [ec, va_up_ne _ _ (by decide)]; exact h_573
  have h_614 : cw_581 13 = .inl (cs 0, 200, .inl (fun _ => 0)) := by rw [ec, va_up_ne _ _ (by decide)]; exact h_574
  have h_615 : cw_581 14 = .inl (cs 0, 200, .inl (fun _ => 0)) := by rw [ec, va_up_ne _ _ (by decide)]; exact h_575
  have h_616 : cw_581 15 = .inl (cs 1, 200, .inl (fun _ => 0)) := by rw [ec, va_up_ne _ _ (by decide)]; exact h_576
  have h_617 : cw_581 16 = .inl (cs 0, 200, .inl (fun _ => 0)) := by rw [ec, va_up_ne _ _ (by decide)]; exact h_577
  have h_618 : cw_581 17 = .inl (cs 0, 1600, .inl (fun _ => 0)) := by rw [ec, va_up_ne _ _ (by decide)]; exact h_578
  have h_619 : cw_581 18 = .inl (cs 0, 1600, .inl (fun _ => 0)) := by rw [ec]; exact va_up_self _ _ _
  clear eb ec
  clear a_524 a_525 a_526 a_527 a_528 a_529 a_530 a_531 a_532 a_533 a_534 a_535 a_536 a_537 a_538 a_539 a_540 a_541 h_561 h_562 h_563 h_564 h_565 h_566 h_567 h_568 h_569 h_570 h_571 h_572 h_573 h_574 h_575 h_576 h_577 h_578
  refine pw_putFA (ci := 7) (v := .ref (q_579)) (ty := (t_M 19)) (fs' := [.int (0), .ref (q_1), .ref (q_11), .ref (q_24), .int (0), .ref (q_40), .ref (q_59), .ref (q_81), .ref (q_106), .ref (q_134), .ref (q_165), .ref (q_199), .ref (q_236), .ref (q_276), .ref (q_319), .ref (q_365), .ref (q_414), .ref (q_466), .ref (q_521), .ref (q_579), .null, .null, .int (0), .null, .null, .int (0), .int (0), .null, .null, .null, .int (0), .null, .null]) hx hb hw i_M t_M t_M_ok n_M hown hK hP hD hS (0) (by decide) a_582 h_601 rfl 19 (by decide) (hw _ kF_M_62) rfl hin rfl (t_M_ok 19 (by decide)) rfl rfl (Nat.le_of_ble_eq_true rfl) rfl d_M_init_160 (fun cw_620 H locs ecw_620 hP hD hS => ?_)
  have h_621 : cw_620 (0) = .inr (7, [.int (0), .ref (q_1), .ref (q_11), .ref (q_24), .int (0), .ref (q_40), .ref (q_59), .ref (q_81), .ref (q_106), .ref (q_134), .ref (q_165), .ref (q_199), .ref (q_236), .ref (q_276), .ref (q_319), .ref (q_365), .ref (q_414), .ref (q_466), .ref (q_521), .ref (q_579), .null, .null, .int (0), .null, .null, .int (0), .int (0), .null, .null, .null, .int (0), .null, .null]) := by rw [ecw_620]; exact va_up_self _ _ _
  have h_622 : cw_620 (1) = .inl (cs 0, 10, .inl (fun _ => 0)) := by rw [ecw_620, va_up_ne _ _ (by decide)]; exact h_602
  have h_623 : cw_620 (2) = .inl (cs 0, 10, .inl (fun _ => 0)) := by rw [ecw_620, va_up_ne _ _ (by decide)]; exact h_603
  have h_624 : cw_620 (3) = .inl (cs 0, 10, .inl (fun _ => 0)) := by rw [ecw_620, va_up_ne _ _ (by decide)]; exact h_604
  have h_625 : cw_620 (4) = .inl (cs 0, 200, .inl (fun _ => 0)) := by rw [ecw_620, va_up_ne _ _ (by decide)]; exact h_605
  have h_626 : cw_620 (5) = .inl (cs 0, 200, .inl (fun _ => 0)) := by rw [ecw_620, va_up_ne _ _ (by decide)]; exact h_606
  have h_627 : cw_620 (6) = .inl (cs 0, 200, .inl (fun _ => 0)) := by rw [ecw_620, va_up_ne _ _ (by decide)]; exact h_607
  have h_628 : cw_620 (7) = .inl (cs 0, 200, .inl (fun _ => 0)) := by rw [ecw_620, va_up_ne _ _ (by decide)]; exact h_608
  have h_629 : cw_620 (8) = .inl (cs 0, 200, .inl (fun _ => 0)) := by rw [ecw_620, va_up_ne _ _ (by decide)]; exact h_609
  have h_630 : cw_620 (9) = .inl (cs 0, 200, .inl (fun _ => 0)) := by rw [ecw_620, va_up_ne _ _ (by decide)]; exact h_610
  have h_631 : cw_620 (10) = .inl (cs 0, 200, .inl (fun _ => 0)) := by rw [ecw_620, va_up_ne _ _ (by decide)]; exact h_611
  have h_632 : cw_620 (11) = .inl (cs 0, 200, .inl (fun _ => 0)) := by rw [ecw_620, va_up_ne _ _ (by decide)]; exact h_612
  have h_633 : cw_620 (12) = .inl (cs 0, 200, .inl (fun _ => 0)) := by rw [ecw_620, va_up_ne _ _ (by decide)]; exact h_613
  have h_634 : cw_620 (13) = .inl (cs 0, 200, .inl (fun _ => 0)) := by rw [ecw_620, va_up_ne _ _ (by decide)]; exact h_614
  have h_635 : cw_620 (14) = .inl (cs 0, 200, .inl (fun _ => 0)) := by rw [ecw_620, va_up_ne _ _ (by decide)]; exact h_615
  have h_636 : cw_620 (15) = .inl (cs 1, 200, .inl (fun _ => 0)) := by rw [ecw_620, va_up_ne _ _ (by decide)]; exact h_616
  have h_637 : cw_620 (16) = .inl (cs 0, 200, .inl (fun _ => 0)) := by rw [ecw_620, va_up_ne _ _ (by decide)]; exact h_617
  have h_638 : cw_620 (17) = .inl (cs 0, 1600, .inl (fun _ => 0)) := by rw [ecw_620, va_up_ne _ _ (by decide)]; exact h_618
  have h_639 : cw_620 (18) = .inl (cs 0, 1600, .inl (fun _ => 0)) := by rw [ecw_620, va_up_ne _ _ (by decide)]; exact h_619
  clear ecw_620
  clear h_601 h_602 h_603 h_604 h_605 h_606 h_607 h_608 h_609 h_610 h_611 h_612 h_613 h_614 h_615 h_616 h_617 h_618 h_619
  refine lv_aload_n hx hb d_M_init_163 rfl (lv_at hl 0 rfl) ?_
  refine lv_sipush (v := 200) hx hb d_M_init_164 (by decide) ?_
  refine pw_newa (atype := .int) hx hb (hw _ kR_int) rfl hK hP hD hS hA 0 rfl 200 rfl (by decide) (Nat.le_of_ble_eq_true rfl) (Nat.le_of_ble_eq_true rfl) d_M_init_167 (fun q_640 H hP hD hS => ?_)
  obtain ⟨bk_641, eb⟩ : ∃ x, x = va_up bk_580 19 q_640 := ⟨_, rfl⟩
  obtain ⟨cw_642, ec⟩ : ∃ x, x = va_up cw_620 19 (.inl (cs 0, 200, .inl (fun _ => 0))) := ⟨_, rfl⟩
  replace hP : va_P D classes (wl 20 bk_641 cw_642) H := by rw [eb, ec]; exact hP
  replace hD : va_D (AA 1 bk sz) (wl 20 bk_641 cw_642) := by rw [eb, ec]; exact hD
  have a_643 : bk_641 0 = h0 := by rw [eb, va_up_ne _ _ (by decide)]; exact a_582
  have a_644 : bk_641 1 = q_1 := by rw [eb, va_up_ne _ _ (by decide)]; exact a_583
  have a_645 : bk_641 2 = q_11 := by rw [eb, va_up_ne _ _ (by decide)]; exact a_584
  have a_646 : bk_641 3 = q_24 := by rw [eb, va_up_ne _ _ (by decide)]; exact a_585
  have a_647 : bk_641 4 = q_40 := by rw [eb, va_up_ne _ _ (by decide)]; exact a_586
  have a_648 : bk_641 5 = q_59 := by rw [eb, va_up_ne _ _ (by decide)]; exact a_587
  have a_649 : bk_641 6 = q_81 := by rw [eb, va_up_ne _ _ (by decide)]; exact a_588
  have a_650 : bk_641 7 = q_106 := by rw [eb, va_up_ne _ _ (by decide)]; exact a_589
  have a_651 : bk_641 8 = q_134 := by rw [eb, va_up_ne _ _ (by decide)]; exact a_590
  have a_652 : bk_641 9 = q_165 := by rw [eb, va_up_ne _ _ (by decide)]; exact a_591
  have a_653 : bk_641 10 = q_199 := by rw [eb, va_up_ne _ _ (by decide)]; exact a_592
  have a_654 : bk_641 11 = q_236 := by rw [eb, va_up_ne _ _ (by decide)]; exact a_593
  have a_655 : bk_641 12 = q_276 := by rw [eb, va_up_ne _ _ (by decide)]; exact a_594
  have a_656 : bk_641 13 = q_319 := by rw [eb, va_up_ne _ _ (by decide)]; exact a_595
  have a_657 : bk_641 14 = q_365 := by rw [eb, va_up_ne _ _ (by decide)]; exact a_596
  have a_658 : bk_641 15 = q_414 := by rw [eb, va_up_ne _ _ (by decide)]; exact a_597
  have a_659 : bk_641 16 = q_466 := by rw [eb, va_up_ne _ _ (by decide)]; exact a_598
  have a_660 : bk_641 17 = q_521 := by rw [eb, va_up_ne _ _ (by decide)]; exact a_599
  have a_661 : bk_641 18 = q_579 := by rw [eb, va_up_ne _ _ (by decide)]; exact a_600
  have a_662 : bk_641 19 = q_640 := by rw [eb]; exact va_up_self _ _ _
  have h_663 : cw_642 0 = .inr (7, [.int (0), .ref (q_1), .ref (q_11), .ref (q_24), .int (0), .ref (q_40), .ref (q_59), .ref (q_81), .ref (q_106), .ref (q_134), .ref (q_165), .ref (q_199), .ref (q_236), .ref (q_276), .ref (q_319), .ref (q_365), .ref (q_414), .ref (q_466), .ref (q_521), .ref (q_579), .null, .null, .int (0), .null, .null, .int (0), .int (0), .null, .null, .null, .int (0), .null, .null]) := by rw [ec, va_up_ne _ _ (by decide)]; exact h_621
  have h_664 : cw_642 1 = .inl (cs 0, 10, .inl (fun _ => 0)) := by rw [ec, va_up_ne _ _ (by decide)]; exact h_622
  have h_665 : cw_642 2 = .inl (cs 0, 10, .inl (fun _ => 0)) := by rw [ec, va_up_ne _ _ (by decide)]; exact h_623
  have h_666 : cw_642 3 = .inl (cs 0, 10, .inl (fun _ => 0)) := by rw [ec, va_up_ne _ _ (by decide)]; exact h_624
  have h_667 : cw_642 4 = .inl (cs 0, 200, .inl (fun _ => 0)) := by rw [ec, va_up_ne _ _ (by decide)]; exact h_625
  have h_668 : cw_642 5 = .inl (cs 0, 200, .inl (fun _ => 0)) := by rw [ec, va_up_ne _ _ (by decide)]; exact h_626
  have h_669 : cw_642 6 = .inl (cs 0, 200, .inl (fun _ => 0)) := by rw [ec, va_up_ne _ _ (by decide)]; exact h_627
  have h_670 : cw_642 7 = .inl (cs 0, 200, .inl (fun _ => 0)) := by rw [ec, va_up_ne _ _ (by decide)]; exact h_628
  have h_671 : cw_642 8 = .inl (cs 0, 200, .inl (fun _ => 0)) := by rw [ec, va_up_ne _ _ (by decide)]; exact h_629
  have h_672 : cw_642 9 = .inl (cs 0, 200, .inl (fun _ => 0)) := by rw [ec, va_up_ne _ _ (by decide)]; exact h_630
  have h_673 : cw_642 10 = .inl (cs 0, 200, .inl (fun _ => 0)) := by rw [ec, va_up_ne _ _ (by decide)]; exact h_631
  have h_674 : cw_642 11 = .inl (cs 0, 200, .inl (fun _ => 0)) := by rw [ec, va_up_ne _ _ (by decide)]; exact h_632
  have h_675 : cw_642 12 = .inl (cs 0, 200, .inl (fun _ => 0)) := by rw [ec, va_up_ne _ _ (by decide)]; exact h_633
  have h_676 : cw_642 13 = .inl (cs 0, 200, .inl (fun _ => 0)) := by rw [ec, va_up_ne _ _ (by decide)]; exact h_634
  have h_677 : cw_642 14 = .inl (cs 0, 200, .inl (fun _ => 0)) := by rw [ec, va_up_ne _ _ (by decide)]; exact h_635
  have h_678 : cw_642 15 = .inl (cs 1, 200, .inl (fun _ => 0)) := by rw [ec, va_up_ne _ _ (by decide)]; exact h_636
  have h_679 : cw_642 16 = .inl (cs 0, 200, .inl (fun _ => 0)) := by rw [ec, va_up_ne _ _ (by decide)]; exact h_637
  have h_680 : cw_642 17 = .inl (cs 0, 1600, .inl (fun _ => 0)) := by rw [ec, va_up_ne _ _ (by decide)]; exact h_638
  have h_681 : cw_642 18 = .inl (cs 0, 1600, .inl (fun _ => 0)) := by rw [ec, va_up_ne _ _ (by decide)]; exact h_639
  have h_682 : cw_642 19 = .inl (cs 0, 200, .inl (fun _ => 0)) := by rw [ec]; exact va_up_self _ _ _
  clear eb ec
  clear a_582 a_583 a_584 a_585 a_586 a_587 a_588 a_589 a_590 a_591 a_592 a_593 a_594 a_595 a_596 a_597 a_598 a_599 a_600 h_621 h_622 h_623 h_624 h_625 h_626 h_627 h_628 h_629 h_630 h_631 h_632 h_633 h_634 h_635 h_636 h_637 h_638 h_639
  refine pw_putFA (ci := 7) (v := .ref (q_640)) (ty := (t_M 20)) (fs' := [.int (0), .ref (q_1), .ref (q_11), .ref (q_24), .int (0), .ref (q_40), .ref (q_59), .ref (q_81), .ref (q_106), .ref (q_134), .ref (q_165), .ref (q_199), .ref (q_236), .ref (q_276), .ref (q_319), .ref (q_365), .ref (q_414), .ref (q_466), .ref (q_521), .ref (q_579), .ref (q_640), .null, .int (0), .null, .null, .int (0), .int (0), .null, .null, .null, .int (0), .null, .null]) hx hb hw i_M t_M t_M_ok n_M hown hK hP hD hS (0) (by decide) a_643 h_663 rfl 20 (by decide) (hw _ kF_M_65) rfl hin rfl (t_M_ok 20 (by decide)) rfl rfl (Nat.le_of_ble_eq_true rfl) rfl d_M_init_169 (fun cw_683 H locs ecw_683 hP hD hS => ?_)
  have h_684 : cw_683 (0) = .inr (7, [.int (0), .ref (q_1), .ref (q_11), .ref (q_24), .int (0), .ref (q_40), .ref (q_59), .ref (q_81), .ref (q_106), .ref (q_134), .ref (q_165), .ref (q_199), .ref (q_236), .ref (q_276), .ref (q_319), .ref (q_365), .ref (q_414), .ref (q_466), .ref (q_521), .ref (q_579), .ref (q_640), .null, .int (0), .null, .null, .int (0), .int (0), .null, .null, .null, .int (0), .null, .null]) := by rw [ecw_683]; exact va_up_self _ _ _
  have h_685 : cw_683 (1) = .inl (cs 0, 10, .inl (fun _ => 0)) := by rw [ecw_683, va_up_ne _ _ (by decide)]; exact h_664
  have h_686 : cw_683 (2) = .inl (cs 0, 10, .inl (fun _ => 0)) := by rw [ecw_683, va_up_ne _ _ (by decide)]; exact h_665
  have h_687 : cw_683 (3) = .inl (cs 0, 10, .inl (fun _ => 0)) := by rw [ecw_683, va_up_ne _ _ (by decide)]; exact h_666
  have h_688 : cw_683 (4) = .inl (cs 0, 200, .inl (fun _ => 0)) := by rw [ecw_683, va_up_ne _ _ (by decide)]; exact h_667
  have h_689 : cw_683 (5) = .inl (cs 0, 200, .inl (fun _ => 0)) := by rw [ecw_683, va_up_ne _ _ (by decide)]; exact h_668
  have h_690 : cw_683 (6) = .inl (cs 0, 200, .inl (fun _ => 0)) := by rw [ecw_683, va_up_ne _ _ (by decide)]; exact h_669
  have h_691 : cw_683 (7) = .inl (cs 0, 200, .inl (fun _ => 0)) := by rw [ecw_683, va_up_ne _ _ (by decide)]; exact h_670
  have h_692 : cw_683 (8) = .inl (cs 0, 200, .inl (fun _ => 0)) := by rw [ecw_683, va_up_ne _ _ (by decide)]; exact h_671
  have h_693 : cw_683 (9) = .inl (cs 0, 200, .inl (fun _ => 0)) := by rw [ecw_683, va_up_ne _ _ (by decide)]; exact h_672
  have h_694 : cw_683 (10) = .inl (cs 0, 200, .inl (fun _ => 0)) := by rw [ecw_683, va_up_ne _ _ (by decide)]; exact h_673
  have h_695 : cw_683 (11) = .inl (cs 0, 200, .inl (fun _ => 0)) := by rw [ecw_683, va_up_ne _ _ (by decide)]; exact h_674
  have h_696 : cw_683 (12) = .inl (cs 0, 200, .inl (fun _ => 0)) := by rw [ecw_683, va_up_ne _ _ (by decide)]; exact h_675
  have h_697 : cw_683 (13) = .inl (cs 0, 200, .inl (fun _ => 0)) := by rw [ecw_683, va_up_ne _ _ (by decide)]; exact h_676
  have h_698 : cw_683 (14) = .inl (cs 0, 200, .inl (fun _ => 0)) := by rw [ecw_683, va_up_ne _ _ (by decide)]; exact h_677
  have h_699 : cw_683 (15) = .inl (cs 1, 200, .inl (fun _ => 0)) := by rw [ecw_683, va_up_ne _ _ (by decide)]; exact h_678
  have h_700 : cw_683 (16) = .inl (cs 0, 200, .inl (fun _ => 0)) := by rw [ecw_683, va_up_ne _ _ (by decide)]; exact h_679
  have h_701 : cw_683 (17) = .inl (cs 0, 1600, .inl (fun _ => 0)) := by rw [ecw_683, va_up_ne _ _ (by decide)]; exact h_680
  have h_702 : cw_683 (18) = .inl (cs 0, 1600, .inl (fun _ => 0)) := by rw [ecw_683, va_up_ne _ _ (by decide)]; exact h_681
  have h_703 : cw_683 (19) = .inl (cs 0, 200, .inl (fun _ => 0)) := by rw [ecw_683, va_up_ne _ _ (by decide)]; exact h_682
  clear ecw_683
  clear h_663 h_664 h_665 h_666 h_667 h_668 h_669 h_670 h_671 h_672 h_673 h_674 h_675 h_676 h_677 h_678 h_679 h_680 h_681 h_682
  refine lv_aload_n hx hb d_M_init_172 rfl (lv_at hl 0 rfl) ?_
  refine lv_sipush (v := 200) hx hb d_M_init_173 (by decide) ?_
  refine pw_newa (atype := .int) hx hb (hw _ kR_int) rfl hK hP hD hS hA 0 rfl 200 rfl (by decide) (Nat.le_of_ble_eq_true rfl) (Nat.le_of_ble_eq_true rfl) d_M_init_176 (fun q_704 H hP hD hS => ?_)
  obtain ⟨bk_705, eb⟩ : ∃ x, x = va_up bk_641 20 q_704 := ⟨_, rfl⟩
  obtain ⟨cw_706, ec⟩ : ∃ x, x = va_up cw_683 20 (.inl (cs 0, 200, .inl (fun _ => 0))) := ⟨_, rfl⟩
  replace hP : va_P D classes (wl 21 bk_705 cw_706) H := by rw [eb, ec]; exact hP
  replace hD : va_D (AA 1 bk sz) (wl 21 bk_705 cw_706) := by rw [eb, ec]; exact hD
  have a_707 : bk_705 0 = h0 := by rw [eb, va_up_ne _ _ (by decide)]; exact a_643
  have a_708 : bk_705 1 = q_1 := by rw [eb, va_up_ne _ _ (by decide)]; exact a_644
  have a_709 : bk_705 2 = q_11 := by rw [eb, va_up_ne _ _ (by decide)]; exact a_645
  have a_710 : bk_705 3 = q_24 := by rw [eb, va_up_ne _ _ (by decide)]; exact a_646
  have a_711 : bk_705 4 = q_40 := by rw [eb, va_up_ne _ _ (by decide)]; exact a_647
  have a_712 : bk_705 5 = q_59 := by rw [eb, va_up_ne _ _ (by decide)]; exact a_648
  have a_713 : bk_705 6 = q_81 := by rw [eb, va_up_ne _ _ (by decide)]; exact a_649
  have a_714 : bk_705 7 = q_106 := by rw [eb, va_up_ne _ _ (by decide)]; exact a_650
  have a_715 : bk_705 8 = q_134 := by rw [eb, va_up_ne _ _ (by decide)]; exact a_651
  have a_716 : bk_705 9 = q_165 := by rw [eb, va_up_ne _ _ (by decide)]; exact a_652
  have a_717 : bk_705 10 = q_199 := by rw [eb, va_up_ne _ _ (by decide)]; exact a_653
  have a_718 : bk_705 11 = q_236 := by rw [eb, va_up_ne _ _ (by decide)]; exact a_654
  have a_719 : bk_705 12 = q_276 := by rw [eb, va_up_ne _ _ (by decide)]; exact a_655
  have a_720 : bk_705 13 = q_319 := by rw [eb, va_up_ne _ _ (by decide)]; exact a_656
  have a_721 : bk_705 14 = q_365 := by rw [eb, va_up_ne _ _ (by decide)]; exact a_657
  have a_722 : bk_705 15 = q_414 := by rw [eb, va_up_ne _ _ (by decide)]; exact a_658
  have a_723 : bk_705 16 = q_466 := by rw [eb, va_up_ne _ _ (by decide)]; exact a_659
  have a_724 : bk_705 17 = q_521 := by rw [eb, va_up_ne _ _ (by decide)]; exact a_660
  have a_725 : bk_705 18 = q_579 := by rw [eb, va_up_ne _ _ (by decide)]; exact a_661
  have a_726 : bk_705 19 = q_640 := by rw [eb, va_up_ne _ _ (by decide)]; exact a_662
  have a_727 : bk_705 20 = q_704 := by rw [eb]; exact va_up_self _ _ _
  have h_728 : cw_706 0 = .inr (7, [.int (0), .ref (q_1), .ref (q_11), .ref (q_24), .int (0), .ref (q_40), .ref (q_59), .ref (q_81), .ref (q_106), .ref (q_134), .ref (q_165), .ref (q_199), .ref (q_236), .ref (q_276), .ref (q_319), .ref (q_365), .ref (q_414), .ref (q_466), .ref (q_521), .ref (q_579), .ref (q_640), .null, .int (0), .null, .null, .int (0), .int (0), .null, .null, .null, .int (0), .null, .null]) := by rw [ec, va_up_ne _ _ (by decide)]; exact h_684
  have h_729 : cw_706 1 = .inl (cs 0, 10, .inl (fun _ => 0)) := by rw [ec, va_up_ne _ _ (by decide)]; exact h_685
  have h_730 : cw_706 2 = .inl (cs 0, 10, .inl (fun _ => 0)) := by rw [ec, va_up_ne _ _ (by decide)]; exact h_686
  have h_731 : cw_706 3 = .inl (cs 0, 10, .inl (fun _ => 0)) := by rw [ec, va_up_ne _ _ (by decide)]; exact h_687
  have h_732 : cw_706 4 = .inl (cs 0, 200, .inl (fun _ => 0)) := by rw [ec, va_up_ne _ _ (by decide)]; exact h_688
  have h_733 : cw_706 5 = .inl (cs 0, 200, .inl (fun _ => 0)) := by rw [ec, va_up_ne _ _ (by decide)]; exact h_689
  have h_734 : cw_706 6 = .inl (cs 0, 200, .inl (fun _ => 0)) := by rw [ec, va_up_ne _ _ (by decide)]; exact h_690
  have h_735 : cw_706 7 = .inl (cs 0, 200, .inl (fun _ => 0)) := by rw [ec, va_up_ne _ _ (by decide)]; exact h_691
  have h_736 : cw_706 8 = .inl (cs 0, 200, .inl (fun _ => 0)) := by rw [ec, va_up_ne _ _ (by decide)]; exact h_692
  have h_737 : cw_706 9 = .inl (cs 0, 200, .inl (fun _ => 0)) := by rw [ec, va_up_ne _ _ (by decide)]; exact h_693
  have h_738 : cw_706 10 = .inl (cs 0, 200, .inl (fun _ => 0)) := by rw [ec, va_up_ne _ _ (by decide)]; exact h_694
  have h_739 : cw_706 11 = .inl (cs 0, 200, .inl (fun _ => 0)) := by rw [ec, va_up_ne _ _ (by decide)]; exact h_695
  have h_740 : cw_706 12 = .inl (cs 0, 200, .inl (fun _ => 0)) := by rw [ec, va_up_ne _ _ (by decide)]; exact h_696
  have h_741 : cw_706 13 = .inl (cs 0, 200, .inl (fun _ => 0)) := by rw [ec, va_up_ne _ _ (by decide)]; exact h_697
  have h_742 : cw_706 14 = .inl (cs 0, 200, .inl (fun _ => 0)) := by rw [ec, va_up_ne _ _ (by decide)]; exact h_698
  have h_743 : cw_706 15 = .inl (cs 1, 200, .inl (fun _ => 0)) := by rw [ec, va_up_ne _ _ (by decide)]; exact h_699
  have h_744 : cw_706 16 = .inl (cs 0, 200, .inl (fun _ => 0)) := by rw [ec, va_up_ne _ _ (by decide)]; exact h_700
  have h_745 : cw_706 17 = .inl (cs 0, 1600, .inl (fun _ => 0)) := by rw [ec, va_up_ne _ _ (by decide)]; exact h_701
  have h_746 : cw_706 18 = .inl (cs 0, 1600, .inl (fun _ => 0)) := by rw [ec, va_up_ne _ _ (by decide)]; exact h_702
  have h_747 : cw_706 19 = .inl (cs 0, 200, .inl (fun _ => 0)) := by rw [ec, va_up_ne _ _ (by decide)]; exact h_703
  have h_748 : cw_706 20 = .inl (cs 0, 200, .inl (fun _ => 0)) := by rw [ec]; exact va_up_self _ _ _
  clear eb ec
  clear a_643 a_644 a_645 a_646 a_647 a_648 a_649 a_650 a_651 a_652 a_653 a_654 a_655 a_656 a_657 a_658 a_659 a_660 a_661 a_662 h_684 h_685 h_686 h_687 h_688 h_689 h_690 h_691 h_692 h_693 h_694 h_695 h_696 h_697 h_698 h_699 h_700 h_701 h_702 h_703
  refine pw_putFA (ci := 7) (v := .ref (q_704)) (ty := (t_M 21)) (fs' := [.int (0), .ref (q_1), .ref (q_11), .ref (q_24), .int (0), .ref (q_40), .ref (q_59), .ref (q_81), .ref (q_106), .ref (q_134), .ref (q_165), .ref (q_199), .ref (q_236), .ref (q_276), .ref (q_319), .ref (q_365), .ref (q_414), .ref (q_466), .ref (q_521), .ref (q_579), .ref (q_640), .ref (q_704), .int (0), .null, .null, .int (0), .int (0), .null, .null, .null, .int (0), .null, .null]) hx hb hw i_M t_M t_M_ok n_M hown hK hP hD hS (0) (by decide) a_707 h_728 rfl 21 (by decide) (hw _ kF_M_68) rfl hin rfl (t_M_ok 21 (by decide)) rfl rfl (Nat.le_of_ble_eq_true rfl) rfl d_M_init_178 (fun cw_749 H locs ecw_749 hP hD hS => ?_)
  have h_750 : cw_749 (0) = .inr (7, [.int (0), .ref (q_1), .ref (q_11), .ref (q_24), .int (0), .ref (q_40), .ref (q_59), .ref (q_81), .ref (q_106), .ref (q_134), .ref (q_165), .ref (q_199), .ref (q_236), .ref (q_276), .ref (q_319), .ref (q_365), .ref (q_414), .ref (q_466), .ref (q_521), .ref (q_579), .ref (q_640), .ref (q_704), .int (0), .null, .null, .int (0), .int (0), .null, .null, .null, .int (0), .null, .null]) := by rw [ecw_749]; exact va_up_self _ _ _
  have h_751 : cw_749 (1) = .inl (cs 0, 10, .inl (fun _ => 0)) := by rw [ecw_749, va_up_ne _ _ (by decide)]; exact h_729
  have h_752 : cw_749 (2) = .inl (cs 0, 10, .inl (fun _ => 0)) := by rw [ecw_749, va_up_ne _ _ (by decide)]; exact h_730
  have h_753 : cw_749 (3) = .inl (cs 0, 10, .inl (fun _ => 0)) := by rw [ecw_749, va_up_ne _ _ (by decide)]; exact h_731
  have h_754 : cw_749 (4) = .inl (cs 0, 200, .inl (fun _ => 0)) := by rw [ecw_749, va_up_ne _ _ (by decide)]; exact h_732
  have h_755 : cw_749 (5) = .inl (cs 0, 200, .inl (fun _ => 0)) := by rw [ecw_749, va_up_ne _ _ (by decide)]; exact h_733
  have h_756 : cw_749 (6) = .inl (cs 0, 200, .inl (fun _ => 0)) := by rw [ecw_749, va_up_ne _ _ (by decide)]; exact h_734
  have h_757 : cw_749 (7) = .inl (cs 0, 200, .inl (fun _ => 0)) := by rw [ecw_749, va_up_ne _ _ (by decide)]; exact h_735
  have h_758 : cw_749 (8) = .inl (cs 0, 200, .inl (fun _ => 0)) := by rw [ecw_749, va_up_ne _ _ (by decide)]; exact h_736
  have h_759 : cw_749 (9) = .inl (cs 0, 200, .inl (fun _ => 0)) := by rw [ecw_749, va_up_ne _ _ (by decide)]; exact h_737
  have h_760 : cw_749 (10) = .inl (cs 0, 200, .inl (fun _ => 0)) := by rw [ecw_749, va_up_ne _ _ (by decide)]; exact h_738
  have h_761 : cw_749 (11) = .inl (cs 0, 200, .inl (fun _ => 0)) := by rw [ecw_749, va_up_ne _ _ (by decide)]; exact h_739
  have h_762 : cw_749 (12) = .inl (cs 0, 200, .inl (fun _ => 0)) := by rw [ecw_749, va_up_ne _ _ (by decide)]; exact h_740
  have h_763 : cw_749 (13) = .inl (cs 0, 200, .inl (fun _ => 0)) := by rw [ecw_749, va_up_ne _ _ (by decide)]; exact h_741
  have h_764 : cw_749 (14) = .inl (cs 0, 200, .inl (fun _ => 0)) := by rw [ecw_749, va_up_ne _ _ (by decide)]; exact h_742
  have h_765 : cw_749 (15) = .inl (cs 1, 200, .inl (fun _ => 0)) := by rw [ecw_749, va_up_ne _ _ (by decide)]; exact h_743
  have h_766 : cw_749 (16) = .inl (cs 0, 200, .inl (fun _ => 0)) := by rw [ecw_749, va_up_ne _ _ (by decide)]; exact h_744
  have h_767 : cw_749 (17) = .inl (cs 0, 1600, .inl (fun _ => 0)) := by rw [ecw_749, va_up_ne _ _ (by decide)]; exact h_745
  have h_768 : cw_749 (18) = .inl (cs 0, 1600, .inl (fun _ => 0)) := by rw [ecw_749, va_up_ne _ _ (by decide)]; exact h_746
  have h_769 : cw_749 (19) = .inl (cs 0, 200, .inl (fun _ => 0)) := by rw [ecw_749, va_up_ne _ _ (by decide)]; exact h_747
  have h_770 : cw_749 (20) = .inl (cs 0, 200, .inl (fun _ => 0)) := by rw [ecw_749, va_up_ne _ _ (by decide)]; exact h_748
  clear ecw_749
  clear h_728 h_729 h_730 h_731 h_732 h_733 h_734 h_735 h_736 h_737 h_738 h_739 h_740 h_741 h_742 h_743 h_744 h_745 h_746 h_747 h_748
  refine lv_aload_n hx hb d_M_init_181 rfl (lv_at hl 0 rfl) ?_
  refine lv_sipush (v := 200) hx hb d_M_init_182 (by decide) ?_
  refine pw_newa (atype := .int) hx hb (hw _ kR_int) rfl hK hP hD hS hA 0 rfl 200 rfl (by decide) (Nat.le_of_ble_eq_true rfl) (Nat.le_of_ble_eq_true rfl) d_M_init_185 (fun q_771 H hP hD hS => ?_)
  obtain ⟨bk_772, eb⟩ : ∃ x, x = va_up bk_705 21 q_771 := ⟨_, rfl⟩
  obtain ⟨cw_773, ec⟩ : ∃ x, x = va_up cw_749 21 (.inl (cs 0, 200, .inl (fun _ => 0))) := ⟨_, rfl⟩
  replace hP : va_P D classes (wl 22 bk_772 cw_773) H := by rw [eb, ec]; exact hP
  replace hD : va_D (AA 1 bk sz) (wl 22 bk_772 cw_773) := by rw [eb, ec]; exact hD
  have a_774 : bk_772 0 = h0 := by rw [eb, va_up_ne _ _ (by decide)]; exact a_707
  have a_775 : bk_772 1 = q_1 := by rw [eb, va_up_ne _ _ (by decide)]; exact a_708
  have a_776 : bk_772 2 = q_11 := by rw [eb, va_up_ne _ _ (by decide)]; exact a_709
  have a_777 : bk_772 3 = q_24 := by rw [eb, va_up_ne _ _ (by decide)]; exact a_710
  have a_778 : bk_772 4 = q_40 := by rw [eb, va_up_ne _ _ (by decide)]; exact a_711
  have a_779 : bk_772 5 = q_59 := by rw [eb, va_up_ne _ _ (by decide)]; exact a_712
  have a_780 : bk_772 6 = q_81 := by rw [eb, va_up_ne _ _ (by decide)]; exact a_713
  have a_781 : bk_772 7 = q_106 := by rw [eb, va_up_ne _ _ (by decide)]; exact a_714
  have a_782 : bk_772 8 = q_134 := by rw [eb, va_up_ne _ _ (by decide)]; exact a_715
  have a_783 : bk_772 9 = q_165 := by rw [eb, va_up_ne _ _ (by decide)]; exact a_716
  have a_784 : bk_772 10 = q_199 := by rw [eb, va_up_ne _ _ (by decide)]; exact a_717
  have a_785 : bk_772 11 = q_236 := by rw [eb, va_up_ne _ _ (by decide)]; exact a_718
  have a_786 : bk_772 12 = q_276 := by rw [eb, va_up_ne _ _ (by decide)]; exact a_719
  have a_787 : bk_772 13 = q_319 := by rw [eb, va_up_ne _ _ (by decide)]; exact a_720
  have a_788 : bk_772 14 = q_365 := by rw [eb, va_up_ne _ _ (by decide)]; exact a_721
  have a_789 : bk_772 15 = q_414 := by rw [eb, va_up_ne _ _ (by decide)]; exact a_722
  have a_790 : bk_772 16 = q_466 := by rw [eb, va_up_ne _ _ (by decide)]; exact a_723
  have a_791 : bk_772 17 = q_521 := by rw [eb, va_up_ne _ _ (by decide)]; exact a_724
  have a_792 : bk_772 18 = q_579 := by rw [eb, va_up_ne _ _ (by decide)]; exact a_725
  have a_793 : bk_772 19 = q_640 := by rw [eb, va_up_ne _ _ (by decide)]; exact a_726
  have a_794 : bk_772 20 = q_704 := by rw [eb, va_up_ne _ _ (by decide)]; exact a_727
  have a_795 : bk_772 21 = q_771 := by rw [eb]; exact va_up_self _ _ _
  have h_796 : cw_773 0 = .inr (7, [.int (0), .ref (q_1), .ref (q_11), .ref (q_24), .int (0), .ref (q_40), .ref (q_59), .ref (q_81), .ref (q_106), .ref (q_134), .ref (q_165), .ref (q_199), .ref (q_236), .ref (q_276), .ref (q_319), .ref (q_365), .ref (q_414), .ref (q_466), .ref (q_521), .ref (q_579), .ref (q_640), .ref (q_704), .int (0), .null, .null, .int (0), .int (0), .null, .null, .null, .int (0), .null, .null]) := by rw [ec, va_up_ne _ _ (by decide)]; exact h_750
  have h_797 : cw_773 1 = .inl (cs 0, 10, .inl (fun _ => 0)) := by rw [ec, va_up_ne _ _ (by decide)]; exact h_751
  have h_798 : cw_773 2 = .inl (cs 0, 10, .inl (fun _ => 0)) := by rw [ec, va_up_ne _ _ (by decide)]; exact h_752
  have h_799 : cw_773 3 = .inl (cs 0, 10, .inl (fun _ => 0)) := by rw [ec, va_up_ne _ _ (by decide)]; exact h_753
  have h_800 : cw_773 4 = .inl (cs 0, 200, .inl (fun _ => 0)) := by rw [ec, va_up_ne _ _ (by decide)]; exact h_754
  have h_801 : cw_773 5 = .inl (cs 0, 200, .inl (fun _ => 0)) := by rw [ec, va_up_ne _ _ (by decide)]; exact h_755
  have h_802 : cw_773 6 = .inl (cs 0, 200, .inl (fun _ => 0)) := by rw [ec, va_up_ne _ _ (by decide)]; exact h_756
  have h_803 : cw_773 7 = .inl (cs 0, 200, .inl (fun _ => 0)) := by rw [ec, va_up_ne _ _ (by decide)]; exact h_757
  have h_804 : cw_773 8 = .inl (cs 0, 200, .inl (fun _ => 0)) := by rw [ec, va_up_ne _ _ (by decide)]; exact h_758
  have h_805 : cw_773 9 = .inl (cs 0, 200, .inl (fun _ => 0)) := by rw [ec, va_up_ne _ _ (by decide)]; exact h_759
  have h_806 : cw_773 10 = .inl (cs 0, 200, .inl (fun _ => 0)) := by rw [ec, va_up_ne _ _ (by decide)]; exact h_760
  have h_807 : cw_773 11 = .inl (cs 0, 200, .inl (fun _ => 0)) := by rw [ec, va_up_ne _ _ (by decide)]; exact h_761
  have h_808 : cw_773 12 = .inl (cs 0, 200, .inl (fun _ => 0)) := by rw [ec, va_up_ne _ _ (by decide)]; exact h_762
  have h_809 : cw_773 13 = .inl (cs 0, 200, .inl (fun _ => 0)) := by rw [ec, va_up_ne _ _ (by decide)]; exact h_763
  have h_810 : cw_773 14 = .inl (cs 0, 200, .inl (fun _ => 0)) := by rw [ec, va_up_ne _ _ (by decide)]; exact h_764
  have h_811 : cw_773 15 = .inl (cs 1, 200, .inl (fun _ => 0)) := by rw [ec, va_up_ne _ _ (by decide)]; exact h_765
  have h_812 : cw_773 16 = .inl (cs 0, 200, .inl (fun _ => 0)) := by rw [ec, va_up_ne _ _ (by decide)]; exact h_766
  have h_813 : cw_773 17 = .inl (cs 0, 1600, .inl (fun _ => 0)) := by rw [ec, va_up_ne _ _ (by decide)]; exact h_767
  have h_814 : cw_773 18 = .inl (cs 0, 1600, .inl (fun _ => 0)) := by rw [ec, va_up_ne _ _ (by decide)]; exact h_768
  have h_815 : cw_773 19 = .inl (cs 0, 200, .inl (fun _ => 0)) := by rw [ec, va_up_ne _ _ (by decide)]; exact h_769
  have h_816 : cw_773 20 = .inl (cs 0, 200, .inl (fun _ => 0)) := by rw [ec, va_up_ne _ _ (by decide)]; exact h_770
  have h_817 : cw_773 21 = .inl (cs 0, 200, .inl (fun _ => 0)) := by rw [ec]; exact va_up_self _ _ _
  clear eb ec
  clear a_707 a_708 a_709 a_710 a_711 a_712 a_713 a_714 a_715 a_716 a_717 a_718 a_719 a_720 a_721 a_722 a_723 a_724 a_725 a_726 a_727 h_750 h_751 h_752 h_753 h_754 h_755 h_756 h_757 h_758 h_759 h_760 h_761 h_762 h_763 h_764 h_765 h_766 h_767 h_768 h_769 h_770
  refine pw_putFA (ci := 7) (v := .ref (q_771)) (ty := (t_M 23)) (fs' := [.int (0), .ref (q_1), .ref (q_11), .ref (q_24), .int (0), .ref (q_40), .ref (q_59), .ref (q_81), .ref (q_106), .ref (q_134), .ref (q_165), .ref (q_199), .ref (q_236), .ref (q_276), .ref (q_319), .ref (q_365), .ref (q_414), .ref (q_466), .ref (q_521), .ref (q_579), .ref (q_640), .ref (q_704), .int (0), .ref (q_771), .null, .int (0), .int (0), .null, .null, .null, .int (0), .null, .null]) hx hb hw i_M t_M t_M_ok n_M hown hK hP hD hS (0) (by decide) a_774 h_796 rfl 23 (by decide) (hw _ kF_M_71) rfl hin rfl (t_M_ok 23 (by decide)) rfl rfl (Nat.le_of_ble_eq_true rfl) rfl d_M_init_187 (fun cw_818 H locs ecw_818 hP hD hS => ?_)
  have h_819 : cw_818 (0) = .inr (7, [.int (0), .ref (q_1), .ref (q_11), .ref (q_24), .int (0), .ref (q_40), .ref (q_59), .ref (q_81), .ref (q_106), .ref (q_134), .ref (q_165), .ref (q_199), .ref (q_236), .ref (q_276), .ref (q_319), .ref (q_365), .ref (q_414), .ref (q_466), .ref (q_521), .ref (q_579), .ref (q_640), .ref (q_704), .int (0), .ref (q_771), .null, .int (0), .int (0), .null, .null, .null, .int (0), .null, .null]) := by rw [ecw_818]; exact va_up_self _ _ _
  have h_820 : cw_818 (1) = .inl (cs 0, 10, .inl (fun _ => 0)) := by rw [ecw_818, va_up_ne _ _ (by decide)]; exact h_797
  have h_821 : cw_818 (2) = .inl (cs 0, 10, .inl (fun _ => 0)) := by rw [ecw_818, va_up_ne _ _ (by decide)]; exact h_798
  have h_822 : cw_818 (3) = .inl (cs 0, 10, .inl (fun _ => 0)) := by rw [ecw_818, va_up_ne _ _ (by decide)]; exact h_799
  have h_823 : cw_818 (4) = .inl (cs 0, 200, .inl (fun _ => 0)) := by rw [ecw_818, va_up_ne _ _ (by decide)]; exact h_800
  have h_824 : cw_818 (5) = .inl (cs 0, 200, .inl (fun _ => 0)) := by rw [ecw_818, va_up_ne _ _ (by decide)]; exact h_801
  have h_825 : cw_818 (6) = .inl (cs 0, 200, .inl (fun _ => 0)) := by rw [ecw_818, va_up_ne _ _ (by decide)]; exact h_802
  have h_826 : cw_818 (7) = .inl (cs 0, 200, .inl (fun _ => 0)) := by rw [ecw_818, va_up_ne _ _ (by decide)]; exact h_803
  have h_827 : cw_818 (8) = .inl (cs 0, 200, .inl (fun _ => 0)) := by rw [ecw_818, va_up_ne _ _ (by decide)]; exact h_804
  have h_828 : cw_818 (9) = .inl (cs 0, 200, .inl (fun _ => 0)) := by rw [ecw_818, va_up_ne _ _ (by decide)]; exact h_805
  have h_829 : cw_818 (10) = .inl (cs 0, 200, .inl (fun _ => 0)) := by rw [ecw_818, va_up_ne _ _ (by decide)]; exact h_806
  have h_830 : cw_818 (11) = .inl (cs 0, 200, .inl (fun _ => 0)) := by rw [ecw_818, va_up_ne _ _ (by decide)]; exact h_807
  have h_831 : cw_818 (12) = .inl (cs 0, 200, .inl (fun _ => 0)) := by rw [ecw_818, va_up_ne _ _ (by decide)]; exact h_808
  have h_832 : cw_818 (13) = .inl (cs 0, 200, .inl (fun _ => 0)) := by rw [ecw_818, va_up_ne _ _ (by decide)]; exact h_809
  have h_833 : cw_818 (14) = .inl (cs 0, 200, .inl (fun _ => 0)) := by rw [ecw_818, va_up_ne _ _ (by decide)]; exact h_810
  have h_834 : cw_818 (15) = .inl (cs 1, 200, .inl (fun _ => 0)) := by rw [ecw_818, va_up_ne _ _ (by decide)]; exact h_811
  have h_835 : cw_818 (16) = .inl (cs 0, 200, .inl (fun _ => 0)) := by rw [ecw_818, va_up_ne _ _ (by decide)]; exact h_812
  have h_836 : cw_818 (17) = .inl (cs 0, 1600, .inl (fun _ => 0)) := by rw [ecw_818, va_up_ne _ _ (by decide)]; exact h_813
  have h_837 : cw_818 (18) = .inl (cs 0, 1600, .inl (fun _ => 0)) := by rw [ecw_818, va_up_ne _ _ (by decide)]; exact h_814
  have h_838 : cw_818 (19) = .inl (cs 0, 200, .inl (fun _ => 0)) := by rw [ecw_818, va_up_ne _ _ (by decide)]; exact h_815
  have h_839 : cw_818 (20) = .inl (cs 0, 200, .inl (fun _ => 0)) := by rw [ecw_818, va_up_ne _ _ (by decide)]; exact h_816
  have h_840 : cw_818 (21) = .inl (cs 0, 200, .inl (fun _ => 0)) := by rw [ecw_818, va_up_ne _ _ (by decide)]; exact h_817
  clear ecw_818
  clear h_796 h_797 h_798 h_799 h_800 h_801 h_802 h_803 h_804 h_805 h_806 h_807 h_808 h_809 h_810 h_811 h_812 h_813 h_814 h_815 h_816 h_817
  refine lv_aload_n hx hb d_M_init_190 rfl (lv_at hl 0 rfl) ?_
  refine lv_sipush (v := 200) hx hb d_M_init_191 (by decide) ?_
  refine pw_newa (atype := .int) hx hb (hw _ kR_int) rfl hK hP hD hS hA 0 rfl 200 rfl (by decide) (Nat.le_of_ble_eq_true rfl) (Nat.le_of_ble_eq_true rfl) d_M_init_194 (fun q_841 H hP hD hS => ?_)
  obtain ⟨bk_842, eb⟩ : ∃ x, x = va_up bk_772 22 q_841 := ⟨_, rfl⟩
  obtain ⟨cw_843, ec⟩ : ∃ x, x = va_up cw_818 22 (.inl (cs 0, 200, .inl (fun _ => 0))) := ⟨_, rfl⟩
  replace hP : va_P D classes (wl 23 bk_842 cw_843) H := by rw [eb, ec]; exact hP
  replace hD : va_D (AA 1 bk sz) (wl 23 bk_842 cw_843) := by rw [eb, ec]; exact hD
  have a_844 : bk_842 0 = h0 := by rw [eb, va_up_ne _ _ (by decide)]; exact a_774
  have a_845 : bk_842 1 = q_1 := by rw [eb, va_up_ne _ _ (by decide)]; exact a_775
  have a_846 : bk_842 2 = q_11 := by rw [eb, va_up_ne _ _ (by decide)]; exact a_776
  have a_847 : bk_842 3 = q_24 := by rw [eb, va_up_ne _ _ (by decide)]; exact a_777
  have a_848 : bk_842 4 = q_40 := by rw [eb, va_up_ne _ _ (by decide)]; exact a_778
  have a_849 : bk_842 5 = q_59 := by rw [eb, va_up_ne _ _ (by decide)]; exact a_779
  have a_850 : bk_842 6 = q_81 := by rw [eb, va_up_ne _ _ (by decide)]; exact a_780
  have a_851 : bk_842 7 = q_106 := by rw [eb, va_up_ne _ _ (by decide)]; exact a_781
  have a_852 : bk_842 8 = q_134 := by rw [eb, va_up_ne _ _ (by decide)]; exact a_782
  have a_853 : bk_842 9 = q_165 := by rw [eb, va_up_ne _ _ (by decide)]; exact a_783
  have a_854 : bk_842 10 = q_199 := by rw [eb, va_up_ne _ _ (by decide)]; exact a_784
  have a_855 : bk_842 11 = q_236 := by rw [eb, va_up_ne _ _ (by decide)]; exact a_785
  have a_856 : bk_842 12 = q_276 := by rw [eb, va_up_ne _ _ (by decide)]; exact a_786
  have a_857 : bk_842 13 = q_319 := by rw [eb, va_up_ne _ _ (by decide)]; exact a_787
  have a_858 : bk_842 14 = q_365 := by rw [eb, va_up_ne _ _ (by decide)]; exact a_788
  have a_859 : bk_842 15 = q_414 := by rw [eb, va_up_ne _ _ (by decide)]; exact a_789
  have a_860 : bk_842 16 = q_466 := by rw [eb, va_up_ne _ _ (by decide)]; exact a_790
  have a_861 : bk_842 17 = q_521 := by rw [eb, va_up_ne _ _ (by decide)]; exact a_791
  have a_862 : bk_842 18 = q_579 := by rw [eb, va_up_ne _ _ (by decide)]; exact a_792
  have a_863 : bk_842 19 = q_640 := by rw [eb, va_up_ne _ _ (by decide)]; exact a_793
  have a_864 : bk_842 20 = q_704 := by rw [eb, va_up_ne _ _ (by decide)]; exact a_794
  have a_865 : bk_842 21 = q_771 := by rw [eb, va_up_ne _ _ (by decide)]; exact a_795
  have a_866 : bk_842 22 = q_841 := by rw [eb]; exact va_up_self _ _ _
  have h_867 : cw_843 0 = .inr (7, [.int (0), .ref (q_1), .ref (q_11), .ref (q_24), .int (0), .ref (q_40), .ref (q_59), .ref (q_81), .ref (q_106), .ref (q_134), .ref (q_165), .ref (q_199), .ref (q_236), .ref (q_276), .ref (q_319), .ref (q_365), .ref (q_414), .ref (q_466), .ref (q_521), .ref (q_579), .ref (q_640), .ref (q_704), .int (0), .ref (q_771), .null, .int (0), .int (0), .null, .null, .null, .int (0), .null, .null]) := by rw [ec, va_up_ne _ _ (by decide)]; exact h_819
  have h_868 : cw_843 1 = .inl (cs 0, 10, .inl (fun _ => 0)) := by rw [ec, va_up_ne _ _ (by decide)]; exact h_820
  have h_869 : cw_843 2 = .inl (cs 0, 10, .inl (fun _ => 0)) := by rw [ec, va_up_ne _ _ (by decide)]; exact h_821
  have h_870 : cw_843 3 = .inl (cs 0, 10, .inl (fun _ => 0)) := by rw [ec, va_up_ne _ _ (by decide)]; exact h_822
  have h_871 : cw_843 4 = .inl (cs 0, 200, .inl (fun _ => 0)) := by rw [ec, va_up_ne _ _ (by decide)]; exact h_823
  have h_872 : cw_843 5 = .inl (cs 0, 200, .inl (fun _ => 0)) := by rw [ec, va_up_ne _ _ (by decide)]; exact h_824
  have h_873 : cw_843 6 = .inl (cs 0, 200, .inl (fun _ => 0)) := by rw [ec, va_up_ne _ _ (by decide)]; exact h_825
  have h_874 : cw_843 7 = .inl (cs 0, 200, .inl (fun _ => 0)) := by rw [ec, va_up_ne _ _ (by decide)]; exact h_826
  have h_875 : cw_843 8 = .inl (cs 0, 200, .inl (fun _ => 0)) := by rw [ec, va_up_ne _ _ (by decide)]; exact h_827
  have h_876 : cw_843 9 = .inl (cs 0, 200, .inl (fun _ => 0)) := by rw [ec, va_up_ne _ _ (by decide)]; exact h_828
  have h_877 : cw_843 10 = .inl (cs 0, 200, .inl (fun _ => 0)) := by rw [ec, va_up_ne _ _ (by decide)]; exact h_829
  have h_878 : cw_843 11 = .inl (cs 0, 200, .inl (fun _ => 0)) := by rw [ec, va_up_ne _ _ (by decide)]; exact h_830
  have h_879 : cw_843 12 = .inl (cs 0, 200, .inl (fun _ => 0)) := by rw [ec, va_up_ne _ _ (by decide)]; exact h_831
  have h_880 : cw_843 13 = .inl (cs 0, 200, .inl (fun _ => 0)) := by rw [ec, va_up_ne _ _ (by decide)]; exact h_832
  have h_881 : cw_843 14 = .inl (cs 0, 200, .inl (fun _ => 0)) := by rw [ec, va_up_ne _ _ (by decide)]; exact h_833
  have h_882 : cw_843 15 = .inl (cs 1, 200, .inl (fun _ => 0)) := by rw [ec, va_up_ne _ _ (by decide)]; exact h_834
  have h_883 : cw_843 16 = .inl (cs 0, 200, .inl (fun _ => 0)) := by rw [ec, va_up_ne _ _ (by decide)]; exact h_835
  have h_884 : cw_843 17 = .inl (cs 0, 1600, .inl (fun _ => 0)) := by rw [ec, va_up_ne _ _ (by decide)]; exact h_836
  have h_885 : cw_843 18 = .inl (cs 0, 1600, .inl (fun _ => 0)) := by rw [ec, va_up_ne _ _ (by decide)]; exact h_837
  have h_886 : cw_843 19 = .inl (cs 0, 200, .inl (fun _ => 0)) := by rw [ec, va_up_ne _ _ (by decide)]; exact h_838
  have h_887 : cw_843 20 = .inl (cs 0, 200, .inl (fun _ => 0)) := by rw [ec, va_up_ne _ _ (by decide)]; exact h_839
  have h_888 : cw_843 21 = .inl (cs 0, 200, .inl (fun _ => 0)) := by rw [ec, va_up_ne _ _ (by decide)]; exact h_840
  have h_889 : cw_843 22 = .inl (cs 0, 200, .inl (fun _ => 0)) := by rw [ec]; exact va_up_self _ _ _
  clear eb ec
  clear a_774 a_775 a_776 a_777 a_778 a_779 a_780 a_781 a_782 a_783 a_784 a_785 a_786 a_787 a_788 a_789 a_790 a_791 a_792 a_793 a_794 a_795 h_819 h_820 h_821 h_822 h_823 h_824 h_825 h_826 h_827 h_828 h_829 h_830 h_831 h_832 h_833 h_834 h_835 h_836 h_837 h_838 h_839 h_840
  refine pw_putFA (ci := 7) (v := .ref (q_841)) (ty := (t_M 24)) (fs' := [.int (0), .ref (q_1), .ref (q_11), .ref (q_24), .int (0), .ref (q_40), .ref (q_59), .ref (q_81), .ref (q_106), .ref (q_134), .ref (q_165), .ref (q_199), .ref (q_236), .ref (q_276), .ref (q_319), .ref (q_365), .ref (q_414), .ref (q_466), .ref (q_521), .ref (q_579), .ref (q_640), .ref (q_704), .int (0), .ref (q_771), .ref (q_841), .int (0), .int (0), .null, .null, .null, .int (0), .null, .null]) hx hb hw i_M t_M t_M_ok n_M hown hK hP hD hS (0) (by decide) a_844 h_867 rfl 24 (by decide) (hw _ kF_M_74) rfl hin rfl (t_M_ok 24 (by decide)) rfl rfl (Nat.le_of_ble_eq_true rfl) rfl d_M_init_196 (fun cw_890 H locs ecw_890 hP hD hS => ?_)
  have h_891 : cw_890 (0) = .inr (7, [.int (0), .ref (q_1), .ref (q_11), .ref (q_24), .int (0), .ref (q_40), .ref (q_59), .ref (q_81), .ref (q_106), .ref (q_134), .ref (q_165), .ref (q_199), .ref (q_236), .ref (q_276), .ref (q_319), .ref (q_365), .ref (q_414), .ref (q_466), .ref (q_521), .ref (q_579), .ref (q_640), .ref (q_704), .int (0), .ref (q_771), .ref (q_841), .int (0), .int (0), .null, .null, .null, .int (0), .null, .null]) := by rw [ecw_890]; exact va_up_self _ _ _
  have h_892 : cw_890 (1) = .inl (cs 0, 10, .inl (fun _ => 0)) := by rw [ecw_890, va_up_ne _ _ (by decide)]; exact h_868
  have h_893 : cw_890 (2) = .inl (cs 0, 10, .inl (fun _ => 0)) := by rw [ecw_890, va_up_ne _ _ (by decide)]; exact h_869
  have h_894 : cw_890 (3) = .inl (cs 0, 10, .inl (fun _ => 0)) := by rw [ecw_890, va_up_ne _ _ (by decide)]; exact h_870
  have h_895 : cw_890 (4) = .inl (cs 0, 200, .inl (fun _ => 0)) := by rw [ecw_890, va_up_ne _ _ (by decide)]; exact h_871
  have h_896 : cw_890 (5) = .inl (cs 0, 200, .inl (fun _ => 0)) := by rw [ecw_890, va_up_ne _ _ (by decide)]; exact h_872
  have h_897 : cw_890 (6) = .inl (cs 0, 200, .inl (fun _ => 0)) := by rw [ecw_890, va_up_ne _ _ (by decide)]; exact h_873
  have h_898 : cw_890 (7) = .inl (cs 0, 200, .inl (fun _ => 0)) := by rw [ecw_890, va_up_ne _ _ (by decide)]; exact h_874
  have h_899 : cw_890 (8) = .inl (cs 0, 200, .inl (fun _ => 0)) := by rw [ecw_890, va_up_ne _ _ (by decide)]; exact h_875
  have h_900 : cw_890 (9) = .inl (cs 0, 200, .inl (fun _ => 0)) := by rw [ecw_890, va_up_ne _ _ (by decide)]; exact h_876
  have h_901 : cw_890 (10) = .inl (cs 0, 200, .inl (fun _ => 0)) := by rw [ecw_890, va_up_ne _ _ (by decide)]; exact h_877
  have h_902 : cw_890 (11) = .inl (cs 0, 200, .inl (fun _ => 0)) := by rw [ecw_890, va_up_ne _ _ (by decide)]; exact h_878
  have h_903 : cw_890 (12) = .inl (cs 0, 200, .inl (fun _ => 0)) := by rw [ecw_890, va_up_ne _ _ (by decide)]; exact h_879
  have h_904 : cw_890 (13) = .inl (cs 0, 200, .inl (fun _ => 0)) := by rw [ecw_890, va_up_ne _ _ (by decide)]; exact h_880
  have h_905 : cw_890 (14) = .inl (cs 0, 200, .inl (fun _ => 0)) := by rw [ecw_890, va_up_ne _ _ (by decide)]; exact h_881
  have h_906 : cw_890 (15) = .inl (cs 1, 200, .inl (fun _ => 0)) := by rw [ecw_890, va_up_ne _ _ (by decide)]; exact h_882
  have h_907 : cw_890 (16) = .inl (cs 0, 200, .inl (fun _ => 0)) := by rw [ecw_890, va_up_ne _ _ (by decide)]; exact h_883
  have h_908 : cw_890 (17) = .inl (cs 0, 1600, .inl (fun _ => 0)) := by rw [ecw_890, va_up_ne _ _ (by decide)]; exact h_884
  have h_909 : cw_890 (18) = .inl (cs 0, 1600, .inl (fun _ => 0)) := by rw [ecw_890, va_up_ne _ _ (by decide)]; exact h_885
  have h_910 : cw_890 (19) = .inl (cs 0, 200, .inl (fun _ => 0)) := by rw [ecw_890, va_up_ne _ _ (by decide)]; exact h_886
  have h_911 : cw_890 (20) = .inl (cs 0, 200, .inl (fun _ => 0)) := by rw [ecw_890, va_up_ne _ _ (by decide)]; exact h_887
  have h_912 : cw_890 (21) = .inl (cs 0, 200, .inl (fun _ => 0)) := by rw [ecw_890, va_up_ne _ _ (by decide)]; exact h_888
  have h_913 : cw_890 (22) = .inl (cs 0, 200, .inl (fun _ => 0)) := by rw [ecw_890, va_up_ne _ _ (by decide)]; exact h_889
  clear ecw_890
  clear h_867 h_868 h_869 h_870 h_871 h_872 h_873 h_874 h_875 h_876 h_877 h_878 h_879 h_880 h_881 h_882 h_883 h_884 h_885 h_886 h_887 h_888 h_889
  refine lv_aload_n hx hb d_M_init_199 rfl (lv_at hl 0 rfl) ?_
  refine lv_sipush (v := 200) hx hb d_M_init_200 (by decide) ?_
  refine pw_newa (atype := .int) hx hb (hw _ kR_int) rfl hK hP hD hS hA 0 rfl 200 rfl (by decide) (Nat.le_of_ble_eq_true rfl) (Nat.le_of_ble_eq_true rfl) d_M_init_203 (fun q_914 H hP hD hS => ?_)
  obtain ⟨bk_915, eb⟩ : ∃ x, x = va_up bk_842 23 q_914 := ⟨_, rfl⟩
  obtain ⟨cw_916, ec⟩ : ∃ x, x = va_up cw_890 23 (.inl (cs 0, 200, .inl (fun _ => 0))) := ⟨_, rfl⟩
  replace hP : va_P D classes (wl 24 bk_915 cw_916) H := by rw [eb, ec]; exact hP
  replace hD : va_D (AA 1 bk sz) (wl 24 bk_915 cw_916) := by rw [eb, ec]; exact hD
  have a_917 : bk_915 0 = h0 := by rw [eb, va_up_ne _ _ (by decide)]; exact a_844
  have a_918 : bk_915 1 = q_1 := by rw [eb, va_up_ne _ _ (by decide)]; exact a_845
  have a_919 : bk_915 2 = q_11 := by rw [eb, va_up_ne _ _ (by decide)]; exact a_846
  have a_920 : bk_915 3 = q_24 := by rw [eb, va_up_ne _ _ (by decide)]; exact a_847
  have a_921 : bk_915 4 = q_40 := by rw [eb, va_up_ne _ _ (by decide)]; exact a_848
  have a_922 : bk_915 5 = q_59 := by rw [eb, va_up_ne _ _ (by decide)]; exact a_849
  have a_923 : bk_915 6 = q_81 := by rw [eb, va_up_ne _ _ (by decide)]; exact a_850
  have a_924 : bk_915 7 = q_106 := by rw [eb, va_up_ne _ _ (by decide)]; exact a_851
  have a_925 : bk_915 8 = q_134 := by rw [eb, va_up_ne _ _ (by decide)]; exact a_852
  have a_926 : bk_915 9 = q_165 := by rw [eb, va_up_ne _ _ (by decide)]; exact a_853
  have a_927 : bk_915 10 = q_199 := by rw [eb, va_up_ne _ _ (by decide)]; exact a_854
  have a_928 : bk_915 11 = q_236 := by rw [eb, va_up_ne _ _ (by decide)]; exact a_855
  have a_929 : bk_915 12 = q_276 := by rw [eb, va_up_ne _ _ (by decide)]; exact a_856
  have a_930 : bk_915 13 = q_319 := by rw [eb, va_up_ne _ _ (by decide)]; exact a_857
  have a_931 : bk_915 14 = q_365 := by rw [eb, va_up_ne _ _ (by decide)]; exact a_858
  have a_932 : bk_915 15 = q_414 := by rw [eb, va_up_ne _ _ (by decide)]; exact a_859
  have a_933 : bk_915 16 = q_466 := by rw [eb, va_up_ne _ _ (by decide)]; exact a_860
  have a_934 : bk_915 17 = q_521 := by rw [eb, va_up_ne _ _ (by decide)]; exact a_861
  have a_935 : bk_915 18 = q_579 := by rw [eb, va_up_ne _ _ (by decide)]; exact a_862
  have a_936 : bk_915 19 = q_640 := by rw [eb, va_up_ne _ _ (by decide)]; exact a_863
  have a_937 : bk_915 20 = q_704 := by rw [eb, va_up_ne _ _ (by decide)]; exact a_864
  have a_938 : bk_915 21 = q_771 := by rw [eb, va_up_ne _ _ (by decide)]; exact a_865
  have a_939 : bk_915 22 = q_841 := by rw [eb, va_up_ne _ _ (by decide)]; exact a_866
  have a_940 : bk_915 23 = q_914 := by rw [eb]; exact va_up_self _ _ _
  have h_941 : cw_916 0 = .inr (7, [.int (0), .ref (q_1), .ref (q_11), .ref (q_24), .int (0), .ref (q_40), .ref (q_59), .ref (q_81), .ref (q_106), .ref (q_134), .ref (q_165), .ref (q_199), .ref (q_236), .ref (q_276), .ref (q_319), .ref (q_365), .ref (q_414), .ref (q_466), .ref (q_521), .ref (q_579), .ref (q_640), .ref (q_704), .int (0), .ref (q_771), .ref (q_841), .int (0), .int (0), .null, .null, .null, .int (0), .null, .null]) := by rw [ec, va_up_ne _ _ (by decide)]; exact h_891
  have h_942 : cw_916 1 = .inl (cs 0, 10, .inl (fun _ => 0)) := by rw [ec, va_up_ne _ _ (by decide)]; exact h_892
  have h_943 : cw_916 2 = .inl (cs 0, 10, .inl (fun _ => 0)) := by rw [ec, va_up_ne _ _ (by decide)]; exact h_893
  have h_944 : cw_916 3 = .inl (cs 0, 10, .inl (fun _ => 0)) := by rw [ec, va_up_ne _ _ (by decide)]; exact h_894
  have h_945 : cw_916 4 = .inl (cs 0, 200, .inl (fun _ => 0)) := by rw [ec, va_up_ne _ _ (by decide)]; exact h_895
  have h_946 : cw_916 5 = .inl (cs 0, 200, .inl (fun _ => 0)) := by rw [ec, va_up_ne _ _ (by decide)]; exact h_896
  have h_947 : cw_916 6 = .inl (cs 0, 200, .inl (fun _ => 0)) := by rw [ec, va_up_ne _ _ (by decide)]; exact h_897
  have h_948 : cw_916 7 = .inl (cs 0, 200, .inl (fun _ => 0)) := by rw [ec, va_up_ne _ _ (by decide)]; exact h_898
  have h_949 : cw_916 8 = .inl (cs 0, 200, .inl (fun _ => 0)) := by rw [ec, va_up_ne _ _ (by decide)]; exact h_899
  have h_950 : cw_916 9 = .inl (cs 0, 200, .inl (fun _ => 0)) := by rw [ec, va_up_ne _ _ (by decide)]; exact h_900
  have h_951 : cw_916 10 = .inl (cs 0, 200, .inl (fun _ => 0)) := by rw [ec, va_up_ne _ _ (by decide)]; exact h_901
  have h_952 : cw_916 11 = .inl (cs 0, 200, .inl (fun _ => 0)) := by rw [ec, va_up_ne _ _ (by decide)]; exact h_902
  have h_953 : cw_916 12 = .inl (cs 0, 200, .inl (fun _ => 0)) := by rw [ec, va_up_ne _ _ (by decide)]; exact h_903
  have h_954 : cw_916 13 = .inl (cs 0, 200, .inl (fun _ => 0)) := by rw [ec, va_up_ne _ _ (by decide)]; exact h_904
  have h_955 : cw_916 14 = .inl (cs 0, 200, .inl (fun _ => 0)) := by rw [ec, va_up_ne _ _ (by decide)]; exact h_905
  have h_956 : cw_916 15 = .inl (cs 1, 200, .inl (fun _ => 0)) := by rw [ec, va_up_ne _ _ (by decide)]; exact h_906
  have h_957 : cw_916 16 = .inl (cs 0, 200, .inl (fun _ => 0)) := by rw [ec, va_up_ne _ _ (by decide)]; exact h_907
  have h_958 : cw_916 17 = .inl (cs 0, 1600, .inl (fun _ => 0)) := by rw [ec, va_up_ne _ _ (by decide)]; exact h_908
  have h_959 : cw_916 18 = .inl (cs 0, 1600, .inl (fun _ => 0)) := by rw [ec, va_up_ne _ _ (by decide)]; exact h_909
  have h_960 : cw_916 19 = .inl (cs 0, 200, .inl (fun _ => 0)) := by rw [ec, va_up_ne _ _ (by decide)]; exact h_910
  have h_961 : cw_916 20 = .inl (cs 0, 200, .inl (fun _ => 0)) := by rw [ec, va_up_ne _ _ (by decide)]; exact h_911
  have h_962 : cw_916 21 = .inl (cs 0, 200, .inl (fun _ => 0)) := by rw [ec, va_up_ne _ _ (by decide)]; exact h_912
  have h_963 : cw_916 22 = .inl (cs 0, 200, .inl (fun _ => 0)) := by rw [ec, va_up_ne _ _ (by decide)]; exact h_913
  have h_964 : cw_916 23 = .inl (cs 0, 200, .inl (fun _ => 0)) := by rw [ec]; exact va_up_self _ _ _
  clear eb ec
  clear a_844 a_845 a_846 a_847 a_848 a_849 a_850 a_851 a_852 a_853 a_854 a_855 a_856 a_857 a_858 a_859 a_860 a_861 a_862 a_863 a_864 a_865 a_866 h_891 h_892 h_893 h_894 h_895 h_896 h_897 h_898 h_899 h_900 h_901 h_902 h_903 h_904 h_905 h_906 h_907 h_908 h_909 h_910 h_911 h_912 h_913
  refine pw_putFA (ci := 7) (v := .ref (q_914)) (ty := (t_M 27)) (fs' := [.int (0), .ref (q_1), .ref (q_11), .ref (q_24), .int (0), .ref (q_40), .ref (q_59), .ref (q_81), .ref (q_106), .ref (q_134), .ref (q_165), .ref (q_199), .ref (q_236), .ref (q_276), .ref (q_319), .ref (q_365), .ref (q_414), .ref (q_466), .ref (q_521), .ref (q_579), .ref (q_640), .ref (q_704), .int (0), .ref (q_771), .ref (q_841), .int (0), .int (0), .ref (q_914), .null, .null, .int (0), .null, .null]) hx hb hw i_M t_M t_M_ok n_M hown hK hP hD hS (0) (by decide) a_917 h_941 rfl 27 (by decide) (hw _ kF_M_77) rfl hin rfl (t_M_ok 27 (by decide)) rfl rfl (Nat.le_of_ble_eq_true rfl) rfl d_M_init_205 (fun cw_965 H locs ecw_965 hP hD hS => ?_)
  have h_966 : cw_965 (0) = .inr (7, [.int (0), .ref (q_1), .ref (q_11), .ref (q_24), .int (0), .ref (q_40), .ref (q_59), .ref (q_81), .ref (q_106), .ref (q_134), .ref (q_165), .ref (q_199), .ref (q_236), .ref (q_276), .ref (q_319), .ref (q_365), .ref (q_414), .ref (q_466), .ref (q_521), .ref (q_579), .ref (q_640), .ref (q_704), .int (0), .ref (q_771), .ref (q_841), .int (0), .int (0), .ref (q_914), .null, .null, .int (0), .null, .null]) := by rw [ecw_965]; exact va_up_self _ _ _
  have h_967 : cw_965 (1) = .inl (cs 0, 10, .inl (fun _ => 0)) := by rw [ecw_965, va_up_ne _ _ (by decide)]; exact h_942
  have h_968 : cw_965 (2) = .inl (cs 0, 10, .inl (fun _ => 0)) := by rw [ecw_965, va_up_ne _ _ (by decide)]; exact h_943
  have h_969 : cw_965 (3) = .inl (cs 0, 10, .inl (fun _ => 0)) := by rw [ecw_965, va_up_ne _ _ (by decide)]; exact h_944
  have h_970 : cw_965 (4) = .inl (cs 0, 200, .inl (fun _ => 0)) := by rw [ecw_965, va_up_ne _ _ (by decide)]; exact h_945
  have h_971 : cw_965 (5) = .inl (cs 0, 200, .inl (fun _ => 0)) := by rw [ecw_965, va_up_ne _ _ (by decide)]; exact h_946
  have h_972 : cw_965 (6) = .inl (cs 0, 200, .inl (fun _ => 0)) := by rw [ecw_965, va_up_ne _ _ (by decide)]; exact h_947
  have h_973 : cw_965 (7) = .inl (cs 0, 200, .inl (fun _ => 0)) := by rw [ecw_965, va_up_ne _ _ (by decide)]; exact h_948
  have h_974 : cw_965 (8) = .inl (cs 0, 200, .inl (fun _ => 0)) := by rw [ecw_965, va_up_ne _ _ (by decide)]; exact h_949
  have h_975 : cw_965 (9) = .inl (cs 0, 200, .inl (fun _ => 0)) := by rw [ecw_965, va_up_ne _ _ (by decide)]; exact h_950
  have h_976 : cw_965 (10) = .inl (cs 0, 200, .inl (fun _ => 0)) := by rw [ecw_965, va_up_ne _ _ (by decide)]; exact h_951
  have h_977 : cw_965 (11) = .inl (cs 0, 200, .inl (fun _ => 0)) := by rw [ecw_965, va_up_ne _ _ (by decide)]; exact h_952
  have h_978 : cw_965 (12) = .inl (cs 0, 200, .inl (fun _ => 0)) := by rw [ecw_965, va_up_ne _ _ (by decide)]; exact h_953
  have h_979 : cw_965 (13) = .inl (cs 0, 200, .inl (fun _ => 0)) := by rw [ecw_965, va_up_ne _ _ (by decide)]; exact h_954
  have h_980 : cw_965 (14) = .inl (cs 0, 200, .inl (fun _ => 0)) := by rw [ecw_965, va_up_ne _ _ (by decide)]; exact h_955
  have h_981 : cw_965 (15) = .inl (cs 1, 200, .inl (fun _ => 0)) := by rw [ecw_965, va_up_ne _ _ (by decide)]; exact h_956
  have h_982 : cw_965 (16) = .inl (cs 0, 200, .inl (fun _ => 0)) := by rw [ecw_965, va_up_ne _ _ (by decide)]; exact h_957
  have h_983 : cw_965 (17) = .inl (cs 0, 1600, .inl (fun _ => 0)) := by rw [ecw_965, va_up_ne _ _ (by decide)]; exact h_958
  have h_984 : cw_965 (18) = .inl (cs 0, 1600, .inl (fun _ => 0)) := by rw [ecw_965, va_up_ne _ _ (by decide)]; exact h_959
  have h_985 : cw_965 (19) = .inl (cs 0, 200, .inl (fun _ => 0)) := by rw [ecw_965, va_up_ne _ _ (by decide)]; exact h_960
  have h_986 : cw_965 (20) = .inl (cs 0, 200, .inl (fun _ => 0)) := by rw [ecw_965, va_up_ne _ _ (by decide)]; exact h_961
  have h_987 : cw_965 (21) = .inl (cs 0, 200, .inl (fun _ => 0)) := by rw [ecw_965, va_up_ne _ _ (by decide)]; exact h_962
  have h_988 : cw_965 (22) = .inl (cs 0, 200, .inl (fun _ => 0)) := by rw [ecw_965, va_up_ne _ _ (by decide)]; exact h_963
  have h_989 : cw_965 (23) = .inl (cs 0, 200, .inl (fun _ => 0)) := by rw [ecw_965, va_up_ne _ _ (by decide)]; exact h_964
  clear ecw_965
  clear h_941 h_942 h_943 h_944 h_945 h_946 h_947 h_948 h_949 h_950 h_951 h_952 h_953 h_954 h_955 h_956 h_957 h_958 h_959 h_960 h_961 h_962 h_963 h_964
  refine lv_aload_n hx hb d_M_init_208 rfl (lv_at hl 0 rfl) ?_
  refine lv_sipush (v := 200) hx hb d_M_init_209 (by decide) ?_
  refine pw_newa (atype := .int) hx hb (hw _ kR_int) rfl hK hP hD hS hA 0 rfl 200 rfl (by decide) (Nat.le_of_ble_eq_true rfl) (Nat.le_of_ble_eq_true rfl) d_M_init_212 (fun q_990 H hP hD hS => ?_)
  obtain ⟨bk_991, eb⟩ : ∃ x, x = va_up bk_915 24 q_990 := ⟨_, rfl⟩
  obtain ⟨cw_992, ec⟩ : ∃ x, x = va_up cw_965 24 (.inl (cs 0, 200, .inl (fun _ => 0))) := ⟨_, rfl⟩
  replace hP : va_P D classes (wl 25 bk_991 cw_992) H := by rw [eb, ec]; exact hP
  replace hD : va_D (AA 1 bk sz) (wl 25 bk_991 cw_992) := by rw [eb, ec]; exact hD
  have a_993 : bk_991 0 = h0 := by rw [eb, va_up_ne _ _ (by decide)]; exact a_917
  have a_994 : bk_991 1 = q_1 := by rw [eb, va_up_ne _ _ (by decide)]; exact a_918
  have a_995 : bk_991 2 = q_11 := by rw [eb, va_up_ne _ _ (by decide)]; exact a_919
  have a_996 : bk_991 3 = q_24 := by rw [eb, va_up_ne _ _ (by decide)]; exact a_920
  have a_997 : bk_991 4 = q_40 := by rw [eb, va_up_ne _ _ (by decide)]; exact a_921
  have a_998 : bk_991 5 = q_59 := by rw [eb, va_up_ne _ _ (by decide)]; exact a_922
  have a_999 : bk_991 6 = q_81 := by rw [eb, va_up_ne _ _ (by decide)]; exact a_923
  have a_1000 : bk_991 7 = q_106 := by rw [eb, va_up_ne _ _ (by decide)]; exact a_924
  have a_1001 : bk_991 8 = q_134 := by rw [eb, va_up_ne _ _ (by decide)]; exact a_925
  have a_1002 : bk_991 9 = q_165 := by rw [eb, va_up_ne _ _ (by decide)]; exact a_926
  have a_1003 : bk_991 10 = q_199 := by rw [eb, va_up_ne _ _ (by decide)]; exact a_927
  have a_1004 : bk_991 11 = q_236 := by rw [eb, va_up_ne _ _ (by decide)]; exact a_928
  have a_1005 : bk_991 12 = q_276 := by rw [eb, va_up_ne _ _ (by decide)]; exact a_929
  have a_1006 : bk_991 13 = q_319 := by rw [eb, va_up_ne _ _ (by decide)]; exact a_930
  have a_1007 : bk_991 14 = q_365 := by rw [eb, va_up_ne _ _ (by decide)]; exact a_931
  have a_1008 : bk_991 15 = q_414 := by rw [eb, va_up_ne _ _ (by decide)]; exact a_932
  have a_1009 : bk_991 16 = q_466 := by rw [eb, va_up_ne _ _ (by decide)]; exact a_933
  have a_1010 : bk_991 17 = q_521 := by rw [eb, va_up_ne _ _ (by decide)]; exact a_934
  have a_1011 : bk_991 18 = q_579 := by rw [eb, va_up_ne _ _ (by decide)]; exact a_935
  have a_1012 : bk_991 19 = q_640 := by rw [eb, va_up_ne _ _ (by decide)]; exact a_936
  have a_1013 : bk_991 20 = q_704 := by rw [eb, va_up_ne _ _ (by decide)]; exact a_937
  have a_1014 : bk_991 21 = q_771 := by rw [eb, va_up_ne _ _ (by decide)]; exact a_938
  have a_1015 : bk_991 22 = q_841 := by rw [eb, va_up_ne _ _ (by decide)]; exact a_939
  have a_1016 : bk_991 23 = q_914 := by rw [eb, va_up_ne _ _ (by decide)]; exact a_940
  have a_1017 : bk_991 24 = q_990 := by rw [eb]; exact va_up_self _ _ _
  have h_1018 : cw_992 0 = .inr (7, [.int (0), .ref (q_1), .ref (q_11), .ref (q_24), .int (0), .ref (q_40), .ref (q_59), .ref (q_81), .ref (q_106), .ref (q_134), .ref (q_165), .ref (q_199), .ref (q_236), .ref (q_276), .ref (q_319), .ref (q_365), .ref (q_414), .ref (q_466), .ref (q_521), .ref (q_579), .ref (q_640), .ref (q_704), .int (0), .ref (q_771), .ref (q_841), .int (0), .int (0), .ref (q_914), .null, .null, .int (0), .null, .null]) := by rw [ec, va_up_ne _ _ (by decide)]; exact h_966
  have h_1019 : cw_992 1 = .inl (cs 0, 10, .inl (fun _ => 0)) := by rw [ec, va_up_ne _ _ (by decide)]; exact h_967
  have h_1020 : cw_992 2 = .inl (cs 0, 10, .inl (fun _ => 0)) := by rw [ec, va_up_ne _ _ (by decide)]; exact h_968
  have h_1021 : cw_992 3 = .inl (cs 0, 10, .inl (fun _ => 0)) := by rw [ec, va_up_ne _ _ (by decide)]; exact h_969
  have h_1022 : cw_992 4 = .inl (cs 0, 200, .inl (fun _ => 0)) := by rw [ec, va_up_ne _ _ (by decide)]; exact h_970
  have h_1023 : cw_992 5 = .inl (cs 0, 200, .inl (fun _ => 0)) := by rw [ec, va_up_ne _ _ (by decide)]; exact h_971
  have h_1024 : cw_992 6 = .inl (cs 0, 200, .inl (fun _ => 0)) := by rw [ec, va_up_ne _ _ (by decide)]; exact h_972
  have h_1025 : cw_992 7 = .inl (cs 0, 200, .inl (fun _ => 0)) := by rw [ec, va_up_ne _ _ (by decide)]; exact h_973
  have h_1026 : cw_992 8 = .inl (cs 0, 200, .inl (fun _ => 0)) := by rw [ec, va_up_ne _ _ (by decide)]; exact h_974
  have h_1027 : cw_992 9 = .inl (cs 0, 200, .inl (fun _ => 0)) := by rw [ec, va_up_ne _ _ (by decide)]; exact h_975
  have h_1028 : cw_992 10 = .inl (cs 0, 200, .inl (fun _ => 0)) := by rw [ec, va_up_ne _ _ (by decide)]; exact h_976
  have h_1029 : cw_992 11 = .inl (cs 0, 200, .inl (fun _ => 0)) := by rw [ec, va_up_ne _ _ (by decide)]; exact h_977
  have h_1030 : cw_992 12 = .inl (cs 0, 200, .inl (fun _ => 0)) := by rw [ec, va_up_ne _ _ (by decide)]; exact h_978
  have h_1031 : cw_992 13 = .inl (cs 0, 200, .inl (fun _ => 0)) := by rw [ec, va_up_ne _ _ (by decide)]; exact h_979
  have h_1032 : cw_992 14 = .inl (cs 0, 200, .inl (fun _ => 0)) := by rw [ec, va_up_ne _ _ (by decide)]; exact h_980
  have h_1033 : cw_992 15 = .inl (cs 1, 200, .inl (fun _ => 0)) := by rw [ec, va_up_ne _ _ (by decide)]; exact h_981
  have h_1034 : cw_992 16 = .inl (cs 0, 200, .inl (fun _ => 0)) := by rw [ec, va_up_ne _ _ (by decide)]; exact h_982
  have h_1035 : cw_992 17 = .inl (cs 0, 1600, .inl (fun _ => 0)) := by rw [ec, va_up_ne _ _ (by decide)]; exact h_983
  have h_1036 : cw_992 18 = .inl (cs 0, 1600, .inl (fun _ => 0)) := by rw [ec, va_up_ne _ _ (by decide)]; exact h_984
  have h_1037 : cw_992 19 = .inl (cs 0, 200, .inl (fun _ => 0)) := by rw [ec, va_up_ne _ _ (by decide)]; exact h_985
  have h_1038 : cw_992 20 = .inl (cs 0, 200, .inl (fun _ => 0)) := by rw [ec, va_up_ne _ _ (by decide)]; exact h_986
  have h_1039 : cw_992 21 = .inl (cs 0, 200, .inl (fun _ => 0)) := by rw [ec, va_up_ne _ _ (by decide)]; exact h_987
  have h_1040 : cw_992 22 = .inl (cs 0, 200, .inl (fun _ => 0)) := by rw [ec, va_up_ne _ _ (by decide)]; exact h_988
  have h_1041 : cw_992 23 = .inl (cs 0, 200, .inl (fun _ => 0)) := by rw [ec, va_up_ne _ _ (by decide)]; exact h_989
  have h_1042 : cw_992 24 = .inl (cs 0, 200, .inl (fun _ => 0)) := by rw [ec]; exact va_up_self _ _ _
  clear eb ec
  clear a_917 a_918 a_919 a_920 a_921 a_922 a_923 a_924 a_925 a_926 a_927 a_928 a_929 a_930 a_931 a_932 a_933 a_934 a_935 a_936 a_937 a_938 a_939 a_940 h_966 h_967 h_968 h_969 h_970 h_971 h_972 h_973 h_974 h_975 h_976 h_977 h_978 h_979 h_980 h_981 h_982 h_983 h_984 h_985 h_986 h_987 h_988 h_989
  refine pw_putFA (ci := 7) (v := .ref (q_990)) (ty := (t_M 28)) (fs' := [.int (0), .ref (q_1), .ref (q_11), .ref (q_24), .int (0), .ref (q_40), .ref (q_59), .ref (q_81), .ref (q_106), .ref (q_134), .ref (q_165), .ref (q_199), .ref (q_236), .ref (q_276), .ref (q_319), .ref (q_365), .ref (q_414), .ref (q_466), .ref (q_521), .ref (q_579), .ref (q_640), .ref (q_704), .int (0), .ref (q_771), .ref (q_841), .int (0), .int (0), .ref (q_914), .ref (q_990), .null, .int (0), .null, .null]) hx hb hw i_M t_M t_M_ok n_M hown hK hP hD hS (0) (by decide) a_993 h_1018 rfl 28 (by decide) (hw _ kF_M_80) rfl hin rfl (t_M_ok 28 (by decide)) rfl rfl (Nat.le_of_ble_eq_true rfl) rfl d_M_init_214 (fun cw_1043 H locs ecw_1043 hP hD hS => ?_)
  have h_1044 : cw_1043 (0) = .inr (7, [.int (0), .ref (q_1), .ref (q_11), .ref (q_24), .int (0), .ref (q_40), .ref (q_59), .ref (q_81), .ref (q_106), .ref (q_134), .ref (q_165), .ref (q_199), .ref (q_236), .ref (q_276), .ref (q_319), .ref (q_365), .ref (q_414), .ref (q_466), .ref (q_521), .ref (q_579), .ref (q_640), .ref (q_704), .int (0), .ref (q_771), .ref (q_841), .int (0), .int (0), .ref (q_914), .ref (q_990), .null, .int (0), .null, .null]) := by rw [ecw_1043]; exact va_up_self _ _ _
  have h_1045 : cw_1043 (1) = .inl (cs 0, 10, .inl (fun _ => 0)) := by rw [ecw_1043, va_up_ne _ _ (by decide)]; exact h_1019
  have h_1046 : cw_1043 (2) = .inl (cs 0, 10, .inl (fun _ => 0)) := by rw [ecw_1043, va_up_ne _ _ (by decide)]; exact h_1020
  have h_1047 : cw_1043 (3) = .inl (cs 0, 10, .inl (fun _ => 0)) := by rw [ecw_1043, va_up_ne _ _ (by decide)]; exact h_1021
  have h_1048 : cw_1043 (4) = .inl (cs 0, 200, .inl (fun _ => 0)) := by rw [ecw_1043, va_up_ne _ _ (by decide)]; exact h_1022
  have h_1049 : cw_1043 (5) = .inl (cs 0, 200, .inl (fun _ => 0)) := by rw [ecw_1043, va_up_ne _ _ (by decide)]; exact h_1023
  have h_1050 : cw_1043 (6) = .inl (cs 0, 200, .inl (fun _ => 0)) := by rw [ecw_1043, va_up_ne _ _ (by decide)]; exact h_1024
  have h_1051 : cw_1043 (7) = .inl (cs 0, 200, .inl (fun _ => 0)) := by rw [ecw_1043, va_up_ne _ _ (by decide)]; exact h_1025
  have h_1052 : cw_1043 (8) = .inl (cs 0, 200, .inl (fun _ => 0)) := by rw [ecw_1043, va_up_ne _ _ (by decide)]; exact h_1026
  have h_1053 : cw_1043 (9) = .inl (cs 0, 200, .inl (fun _ => 0)) := by rw [ecw_1043, va_up_ne _ _ (by decide)]; exact h_1027
  have h_1054 : cw_1043 (10) = .inl (cs 0, 200, .inl (fun _ => 0)) := by rw [ecw_1043, va_up_ne _ _ (by decide)]; exact h_1028
  have h_1055 : cw_1043 (11) = .inl (cs 0, 200, .inl (fun _ => 0)) := by rw [ecw_1043, va_up_ne _ _ (by decide)]; exact h_1029
  have h_1056 : cw_1043 (12) = .inl (cs 0, 200, .inl (fun _ => 0)) := by rw [ecw_1043, va_up_ne _ _ (by decide)]; exact h_1030
  have h_1057 : cw_1043 (13) = .inl (cs 0, 200, .inl (fun _ => 0)) := by rw [ecw_1043, va_up_ne _ _ (by decide)]; exact h_1031
  have h_1058 : cw_1043 (14) = .inl (cs 0, 200, .inl (fun _ => 0)) := by rw [ecw_1043, va_up_ne _ _ (by decide)]; exact h_1032
  have h_1059 : cw_1043 (15) = .inl (cs 1, 200, .inl (fun _ => 0)) := by rw [ecw_1043, va_up_ne _ _ (by decide)]; exact h_1033
  have h_1060 : cw_1043 (16) = .inl (cs 0, 200, .inl (fun _ => 0)) := by rw [ecw_1043, va_up_ne _ _ (by decide)]; exact h_1034
  have h_1061 : cw_1043 (17) = .inl (cs 0, 1600, .inl (fun _ => 0)) := by rw [ecw_1043, va_up_ne _ _ (by decide)]; exact h_1035
  have h_1062 : cw_1043 (18) = .inl (cs 0, 1600, .inl (fun _ => 0)) := by rw [ecw_1043, va_up_ne _ _ (by decide)]; exact h_1036
  have h_1063 : cw_1043 (19) = .inl (cs 0, 200, .inl (fun _ => 0)) := by rw [ecw_1043, va_up_ne _ _ (by decide)]; exact h_1037
  have h_1064 : cw_1043 (20) = .inl (cs 0, 200, .inl (fun _ => 0)) := by rw [ecw_1043, va_up_ne _ _ (by decide)]; exact h_1038
  have h_1065 : cw_1043 (21) = .inl (cs 0, 200, .inl (fun _ => 0)) := by rw [ecw_1043, va_up_ne _ _ (by decide)]; exact h_1039
  have h_1066 : cw_1043 (22) = .inl (cs 0, 200, .inl (fun _ => 0)) := by rw [ecw_1043, va_up_ne _ _ (by decide)]; exact h_1040
  have h_1067 : cw_1043 (23) = .inl (cs 0, 200, .inl (fun _ => 0)) := by rw [ecw_1043, va_up_ne _ _ (by decide)]; exact h_1041
  have h_1068 : cw_1043 (24) = .inl (cs 0, 200, .inl (fun _ => 0)) := by rw [ecw_1043, va_up_ne _ _ (by decide)]; exact h_1042
  clear ecw_1043
  clear h_1018 h_1019 h_1020 h_1021 h_1022 h_1023 h_1024 h_1025 h_1026 h_1027 h_1028 h_1029 h_1030 h_1031 h_1032 h_1033 h_1034 h_1035 h_1036 h_1037 h_1038 h_1039 h_1040 h_1041 h_1042
  refine lv_aload_n hx hb d_M_init_217 rfl (lv_at hl 0 rfl) ?_
  refine lv_sipush (v := 200) hx hb d_M_init_218 (by decide) ?_
  refine pw_newa (atype := .int) hx hb (hw _ kR_int) rfl hK hP hD hS hA 0 rfl 200 rfl (by decide) (Nat.le_of_ble_eq_true rfl) (Nat.le_of_ble_eq_true rfl) d_M_init_221 (fun q_1069 H hP hD hS => ?_)
  obtain ⟨bk_1070, eb⟩ : ∃ x, x = va_up bk_991 25 q_1069 := ⟨_, rfl⟩
  obtain ⟨cw_1071, ec⟩ : ∃ x, x = va_up cw_1043 25 (.inl (cs 0, 200, .inl (fun _ => 0))) := ⟨_, rfl⟩
  replace hP : va_P D classes (wl 26 bk_1070 cw_1071) H := by rw [eb, ec]; exact hP
  replace hD : va_D (AA 1 bk sz) (wl 26 bk_1070 cw_1071) := by rw [eb, ec]; exact hD
  have a_1072 : bk_1070 0 = h0 := by rw [eb, va_up_ne _ _ (by decide)]; exact a_993
  have a_1073 : bk_1070 1 = q_1 := by rw [eb, va_up_ne _ _ (by decide)]; exact a_994
  have a_1074 : bk_1070 2 = q_11 := by rw [eb, va_up_ne _ _ (by decide)]; exact a_995
  have a_1075 : bk_1070 3 = q_24 := by rw [eb, va_up_ne _ _ (by decide)]; exact a_996
  have a_1076 : bk_1070 4 = q_40 := by rw [eb, va_up_ne _ _ (by decide)]; exact a_997
  have a_1077 : bk_1070 5 = q_59 := by rw [eb, va_up_ne _ _ (by decide)]; exact a_998
  have a_1078 : bk_1070 6 = q_81 := by rw [eb, va_up_ne _ _ (by decide)]; exact a_999
  have a_1079 : bk_1070 7 = q_106 := by rw [eb, va_up_ne _ _ (by decide)]; exact a_1000
  have a_1080 : bk_1070 8 = q_134 := by rw [eb, va_up_ne _ _ (by decide)]; exact a_1001
  have a_1081 : bk_1070 9 = q_165 := by rw [eb, va_up_ne _ _ (by decide)]; exact a_1002
  have a_1082 : bk_1070 10 = q_199 := by rw [eb, va_up_ne _ _ (by decide)]; exact a_1003
  have a_1083 : bk_1070 11 = q_236 := by rw [eb, va_up_ne _ _ (by decide)]; exact a_1004
  have a_1084 : bk_1070 12 = q_276 := by rw [eb, va_up_ne _ _ (by decide)]; exact a_1005
  have a_1085 : bk_1070 13 = q_319 := by rw [eb, va_up_ne _ _ (by decide)]; exact a_1006
  have a_1086 : bk_1070 14 = q_365 := by rw [eb, va_up_ne _ _ (by decide)]; exact a_1007
  have a_1087 : bk_1070 15 = q_414 := by rw [eb, va_up_ne _ _ (by decide)]; exact a_1008
  have a_1088 : bk_1070 16 = q_466 := by rw [eb, va_up_ne _ _ (by decide)]; exact a_1009
  have a_1089 : bk_1070 17 = q_521 := by rw [eb, va_up_ne _ _ (by decide)]; exact a_1010
  have a_1090 : bk_1070 18 = q_579 := by rw [eb, va_up_ne _ _ (by decide)]; exact a_1011
  have a_1091 : bk_1070 19 = q_640 := by rw [eb, va_up_ne _ _ (by decide)]; exact a_1012
  have a_1092 : bk_1070 20 = q_704 := by rw [eb, va_up_ne _ _ (by decide)]; exact a_1013
  have a_1093 : bk_1070 21 = q_771 := by rw [eb, va_up_ne _ _ (by decide)]; exact a_1014
  have a_1094 : bk_1070 22 = q_841 := by rw [eb, va_up_ne _ _ (by decide)]; exact a_1015
  have a_1095 : bk_1070 23 = q_914 := by rw [eb, va_up_ne _ _ (by decide)]; exact a_1016
  have a_1096 : bk_1070 24 = q_990 := by rw [eb, va_up_ne _ _ (by decide)]; exact a_1017
  have a_1097 : bk_1070 25 = q_1069 := by rw [eb]; exact va_up_self _ _ _
  have h_1098 : cw_1071 0 = .inr (7, [.int (0), .ref (q_1), .ref (q_11), .ref (q_24), .int (0), .ref (q_40), .ref (q_59), .ref (q_81), .ref (q_106), .ref (q_134), .ref (q_165), .ref (q_199), .ref (q_236), .ref (q_276), .ref (q_319), .ref (q_365), .ref (q_414), .ref (q_466), .ref (q_521), .ref (q_579), .ref (q_640), .ref (q_704), .int (0), .ref (q_771), .ref (q_841), .int (0), .int (0), .ref (q_914), .ref (q_990), .null, .int (0), .null, .null]) := by rw [ec, va_up_ne _ _ (by decide)]; exact h_1044
  have h_1099 : cw_1071 1 = .inl (cs 0, 10, .inl (fun _ => 0)) := by rw [ec, va_up_ne _ _ (by decide)]; exact h_1045
  have h_1100 : cw_1071 2 = .inl (cs 0, 10, .inl (fun _ => 0)) := by rw [ec, va_up_ne _ _ (by decide)]; exact h_1046
  have h_1101 : cw_1071 3 = .inl (cs 0, 10, .inl (fun _ => 0)) := by rw [ec, va_up_ne _ _ (by decide)]; exact h_1047
  have h_1102 : cw_1071 4 = .inl (cs 0, 200, .inl (fun _ => 0)) := by rw [ec, va_up_ne _ _ (by decide)]; exact h_1048
  have h_1103 : cw_1071 5 = .inl (cs 0, 200, .inl (fun _ => 0)) := by rw [ec, va_up_ne _ _ (by decide)]; exact h_1049
  have h_1104 : cw_1071 6 = .inl (cs 0, 200, .inl (fun _ => 0)) := by rw [ec, va_up_ne _ _ (by decide)]; exact h_1050
  have h_1105 : cw_1071 7 = .inl (cs 0, 200, .inl (fun _ => 0)) := by rw [ec, va_up_ne _ _ (by decide)]; exact h_1051
  have h_1106 : cw_1071 8 = .inl (cs 0, 200, .inl (fun _ => 0)) := by rw [ec, va_up_ne _ _ (by decide)]; exact h_1052
  have h_1107 : cw_1071 9 = .inl (cs 0, 200, .inl (fun _ => 0)) := by rw [ec, va_up_ne _ _ (by decide)]; exact h_1053
  have h_1108 : cw_1071 10 = .inl (cs 0, 200, .inl (fun _ => 0)) := by rw [ec, va_up_ne _ _ (by decide)]; exact h_1054
  have h_1109 : cw_1071 11 = .inl (cs 0, 200, .inl (fun _ => 0)) := by rw [ec, va_up_ne _ _ (by decide)]; exact h_1055
  have h_1110 : cw_1071 12 = .inl (cs 0, 200, .inl (fun _ => 0)) := by rw [ec, va_up_ne _ _ (by decide)]; exact h_1056
  have h_1111 : cw_1071 13 = .inl (cs 0, 200, .inl (fun _ => 0)) := by rw [ec, va_up_ne _ _ (by decide)]; exact h_1057
  have h_1112 : cw_1071 14 = .inl (cs 0, 200, .inl (fun _ => 0)) := by rw [ec, va_up_ne _ _ (by decide)]; exact h_1058
  have h_1113 : cw_1071 15 = .inl (cs 1, 200, .inl (fun _ => 0)) := by rw [ec, va_up_ne _ _ (by decide)]; exact h_1059
  have h_1114 : cw_1071 16 = .inl (cs 0, 200, .inl (fun _ => 0)) := by rw [ec, va_up_ne _ _ (by decide)]; exact h_1060
  have h_1115 : cw_1071 17 = .inl (cs 0, 1600, .inl (fun _ => 0)) := by rw [ec, va_up_ne _ _ (by decide)]; exact h_1061
  have h_1116 : cw_1071 18 = .inl (cs 0, 1600, .inl (fun _ => 0)) := by rw [ec, va_up_ne _ _ (by decide)]; exact h_1062
  have h_1117 : cw_1071 19 = .inl (cs 0, 200, .inl (fun _ => 0)) := by rw [ec, va_up_ne _ _ (by decide)]; exact h_1063
  have h_1118 : cw_1071 20 = .inl (cs 0, 200, .inl (fun _ => 0)) := by rw [ec, va_up_ne _ _ (by decide)]; exact h_1064
  have h_1119 : cw_1071 21 = .inl (cs 0, 200, .inl (fun _ => 0)) := by rw [ec, va_up_ne _ _ (by decide)]; exact h_1065
  have h_1120 : cw_1071 22 = .inl (cs 0, 200, .inl (fun _ => 0)) := by rw [ec, va_up_ne _ _ (by decide)]; exact h_1066
  have h_1121 : cw_1071 23 = .inl (cs 0, 200, .inl (fun _ => 0)) := by rw [ec, va_up_ne _ _ (by decide)]; exact h_1067
  have h_1122 : cw_1071 24 = .inl (cs 0, 200, .inl (fun _ => 0)) := by rw [ec, va_up_ne _ _ (by decide)]; exact h_1068
  have h_1123 : cw_1071 25 = .inl (cs 0, 200, .inl (fun _ => 0)) := by rw [ec]; exact va_up_self _ _ _
  clear eb ec
  clear a_993 a_994 a_995 a_996 a_997 a_998 a_999 a_1000 a_1001 a_1002 a_1003 a_1004 a_1005 a_1006 a_1007 a_1008 a_1009 a_1010 a_1011 a_1012 a_1013 a_1014 a_1015 a_1016 a_1017 h_1044 h_1045 h_1046 h_1047 h_1048 h_1049 h_1050 h_1051 h_1052 h_1053 h_1054 h_1055 h_1056 h_1057 h_1058 h_1059 h_1060 h_1061 h_1062 h_1063 h_1064 h_1065 h_1066 h_1067 h_1068
  refine pw_putFA (ci := 7) (v := .ref (q_1069)) (ty := (t_M 29)) (fs' := [.int (0), .ref (q_1), .ref (q_11), .ref (q_24), .int (0), .ref (q_40), .ref (q_59), .ref (q_81), .ref (q_106), .ref (q_134), .ref (q_165), .ref (q_199), .ref (q_236), .ref (q_276), .ref (q_319), .ref (q_365), .ref (q_414), .ref (q_466), .ref (q_521), .ref (q_579), .ref (q_640), .ref (q_704), .int (0), .ref (q_771), .ref (q_841), .int (0), .int (0), .ref (q_914), .ref (q_990), .ref (q_1069), .int (0), .null, .null]) hx hb hw i_M t_M t_M_ok n_M hown hK hP hD hS (0) (by decide) a_1072 h_1098 rfl 29 (by decide) (hw _ kF_M_83) rfl hin rfl (t_M_ok 29 (by decide)) rfl rfl (Nat.le_of_ble_eq_true rfl) rfl d_M_init_223 (fun cw_1124 H locs ecw_1124 hP hD hS => ?_)
  have h_1125 : cw_1124 (0) = .inr (7, [.int (0), .ref (q_1), .ref (q_11), .ref (q_24), .int (0), .ref (q_40), .ref (q_59), .ref (q_81), .ref (q_106), .ref (q_134), .ref (q_165), .ref (q_199), .ref (q_236), .ref (q_276), .ref (q_319), .ref (q_365), .ref (q_414), .ref (q_466), .ref (q_521), .ref (q_579), .ref (q_640), .ref (q_704), .int (0), .ref (q_771), .ref (q_841), .int (0), .int (0), .ref (q_914), .ref (q_990), .ref (q_1069), .int (0), .null, .null]) := by rw [ecw_1124]; exact va_up_self _ _ _
  have h_1126 : cw_1124 (1) = .inl (cs 0, 10, .inl (fun _ => 0)) := by rw [ecw_1124, va_up_ne _ _ (by decide)]; exact h_1099
  have h_1127 : cw_1124 (2) = .inl (cs 0, 10, .inl (fun _ => 0)) := by rw [ecw_1124, va_up_ne _ _ (by decide)]; exact h_1100
  have h_1128 : cw_1124 (3) = .inl (cs 0, 10, .inl (fun _ => 0)) := by rw [ecw_1124, va_up_ne _ _ (by decide)]; exact h_1101
  have h_1129 : cw_1124 (4) = .inl (cs 0, 200, .inl (fun _ => 0)) := by rw [ecw_1124, va_up_ne _ _ (by decide)]; exact h_1102
  have h_1130 : cw_1124 (5) = .inl (cs 0, 200, .inl (fun _ => 0)) := by rw [ecw_1124, va_up_ne _ _ (by decide)]; exact h_1103
  have h_1131 : cw_1124 (6) = .inl (cs 0, 200, .inl (fun _ => 0)) := by rw [ecw_1124, va_up_ne _ _ (by decide)]; exact h_1104
  have h_1132 : cw_1124 (7) = .inl (cs 0, 200, .inl (fun _ => 0)) := by rw [ecw_1124, va_up_ne _ _ (by decide)]; exact h_1105
  have h_1133 : cw_1124 (8) = .inl (cs 0, 200, .inl (fun _ => 0)) := by rw [ecw_1124, va_up_ne _ _ (by decide)]; exact h_1106
  have h_1134 : cw_1124 (9) = .inl (cs 0, 200, .inl (fun _ => 0)) := by rw [ecw_1124, va_up_ne _ _ (by decide)]; exact h_1107
  have h_1135 : cw_1124 (10) = .inl (cs 0, 200, .inl (fun _ => 0)) := by rw [ecw_1124, va_up_ne _ _ (by decide)]; exact h_1108
  have h_1136 : cw_1124 (11) = .inl (cs 0, 200, .inl (fun _ => 0)) := by rw [ecw_1124, va_up_ne _ _ (by decide)]; exact h_1109
  have h_1137 : cw_1124 (12) = .inl (cs 0, 200, .inl (fun _ => 0)) := by rw [ecw_1124, va_up_ne _ _ (by decide)]; exact h_1110
  have h_1138 : cw_1124 (13) = .inl (cs 0, 200, .inl (fun _ => 0)) := by rw [ecw_1124, va_up_ne _ _ (by decide)]; exact h_1111
  have h_1139 : cw_1124 (14) = .inl (cs 0, 200, .inl (fun _ => 0)) := by rw [ecw_1124, va_up_ne _ _ (by decide)]; exact h_1112
  have h_1140 : cw_1124 (15) = .inl (cs 1, 200, .inl (fun _ => 0)) := by rw [ecw_1124, va_up_ne _ _ (by decide)]; exact h_1113
  have h_1141 : cw_1124 (16) = .inl (cs 0, 200, .inl (fun _ => 0)) := by rw [ecw_1124, va_up_ne _ _ (by decide)]; exact h_1114
  have h_1142 : cw_1124 (17) = .inl (cs 0, 1600, .inl (fun _ => 0)) := by rw [ecw_1124, va_up_ne _ _ (by decide)]; exact h_1115
  have h_1143 : cw_1124 (18) = .inl (cs 0, 1600, .inl (fun _ => 0)) := by rw [ecw_1124, va_up_ne _ _ (by decide)]; exact h_1116
  have h_1144 : cw_1124 (19) = .inl (cs 0, 200, .inl (fun _ => 0)) := by rw [ecw_1124, va_up_ne _ _ (by decide)]; exact h_1117
  have h_1145 : cw_1124 (20) = .inl (cs 0, 200, .inl (fun _ => 0)) := by rw [ecw_1124, va_up_ne _ _ (by decide)]; exact h_1118
  have h_1146 : cw_1124 (21) = .inl (cs 0, 200, .inl (fun _ => 0)) := by rw [ecw_1124, va_up_ne _ _ (by decide)]; exact h_1119
  have h_1147 : cw_1124 (22) = .inl (cs 0, 200, .inl (fun _ => 0)) := by rw [ecw_1124, va_up_ne _ _ (by decide)]; exact h_1120
  have h_1148 : cw_1124 (23) = .inl (cs 0, 200, .inl (fun _ => 0)) := by rw [ecw_1124, va_up_ne _ _ (by decide)]; exact h_1121
  have h_1149 : cw_1124 (24) = .inl (cs 0, 200, .inl (fun _ => 0)) := by rw [ecw_1124, va_up_ne _ _ (by decide)]; exact h_1122
  have h_1150 : cw_1124 (25) = .inl (cs 0, 200, .inl (fun _ => 0)) := by rw [ecw_1124, va_up_ne _ _ (by decide)]; exact h_1123
  clear ecw_1124
  clear h_1098 h_1099 h_1100 h_1101 h_1102 h_1103 h_1104 h_1105 h_1106 h_1107 h_1108 h_1109 h_1110 h_1111 h_1112 h_1113 h_1114 h_1115 h_1116 h_1117 h_1118 h_1119 h_1120 h_1121 h_1122 h_1123
  refine lv_aload_n hx hb d_M_init_226 rfl (lv_at hl 0 rfl) ?_
  refine lv_bipush (v := 100) hx hb d_M_init_227 (by decide) ?_
  refine pw_newa (atype := .int) hx hb (hw _ kR_int) rfl hK hP hD hS hA 0 rfl 100 rfl (by decide) (Nat.le_of_ble_eq_true rfl) (Nat.le_of_ble_eq_true rfl) d_M_init_229 (fun q_1151 H hP hD hS => ?_)
  obtain ⟨bk_1152, eb⟩ : ∃ x, x = va_up bk_1070 26 q_1151 := ⟨_, rfl⟩
  obtain ⟨cw_1153, ec⟩ : ∃ x, x = va_up cw_1124 26 (.inl (cs 0, 100, .inl (fun _ => 0))) := ⟨_, rfl⟩
  replace hP : va_P D classes (wl 27 bk_1152 cw_1153) H := by rw [eb, ec]; exact hP
  replace hD : va_D (AA 1 bk sz) (wl 27 bk_1152 cw_1153) := by rw [eb, ec]; exact hD
  have a_1154 : bk_1152 0 = h0 := by rw [eb, va_up_ne _ _ (by decide)]; exact a_1072
  have a_1155 : bk_1152 1 = q_1 := by rw [eb, va_up_ne _ _ (by decide)]; exact a_1073
  have a_1156 : bk_1152 2 = q_11 := by rw [eb, va_up_ne _ _ (by decide)]; exact a_1074
  have a_1157 : bk_1152 3 = q_24 := by rw [eb, va_up_ne _ _ (by decide)]; exact a_1075
  have a_1158 : bk_1152 4 = q_40 := by rw [eb, va_up_ne _ _ (by decide)]; exact a_1076
  have a_1159 : bk_1152 5 = q_59 := by rw [eb, va_up_ne _ _ (by decide)]; exact a_1077
  have a_1160 : bk_1152 6 = q_81 := by rw [eb, va_up_ne _ _ (by decide)]; exact a_1078
  have a_1161 : bk_1152 7 = q_106 := by rw [eb, va_up_ne _ _ (by decide)]; exact a_1079
  have a_1162 : bk_1152 8 = q_134 := by rw [eb, va_up_ne _ _ (by decide)]; exact a_1080
  have a_1163 : bk_1152 9 = q_165 := by rw [eb, va_up_ne _ _ (by decide)]; exact a_1081
  have a_1164 : bk_1152 10 = q_199 := by rw [eb, va_up_ne _ _ (by decide)]; exact a_1082
  have a_1165 : bk_1152 11 = q_236 := by rw [eb, va_up_ne _ _ (by decide)]; exact a_1083
  have a_1166 : bk_1152 12 = q_276 := by rw [eb, va_up_ne _ _ (by decide)]; exact a_1084
  have a_1167 : bk_1152 13 = q_319 := by rw [eb, va_up_ne _ _ (by decide)]; exact a_1085
  have a_1168 : bk_1152 14 = q_365 := by rw [eb, va_up_ne _ _ (by decide)]; exact a_1086
  have a_1169 : bk_1152 15 = q_414 := by rw [eb, va_up_ne _ _ (by decide)]; exact a_1087
  have a_1170 : bk_1152 16 = q_466 := by rw [eb, va_up_ne _ _ (by decide)]; exact a_1088
  have a_1171 : bk_1152 17 = q_521 := by rw [eb, va_up_ne _ _ (by decide)]; exact a_1089
  have a_1172 : bk_1152 18 = q_579 := by rw [eb, va_up_ne _ _ (by decide)]; exact a_1090
  have a_1173 : bk_1152 19 = q_640 := by rw [eb, va_up_ne _ _ (by decide)]; exact a_1091
  have a_1174 : bk_1152 20 = q_704 := by rw [eb, va_up_ne _ _ (by decide)]; exact a_1092
  have a_1175 : bk_1152 21 = q_771 := by rw [eb, va_up_ne _ _ (by decide)]; exact a_1093
  have a_1176 : bk_1152 22 = q_841 := by rw [eb, va_up_ne _ _ (by decide)]; exact a_1094
  have a_1177 : bk_1152 23 = q_914 := by rw [eb, va_up_ne _ _ (by decide)]; exact a_1095
  have a_1178 : bk_1152 24 = q_990 := by rw [eb, va_up_ne _ _ (by decide)]; exact a_1096
  have a_1179 : bk_1152 25 = q_1069 := by rw [eb, va_up_ne _ _ (by decide)]; exact a_1097
  have a_1180 : bk_1152 26 = q_1151 := by rw [eb]; exact va_up_self _ _ _
  have h_1181 : cw_1153 0 = .inr (7, [.int (0), .ref (q_1), .ref (q_11), .ref (q_24), .int (0), .ref (q_40), .ref (q_59), .ref (q_81), .ref (q_106), .ref (q_134), .ref (q_165), .ref (q_199), .ref (q_236), .ref (q_276), .ref (q_319), .ref (q_365), .ref (q_414), .ref (q_466), .ref (q_521), .ref (q_579), .ref (q_640), .ref (q_704), .int (0), .ref (q_771), .ref (q_841), .int (0), .int (0), .ref (q_914), .ref (q_990), .ref (q_1069), .int (0), .null, .null]) := by rw [ec, va_up_ne _ _ (by decide)]; exact h_1125
  have h_1182 : cw_1153 1 = .inl (cs 0, 10, .inl (fun _ => 0)) := by rw [ec, va_up_ne _ _ (by decide)]; exact h_1126
  have h_1183 : cw_1153 2 = .inl (cs 0, 10, .inl (fun _ => 0)) := by rw [ec, va_up_ne _ _ (by decide)]; exact h_1127
  have h_1184 : cw_1153 3 = .inl (cs 0, 10, .inl (fun _ => 0)) := by rw [ec, va_up_ne _ _ (by decide)]; exact h_1128
  have h_1185 : cw_1153 4 = .inl (cs 0, 200, .inl (fun _ => 0)) := by rw [ec, va_up_ne _ _ (by decide)]; exact h_1129
  have h_1186 : cw_1153 5 = .inl (cs 0, 200, .inl (fun _ => 0)) := by rw [ec, va_up_ne _ _ (by decide)]; exact h_1130
  have h_1187 : cw_1153 6 = .inl (cs 0, 200, .inl (fun _ => 0)) := by rw [ec, va_up_ne _ _ (by decide)]; exact h_1131
  have h_1188 : cw_1153 7 = .inl (cs 0, 200, .inl (fun _ => 0)) := by rw [ec, va_up_ne _ _ (by decide)]; exact h_1132
  have h_1189 : cw_1153 8 = .inl (cs 0, 200, .inl (fun _ => 0)) := by rw [ec, va_up_ne _ _ (by decide)]; exact h_1133
  have h_1190 : cw_1153 9 = .inl (cs 0, 200, .inl (fun _ => 0)) := by rw [ec, va_up_ne _ _ (by decide)]; exact h_1134
  have h_1191 : cw_1153 10 = .inl (cs 0, 200, .inl (fun _ => 0)) := by rw [ec, va_up_ne _ _ (by decide)]; exact h_1135
  have h_1192 : cw_1153 11 = .inl (cs 0, 200, .inl (fun _ => 0)) := by rw [ec, va_up_ne _ _ (by decide)]; exact h_1136
  have h_1193 : cw_1153 12 = .inl (cs 0, 200, .inl (fun _ => 0)) := by rw [ec, va_up_ne _ _ (by decide)]; exact h_1137
  have h_1194 : cw_1153 13 = .inl (cs 0, 200, .inl (fun _ => 0)) := by rw [ec, va_up_ne _ _ (by decide)]; exact h_1138
  have h_1195 : cw_1153 14 = .inl (cs 0, 200, .inl (fun _ => 0)) := by rw [ec, va_up_ne _ _ (by decide)]; exact h_1139
  have h_1196 : cw_1153 15 = .inl (cs 1, 200, .inl (fun _ => 0)) := by rw [ec, va_up_ne _ _ (by decide)]; exact h_1140
  have h_1197 : cw_1153 16 = .inl (cs 0, 200, .inl (fun _ => 0)) := by rw [ec, va_up_ne _ _ (by decide)]; exact h_1141
  have h_1198 : cw_1153 17 = .inl (cs 0, 1600, .inl (fun _ => 0)) := by rw [ec, va_up_ne _ _ (by decide)]; exact h_1142
  have h_1199 : cw_1153 18 = .inl (cs 0, 1600, .inl (fun _ => 0)) := by rw [ec, va_up_ne _ _ (by decide)]; exact h_1143
  have h_1200 : cw_1153 19 = .inl (cs 0, 200, .inl (fun _ => 0)) := by rw [ec, va_up_ne _ _ (by decide)]; exact h_1144
  have h_1201 : cw_1153 20 = .inl (cs 0, 200, .inl (fun _ => 0)) := by rw [ec, va_up_ne _ _ (by decide)]; exact h_1145
  have h_1202 : cw_1153 21 = .inl (cs 0, 200, .inl (fun _ => 0)) := by rw [ec, va_up_ne _ _ (by decide)]; exact h_1146
  have h_1203 : cw_1153 22 = .inl (cs 0, 200, .inl (fun _ => 0)) := by rw [ec, va_up_ne _ _ (by decide)]; exact h_1147
  have h_1204 : cw_1153 23 = .inl (cs 0, 200, .inl (fun _ => 0)) := by rw [ec, va_up_ne _ _ (by decide)]; exact h_1148
  have h_1205 : cw_1153 24 = .inl (cs 0, 200, .inl (fun _ => 0)) := by rw [ec, va_up_ne _ _ (by decide)]; exact h_1149
  have h_1206 : cw_1153 25 = .inl (cs 0, 200, .inl (fun _ => 0)) := by rw [ec, va_up_ne _ _ (by decide)]; exact h_1150
  have h_1207 : cw_1153 26 = .inl (cs 0, 100, .inl (fun _ => 0)) := by rw [ec]; exact va_up_self _ _ _
  clear eb ec
  clear a_1072 a_1073 a_1074 a_1075 a_1076 a_1077 a_1078 a_1079 a_1080 a_1081 a_1082 a_1083 a_1084 a_1085 a_1086 a_1087 a_1088 a_1089 a_1090 a_1091 a_1092 a_1093 a_1094 a_1095 a_1096 a_1097 h_1125 h_1126 h_1127 h_1128 h_1129 h_1130 h_1131 h_1132 h_1133 h_1134 h_1135 h_1136 h_1137 h_1138 h_1139 h_1140 h_1141 h_1142 h_1143 h_1144 h_1145 h_1146 h_1147 h_1148 h_1149 h_1150
  refine pw_putFA (ci := 7) (v := .ref (q_1151)) (ty := (t_M 31)) (fs' := [.int (0), .ref (q_1), .ref (q_11), .ref (q_24), .int (0), .ref (q_40), .ref (q_59), .ref (q_81), .ref (q_106), .ref (q_134), .ref (q_165), .ref (q_199), .ref (q_236), .ref (q_276), .ref (q_319), .ref (q_365), .ref (q_414), .ref (q_466), .ref (q_521), .ref (q_579), .ref (q_640), .ref (q_704), .int (0), .ref (q_771), .ref (q_841), .int (0), .int (0), .ref (q_914), .ref (q_990), .ref (q_1069), .int (0), .ref (q_1151), .null]) hx hb hw i_M t_M t_M_ok n_M hown hK hP hD hS (0) (by decide) a_1154 h_1181 rfl 31 (by decide) (hw _ kF_M_86) rfl hin rfl (t_M_ok 31 (by decide)) rfl rfl (Nat.le_of_ble_eq_true rfl) rfl d_M_init_231 (fun cw_1208 H locs ecw_1208 hP hD hS => ?_)
  have h_1209 : cw_1208 (0) = .inr (7, [.int (0), .ref (q_1), .ref (q_11), .ref (q_24), .int (0), .ref (q_40), .ref (q_59), .ref (q_81), .ref (q_106), .ref (q_134), .ref (q_165), .ref (q_199), .ref (q_236), .ref (q_276), .ref (q_319), .ref (q_365), .ref (q_414), .ref (q_466), .ref (q_521), .ref (q_579), .ref (q_640), .ref (q_704), .int (0), .ref (q_771), .ref (q_841), .int (0), .int (0), .ref (q_914), .ref (q_990), .ref (q_1069), .int (0), .ref (q_1151), .null]) := by rw [ecw_1208]; exact va_up_self _ _ _
  have h_1210 : cw_1208 (1) = .inl (cs 0, 10, .inl (fun _ => 0)) := by rw [ecw_1208, va_up_ne _ _ (by decide)]; exact h_1182
  have h_1211 : cw_1208 (2) = .inl (cs 0, 10, .inl (fun _ => 0)) := by rw [ecw_1208, va_up_ne _ _ (by decide)]; exact h_1183
  have h_1212 : cw_1208 (3) = .inl (cs 0, 10, .inl (fun _ => 0)) := by rw [ecw_1208, va_up_ne _ _ (by decide)]; exact h_1184
  have h_1213 : cw_1208 (4) = .inl (cs 0, 200, .inl (fun _ => 0)) := by rw [ecw_1208, va_up_ne _ _ (by decide)]; exact h_1185
  have h_1214 : cw_1208 (5) = .inl (cs 0, 200, .inl (fun _ => 0)) := by rw [ecw_1208, va_up_ne _ _ (by decide)]; exact h_1186
  have h_1215 : cw_1208 (6) = .inl (cs 0, 200, .inl (fun _ => 0)) := by rw [ecw_1208, va_up_ne _ _ (by decide)]; exact h_1187
  have h_1216 : cw_1208 (7) = .inl (cs 0, 200, .inl (fun _ => 0)) := by rw [ecw_1208, va_up_ne _ _ (by decide)]; exact h_1188
  have h_1217 : cw_1208 (8) = .inl (cs 0, 200, .inl (fun _ => 0)) := by rw [ecw_1208, va_up_ne _ _ (by decide)]; exact h_1189
  have h_1218 : cw_1208 (9) = .inl (cs 0, 200, .inl (fun _ => 0)) := by rw [ecw_1208, va_up_ne _ _ (by decide)]; exact h_1190
  have h_1219 : cw_1208 (10) = .inl (cs 0, 200, .inl (fun _ => 0)) := by rw [ecw_1208, va_up_ne _ _ (by decide)]; exact h_1191
  have h_1220 : cw_1208 (11) = .inl (cs 0, 200, .inl (fun _ => 0)) := by rw [ecw_1208, va_up_ne _ _ (by decide)]; exact h_1192
  have h_1221 : cw_1208 (12) = .inl (cs 0, 200, .inl (fun _ => 0)) := by rw [ecw_1208, va_up_ne _ _ (by decide)]; exact h_1193
  have h_1222 : cw_1208 (13) = .inl (cs 0, 200, .inl (fun _ => 0)) := by rw [ecw_1208, va_up_ne _ _ (by decide)]; exact h_1194
  have h_1223 : cw_1208 (14) = .inl (cs 0, 200, .inl (fun _ => 0)) := by rw [ecw_1208, va_up_ne _ _ (by decide)]; exact h_1195
  have h_1224 : cw_1208 (15) = .inl (cs 1, 200, .inl (fun _ => 0)) := by rw [ecw_1208, va_up_ne _ _ (by decide)]; exact h_1196
  have h_1225 : cw_1208 (16) = .inl (cs 0, 200, .inl (fun _ => 0)) := by rw [ecw_1208, va_up_ne _ _ (by decide)]; exact h_1197
  have h_1226 : cw_1208 (17) = .inl (cs 0, 1600, .inl (fun _ => 0)) := by rw [ecw_1208, va_up_ne _ _ (by decide)]; exact h_1198
  have h_1227 : cw_1208 (18) = .inl (cs 0, 1600, .inl (fun _ => 0)) := by rw [ecw_1208, va_up_ne _ _ (by decide)]; exact h_1199
  have h_1228 : cw_1208 (19) = .inl (cs 0, 200, .inl (fun _ => 0)) := by rw [ecw_1208, va_up_ne _ _ (by decide)]; exact h_1200
  have h_1229 : cw_1208 (20) = .inl (cs 0, 200, .inl (fun _ => 0)) := by rw [ecw_1208, va_up_ne _ _ (by decide)]; exact h_1201
  have h_1230 : cw_1208 (21) = .inl (cs 0, 200, .inl (fun _ => 0)) := by rw [ecw_1208, va_up_ne _ _ (by decide)]; exact h_1202
  have h_1231 : cw_1208 (22) = .inl (cs 0, 200, .inl (fun _ => 0)) := by rw [ecw_1208, va_up_ne _ _ (by decide)]; exact h_1203
  have h_1232 : cw_1208 (23) = .inl (cs 0, 200, .inl (fun _ => 0)) := by rw [ecw_1208, va_up_ne _ _ (by decide)]; exact h_1204
  have h_1233 : cw_1208 (24) = .inl (cs 0, 200, .inl (fun _ => 0)) := by rw [ecw_1208, va_up_ne _ _ (by decide)]; exact h_1205
  have h_1234 : cw_1208 (25) = .inl (cs 0, 200, .inl (fun _ => 0)) := by rw [ecw_1208, va_up_ne _ _ (by decide)]; exact h_1206
  have h_1235 : cw_1208 (26) = .inl (cs 0, 100, .inl (fun _ => 0)) := by rw [ecw_1208, va_up_ne _ _ (by decide)]; exact h_1207
  clear ecw_1208
  clear h_1181 h_1182 h_1183 h_1184 h_1185 h_1186 h_1187 h_1188 h_1189 h_1190 h_1191 h_1192 h_1193 h_1194 h_1195 h_1196 h_1197 h_1198 h_1199 h_1200 h_1201 h_1202 h_1203 h_1204 h_1205 h_1206 h_1207
  refine lv_aload_n hx hb d_M_init_234 rfl (lv_at hl 0 rfl) ?_
  refine lv_bipush (v := 100) hx hb d_M_init_235 (by decide) ?_
  refine pw_newa (atype := .int) hx hb (hw _ kR_int) rfl hK hP hD hS hA 0 rfl 100 rfl (by decide) (Nat.le_of_ble_eq_true rfl) (Nat.le_of_ble_eq_true rfl) d_M_init_237 (fun q_1236 H hP hD hS => ?_)
  obtain ⟨bk_1237, eb⟩ : ∃ x, x = va_up bk_1152 27 q_1236 := ⟨_, rfl⟩
  obtain ⟨cw_1238, ec⟩ : ∃ x, x = va_up cw_1208 27 (.inl (cs 0, 100, .inl (fun _ => 0))) := ⟨_, rfl⟩
  replace hP : va_P D classes (wl 28 bk_1237 cw_1238) H := by rw [eb, ec]; exact hP
  replace hD : va_D (AA 1 bk sz) (wl 28 bk_1237 cw_1238) := by rw [eb, ec]; exact hD
  have a_1239 : bk_1237 0 = h0 := by rw [eb, va_up_ne _ _ (by decide)]; exact a_1154
  have a_1240 : bk_1237 1 = q_1 := by rw [eb, va_up_ne _ _ (by decide)]; exact a_1155
  have a_1241 : bk_1237 2 = q_11 := by rw [eb, va_up_ne _ _ (by decide)]; exact a_1156
  have a_1242 : bk_1237 3 = q_24 := by rw [eb, va_up_ne _ _ (by decide)]; exact a_1157
  have a_1243 : bk_1237 4 = q_40 := by rw [eb, va_up_ne _ _ (by decide)]; exact a_1158
  have a_1244 : bk_1237 5 = q_59 := by rw [eb, va_up_ne _ _ (by decide)]; exact a_1159
  have a_1245 : bk_1237 6 = q_81 := by rw [eb, va_up_ne _ _ (by decide)]; exact a_1160
  have a_1246 : bk_1237 7 = q_106 := by rw [eb, va_up_ne _ _ (by decide)]; exact a_1161
  have a_1247 : bk_1237 8 = q_134 := by rw [eb, va_up_ne _ _ (by decide)]; exact a_1162
  have a_1248 : bk_1237 9 = q_165 := by rw [eb, va_up_ne _ _ (by decide)]; exact a_1163
  have a_1249 : bk_1237 10 = q_199 := by rw [eb, va_up_ne _ _ (by decide)]; exact a_1164
  have a_1250 : bk_1237 11 = q_236 := by rw [eb, va_up_ne _ _ (by decide)]; exact a_1165
  have a_1251 : bk_1237 12 = q_276 := by rw [eb, va_up_ne _ _ (by decide)]; exact a_1166
  have a_1252 : bk_1237 13 = q_319 := by rw [eb, va_up_ne _ _ (by decide)]; exact a_1167
  have a_1253 : bk_1237 14 = q_365 := by rw [eb, va_up_ne _ _ (by decide)]; exact a_1168
  have a_1254 : bk_1237 15 = q_414 := by rw [eb, va_up_ne _ _ (by decide)]; exact a_1169
  have a_1255 : bk_1237 16 = q_466 := by rw [eb, va_up_ne _ _ (by decide)]; exact a_1170
  have a_1256 : bk_1237 17 = q_521 := by rw [eb, va_up_ne _ _ (by decide)]; exact a_1171
  have a_1257 : bk_1237 18 = q_579 := by rw [eb, va_up_ne _ _ (by decide)]; exact a_1172
  have a_1258 : bk_1237 19 = q_640 := by rw [eb, va_up_ne _ _ (by decide)]; exact a_1173
  have a_1259 : bk_1237 20 = q_704 := by rw [eb, va_up_ne _ _ (by decide)]; exact a_1174
  have a_1260 : bk_1237 21 = q_771 := by rw [eb, va_up_ne _ _ (by decide)]; exact a_1175
  have a_1261 : bk_1237 22 = q_841 := by rw [eb, va_up_ne _ _ (by decide)]; exact a_1176
  have a_1262 : bk_1237 23 = q_914 := by rw [eb, va_up_ne _ _ (by decide)]; exact a_1177
  have a_1263 : bk_1237 24 = q_990 := by rw [eb, va_up_ne _ _ (by decide)]; exact a_1178
  have a_1264 : bk_1237 25 = q_1069 := by rw [eb, va_up_ne _ _ (by decide)]; exact a_1179
  have a_1265 : bk_1237 26 = q_1151 := by rw [eb, va_up_ne _ _ (by decide)]; exact a_1180
  have a_1266 : bk_1237 27 = q_1236 := by rw [eb]; exact va_up_self _ _ _
  have h_1267 : cw_1238 0 = .inr (7, [.int (0), .ref (q_1), .ref (q_11), .ref (q_24), .int (0), .ref (q_40), .ref (q_59), .ref (q_81), .ref (q_106), .ref (q_134), .ref (q_165), .ref (q_199), .ref (q_236), .ref (q_276), .ref (q_319), .ref (q_365), .ref (q_414), .ref (q_466), .ref (q_521), .ref (q_579), .ref (q_640), .ref (q_704), .int (0), .ref (q_771), .ref (q_841), .int (0), .int (0), .ref (q_914), .ref (q_990), .ref (q_1069), .int (0), .ref (q_1151), .null]) := by rw [ec, va_up_ne _ _ (by decide)]; exact h_1209
  have h_1268 : cw_1238 1 = .inl (cs 0, 10, .inl (fun _ => 0)) := by rw [ec, va_up_ne _ _ (by decide)]; exact h_1210
  have h_1269 : cw_1238 2 = .inl (cs 0, 10, .inl (fun _ => 0)) := by rw [ec, va_up_ne _ _ (by decide)]; exact h_1211
  have h_1270 : cw_1238 3 = .inl (cs 0, 10, .inl (fun _ => 0)) := by rw [ec, va_up_ne _ _ (by decide)]; exact h_1212
  have h_1271 : cw_1238 4 = .inl (cs 0, 200, .inl (fun _ => 0)) := by rw [ec, va_up_ne _ _ (by decide)]; exact h_1213
  have h_1272 : cw_1238 5 = .inl (cs 0, 200, .inl (fun _ => 0)) := by rw [ec, va_up_ne _ _ (by decide)]; exact h_1214
  have h_1273 : cw_1238 6 = .inl (cs 0, 200, .inl (fun _ => 0)) := by rw [ec, va_up_ne _ _ (by decide)]; exact h_1215
  have h_1274 : cw_1238 7 = .inl (cs 0, 200, .inl (fun _ => 0)) := by rw [ec, va_up_ne _ _ (by decide)]; exact h_1216
  have h_1275 : cw_1238 8 = .inl (cs 0, 200, .inl (fun _ => 0)) := by rw [ec, va_up_ne _ _ (by decide)]; exact h_1217
  have h_1276 : cw_1238 9 = .inl (cs 0, 200, .inl (fun _ => 0)) := by rw [ec, va_up_ne _ _ (by decide)]; exact h_1218
  have h_1277 : cw_1238 10 = .inl (cs 0, 200, .inl (fun _ => 0)) := by rw [ec, va_up_ne _ _ (by decide)]; exact h_1219
  have h_1278 : cw_1238 11 = .inl (cs 0, 200, .inl (fun _ => 0)) := by rw [ec, va_up_ne _ _ (by decide)]; exact h_1220
  have h_1279 : cw_1238 12 = .inl (cs 0, 200, .inl (fun _ => 0)) := by rw [ec, va_up_ne _ _ (by decide)]; exact h_1221
  have h_1280 : cw_1238 13 = .inl (cs 0, 200, .inl (fun _ => 0)) := by rw [ec, va_up_ne _ _ (by decide)]; exact h_1222
  have h_1281 : cw_1238 14 = .inl (cs 0, 200, .inl (fun _ => 0)) := by rw [ec, va_up_ne _ _ (by decide)]; exact h_1223
  have h_1282 : cw_1238 15 = .inl (cs 1, 200, .inl (fun _ => 0)) := by rw [ec, va_up_ne _ _ (by decide)]; exact h_1224
  have h_1283 : cw_1238 16 = .inl (cs 0, 200, .inl (fun _ => 0)) := by rw [ec, va_up_ne _ _ (by decide)]; exact h_1225
  have h_1284 : cw_1238 17 = .inl (cs 0, 1600, .inl (fun _ => 0)) := by rw [ec, va_up_ne _ _ (by decide)]; exact h_1226
  have h_1285 : cw_1238 18 = .inl (cs 0, 1600, .inl (fun _ => 0)) := by rw [ec, va_up_ne _ _ (by decide)]; exact h_1227
  have h_1286 : cw_1238 19 = .inl (cs 0, 200, .inl (fun _ => 0)) := by rw [ec, va_up_ne _ _ (by decide)]; exact h_1228
  have h_1287 : cw_1238 20 = .inl (cs 0, 200, .inl (fun _ => 0)) := by rw [ec, va_up_ne _ _ (by decide)]; exact h_1229
  have h_1288 : cw_1238 21 = .inl (cs 0, 200, .inl (fun _ => 0)) := by rw [ec, va_up_ne _ _ (by decide)]; exact h_1230
  have h_1289 : cw_1238 22 = .inl (cs 0, 200, .inl (fun _ => 0)) := by rw [ec, va_up_ne _ _ (by decide)]; exact h_1231
  have h_1290 : cw_1238 23 = .inl (cs 0, 200, .inl (fun _ => 0)) := by rw [ec, va_up_ne _ _ (by decide)]; exact h_1232
  have h_1291 : cw_1238 24 = .inl (cs 0, 200, .inl (fun _ => 0)) := by rw [ec, va_up_ne _ _ (by decide)]; exact h_1233
  have h_1292 : cw_1238 25 = .inl (cs 0, 200, .inl (fun _ => 0)) := by rw [ec, va_up_ne _ _ (by decide)]; exact h_1234
  have h_1293 : cw_1238 26 = .inl (cs 0, 100, .inl (fun _ => 0)) := by rw [ec, va_up_ne _ _ (by decide)]; exact h_1235
  have h_1294 : cw_1238 27 = .inl (cs 0, 100, .inl (fun _ => 0)) := by rw [ec]; exact va_up_self _ _ _
  clear eb ec
  clear a_1154 a_1155 a_1156 a_1157 a_1158 a_1159 a_1160 a_1161 a_1162 a_1163 a_1164 a_1165 a_1166 a_1167 a_1168 a_1169 a_1170 a_1171 a_1172 a_1173 a_1174 a_1175 a_1176 a_1177 a_1178 a_1179 a_1180 h_1209 h_1210 h_1211 h_1212 h_1213 h_1214 h_1215 h_1216 h_1217 h_1218 h_1219 h_1220 h_1221 h_1222 h_1223 h_1224 h_1225 h_1226 h_1227 h_1228 h_1229 h_1230 h_1231 h_1232 h_1233 h_1234 h_1235
  refine pw_putFA (ci := 7) (v := .ref (q_1236)) (ty := (t_M 32)) (fs' := [.int (0), .ref (q_1), .ref (q_11), .ref (q_24), .int (0), .ref (q_40), .ref (q_59), .ref (q_81), .ref (q_106), .ref (q_134), .ref (q_165), .ref (q_199), .ref (q_236), .ref (q_276), .ref (q_319), .ref (q_365), .ref (q_414), .ref (q_466), .ref (q_521), .ref (q_579), .ref (q_640), .ref (q_704), .int (0), .ref (q_771), .ref (q_841), .int (0), .int (0), .ref (q_914), .ref (q_990), .ref (q_1069), .int (0), .ref (q_1151), .ref (q_1236)]) hx hb hw i_M t_M t_M_ok n_M hown hK hP hD hS (0) (by decide) a_1239 h_1267 rfl 32 (by decide) (hw _ kF_M_89) rfl hin rfl (t_M_ok 32 (by decide)) rfl rfl (Nat.le_of_ble_eq_true rfl) rfl d_M_init_239 (fun cw_1295 H locs ecw_1295 hP hD hS => ?_)
  have h_1296 : cw_1295 (0) = .inr (7, [.int (0), .ref (q_1), .ref (q_11), .ref (q_24), .int (0), .ref (q_40), .ref (q_59), .ref (q_81), .ref (q_106), .ref (q_134), .ref (q_165), .ref (q_199), .ref (q_236), .ref (q_276), .ref (q_319), .ref (q_365), .ref (q_414), .ref (q_466), .ref (q_521), .ref (q_579), .ref (q_640), .ref (q_704), .int (0), .ref (q_771), .ref (q_841), .int (0), .int (0), .ref (q_914), .ref (q_990), .ref (q_1069), .int (0), .ref (q_1151), .ref (q_1236)]) := by rw [ecw_1295]; exact va_up_self _ _ _
  have h_1297 : cw_1295 (1) = .inl (cs 0, 10, .inl (fun _ => 0)) := by rw [ecw_1295, va_up_ne _ _ (by decide)]; exact h_1268
  have h_1298 : cw_1295 (2) = .inl (cs 0, 10, .inl (fun _ => 0)) := by rw [ecw_1295, va_up_ne _ _ (by decide)]; exact h_1269
  have h_1299 : cw_1295 (3) = .inl (cs 0, 10, .inl (fun _ => 0)) := by rw [ecw_1295, va_up_ne _ _ (by decide)]; exact h_1270
  have h_1300 : cw_1295 (4) = .inl (cs 0, 200, .inl (fun _ => 0)) := by rw [ecw_1295, va_up_ne _ _ (by decide)]; exact h_1271
  have h_1301 : cw_1295 (5) = .inl (cs 0, 200, .inl (fun _ => 0)) := by rw [ecw_1295, va_up_ne _ _ (by decide)]; exact h_1272
  have h_1302 : cw_1295 (6) = .inl (cs 0, 200, .inl (fun _ => 0)) := by rw [ecw_1295, va_up_ne _ _ (by decide)]; exact h_1273
  have h_1303 : cw_1295 (7) = .inl (cs 0, 200, .inl (fun _ => 0)) := by rw [ecw_1295, va_up_ne _ _ (by decide)]; exact h_1274
  have h_1304 : cw_1295 (8) = .inl (cs 0, 200, .inl (fun _ => 0)) := by rw [ecw_1295, va_up_ne _ _ (by decide)]; exact h_1275
  have h_1305 : cw_1295 (9) = .inl (cs 0, 200, .inl (fun _ => 0)) := by rw [ecw_1295, va_up_ne _ _ (by decide)]; exact h_1276
  have h_1306 : cw_1295 (10) = .inl (cs 0, 200, .inl (fun _ => 0)) := by rw [ecw_1295, va_up_ne _ _ (by decide)]; exact h_1277
  have h_1307 : cw_1295 (11) = .inl (cs 0, 200, .inl (fun _ => 0)) := by rw [ecw_1295, va_up_ne _ _ (by decide)]; exact h_1278
  have h_1308 : cw_1295 (12) = .inl (cs 0, 200, .inl (fun _ => 0)) := by rw [ecw_1295, va_up_ne _ _ (by decide)]; exact h_1279
  have h_1309 : cw_1295 (13) = .inl (cs 0, 200, .inl (fun _ => 0)) := by rw [ecw_1295, va_up_ne _ _ (by decide)]; exact h_1280
  have h_1310 : cw_1295 (14) = .inl (cs 0, 200, .inl (fun _ => 0)) := by rw [ecw_1295, va_up_ne _ _ (by decide)]; exact h_1281
  have h_1311 : cw_1295 (15) = .inl (cs 1, 200, .inl (fun _ => 0)) := by rw [ecw_1295, va_up_ne _ _ (by decide)]; exact h_1282
  have h_1312 : cw_1295 (16) = .inl (cs 0, 200, .inl (fun _ => 0)) := by rw [ecw_1295, va_up_ne _ _ (by decide)]; exact h_1283
  have h_1313 : cw_1295 (17) = .inl (cs 0, 1600, .inl (fun _ => 0)) := by rw [ecw_1295, va_up_ne _ _ (by decide)]; exact h_1284
  have h_1314 : cw_1295 (18) = .inl (cs 0, 1600, .inl (fun _ => 0)) := by rw [ecw_1295, va_up_ne _ _ (by decide)]; exact h_1285
  have h_1315 : cw_1295 (19) = .inl (cs 0, 200, .inl (fun _ => 0)) := by rw [ecw_1295, va_up_ne _ _ (by decide)]; exact h_1286
  have h_1316 : cw_1295 (20) = .inl (cs 0, 200, .inl (fun _ => 0)) := by rw [ecw_1295, va_up_ne _ _ (by decide)]; exact h_1287
  have h_1317 : cw_1295 (21) = .inl (cs 0, 200, .inl (fun _ => 0)) := by rw [ecw_1295, va_up_ne _ _ (by decide)]; exact h_1288
  have h_1318 : cw_1295 (22) = .inl (cs 0, 200, .inl (fun _ => 0)) := by rw [ecw_1295, va_up_ne _ _ (by decide)]; exact h_1289
  have h_1319 : cw_1295 (23) = .inl (cs 0, 200, .inl (fun _ => 0)) := by rw [ecw_1295, va_up_ne _ _ (by decide)]; exact h_1290
  have h_1320 : cw_1295 (24) = .inl (cs 0, 200, .inl (fun _ => 0)) := by rw [ecw_1295, va_up_ne _ _ (by decide)]; exact h_1291
  have h_1321 : cw_1295 (25) = .inl (cs 0, 200, .inl (fun _ => 0)) := by rw [ecw_1295, va_up_ne _ _ (by decide)]; exact h_1292
  have h_1322 : cw_1295 (26) = .inl (cs 0, 100, .inl (fun _ => 0)) := by rw [ecw_1295, va_up_ne _ _ (by decide)]; exact h_1293
  have h_1323 : cw_1295 (27) = .inl (cs 0, 100, .inl (fun _ => 0)) := by rw [ecw_1295, va_up_ne _ _ (by decide)]; exact h_1294
  clear ecw_1295
  clear h_1267 h_1268 h_1269 h_1270 h_1271 h_1272 h_1273 h_1274 h_1275 h_1276 h_1277 h_1278 h_1279 h_1280 h_1281 h_1282 h_1283 h_1284 h_1285 h_1286 h_1287 h_1288 h_1289 h_1290 h_1291 h_1292 h_1293 h_1294
  refine lv_iconst (v := 0) hx hb d_M_init_242 (by decide) ?_
  refine lv_istore_n (lv' := [(1, .int (0)), (0, .ref (h0))]) hx hb d_M_init_243 rfl hl (by decide) rfl (fun ls hl => ?_)
  refine lv_iload_n hx hb d_M_init_244 rfl (lv_at hl 0 rfl) ?_
  refine lv_bipush (v := 10) hx hb d_M_init_245 (by decide) ?_
  refine lv_icmp_ge (tgt := 279) hx hb d_M_init_247 (by decide) (fun c_1324 => ?_) (fun c_1324 => ?_)
  · exact absurd c_1324 (by decide)
  · skip
    refine lv_aload_n hx hb d_M_init_250 rfl (lv_at hl 1 rfl) ?_
    refine pw_getA (ci := 7) (v := .ref (q_1)) hx hb hw i_M hown hK hP (0) (by decide) a_1239 h_1296 rfl 1 (by decide) (hw _ kF_M_7) rfl d_M_init_251 ?_
    refine lv_iload_n hx hb d_M_init_254 rfl (lv_at hl 0 rfl) ?_
    refine lv_bipush (v := 30) hx hb d_M_init_255 (by decide) ?_
    refine pw_iastA (n := 10) (f := (fun _ => 0)) hx hb hK hP hD hS 0 (1) (by decide) a_1240 h_1297 rfl (0) rfl (by decide) (by decide) d_M_init_257 (fun cw_1325 H locs ecw_1325 hP hD hS => ?_)
    have h_1326 : cw_1325 (0) = .inr (7, [.int (0), .ref (q_1), .ref (q_11), .ref (q_24), .int (0), .ref (q_40), .ref (q_59), .ref (q_81), .ref (q_106), .ref (q_134), .ref (q_165), .ref (q_199), .ref (q_236), .ref (q_276), .ref (q_319), .ref (q_365), .ref (q_414), .ref (q_466), .ref (q_521), .ref (q_579), .ref (q_640), .ref (q_704), .int (0), .ref (q_771), .ref (q_841), .int (0), .int (0), .ref (q_914), .ref (q_990), .ref (q_1069), .int (0), .ref (q_1151), .ref (q_1236)]) := by rw [ecw_1325, va_up_ne _ _ (by decide)]; exact h_1296
    have h_1327 : cw_1325 (1) = .inl (cs 0, 10, .inl (upd (fun _ => 0) (0) (30))) := by rw [ecw_1325]; exact va_up_self _ _ _
    have h_1328 : cw_1325 (2) = .inl (cs 0, 10, .inl (fun _ => 0)) := by rw [ecw_1325, va_up_ne _ _ (by decide)]; exact h_1298
    have h_1329 : cw_1325 (3) = .inl (cs 0, 10, .inl (fun _ => 0)) := by rw [ecw_1325, va_up_ne _ _ (by decide)]; exact h_1299
    have h_1330 : cw_1325 (4) = .inl (cs 0, 200, .inl (fun _ => 0)) := by rw [ecw_1325, va_up_ne _ _ (by decide)]; exact h_1300
    have h_1331 : cw_1325 (5) = .inl (cs 0, 200, .inl (fun _ => 0)) := by rw [ecw_1325, va_up_ne _ _ (by decide)]; exact h_1301
    have h_1332 : cw_1325 (6) = .inl (cs 0, 200, .inl (fun _ => 0)) := by rw [ecw_1325, va_up_ne _ _ (by decide)]; exact h_1302
    have h_1333 : cw_1325 (7) = .inl (cs 0, 200, .inl (fun _ => 0)) := by rw [ecw_1325, va_up_ne _ _ (by decide)]; exact h_1303
    have h_1334 : cw_1325 (8) = .inl (cs 0, 200, .inl (fun _ => 0)) := by rw [ecw_1325, va_up_ne _ _ (by decide)]; exact h_1304
    have h_1335 : cw_1325 (9) = .inl (cs 0, 200, .inl (fun _ => 0)) := by rw [ecw_1325, va_up_ne _ _ (by decide)]; exact h_1305
    have h_1336 : cw_1325 (10) = .inl (cs 0, 200, .inl (fun _ => 0)) := by rw [ecw_1325, va_up_ne _ _ (by decide)]; exact h_1306
    have h_1337 : cw_1325 (11) = .inl (cs 0, 200, .inl (fun _ => 0)) := by rw [ecw_1325, va_up_ne _ _ (by decide)]; exact h_1307
    have h_1338 : cw_1325 (12) = .inl (cs 0, 200, .inl (fun _ => 0)) := by rw [ecw_1325, va_up_ne _ _ (by decide)]; exact h_1308
    have h_1339 : cw_1325 (13) = .inl (cs 0, 200, .inl (fun _ => 0)) := by rw [ecw_1325, va_up_ne _ _ (by decide)]; exact h_1309
    have h_1340 : cw_1325 (14) = .inl (cs 0, 200, .inl (fun _ => 0)) := by rw [ecw_1325, va_up_ne _ _ (by decide)]; exact h_1310
    have h_1341 : cw_1325 (15) = .inl (cs 1, 200, .inl (fun _ => 0)) := by rw [ecw_1325, va_up_ne _ _ (by decide)]; exact h_1311
    have h_1342 : cw_1325 (16) = .inl (cs 0, 200, .inl (fun _ => 0)) := by rw [ecw_1325, va_up_ne _ _ (by decide)]; exact h_1312
    have h_1343 : cw_1325 (17) = .inl (cs 0, 1600, .inl (fun _ => 0)) := by rw [ecw_1325, va_up_ne _ _ (by decide)]; exact h_1313
    have h_1344 : cw_1325 (18) = .inl (cs 0, 1600, .inl (fun _ => 0)) := by rw [ecw_1325, va_up_ne _ _ (by decide)]; exact h_1314
    have h_1345 : cw_1325 (19) = .inl (cs 0, 200, .inl (fun _ => 0)) := by rw [ecw_1325, va_up_ne _ _ (by decide)]; exact h_1315
    have h_1346 : cw_1325 (20) = .inl (cs 0, 200, .inl (fun _ => 0)) := by rw [ecw_1325, va_up_ne _ _ (by decide)]; exact h_1316
    have h_1347 : cw_1325 (21) = .inl (cs 0, 200, .inl (fun _ => 0)) := by rw [ecw_1325, va_up_ne _ _ (by decide)]; exact h_1317
    have h_1348 : cw_1325 (22) = .inl (cs 0, 200, .inl (fun _ => 0)) := by rw [ecw_1325, va_up_ne _ _ (by decide)]; exact h_1318
    have h_1349 : cw_1325 (23) = .inl (cs 0, 200, .inl (fun _ => 0)) := by rw [ecw_1325, va_up_ne _ _ (by decide)]; exact h_1319
    have h_1350 : cw_1325 (24) = .inl (cs 0, 200, .inl (fun _ => 0)) := by rw [ecw_1325, va_up_ne _ _ (by decide)]; exact h_1320
    have h_1351 : cw_1325 (25) = .inl (cs 0, 200, .inl (fun _ => 0)) := by rw [ecw_1325, va_up_ne _ _ (by decide)]; exact h_1321
    have h_1352 : cw_1325 (26) = .inl (cs 0, 100, .inl (fun _ => 0)) := by rw [ecw_1325, va_up_ne _ _ (by decide)]; exact h_1322
    have h_1353 : cw_1325 (27) = .inl (cs 0, 100, .inl (fun _ => 0)) := by rw [ecw_1325, va_up_ne _ _ (by decide)]; exact h_1323
    clear ecw_1325
    clear h_1296 h_1297 h_1298 h_1299 h_1300 h_1301 h_1302 h_1303 h_1304 h_1305 h_1306 h_1307 h_1308 h_1309 h_1310 h_1311 h_1312 h_1313 h_1314 h_1315 h_1316 h_1317 h_1318 h_1319 h_1320 h_1321 h_1322 h_1323
    refine lv_aload_n hx hb d_M_init_258 rfl (lv_at hl 1 rfl) ?_
    refine pw_getA (ci := 7) (v := .ref (q_11)) hx hb hw i_M hown hK hP (0) (by decide) a_1239 h_1326 rfl 2 (by decide) (hw _ kF_M_13) rfl d_M_init_259 ?_
    refine lv_iload_n hx hb d_M_init_262 rfl (lv_at hl 0 rfl) ?_
    refine lv_bipush (v := 20) hx hb d_M_init_263 (by decide) ?_
    refine pw_iastA (n := 10) (f := (fun _ => 0)) hx hb hK hP hD hS 0 (2) (by decide) a_1241 h_1328 rfl (0) rfl (by decide) (by decide) d_M_init_265 (fun cw_1354 H locs ecw_1354 hP hD hS => ?_)
    have h_1355 : cw_1354 (0) = .inr (7, [.int (0), .ref (q_1), .ref (q_11), .ref (q_24), .int (0), .ref (q_40), .ref (q_59), .ref (q_81), .ref (q_106), .ref (q_134), .ref (q_165), .ref (q_199), .ref (q_236), .ref (q_276), .ref (q_319), .ref (q_365), .ref (q_414), .ref (q_466), .ref (q_521), .ref (q_579), .ref (q_640), .ref (q_704), .int (0), .ref (q_771), .ref (q_841), .int (0), .int (0), .ref (q_914), .ref (q_990), .ref (q_1069), .int (0), .ref (q_1151), .ref (q_1236)]) := by rw [ecw_1354, va_up_ne _ _ (by decide)]; exact h_1326
    have h_1356 : cw_1354 (1) = .inl (cs 0, 10, .inl (upd (fun _ => 0) (0) (30))) := by rw [ecw_1354, va_up_ne _ _ (by decide)]; exact h_1327
    have h_1357 : cw_1354 (2) = .inl (cs 0, 10, .inl (upd (fun _ => 0) (0) (20))) := by rw [ecw_1354]; exact va_up_self _ _ _
    have h_1358 : cw_1354 (3) = .inl (cs 0, 10, .inl (fun _ => 0)) := by rw [ecw_1354, va_up_ne _ _ (by decide)]; exact h_1329
    have h_1359 : cw_1354 (4) = .inl (cs 0, 200, .inl (fun _ => 0)) := by rw [ecw_1354, va_up_ne _ _ (by decide)]; exact h_1330
    have h_1360 : cw_1354 (5) = .inl (cs 0, 200, .inl (fun _ => 0)) := by rw [ecw_1354, va_up_ne _ _ (by decide)]; exact h_1331
    have h_1361 : cw_1354 (6) = .inl (cs 0, 200, .inl (fun _ => 0)) := by rw [ecw_1354, va_up_ne _ _ (by decide)]; exact h_1332
    have h_1362 : cw_1354 (7) = .inl (cs 0, 200, .inl (fun _ => 0)) := by rw [ecw_1354, va_up_ne _ _ (by decide)]; exact h_1333
    have h_1363 : cw_1354 (8) = .inl (cs 0, 200, .inl (fun _ => 0)) := by rw [ecw_1354, va_up_ne _ _ (by decide)]; exact h_1334
    have h_1364 : cw_1354 (9) = .inl (cs 0, 200, .inl (fun _ => 0)) := by rw [ecw_1354, va_up_ne _ _ (by decide)]; exact h_1335
    have h_1365 : cw_1354 (10) = .inl (cs 0, 200, .inl (fun _ => 0)) := by rw [ecw_1354, va_up_ne _ _ (by decide)]; exact h_1336
    have h_1366 : cw_1354 (11) = .inl (cs 0, 200, .inl (fun _ => 0)) := by rw [ecw_1354, va_up_ne _ _ (by decide)]; exact h_1337
    have h_1367 : cw_1354 (12) = .inl (cs 0, 200, .inl (fun _ => 0)) := by rw [ecw_1354, va_up_ne _ _ (by decide)]; exact h_1338
    have h_1368 : cw_1354 (13) = .inl (cs 0, 200, .inl (fun _ => 0)) := by rw [ecw_1354, va_up_ne _ _ (by decide)]; exact h_1339
    have h_1369 : cw_1354 (14) = .inl (cs 0, 200, .inl (fun _ => 0)) := by rw [ecw_1354, va_up_ne _ _ (by decide)]; exact h_1340
    have h_1370 : cw_1354 (15) = .inl (cs 1, 200, .inl (fun _ => 0)) := by rw [ecw_1354, va_up_ne _ _ (by decide)]; exact h_1341
    have h_1371 : cw_1354 (16) = .inl (cs 0, 200, .inl (fun _ => 0)) := by rw [ecw_1354, va_up_ne _ _ (by decide)]; exact h_1342
    have h_1372 : cw_1354 (17) = .inl (cs 0, 1600, .inl (fun _ => 0)) := by rw [ecw_1354, va_up_ne _ _ (by decide)]; exact h_1343
    have h_1373 : cw_1354 (18) = .inl (cs 0, 1600, .inl (fun _ => 0)) := by rw [ecw_1354, va_up_ne _ _ (by decide)]; exact h_1344
    have h_1374 : cw_1354 (19) = .inl (cs 0, 200, .inl (fun _ => 0)) := by rw [ecw_1354, va_up_ne _ _ (by decide)]; exact h_1345
    have h_1375 : cw_1354 (20) = .inl (cs 0, 200, .inl (fun _ => 0)) := by rw [ecw_1354, va_up_ne _ _ (by decide)]; exact h_1346
    have h_1376 : cw_1354 (21) = .inl (cs 0, 200, .inl (fun _ => 0)) := by rw [ecw_1354, va_up_ne _ _ (by decide)]; exact h_1347
    have h_1377 : cw_1354 (22) = .inl (cs 0, 200, .inl (fun _ => 0)) := by rw [ecw_1354, va_up_ne _ _ (by decide)]; exact h_1348
    have h_1378 : cw_1354 (23) = .inl (cs 0, 200, .inl (fun _ => 0)) := by rw [ecw_1354, va_up_ne _ _ (by decide)]; exact h_1349
    have h_1379 : cw_1354 (24) = .inl (cs 0, 200, .inl (fun _ => 0)) := by rw [ecw_1354, va_up_ne _ _ (by decide)]; exact h_1350
    have h_1380 : cw_1354 (25) = .inl (cs 0, 200, .inl (fun _ => 0)) := by rw [ecw_1354, va_up_ne _ _ (by decide)]; exact h_1351
    have h_1381 : cw_1354 (26) = .inl (cs 0, 100, .inl (fun _ => 0)) := by rw [ecw_1354, va_up_ne _ _ (by decide)]; exact h_1352
    have h_1382 : cw_1354 (27) = .inl (cs 0, 100, .inl (fun _ => 0)) := by rw [ecw_1354, va_up_ne _ _ (by decide)]; exact h_1353
    clear ecw_1354
    clear h_1326 h_1327 h_1328 h_1329 h_1330 h_1331 h_1332 h_1333 h_1334 h_1335 h_1336 h_1337 h_1338 h_1339 h_1340 h_1341 h_1342 h_1343 h_1344 h_1345 h_1346 h_1347 h_1348 h_1349 h_1350 h_1351 h_1352 h_1353
    refine lv_aload_n hx hb d_M_init_266 rfl (lv_at hl 1 rfl) ?_
    refine pw_getA (ci := 7) (v := .ref (q_24)) hx hb hw i_M hown hK hP (0) (by decide) a_1239 h_1355 rfl 3 (by decide) (hw _ kF_M_16) rfl d_M_init_267 ?_
    refine lv_iload_n hx hb d_M_init_270 rfl (lv_at hl 0 rfl) ?_
    refine lv_iconst (v := 3) hx hb d_M_init_271 (by decide) ?_
    refine pw_iastA (n := 10) (f := (fun _ => 0)) hx hb hK hP hD hS 0 (3) (by decide) a_1242 h_1358 rfl (0) rfl (by decide) (by decide) d_M_init_272 (fun cw_1383 H locs ecw_1383 hP hD hS => ?_)
    have h_1384 : cw_1383 (0) = .inr (7, [.int (0), .ref (q_1), .ref (q_11), .ref (q_24), .int (0), .ref (q_40), .ref (q_59), .ref (q_81), .ref (q_106), .ref (q_134), .ref (q_165), .ref (q_199), .ref (q_236), .ref (q_276), .ref (q_319), .ref (q_365), .ref (q_414), .ref (q_466), .ref (q_521), .ref (q_579), .ref (q_640), .ref (q_704), .int (0), .ref (q_771), .ref (q_841), .int (0), .int (0), .ref (q_914), .ref (q_990), .ref (q_1069), .int (0), .ref (q_1151), .ref (q_1236)]) := by rw [ecw_1383, va_up_ne _ _ (by decide)]; exact h_1355
    have h_1385 : cw_1383 (1) = .inl (cs 0, 10, .inl (upd (fun _ => 0) (0) (30))) := by rw [ecw_1383, va_up_ne _ _ (by decide)]; exact h_1356
    have h_1386 : cw_1383 (2) = .inl (cs 0, 10, .inl (upd (fun _ => 0) (0) (20))) := by rw [ecw_1383, va_up_ne _ _ (by decide)]; exact h_1357
    have h_1387 : cw_1383 (3) = .inl (cs 0, 10, .inl (upd (fun _ => 0) (0) (3))) := by rw [ecw_1383]; exact va_up_self _ _ _
    have h_1388 : cw_1383 (4) = .inl (cs 0, 200, .inl (fun _ => 0)) := by rw [ecw_1383, va_up_ne _ _ (by decide)]; exact h_1359
    have h_1389 : cw_1383 (5) = .inl (cs 0, 200, .inl (fun _ => 0)) := by rw [ecw_1383, va_up_ne _ _ (by decide)]; exact h_1360
    have h_1390 : cw_1383 (6) = .inl (cs 0, 200, .inl (fun _ => 0)) := by rw [ecw_1383, va_up_ne _ _ (by decide)]; exact h_1361
    have h_1391 : cw_1383 (7) = .inl (cs 0, 200, .inl (fun _ => 0)) := by rw [ecw_1383, va_up_ne _ _ (by decide)]; exact h_1362
    have h_1392 : cw_1383 (8) = .inl (cs 0, 200, .inl (fun _ => 0)) := by rw [ecw_1383, va_up_ne _ _ (by decide)]; exact h_1363
    have h_1393 : cw_1383 (9) = .inl (cs 0, 200, .inl (fun _ => 0)) := by rw [ecw_1383, va_up_ne _ _ (by decide)]; exact h_1364
    have h_1394 : cw_1383 (10) = .inl (cs 0, 200, .inl (fun _ => 0)) := by rw [ecw_1383, va_up_ne _ _ (by decide)]; exact h_1365
    have h_1395 : cw_1383 (11) = .inl (cs 0, 200, .inl (fun _ => 0)) := by rw [ecw_1383, va_up_ne _ _ (by decide)]; exact h_1366
    have h_1396 : cw_1383 (12) = .inl (cs 0, 200, .inl (fun _ => 0)) := by rw [ecw_1383, va_up_ne _ _ (by decide)]; exact h_1367
    have h_1397 : cw_1383 (13) = .inl (cs 0, 200, .inl (fun _ => 0)) := by rw [ecw_1383, va_up_ne _ _ (by decide)]; exact h_1368
    have h_1398 : cw_1383 (14) = .inl (cs 0, 200, .inl (fun _ => 0)) := by rw [ecw_1383, va_up_ne _ _ (by decide)]; exact h_1369
    have h_1399 : cw_1383 (15) = .inl (cs 1, 200, .inl (fun _ => 0)) := by rw [ecw_1383, va_up_ne _ _ (by decide)]; exact h_1370
    have h_1400 : cw_1383 (16) = .inl (cs 0, 200, .inl (fun _ => 0)) := by rw [ecw_1383, va_up_ne _ _ (by decide)]; exact h_1371
    have h_1401 : cw_1383 (17) = .inl (cs 0, 1600, .inl (fun _ => 0)) := by rw [ecw_1383, va_up_ne _ _ (by decide)]; exact h_1372
    have h_1402 : cw_1383 (18) = .inl (cs 0, 1600, .inl (fun _ => 0)) := by rw [ecw_1383, va_up_ne _ _ (by decide)]; exact h_1373
    have h_1403 : cw_1383 (19) = .inl (cs 0, 200, .inl (fun _ => 0)) := by rw [ecw_1383, va_up_ne _ _ (by decide)]; exact h_1374
    have h_1404 : cw_1383 (20) = .inl (cs 0, 200, .inl (fun _ => 0)) := by rw [ecw_1383, va_up_ne _ _ (by decide)]; exact h_1375
    have h_1405 : cw_1383 (21) = .inl (cs 0, 200, .inl (fun _ => 0)) := by rw [ecw_1383, va_up_ne _ _ (by decide)]; exact h_1376
    have h_1406 : cw_1383 (22) = .inl (cs 0, 200, .inl (fun _ => 0)) := by rw [ecw_1383, va_up_ne _ _ (by decide)]; exact h_1377
    have h_1407 : cw_1383 (23) = .inl (cs 0, 200, .inl (fun _ => 0)) := by rw [ecw_1383, va_up_ne _ _ (by decide)]; exact h_1378
    have h_1408 : cw_1383 (24) = .inl (cs 0, 200, .inl (fun _ => 0)) := by rw [ecw_1383, va_up_ne _ _ (by decide)]; exact h_1379
    have h_1409 : cw_1383 (25) = .inl (cs 0, 200, .inl (fun _ => 0)) := by rw [ecw_1383, va_up_ne _ _ (by decide)]; exact h_1380
    have h_1410 : cw_1383 (26) = .inl (cs 0, 100, .inl (fun _ => 0)) := by rw [ecw_1383, va_up_ne _ _ (by decide)]; exact h_1381
    have h_1411 : cw_1383 (27) = .inl (cs 0, 100, .inl (fun _ => 0)) := by rw [ecw_1383, va_up_ne _ _ (by decide)]; exact h_1382
    clear ecw_1383
    clear h_1355 h_1356 h_1357 h_1358 h_1359 h_1360 h_1361 h_1362 h_1363 h_1364 h_1365 h_1366 h_1367 h_1368 h_1369 h_1370 h_1371 h_1372 h_1373 h_1374 h_1375 h_1376 h_1377 h_1378 h_1379 h_1380 h_1381 h_1382
    refine lv_iinc (v := 1) (lv' := [(1, .int (1)), (0, .ref (h0))]) hx hb d_M_init_273 hl (k := 0) rfl (by decide) (by decide) rfl (fun ls hl => ?_)
    refine lv_goto (tgt := 244) hx hb d_M_init_276 (by decide) ?_
    refine lv_iload_n hx hb d_M_init_244 rfl (lv_at hl 0 rfl) ?_
    refine lv_bipush (v := 10) hx hb d_M_init_245 (by decide) ?_
    refine lv_icmp_ge (tgt := 279) hx hb d_M_init_247 (by decide) (fun c_1412 => ?_) (fun c_1412 => ?_)
    · exact absurd c_1412 (by decide)
    · skip
      refine lv_aload_n hx hb d_M_init_250 rfl (lv_at hl 1 rfl) ?_
      refine pw_getA (ci := 7) (v := .ref (q_1)) hx hb hw i_M hown hK hP (0) (by decide) a_1239 h_1384 rfl 1 (by decide) (hw _ kF_M_7) rfl d_M_init_251 ?_
      refine lv_iload_n hx hb d_M_init_254 rfl (lv_at hl 0 rfl) ?_
      refine lv_bipush (v := 30) hx hb d_M_init_255 (by decide) ?_
      refine pw_iastA (n := 10) (f := (upd (fun _ => 0) (0) (30))) hx hb hK hP hD hS 0 (1) (by decide) a_1240 h_1385 rfl (1) rfl (by decide) (by decide) d_M_init_257 (fun cw_1413 H locs ecw_1413 hP hD hS => ?_)
      have h_1414 : cw_1413 (0) = .inr (7, [.int (0), .ref (q_1), .ref (q_11), .ref (q_24), .int (0), .ref (q_40), .ref (q_59), .ref (q_81), .ref (q_106), .ref (q_134), .ref (q_165), .ref (q_199), .ref (q_236), .ref (q_276), .ref (q_319), .ref (q_365), .ref (q_414), .ref (q_466), .ref (q_521), .ref (q_579), .ref (q_640), .ref (q_704), .int (0), .ref (q_771), .ref (q_841), .int (0), .int (0), .ref (q_914), .ref (q_990), .ref (q_1069), .int (0), .ref (q_1151), .ref (q_1236)]) := by rw [ecw_1413, va_up_ne _ _ (by decide)]; exact h_1384
      have h_1415 : cw_1413 (1) = .inl (cs 0, 10, .inl (upd (upd (fun _ => 0) (0) (30)) (1) (30))) := by rw [ecw_1413]; exact va_up_self _ _ _
      have h_1416 : cw_1413 (2) = .inl (cs 0, 10, .inl (upd (fun _ => 0) (0) (20))) := by rw [ecw_1413, va_up_ne _ _ (by decide)]; exact h_1386
      have h_1417 : cw_1413 (3) = .inl (cs 0, 10, .inl (upd (fun _ => 0) (0) (3))) := by rw [ecw_1413, va_up_ne _ _ (by decide)]; exact h_1387
      have h_1418 : cw_1413 (4) = .inl (cs 0, 200, .inl (fun _ => 0)) := by rw [ecw_1413, va_up_ne _ _ (by decide)]; exact h_1388
      have h_1419 : cw_1413 (5) = .inl (cs 0, 200, .inl (fun _ => 0)) := by rw [ecw_1413, va_up_ne _ _ (by decide)]; exact h_1389
      have h_1420 : cw_1413 (6) = .inl (cs 0, 200, .inl (fun _ => 0)) := by rw [ecw_1413, va_up_ne _ _ (by decide)]; exact h_1390
      have h_1421 : cw_1413 (7) = .inl (cs 0, 200, .inl (fun _ => 0)) := by rw [ecw_1413, va_up_ne _ _ (by decide)]; exact h_1391
      have h_1422 : cw_1413 (8) = .inl (cs 0, 200, .inl (fun _ => 0)) := by rw [ecw_1413, va_up_ne _ _ (by decide)]; exact h_1392
      have h_1423 : cw_1413 (9) = .inl (cs 0, 200, .inl (fun _ => 0)) := by rw [ecw_1413, va_up_ne _ _ (by decide)]; exact h_1393
      have h_1424 : cw_1413 (10) = .inl (cs 0, 200, .inl (fun _ => 0)) := by rw [ecw_1413, va_up_ne _ _ (by decide)]; exact h_1394
      have h_1425 : cw_1413 (11) = .inl (cs 0, 200, .inl (fun _ => 0)) := by rw [ecw_1413, va_up_ne _ _ (by decide)]; exact h_1395
      have h_1426 : cw_1413 (12) = .inl (cs 0, 200, .inl (fun _ => 0)) := by rw [ecw_1413, va_up_ne _ _ (by decide)]; exact h_1396
      have h_1427 : cw_1413 (13) = .inl (cs 0, 200, .inl (fun _ => 0)) := by rw [ecw_1413, va_up_ne _ _ (by decide)]; exact h_1397
      have h_1428 : cw_1413 (14) = .inl (cs 0, 200, .inl (fun _ => 0)) := by rw [ecw_1413, va_up_ne _ _ (by decide)]; exact h_1398
      have h_1429 : cw_1413 (15) = .inl (cs 1, 200, .inl (fun _ => 0)) := by rw [ecw_1413, va_up_ne _ _ (by decide)]; exact h_1399
      have h_1430 : cw_1413 (16) = .inl (cs 0, 200, .inl (fun _ => 0)) := by rw [ecw_1413, va_up_ne _ _ (by decide)]; exact h_1400
      have h_1431 : cw_1413 (17) = .inl (cs 0, 1600, .inl (fun _ => 0)) := by rw [ecw_1413, va_up_ne _ _ (by decide)]; exact h_1401
      have h_1432 : cw_1413 (18) = .inl (cs 0, 1600, .inl (fun _ => 0)) := by rw [ecw_1413, va_up_ne _ _ (by decide)]; exact h_1402
      have h_1433 : cw_1413 (19) = .inl (cs 0, 200, .inl (fun _ => 0)) := by rw [ecw_1413, va_up_ne _ _ (by decide)]; exact h_1403
      have h_1434 : cw_1413 (20) = .inl (cs 0, 200, .inl (fun _ => 0)) := by rw [ecw_1413, va_up_ne _ _ (by decide)]; exact h_1404
      have h_1435 : cw_1413 (21) = .inl (cs 0, 200, .inl (fun _ => 0)) := by rw [ecw_1413, va_up_ne _ _ (by decide)]; exact h_1405
      have h_1436 : cw_1413 (22) = .inl (cs 0, 200, .inl (fun _ => 0)) := by rw [ecw_1413, va_up_ne _ _ (by decide)]; exact h_1406
      have h_1437 : cw_1413 (23) = .inl (cs 0, 200, .inl (fun _ => 0)) := by rw [ecw_1413, va_up_ne _ _ (by decide)]; exact h_1407
      have h_1438 : cw_1413 (24) = .inl (cs 0, 200, .inl (fun _ => 0)) := by rw [ecw_1413, va_up_ne _ _ (by decide)]; exact h_1408
      have h_1439 : cw_1413 (25) = .inl (cs 0, 200, .inl (fun _ => 0)) := by rw [ecw_1413, va_up_ne _ _ (by decide)]; exact h_1409
      have h_1440 : cw_1413 (26) = .inl (cs 0, 100, .inl (fun _ => 0)) := by rw [ecw_1413, va_up_ne _ _ (by decide)]; exact h_1410
      have h_1441 : cw_1413 (27) = .inl (cs 0, 100, .inl (fun _ => 0)) := by rw [ecw_1413, va_up_ne _ _ (by decide)]; exact h_1411
      clear ecw_1413
      clear h_1384 h_1385 h_1386 h_1387 h_1388 h_1389 h_1390 h_1391 h_1392 h_1393 h_1394 h_1395 h_1396 h_1397 h_1398 h_1399 h_1400 h_1401 h_1402 h_1403 h_1404 h_1405 h_1406 h_1407 h_1408 h_1409 h_1410 h_1411
      refine lv_aload_n hx hb d_M_init_258 rfl (lv_at hl 1 rfl) ?_
      refine pw_getA (ci := 7) (v := .ref (q_11)) hx hb hw i_M hown hK hP (0) (by decide) a_1239 h_1414 rfl 2 (by decide) (hw _ kF_M_13) rfl d_M_init_259 ?_
      refine lv_iload_n hx hb d_M_init_262 rfl (lv_at hl 0 rfl) ?_
      refine lv_bipush (v := 20) hx hb d_M_init_263 (by decide) ?_
      refine pw_iastA (n := 10) (f := (upd (fun _ => 0) (0) (20))) hx hb hK hP hD hS 0 (2) (by decide) a_1241 h_1416 rfl (1) rfl (by decide) (by decide) d_M_init_265 (fun cw_1442 H locs ecw_1442 hP hD hS => ?_)
      have h_1443 : cw_1442 (0) = .inr (7, [.int (0), .ref (q_1), .ref (q_11), .ref (q_24), .int (0), .ref (q_40), .ref (q_59), .ref (q_81), .ref (q_106), .ref (q_134), .ref (q_165), .ref (q_199), .ref (q_236), .ref (q_276), .ref (q_319), .ref (q_365), .ref (q_414), .ref (q_466), .ref (q_521), .ref (q_579), .ref (q_640), .ref (q_704), .int (0), .ref (q_771), .ref (q_841), .int (0), .int (0), .ref (q_914), .ref (q_990), .ref (q_1069), .int (0), .ref (q_1151), .ref (q_1236)]) := by rw [ecw_1442, va_up_ne _ _ (by decide)]; exact h_1414
      have h_1444 : cw_1442 (1) = .inl (cs 0, 10, .inl (upd (upd (fun _ => 0) (0) (30)) (1) (30))) := by rw [ecw_1442, va_up_ne _ _ (by decide)]; exact h_1415
      have h_1445 : cw_1442 (2) = .inl (cs 0, 10, .inl (upd (upd (fun _ => 0) (0) (20)) (1) (20))) := by rw [ecw_1442]; exact va_up_self _ _ _
      have h_1446 : cw_1442 (3) = .inl (cs 0, 10, .inl (upd (fun _ => 0) (0) (3))) := by rw [ecw_1442, va_up_ne _ _ (by decide)]; exact h_1417
      have h_1447 : cw_1442 (4) = .inl (cs 0, 200, .inl (fun _ => 0)) := by rw [ecw_1442, va_up_ne _ _ (by decide)]; exact h_1418
      have h_1448 : cw_1442 (5) = .inl (cs 0, 200, .inl (fun _ => 0)) := by rw [ecw_1442, va_up_ne _ _ (by decide)]; exact h_1419
      have h_1449 : cw_1442 (6) = .inl (cs 0, 200, .inl (fun _ => 0)) := by rw [ecw_1442, va_up_ne _ _ (by decide)]; exact h_1420
      have h_1450 : cw_1442 (7) = .inl (cs 0, 200, .inl (fun _ => 0)) := by rw [ecw_1442, va_up_ne _ _ (by decide)]; exact h_1421
      have h_1451 : cw_1442 (8) = .inl (cs 0, 200, .inl (fun _ => 0)) := by rw [ecw_1442, va_up_ne _ _ (by decide)]; exact h_1422
      have h_1452 : cw_1442 (9) = .inl (cs 0, 200, .inl (fun _ => 0)) := by rw [ecw_1442, va_up_ne _ _ (by decide)]; exact h_1423
      have h_1453 : cw_1442 (10) = .inl (cs 0, 200, .inl (fun _ => 0)) := by rw [ecw_1442, va_up_ne _ _ (by decide)]; exact h_1424
      have h_1454 : cw_1442 (11) = .inl (cs 0, 200, .inl (fun _ => 0)) := by rw [ecw_1442, va_up_ne _ _ (by decide)]; exact h_1425
      have h_1455 : cw_1442 (12) = .inl (cs 0, 200, .inl (fun _ => 0)) := by rw [ecw_1442, va_up_ne _ _ (by decide)]; exact h_1426
      have h_1456 : cw_1442 (13) = .inl (cs 0, 200, .inl (fun _ => 0)) := by rw [ecw_1442, va_up_ne _ _ (by decide)]; exact h_1427
      have h_1457 : cw_1442 (14) = .inl (cs 0, 200, .inl (fun _ => 0)) := by rw [ecw_1442, va_up_ne _ _ (by decide)]; exact h_1428
      have h_1458 : cw_1442 (15) = .inl (cs 1, 200, .inl (fun _ => 0)) := by rw [ecw_1442, va_up_ne _ _ (by decide)]; exact h_1429
      have h_1459 : cw_1442 (16) = .inl (cs 0, 200, .inl (fun _ => 0)) := by rw [ecw_1442, va_up_ne _ _ (by decide)]; exact h_1430
      have h_1460 : cw_1442 (17) = .inl (cs 0, 1600, .inl (fun _ => 0)) := by rw [ecw_1442, va_up_ne _ _ (by decide)]; exact h_1431
      have h_1461 : cw_1442 (18) = .inl (cs 0, 1600, .inl (fun _ => 0)) := by rw [ecw_1442, va_up_ne _ _ (by decide)]; exact h_1432
      have h_1462 : cw_1442 (19) = .inl (cs 0, 200, .inl (fun _ => 0)) := by rw [ecw_1442, va_up_ne _ _ (by decide)]; exact h_1433
      have h_1463 : cw_1442 (20) = .inl (cs 0, 200, .inl (fun _ => 0)) := by rw [ecw_1442, va_up_ne _ _ (by decide)]; exact h_1434
      have h_1464 : cw_1442 (21) = .inl (cs 0, 200, .inl (fun _ => 0)) := by rw [ecw_1442, va_up_ne _ _ (by decide)]; exact h_1435
      have h_1465 : cw_1442 (22) = .inl (cs 0, 200, .inl (fun _ => 0)) := by rw [ecw_1442, va_up_ne _ _ (by decide)]; exact h_1436
      have h_1466 : cw_1442 (23) = .inl (cs 0, 200, .inl (fun _ => 0)) := by rw [ecw_1442, va_up_ne _ _ (by decide)]; exact h_1437
      have h_1467 : cw_1442 (24) = .inl (cs 0, 200, .inl (fun _ => 0)) := by rw [ecw_1442, va_up_ne _ _ (by decide)]; exact h_1438
      have h_1468 : cw_1442 (25) = .inl (cs 0, 200, .inl (fun _ => 0)) := by rw [ecw_1442, va_up_ne _ _ (by decide)]; exact h_1439
      have h_1469 : cw_1442 (26) = .inl (cs 0, 100, .inl (fun _ => 0)) := by rw [ecw_1442, va_up_ne _ _ (by decide)]; exact h_1440
      have h_1470 : cw_1442 (27) = .inl (cs 0, 100, .inl (fun _ => 0)) := by rw [ecw_1442, va_up_ne _ _ (by decide)]; exact h_1441
      clear ecw_1442
      clear h_1414 h_1415 h_1416 h_1417 h_1418 h_1419 h_1420 h_1421 h_1422 h_1423 h_1424 h_1425 h_1426 h_1427 h_1428 h_1429 h_1430 h_1431 h_1432 h_1433 h_1434 h_1435 h_1436 h_1437 h_1438 h_1439 h_1440 h_1441
      refine lv_aload_n hx hb d_M_init_266 rfl (lv_at hl 1 rfl) ?_
      refine pw_getA (ci := 7) (v := .ref (q_24)) hx hb hw i_M hown hK hP (0) (by decide) a_1239 h_1443 rfl 3 (by decide) (hw _ kF_M_16) rfl d_M_init_267 ?_
      refine lv_iload_n hx hb d_M_init_270 rfl (lv_at hl 0 rfl) ?_
      refine lv_iconst (v := 3) hx hb d_M_init_271 (by decide) ?_
      refine pw_iastA (n := 10) (f := (upd (fun _ => 0) (0) (3))) hx hb hK hP hD hS 0 (3) (by decide) a_1242 h_1446 rfl (1) rfl (by decide) (by decide) d_M_init_272 (fun cw_1471 H locs ecw_1471 hP hD hS => ?_)
      have h_1472 : cw_1471 (0) = .inr (7, [.int (0), .ref (q_1), .ref (q_11), .ref (q_24), .int (0), .ref (q_40), .ref (q_59), .ref (q_81), .ref (q_106), .ref (q_134), .ref (q_165), .ref (q_199), .ref (q_236), .ref (q_276), .ref (q_319), .ref (q_365), .ref (q_414), .ref (q_466), .ref (q_521), .ref (q_579), .ref (q_640), .ref (q_704), .int (0), .ref (q_771), .ref (q_841), .int (0), .int (0), .ref (q_914), .ref (q_990), .ref (q_1069), .int (0), .ref (q_1151), .ref (q_1236)]) := by rw [ecw_1471, va_up_ne _ _ (by decide)]; exact h_1443
      have h_1473 : cw_1471 (1) = .inl (cs 0, 10, .inl (upd (upd (fun _ => 0) (0) (30)) (1) (30))) := by rw [ecw_1471, va_up_ne _ _ (by decide)]; exact h_1444
      have h_1474 : cw_1471 (2) = .inl (cs 0, 10, .inl (upd (upd (fun _ => 0) (0) (20)) (1) (20))) := by rw [ecw_1471, va_up_ne _ _ (by decide)]; exact h_1445
      have h_1475 : cw_1471 (3) = .inl (cs 0, 10, .inl (upd (upd (fun _ => 0) (0) (3)) (1) (3))) := by rw [ecw_1471]; exact va_up_self _ _ _
      have h_1476 : cw_1471 (4) = .inl (cs 0, 200, .inl (fun _ => 0)) := by rw [ecw_1471, va_up_ne _ _ (by decide)]; exact h_1447
      have h_1477 : cw_1471 (5) = .inl (cs 0, 200, .inl (fun _ => 0)) := by rw [ecw_1471, va_up_ne _ _ (by decide)]; exact h_1448
      have h_1478 : cw_1471 (6) = .inl (cs 0, 200, .inl (fun _ => 0)) := by rw [ecw_1471, va_up_ne _ _ (by decide)]; exact h_1449
      have h_1479 : cw_1471 (7) = .inl (cs 0, 200, .inl (fun _ => 0)) := by rw [ecw_1471, va_up_ne _ _ (by decide)]; exact h_1450
      have h_1480 : cw_1471 (8) = .inl (cs 0, 200, .inl (fun _ => 0)) := by rw [ecw_1471, va_up_ne _ _ (by decide)]; exact h_1451
      have h_1481 : cw_1471 (9) = .inl (cs 0, 200, .inl (fun _ => 0)) := by rw [ecw_1471, va_up_ne _ _ (by decide)]; exact h_1452
      have h_1482 : cw_1471 (10) = .inl (cs 0, 200, .inl (fun _ => 0)) := by rw [ecw_1471, va_up_ne _ _ (by decide)]; exact h_1453
      have h_1483 : cw_1471 (11) = .inl (cs 0, 200, .inl (fun _ => 0)) := by rw [ecw_1471, va_up_ne _ _ (by decide)]; exact h_1454
      have h_1484 : cw_1471 (12) = .inl (cs 0, 200, .inl (fun _ => 0)) := by rw [ecw_1471, va_up_ne _ _ (by decide)]; exact h_1455
      have h_1485 : cw_1471 (13) = .inl (cs 0, 200, .inl (fun _ => 0)) := by rw [ecw_1471, va_up_ne _ _ (by decide)]; exact h_1456
      have h_1486 : cw_1471 (14) = .inl (cs 0, 200, .inl (fun _ => 0)) := by rw [ecw_1471, va_up_ne _ _ (by decide)]; exact h_1457
      have h_1487 : cw_1471 (15) = .inl (cs 1, 200, .inl (fun _ => 0)) := by rw [ecw_1471, va_up_ne _ _ (by decide)]; exact h_1458
      have h_1488 : cw_1471 (16) = .inl (cs 0, 200, .inl (fun _ => 0)) := by rw [ecw_1471, va_up_ne _ _ (by decide)]; exact h_1459
      have h_1489 : cw_1471 (17) = .inl (cs 0, 1600, .inl (fun _ => 0)) := by rw [ecw_1471, va_up_ne _ _ (by decide)]; exact h_1460
      have h_1490 : cw_1471 (18) = .inl (cs 0, 1600, .inl (fun _ => 0)) := by rw [ecw_1471, va_up_ne _ _ (by decide)]; exact h_1461
      have h_1491 : cw_1471 (19) = .inl (cs 0, 200, .inl (fun _ => 0)) := by rw [ecw_1471, va_up_ne _ _ (by decide)]; exact h_1462
      have h_1492 : cw_1471 (20) = .inl (cs 0, 200, .inl (fun _ => 0)) := by rw [ecw_1471, va_up_ne _ _ (by decide)]; exact h_1463
      have h_1493 : cw_1471 (21) = .inl (cs 0, 200, .inl (fun _ => 0)) := by rw [ecw_1471, va_up_ne _ _ (by decide)]; exact h_1464
      have h_1494 : cw_1471 (22) = .inl (cs 0, 200, .inl (fun _ => 0)) := by rw [ecw_1471, va_up_ne _ _ (by decide)]; exact h_1465
      have h_1495 : cw_1471 (23) = .inl (cs 0, 200, .inl (fun _ => 0)) := by rw [ecw_1471, va_up_ne _ _ (by decide)]; exact h_1466
      have h_1496 : cw_1471 (24) = .inl (cs 0, 200, .inl (fun _ => 0)) := by rw [ecw_1471, va_up_ne _ _ (by decide)]; exact h_1467
      have h_1497 : cw_1471 (25) = .inl (cs 0, 200, .inl (fun _ => 0)) := by rw [ecw_1471, va_up_ne _ _ (by decide)]; exact h_1468
      have h_1498 : cw_1471 (26) = .inl (cs 0, 100, .inl (fun _ => 0)) := by rw [ecw_1471, va_up_ne _ _ (by decide)]; exact h_1469
      have h_1499 : cw_1471 (27) = .inl (cs 0, 100, .inl (fun _ => 0)) := by rw [ecw_1471, va_up_ne _ _ (by decide)]; exact h_1470
      clear ecw_1471
      clear h_1443 h_1444 h_1445 h_1446 h_1447 h_1448 h_1449 h_1450 h_1451 h_1452 h_1453 h_1454 h_1455 h_1456 h_1457 h_1458 h_1459 h_1460 h_1461 h_1462 h_1463 h_1464 h_1465 h_1466 h_1467 h_1468 h_1469 h_1470
      refine lv_iinc (v := 2) (lv' := [(1, .int (2)), (0, .ref (h0))]) hx hb d_M_init_273 hl (k := 0) rfl (by decide) (by decide) rfl (fun ls hl => ?_)
      refine lv_goto (tgt := 244) hx hb d_M_init_276 (by decide) ?_
      refine lv_iload_n hx hb d_M_init_244 rfl (lv_at hl 0 rfl) ?_
      refine lv_bipush (v := 10) hx hb d_M_init_245 (by decide) ?_
      refine lv_icmp_ge (tgt := 279) hx hb d_M_init_247 (by decide) (fun c_1500 => ?_) (fun c_1500 => ?_)
      · exact absurd c_1500 (by decide)
      · skip
        refine lv_aload_n hx hb d_M_init_250 rfl (lv_at hl 1 rfl) ?_
        refine pw_getA (ci := 7) (v := .ref (q_1)) hx hb hw i_M hown hK hP (0) (by decide) a_1239 h_1472 rfl 1 (by decide) (hw _ kF_M_7) rfl d_M_init_251 ?_
        refine lv_iload_n hx hb d_M_init_254 rfl (lv_at hl 0 rfl) ?_
        refine lv_bipush (v := 30) hx hb d_M_init_255 (by decide) ?_
        refine pw_iastA (n := 10) (f := (upd (upd (fun _ => 0) (0) (30)) (1) (30))) hx hb hK hP hD hS 0 (1) (by decide) a_1240 h_1473 rfl (2) rfl (by decide) (by decide) d_M_init_257 (fun cw_1501 H locs ecw_1501 hP hD hS => ?_)
        have h_1502 : cw_1501 (0) = .inr (7, [.int (0), .ref (q_1), .ref (q_11), .ref (q_24), .int (0), .ref (q_40), .ref (q_59), .ref (q_81), .ref (q_106), .ref (q_134), .ref (q_165), .ref (q_199), .ref (q_236), .ref (q_276), .ref (q_319), .ref (q_365), .ref (q_414), .ref (q_466), .ref (q_521), .ref (q_579), .ref (q_640), .ref (q_704), .int (0), .ref (q_771), .ref (q_841), .int (0), .int (0), .ref (q_914), .ref (q_990), .ref (q_1069), .int (0), .ref (q_1151), .ref (q_1236)]) := by rw [ecw_1501, va_up_ne _ _ (by decide)]; exact h_1472
        have h_1503 : cw_1501 (1) = .inl (cs 0, 10, .inl (upd (upd (upd (fun _ => 0) (0) (30)) (1) (30)) (2) (30))) := by rw [ecw_1501]; exact va_up_self _ _ _
        have h_1504 : cw_1501 (2) = .inl (cs 0, 10, .inl (upd (upd (fun _ => 0) (0) (20)) (1) (20))) := by rw [ecw_1501, va_up_ne _ _ (by decide)]; exact h_1474
        have h_1505 : cw_1501 (3) = .inl (cs 0, 10, .inl (upd (upd (fun _ => 0) (0) (3)) (1) (3))) := by rw [ecw_1501, va_up_ne _ _ (by decide)]; exact h_1475
        have h_1506 : cw_1501 (4) = .inl (cs 0, 200, .inl (fun _ => 0)) := by rw [ecw_1501, va_up_ne _ _ (by decide)]; exact h_1476
        have h_1507 : cw_1501 (5) = .inl (cs 0, 200, .inl (fun _ => 0)) := by rw [ecw_1501, va_up_ne _ _ (by decide)]; exact h_1477
        have h_1508 : cw_1501 (6) = .inl (cs 0, 200, .inl (fun _ => 0)) := by rw [ecw_1501, va_up_ne _ _ (by decide)]; exact h_1478
        have h_1509 : cw_1501 (7) = .inl (cs 0, 200, .inl (fun _ => 0)) := by rw [ecw_1501, va_up_ne _ _ (by decide)]; exact h_1479
        have h_1510 : cw_1501 (8) = .inl (cs 0, 200, .inl (fun _ => 0)) := by rw [ecw_1501, va_up_ne _ _ (by decide)]; exact h_1480
        have h_1511 : cw_1501 (9) = .inl (cs 0, 200, .inl (fun _ => 0)) := by rw [ecw_1501, va_up_ne _ _ (by decide)]; exact h_1481
        have h_1512 : cw_1501 (10) = .inl (cs 0, 200, .inl (fun _ => 0)) := by rw [ecw_1501, va_up_ne _ _ (by decide)]; exact h_1482
        have h_1513 : cw_1501 (11) = .inl (cs 0, 200, .inl (fun _ => 0)) := by rw [ecw_1501, va_up_ne _ _ (by decide)]; exact h_1483
        have h_1514 : cw_1501 (12) = .inl (cs 0, 200, .inl (fun _ => 0)) := by rw [ecw_1501, va_up_ne _ _ (by decide)]; exact h_1484
        have h_1515 : cw_1501 (13) = .inl (cs 0, 200, .inl (fun _ => 0)) := by rw [ecw_1501, va_up_ne _ _ (by decide)]; exact h_1485
        have h_1516 : cw_1501 (14) = .inl (cs 0, 200, .inl (fun _ => 0)) := by rw [ecw_1501, va_up_ne _ _ (by decide)]; exact h_1486
        have h_1517 : cw_1501 (15) = .inl (cs 1, 200, .inl (fun _ => 0)) := by rw [ecw_1501, va_up_ne _ _ (by decide)]; exact h_1487
        have h_1518 : cw_1501 (16) = .inl (cs 0, 200, .inl (fun _ => 0)) := by rw [ecw_1501, va_up_ne _ _ (by decide)]; exact h_1488
        have h_1519 : cw_1501 (17) = .inl (cs 0, 1600, .inl (fun _ => 0)) := by rw [ecw_1501, va_up_ne _ _ (by decide)]; exact h_1489
        have h_1520 : cw_1501 (18) = .inl (cs 0, 1600, .inl (fun _ => 0)) := by rw [ecw_1501, va_up_ne _ _ (by decide)]; exact h_1490
        have h_1521 : cw_1501 (19) = .inl (cs 0, 200, .inl (fun _ => 0)) := by rw [ecw_1501, va_up_ne _ _ (by decide)]; exact h_1491
        have h_1522 : cw_1501 (20) = .inl (cs 0, 200, .inl (fun _ => 0)) := by rw [ecw_1501, va_up_ne _ _ (by decide)]; exact h_1492
        have h_1523 : cw_1501 (21) = .inl (cs 0, 200, .inl (fun _ => 0)) := by rw [ecw_1501, va_up_ne _ _ (by decide)]; exact h_1493
        have h_1524 : cw_1501 (22) = .inl (cs 0, 200, .inl (fun _ => 0)) := by rw [ecw_1501, va_up_ne _ _ (by decide)]; exact h_1494
        have h_1525 : cw_1501 (23) = .inl (cs 0, 200, .inl (fun _ => 0)) := by rw [ecw_1501, va_up_ne _ _ (by decide)]; exact h_1495
        have h_1526 : cw_1501 (24) = .inl (cs 0, 200, .inl (fun _ => 0)) := by rw [ecw_1501, va_up_ne _ _ (by decide)]; exact h_1496
        have h_1527 : cw_1501 (25) = .inl (cs 0, 200, .inl (fun _ => 0)) := by rw [ecw_1501, va_up_ne _ _ (by decide)]; exact h_1497
        have h_1528 : cw_1501 (26) = .inl (cs 0, 100, .inl (fun _ => 0)) := by rw [ecw_1501, va_up_ne _ _ (by decide)]; exact h_1498
        have h_1529 : cw_1501 (27) = .inl (cs 0, 100, .inl (fun _ => 0)) := by rw [ecw_1501, va_up_ne _ _ (by decide)]; exact h_1499
        clear ecw_1501
        clear h_1472 h_1473 h_1474 h_1475 h_1476 h_1477 h_1478 h_1479 h_1480 h_1481 h_1482 h_1483 h_1484 h_1485 h_1486 h_1487 h_1488 h_1489 h_1490 h_1491 h_1492 h_1493 h_1494 h_1495 h_1496 h_1497 h_1498 h_1499
        refine lv_aload_n hx hb d_M_init_258 rfl (lv_at hl 1 rfl) ?_
        refine pw_getA (ci := 7) (v := .ref (q_11)) hx hb hw i_M hown hK hP (0) (by decide) a_1239 h_1502 rfl 2 (by decide) (hw _ kF_M_13) rfl d_M_init_259 ?_
        refine lv_iload_n hx hb d_M_init_262 rfl (lv_at hl 0 rfl) ?_
        refine lv_bipush (v := 20) hx hb d_M_init_263 (by decide) ?_
        refine pw_iastA (n := 10) (f := (upd (upd (fun _ => 0) (0) (20)) (1) (20))) hx hb hK hP hD hS 0 (2) (by decide) a_1241 h_1504 rfl (2) rfl (by decide) (by decide) d_M_init_265 (fun cw_1530 H locs ecw_1530 hP hD hS => ?_)
        have h_1531 : cw_1530 (0) = .inr (7, [.int (0), .ref (q_1), .ref (q_11), .ref (q_24), .int (0), .ref (q_40), .ref (q_59), .ref (q_81), .ref (q_106), .ref (q_134), .ref (q_165), .ref (q_199), .ref (q_236), .ref (q_276), .ref (q_319), .ref (q_365), .ref (q_414), .ref (q_466), .ref (q_521), .ref (q_579), .ref (q_640), .ref (q_704), .int (0), .ref (q_771), .ref (q_841), .int (0), .int (0), .ref (q_914), .ref (q_990), .ref (q_1069), .int (0), .ref (q_1151), .ref (q_1236)]) := by rw [ecw_1530, va_up_ne _ _ (by decide)]; exact h_1502
        have h_1532 : cw_1530 (1) = .inl (cs 0, 10, .inl (upd (upd (upd (fun _ => 0) (0) (30)) (1) (30)) (2) (30))) := by rw [ecw_1530, va_up_ne _ _ (by decide)]; exact h_1503
        have h_1533 : cw_1530 (2) = .inl (cs 0, 10, .inl (upd (upd (upd (fun _ => 0) (0) (20)) (1) (20)) (2) (20))) := by rw [ecw_1530]; exact va_up_self _ _ _
        have h_1534 : cw_1530 (3) = .inl (cs 0, 10, .inl (upd (upd (fun _ => 0) (0) (3)) (1) (3))) := by rw [ecw_1530, va_up_ne _ _ (by decide)]; exact h_1505
        have h_1535 : cw_1530 (4) = .inl (cs 0, 200, .inl (fun _ => 0)) := by rw [ecw_1530, va_up_ne _ _ (by decide)]; exact h_1506
        have h_1536 : cw_1530 (5) = .inl (cs 0, 200, .inl (fun _ => 0)) := by rw [ecw_1530, va_up_ne _ _ (by decide)]; exact h_1507
        have h_1537 : cw_1530 (6) = .inl (cs 0, 200, .inl (fun _ => 0)) := by rw [ecw_1530, va_up_ne _ _ (by decide)]; exact h_1508
        have h_1538 : cw_1530 (7) = .inl (cs 0, 200, .inl (fun _ => 0)) := by rw [ecw_1530, va_up_ne _ _ (by decide)]; exact h_1509
        have h_1539 : cw_1530 (8) = .inl (cs 0, 200, .inl (fun _ => 0)) := by rw [ecw_1530, va_up_ne _ _ (by decide)]; exact h_1510
        have h_1540 : cw_1530 (9) = .inl (cs 0, 200, .inl (fun _ => 0)) := by rw [ecw_1530, va_up_ne _ _ (by decide)]; exact h_1511
        have h_1541 : cw_1530 (10) = .inl (cs 0, 200, .inl (fun _ => 0)) := by rw [ecw_1530, va_up_ne _ _ (by decide)]; exact h_1512
        have h_1542 : cw_1530 (11) = .inl (cs 0, 200, .inl (fun _ => 0)) := by rw [ecw_1530, va_up_ne _ _ (by decide)]; exact h_1513
        have h_1543 : cw_1530 (12) = .inl (cs 0, 200, .inl (fun _ => 0)) := by rw [ecw_1530, va_up_ne _ _ (by decide)]; exact h_1514
        have h_1544 : cw_1530 (13) = .inl (cs 0, 200, .inl (fun _ => 0)) := by rw [ecw_1530, va_up_ne _ _ (by decide)]; exact h_1515
        have h_1545 : cw_1530 (14) = .inl (cs 0, 200, .inl (fun _ => 0)) := by rw [ecw_1530, va_up_ne _ _ (by decide)]; exact h_1516
        have h_1546 : cw_1530 (15) = .inl (cs 1, 200, .inl (fun _ => 0)) := by rw [ecw_1530, va_up_ne _ _ (by decide)]; exact h_1517
        have h_1547 : cw_1530 (16) = .inl (cs 0, 200, .inl (fun _ => 0)) := by rw [ecw_1530, va_up_ne _ _ (by decide)]; exact h_1518
        have h_1548 : cw_1530 (17) = .inl (cs 0, 1600, .inl (fun _ => 0)) := by rw [ecw_1530, va_up_ne _ _ (by decide)]; exact h_1519
        have h_1549 : cw_1530 (18) = .inl (cs 0, 1600, .inl (fun _ => 0)) := by rw [ecw_1530, va_up_ne _ _ (by decide)]; exact h_1520
        have h_1550 : cw_1530 (19) = .inl (cs 0, 200, .inl (fun _ => 0)) := by rw [ecw_1530, va_up_ne _ _ (by decide)]; exact h_1521
        have h_1551 : cw_1530 (20) = .inl (cs 0, 200, .inl (fun _ => 0)) := by rw [ecw_1530, va_up_ne _ _ (by decide)]; exact h_1522
        have h_1552 : cw_1530 (21) = .inl (cs 0, 200, .inl (fun _ => 0)) := by rw [ecw_1530, va_up_ne _ _ (by decide)]; exact h_1523
        have h_1553 : cw_1530 (22) = .inl (cs 0, 200, .inl (fun _ => 0)) := by rw [ecw_1530, va_up_ne _ _ (by decide)]; exact h_1524
        have h_1554 : cw_1530 (23) = .inl (cs 0, 200, .inl (fun _ => 0)) := by rw [ecw_1530, va_up_ne _ _ (by decide)]; exact h_1525
        have h_1555 : cw_1530 (24) = .inl (cs 0, 200, .inl (fun _ => 0)) := by rw [ecw_1530, va_up_ne _ _ (by decide)]; exact h_1526
        have h_1556 : cw_1530 (25) = .inl (cs 0, 200, .inl (fun _ => 0)) := by rw [ecw_1530, va_up_ne _ _ (by decide)]; exact h_1527
        have h_1557 : cw_1530 (26) = .inl (cs 0, 100, .inl (fun _ => 0)) := by rw [ecw_1530, va_up_ne _ _ (by decide)]; exact h_1528
        have h_1558 : cw_1530 (27) = .inl (cs 0, 100, .inl (fun _ => 0)) := by rw [ecw_1530, va_up_ne _ _ (by decide)]; exact h_1529
        clear ecw_1530
        clear h_1502 h_1503 h_1504 h_1505 h_1506 h_1507 h_1508 h_1509 h_1510 h_1511 h_1512 h_1513 h_1514 h_1515 h_1516 h_1517 h_1518 h_1519 h_1520 h_1521 h_1522 h_1523 h_1524 h_1525 h_1526 h_1527 h_1528 h_1529
        refine lv_aload_n hx hb d_M_init_266 rfl (lv_at hl 1 rfl) ?_
        refine pw_getA (ci := 7) (v := .ref (q_24)) hx hb hw i_M hown hK hP (0) (by decide) a_1239 h_1531 rfl 3 (by decide) (hw _ kF_M_16) rfl d_M_init_267 ?_
        refine lv_iload_n hx hb d_M_init_270 rfl (lv_at hl 0 rfl) ?_
        refine lv_iconst (v := 3) hx hb d_M_init_271 (by decide) ?_
        refine pw_iastA (n := 10) (f := (upd (upd (fun _ => 0) (0) (3)) (1) (3))) hx hb hK hP hD hS 0 (3) (by decide) a_1242 h_1534 rfl (2) rfl (by decide) (by decide) d_M_init_272 (fun cw_1559 H locs ecw_1559 hP hD hS => ?_)
        have h_1560 : cw_1559 (0) = .inr (7, [.int (0), .ref (q_1), .ref (q_11), .ref (q_24), .int (0), .ref (q_40), .ref (q_59), .ref (q_81), .ref (q_106), .ref (q_134), .ref (q_165), .ref (q_199), .ref (q_236), .ref (q_276), .ref (q_319), .ref (q_365), .ref (q_414), .ref (q_466), .ref (q_521), .ref (q_579), .ref (q_640), .ref (q_704), .int (0), .ref (q_771), .ref (q_841), .int (0), .int (0), .ref (q_914), .ref (q_990), .ref (q_1069), .int (0), .ref (q_1151), .ref (q_1236)]) := by rw [ecw_1559, va_up_ne _ _ (by decide)]; exact h_1531
        have h_1561 : cw_1559 (1) = .inl (cs 0, 10, .inl (upd (upd (upd (fun _ => 0) (0) (30)) (1) (30)) (2) (30))) := by rw [ecw_1559, va_up_ne _ _ (by decide)]; exact h_1532
        have h_1562 : cw_1559 (2) = .inl (cs 0, 10, .inl (upd (upd (upd (fun _ => 0) (0) (20)) (1) (20)) (2) (20))) := by rw [ecw_1559, va_up_ne _ _ (by decide)]; exact h_1533
        have h_1563 : cw_1559 (3) = .inl (cs 0, 10, .inl (upd (upd (upd (fun _ => 0) (0) (3)) (1) (3)) (2) (3))) := by rw [ecw_1559]; exact va_up_self _ _ _
        have h_1564 : cw_1559 (4) = .inl (cs 0, 200, .inl (fun _ => 0)) := by rw [ecw_1559, va_up_ne _ _ (by decide)]; exact h_1535
        have h_1565 : cw_1559 (5) = .inl (cs 0, 200, .inl (fun _ => 0)) := by rw [ecw_1559, va_up_ne _ _ (by decide)]; exact h_1536
        have h_1566 : cw_1559 (6) = .inl (cs 0, 200, .inl (fun _ => 0)) := by rw [ecw_1559, va_up_ne _ _ (by decide)]; exact h_1537
        have h_1567 : cw_1559 (7) = .inl (cs 0, 200, .inl (fun _ => 0)) := by rw [ecw_1559, va_up_ne _ _ (by decide)]; exact h_1538
        have h_1568 : cw_1559 (8) = .inl (cs 0, 200, .inl (fun _ => 0)) := by rw [ecw_1559, va_up_ne _ _ (by decide)]; exact h_1539
        have h_1569 : cw_1559 (9) = .inl (cs 0, 200, .inl (fun _ => 0)) := by rw [ecw_1559, va_up_ne _ _ (by decide)]; exact h_1540
        have h_1570 : cw_1559 (10) = .inl (cs 0, 200, .inl (fun _ => 0)) := by rw [ecw_1559, va_up_ne _ _ (by decide)]; exact h_1541
        have h_1571 : cw_1559 (11) = .inl (cs 0, 200, .inl (fun _ => 0)) := by rw [ecw_1559, va_up_ne _ _ (by decide)]; exact h_1542
        have h_1572 : cw_1559 (12) = .inl (cs 0, 200, .inl (fun _ => 0)) := by rw [ecw_1559, va_up_ne _ _ (by decide)]; exact h_1543
        have h_1573 : cw_1559 (13) = .inl (cs 0, 200, .inl (fun _ => 0)) := by rw [ecw_1559, va_up_ne _ _ (by decide)]; exact h_1544
        have h_1574 : cw_1559 (14) = .inl (cs 0, 200, .inl (fun _ => 0)) := by rw [ecw_1559, va_up_ne _ _ (by decide)]; exact h_1545
        have h_1575 : cw_1559 (15) = .inl (cs 1, 200, .inl (fun _ => 0)) := by rw [ecw_1559, va_up_ne _ _ (by decide)]; exact h_1546
        have h_1576 : cw_1559 (16) = .inl (cs 0, 200, .inl (fun _ => 0)) := by rw [ecw_1559, va_up_ne _ _ (by decide)]; exact h_1547
        have h_1577 : cw_1559 (17) = .inl (cs 0, 1600, .inl (fun _ => 0)) := by rw [ecw_1559, va_up_ne _ _ (by decide)]; exact h_1548
        have h_1578 : cw_1559 (18) = .inl (cs 0, 1600, .inl (fun _ => 0)) := by rw [ecw_1559, va_up_ne _ _ (by decide)]; exact h_1549
        have h_1579 : cw_1559 (19) = .inl (cs 0, 200, .inl (fun _ => 0)) := by rw [ecw_1559, va_up_ne _ _ (by decide)]; exact h_1550
        have h_1580 : cw_1559 (20) = .inl (cs 0, 200, .inl (fun _ => 0)) := by rw [ecw_1559, va_up_ne _ _ (by decide)]; exact h_1551
        have h_1581 : cw_1559 (21) = .inl (cs 0, 200, .inl (fun _ => 0)) := by rw [ecw_1559, va_up_ne _ _ (by decide)]; exact h_1552
        have h_1582 : cw_1559 (22) = .inl (cs 0, 200, .inl (fun _ => 0)) := by rw [ecw_1559, va_up_ne _ _ (by decide)]; exact h_1553
        have h_1583 : cw_1559 (23) = .inl (cs 0, 200, .inl (fun _ => 0)) := by rw [ecw_1559, va_up_ne _ _ (by decide)]; exact h_1554
        have h_1584 : cw_1559 (24) = .inl (cs 0, 200, .inl (fun _ => 0)) := by rw [ecw_1559, va_up_ne _ _ (by decide)]; exact h_1555
        have h_1585 : cw_1559 (25) = .inl (cs 0, 200, .inl (fun _ => 0)) := by rw [ecw_1559, va_up_ne _ _ (by decide)]; exact h_1556
        have h_1586 : cw_1559 (26) = .inl (cs 0, 100, .inl (fun _ => 0)) := by rw [ecw_1559, va_up_ne _ _ (by decide)]; exact h_1557
        have h_1587 : cw_1559 (27) = .inl (cs 0, 100, .inl (fun _ => 0)) := by rw [ecw_1559, va_up_ne _ _ (by decide)]; exact h_1558
        clear ecw_1559
        clear h_1531 h_1532 h_1533 h_1534 h_1535 h_1536 h_1537 h_1538 h_1539 h_1540 h_1541 h_1542 h_1543 h_1544 h_1545 h_1546 h_1547 h_1548 h_1549 h_1550 h_1551 h_1552 h_1553 h_1554 h_1555 h_1556 h_1557 h_1558
        refine lv_iinc (v := 3) (lv' := [(1, .int (3)), (0, .ref (h0))]) hx hb d_M_init_273 hl (k := 0) rfl (by decide) (by decide) rfl (fun ls hl => ?_)
        refine lv_goto (tgt := 244) hx hb d_M_init_276 (by decide) ?_
        refine lv_iload_n hx hb d_M_init_244 rfl (lv_at hl 0 rfl) ?_
        refine lv_bipush (v := 10) hx hb d_M_init_245 (by decide) ?_
        refine lv_icmp_ge (tgt := 279) hx hb d_M_init_247 (by decide) (fun c_1588 => ?_) (fun c_1588 => ?_)
        · exact absurd c_1588 (by decide)
        · skip
          refine lv_aload_n hx hb d_M_init_250 rfl (lv_at hl 1 rfl) ?_
          refine pw_getA (ci := 7) (v := .ref (q_1)) hx hb hw i_M hown hK hP (0) (by decide) a_1239 h_1560 rfl 1 (by decide) (hw _ kF_M_7) rfl d_M_init_251 ?_
          refine lv_iload_n hx hb d_M_init_254 rfl (lv_at hl 0 rfl) ?_
          refine lv_bipush (v := 30) hx hb d_M_init_255 (by decide) ?_
          refine pw_iastA (n := 10) (f := (upd (upd (upd (fun _ => 0) (0) (30)) (1) (30)) (2) (30))) hx hb hK hP hD hS 0 (1) (by decide) a_1240 h_1561 rfl (3) rfl (by decide) (by decide) d_M_init_257 (fun cw_1589 H locs ecw_1589 hP hD hS => ?_)
          have h_1590 : cw_1589 (0) = .inr (7, [.int (0), .ref (q_1), .ref (q_11), .ref (q_24), .int (0), .ref (q_40), .ref (q_59), .ref (q_81), .ref (q_106), .ref (q_134), .ref (q_165), .ref (q_199), .ref (q_236), .ref (q_276), .ref (q_319), .ref (q_365), .ref (q_414), .ref (q_466), .ref (q_521), .ref (q_579), .ref (q_640), .ref (q_704), .int (0), .ref (q_771), .ref (q_841), .int (0), .int (0), .ref (q_914), .ref (q_990), .ref (q_1069), .int (0), .ref (q_1151), .ref (q_1236)]) := by rw [ecw_1589, va_up_ne _ _ (by decide)]; exact h_1560
          have h_1591 : cw_1589 (1) = .inl (cs 0, 10, .inl (upd (upd (upd (upd (fun _ => 0) (0) (30)) (1) (30)) (2) (30)) (3) (30))) := by rw [ecw_1589]; exact va_up_self _ _ _
          have h_1592 : cw_1589 (2) = .inl (cs 0, 10, .inl (upd (upd (upd (fun _ => 0) (0) (20)) (1) (20)) (2) (20))) := by rw [ecw_1589, va_up_ne _ _ (by decide)]; exact h_1562
          have h_1593 : cw_1589 (3) = .inl (cs 0, 10, .inl (upd (upd (upd (fun _ => 0) (0) (3)) (1) (3)) (2) (3))) := by rw [ecw_1589, va_up_ne _ _ (by decide)]; exact h_1563
          have h_1594 : cw_1589 (4) = .inl (cs 0, 200, .inl (fun _ => 0)) := by rw [ecw_1589, va_up_ne _ _ (by decide)]; exact h_1564
          have h_1595 : cw_1589 (5) = .inl (cs 0, 200, .inl (fun _ => 0)) := by rw [ecw_1589, va_up_ne _ _ (by decide)]; exact h_1565
          have h_1596 : cw_1589 (6) = .inl (cs 0, 200, .inl (fun _ => 0)) := by rw [ecw_1589, va_up_ne _ _ (by decide)]; exact h_1566
          have h_1597 : cw_1589 (7) = .inl (cs 0, 200, .inl (fun _ => 0)) := by rw [ecw_1589, va_up_ne _ _ (by decide)]; exact h_1567
          have h_1598 : cw_1589 (8) = .inl (cs 0, 200, .inl (fun _ => 0)) := by rw [ecw_1589, va_up_ne _ _ (by decide)]; exact h_1568
          have h_1599 : cw_1589 (9) = .inl (cs 0, 200, .inl (fun _ => 0)) := by rw [ecw_1589, va_up_ne _ _ (by decide)]; exact h_1569
          have h_1600 : cw_1589 (10) = .inl (cs 0, 200, .inl (fun _ => 0)) := by rw [ecw_1589, va_up_ne _ _ (by decide)]; exact h_1570
          have h_1601 : cw_1589 (11) = .inl (cs 0, 200, .inl (fun _ => 0)) := by rw [ecw_1589, va_up_ne _ _ (by decide)]; exact h_1571
          have h_1602 : cw_1589 (12) = .inl (cs 0, 200, .inl (fun _ => 0)) := by rw [ecw_1589, va_up_ne _ _ (by decide)]; exact h_1572
          have h_1603 : cw_1589 (13) = .inl (cs 0, 200, .inl (fun _ => 0)) := by rw [ecw_1589, va_up_ne _ _ (by decide)]; exact h_1573
          have h_1604 : cw_1589 (14) = .inl (cs 0, 200, .inl (fun _ => 0)) := by rw [ecw_1589, va_up_ne _ _ (by decide)]; exact h_1574
          have h_1605 : cw_1589 (15) = .inl (cs 1, 200, .inl (fun _ => 0)) := by rw [ecw_1589, va_up_ne _ _ (by decide)]; exact h_1575
          have h_1606 : cw_1589 (16) = .inl (cs 0, 200, .inl (fun _ => 0)) := by rw [ecw_1589, va_up_ne _ _ (by decide)]; exact h_1576
          have h_1607 : cw_1589 (17) = .inl (cs 0, 1600, .inl (fun _ => 0)) := by rw [ecw_1589, va_up_ne _ _ (by decide)]; exact h_1577
          have h_1608 : cw_1589 (18) = .inl (cs 0, 1600, .inl (fun _ => 0)) := by rw [ecw_1589, va_up_ne _ _ (by decide)]; exact h_1578
          have h_1609 : cw_1589 (19) = .inl (cs 0, 200, .inl (fun _ => 0)) := by rw [ecw_1589, va_up_ne _ _ (by decide)]; exact h_1579
          have h_1610 : cw_1589 (20) = .inl (cs 0, 200, .inl (fun _ => 0)) := by rw [ecw_1589, va_up_ne _ _ (by decide)]; exact h_1580
          have h_1611 : cw_1589 (21) = .inl (cs 0, 200, .inl (fun _ => 0)) := by rw [ecw_1589, va_up_ne _ _ (by decide)]; exact h_1581
          have h_1612 : cw_1589 (22) = .inl (cs 0, 200, .inl (fun _ => 0)) := by rw [ecw_1589, va_up_ne _ _ (by decide)]; exact h_1582
          have h_1613 : cw_1589 (23) = .inl (cs 0, 200, .inl (fun _ => 0)) := by rw [ecw_1589, va_up_ne _ _ (by decide)]; exact h_1583
          have h_1614 : cw_1589 (24) = .inl (cs 0, 200, .inl (fun _ => 0)) := by rw [ecw_1589, va_up_ne _ _ (by decide)]; exact h_1584
          have h_1615 : cw_1589 (25) = .inl (cs 0, 200, .inl (fun _ => 0)) := by rw [ecw_1589, va_up_ne _ _ (by decide)]; exact h_1585
          have h_1616 : cw_1589 (26) = .inl (cs 0, 100, .inl (fun _ => 0)) := by rw [ecw_1589, va_up_ne _ _ (by decide)]; exact h_1586
          have h_1617 : cw_1589 (27) = .inl (cs 0, 100, .inl (fun _ => 0)) := by rw [ecw_1589, va_up_ne _ _ (by decide)]; exact h_1587
          clear ecw_1589
          clear h_1560 h_1561 h_1562 h_1563 h_1564 h_1565 h_1566 h_1567 h_1568 h_1569 h_1570 h_1571 h_1572 h_1573 h_1574 h_1575 h_1576 h_1577 h_1578 h_1579 h_1580 h_1581 h_1582 h_1583 h_1584 h_1585 h_1586 h_1587
          refine lv_aload_n hx hb d_M_init_258 rfl (lv_at hl 1 rfl) ?_
          refine pw_getA (ci := 7) (v := .ref (q_11)) hx hb hw i_M hown hK hP (0) (by decide) a_1239 h_1590 rfl 2 (by decide) (hw _ kF_M_13) rfl d_M_init_259 ?_
          refine lv_iload_n hx hb d_M_init_262 rfl (lv_at hl 0 rfl) ?_
          refine lv_bipush (v := 20) hx hb d_M_init_263 (by decide) ?_
          refine pw_iastA (n := 10) (f := (upd (upd (upd (fun _ => 0) (0) (20)) (1) (20)) (2) (20))) hx hb hK hP hD hS 0 (2) (by decide) a_1241 h_1592 rfl (3) rfl (by decide) (by decide) d_M_init_265 (fun cw_1618 H locs ecw_1618 hP hD hS => ?_)
          have h_1619 : cw_1618 (0) = .inr (7, [.int (0), .ref (q_1), .ref (q_11), .ref (q_24), .int (0), .ref (q_40), .ref (q_59), .ref (q_81), .ref (q_106), .ref (q_134), .ref (q_165), .ref (q_199), .ref (q_236), .ref (q_276), .ref (q_319), .ref (q_365), .ref (q_414), .ref (q_466), .ref (q_521), .ref (q_579), .ref (q_640), .ref (q_704), .int (0), .ref (q_771), .ref (q_841), .int (0), .int (0), .ref (q_914), .ref (q_990), .ref (q_1069), .int (0), .ref (q_1151), .ref (q_1236)]) := by rw [ecw_1618, va_up_ne _ _ (by decide)]; exact h_1590
          have h_1620 : cw_1618 (1) = .inl (cs 0, 10, .inl (upd (upd (upd (upd (fun _ => 0) (0) (30)) (1) (30)) (2) (30)) (3) (30))) := by rw [ecw_1618, va_up_ne _ _ (by decide)]; exact h_1591
          have h_1621 : cw_1618 (2) = .inl (cs 0, 10, .inl (upd (upd (upd (upd (fun _ => 0) (0) (20)) (1) (20)) (2) (20)) (3) (20))) := by rw [ecw_1618]; exact va_up_self _ _ _
          have h_1622 : cw_1618 (3) = .inl (cs 0, 10, .inl (upd (upd (upd (fun _ => 0) (0) (3)) (1) (3)) (2) (3))) := by rw [ecw_1618, va_up_ne _ _ (by decide)]; exact h_1593
          have h_1623 : cw_1618 (4) = .inl (cs 0, 200, .inl (fun _ => 0)) := by rw [ecw_1618, va_up_ne _ _ (by decide)]; exact h_1594
          have h_1624 : cw_1618 (5) = .inl (cs 0, 200, .inl (fun _ => 0)) := by rw [ecw_1618, va_up_ne _ _ (by decide)]; exact h_1595
          have h_1625 : cw_1618 (6) = .inl (cs 0, 200, .inl (fun _ => 0)) := by rw [ecw_1618, va_up_ne _ _ (by decide)]; exact h_1596
          have h_1626 : cw_1618 (7) = .inl (cs 0, 200, .inl (fun _ => 0)) := by rw [ecw_1618, va_up_ne _ _ (by decide)]; exact h_1597
          have h_1627 : cw_1618 (8) = .inl (cs 0, 200, .inl (fun _ => 0)) := by rw [ecw_1618, va_up_ne _ _ (by decide)]; exact h_1598
          have h_1628 : cw_1618 (9) = .inl (cs 0, 200, .inl (fun _ => 0)) := by rw [ecw_1618, va_up_ne _ _ (by decide)]; exact h_1599
          have h_1629 : cw_1618 (10) = .inl (cs 0, 200, .inl (fun _ => 0)) := by rw [ecw_1618, va_up_ne _ _ (by decide)]; exact h_1600
          have h_1630 : cw_1618 (11) = .inl (cs 0, 200, .inl (fun _ => 0)) := by rw [ecw_1618, va_up_ne _ _ (by decide)]; exact h_1601
          have h_1631 : cw_1618 (12) = .inl (cs 0, 200, .inl (fun _ => 0)) := by rw [ecw_1618, va_up_ne _ _ (by decide)]; exact h_1602
          have h_1632 : cw_1618 (13) = .inl (cs 0, 200, .inl (fun _ => 0)) := by rw [ecw_1618, va_up_ne _ _ (by decide)]; exact h_1603
          have h_1633 : cw_1618 (14) = .inl (cs 0, 200, .inl (fun _ => 0)) := by rw [ecw_1618, va_up_ne _ _ (by decide)]; exact h_1604
          have h_1634 : cw_1618 (15) = .inl (cs 1, 200, .inl (fun _ => 0)) := by rw [ecw_1618, va_up_ne _ _ (by decide)]; exact h_1605
          have h_1635 : cw_1618 (16) = .inl (cs 0, 200, .inl (fun _ => 0)) := by rw [ecw_1618, va_up_ne _ _ (by decide)]; exact h_1606
          have h_1636 : cw_1618 (17) = .inl (cs 0, 1600, .inl (fun _ => 0)) := by rw [ecw_1618, va_up_ne _ _ (by decide)]; exact h_1607
          have h_1637 : cw_1618 (18) = .inl (cs 0, 1600, .inl (fun _ => 0)) := by rw [ecw_1618, va_up_ne _ _ (by decide)]; exact h_1608
          have h_1638 : cw_1618 (19) = .inl (cs 0, 200, .inl (fun _ => 0)) := by rw [ecw_1618, va_up_ne _ _ (by decide)]; exact h_1609
          have h_1639 : cw_1618 (20) = .inl (cs 0, 200, .inl (fun _ => 0)) := by rw [ecw_1618, va_up_ne _ _ (by decide)]; exact h_1610
          have h_1640 : cw_1618 (21) = .inl (cs 0, 200, .inl (fun _ => 0)) := by rw [ecw_1618, va_up_ne _ _ (by decide)]; exact h_1611
          have h_1641 : cw_1618 (22) = .inl (cs 0, 200, .inl (fun _ => 0)) := by rw [ecw_1618, va_up_ne _ _ (by decide)]; exact h_1612
          have h_1642 : cw_1618 (23) = .inl (cs 0, 200, .inl (fun _ => 0)) := by rw [ecw_1618, va_up_ne _ _ (by decide)]; exact h_1613
          have h_1643 : cw_1618 (24) = .inl (cs 0, 200, .inl (fun _ => 0)) := by rw [ecw_1618, va_up_ne _ _ (by decide)]; exact h_1614
          have h_1644 : cw_1618 (25) = .inl (cs 0, 200, .inl (fun _ => 0)) := by rw [ecw_1618, va_up_ne _ _ (by decide)]; exact h_1615
          have h_1645 : cw_1618 (26) = .inl (cs 0, 100, .inl (fun _ => 0)) := by rw [ecw_1618, va_up_ne _ _ (by decide)]; exact h_1616
          have h_1646 : cw_1618 (27) = .inl (cs 0, 100, .inl (fun _ => 0)) := by rw [ecw_1618, va_up_ne _ _ (by decide)]; exact h_1617
          clear ecw_1618
          clear h_1590 h_1591 h_1592 h_1593 h_1594 h_1595 h_1596 h_1597 h_1598 h_1599 h_1600 h_1601 h_1602 h_1603 h_1604 h_1605 h_1606 h_1607 h_1608 h_1609 h_1610 h_1611 h_1612 h_1613 h_1614 h_1615 h_1616 h_1617
          refine lv_aload_n hx hb d_M_init_266 rfl (lv_at hl 1 rfl) ?_
          refine pw_getA (ci := 7) (v := .ref (q_24)) hx hb hw i_M hown hK hP (0) (by decide) a_1239 h_1619 rfl 3 (by decide) (hw _ kF_M_16) rfl d_M_init_267 ?_
          refine lv_iload_n hx hb d_M_init_270 rfl (lv_at hl 0 rfl) ?_
          refine lv_iconst (v := 3) hx hb d_M_init_271 (by decide) ?_
          refine pw_iastA (n := 10) (f := (upd (upd (upd (fun _ => 0) (0) (3)) (1) (3)) (2) (3))) hx hb hK hP hD hS 0 (3) (by decide) a_1242 h_1622 rfl (3) rfl (by decide) (by decide) d_M_init_272 (fun cw_1647 H locs ecw_1647 hP hD hS => ?_)
          have h_1648 : cw_1647 (0) = .inr (7, [.int (0), .ref (q_1), .ref (q_11), .ref (q_24), .int (0), .ref (q_40), .ref (q_59), .ref (q_81), .ref (q_106), .ref (q_134), .ref (q_165), .ref (q_199), .ref (q_236), .ref (q_276), .ref (q_319), .ref (q_365), .ref (q_414), .ref (q_466), .ref (q_521), .ref (q_579), .ref (q_640), .ref (q_704), .int (0), .ref (q_771), .ref (q_841), .int (0), .int (0), .ref (q_914), .ref (q_990), .ref (q_1069), .int (0), .ref (q_1151), .ref (q_1236)]) := by rw [ecw_1647, va_up_ne _ _ (by decide)]; exact h_1619
          have h_1649 : cw_1647 (1) = .inl (cs 0, 10, .inl (upd (upd (upd (upd (fun _ => 0) (0) (30)) (1) (30)) (2) (30)) (3) (30))) := by rw [ecw_1647, va_up_ne _ _ (by decide)]; exact h_1620
          have h_1650 : cw_1647 (2) = .inl (cs 0, 10, .inl (upd (upd (upd (upd (fun _ => 0) (0) (20)) (1) (20)) (2) (20)) (3) (20))) := by rw [ecw_1647, va_up_ne _ _ (by decide)]; exact h_1621
          have h_1651 : cw_1647 (3) = .inl (cs 0, 10, .inl (upd (upd (upd (upd (fun _ => 0) (0) (3)) (1) (3)) (2) (3)) (3) (3))) := by rw [ecw_1647]; exact va_up_self _ _ _
          have h_1652 : cw_1647 (4) = .inl (cs 0, 200, .inl (fun _ => 0)) := by rw [ecw_1647, va_up_ne _ _ (by decide)]; exact h_1623
          have h_1653 : cw_1647 (5) = .inl (cs 0, 200, .inl (fun _ => 0)) := by rw [ecw_1647, va_up_ne _ _ (by decide)]; exact h_1624
          have h_1654 : cw_1647 (6) = .inl (cs 0, 200, .inl (fun _ => 0)) := by rw [ecw_1647, va_up_ne _ _ (by decide)]; exact h_1625
          have h_1655 : cw_1647 (7) = .inl (cs 0, 200, .inl (fun _ => 0)) := by rw [ecw_1647, va_up_ne _ _ (by decide)]; exact h_1626
          have h_1656 : cw_1647 (8) = .inl (cs 0, 200, .inl (fun _ => 0)) := by rw [ecw_1647, va_up_ne _ _ (by decide)]; exact h_1627
          have h_1657 : cw_1647 (9) = .inl (cs 0, 200, .inl (fun _ => 0)) := by rw [ecw_1647, va_up_ne _ _ (by decide)]; exact h_1628
          have h_1658 : cw_1647 (10) = .inl (cs 0, 200, .inl (fun _ => 0)) := by rw [ecw_1647, va_up_ne _ _ (by decide)]; exact h_1629
          have h_1659 : cw_1647 (11) = .inl (cs 0, 200, .inl (fun _ => 0)) := by rw [ecw_1647, va_up_ne _ _ (by decide)]; exact h_1630
          have h_1660 : cw_1647 (12) = .inl (cs 0, 200, .inl (fun _ => 0)) := by rw [ecw_1647, va_up_ne _ _ (by decide)]; exact h_1631
          have h_1661 : cw_1647 (13) = .inl (cs 0, 200, .inl (fun _ => 0)) := by rw [ecw_1647, va_up_ne _ _ (by decide)]; exact h_1632
          have h_1662 : cw_1647 (14) = .inl (cs 0, 200, .inl (fun _ => 0)) := by rw [ecw_1647, va_up_ne _ _ (by decide)]; exact h_1633
          have h_1663 : cw_1647 (15) = .inl (cs 1, 200, .inl (fun _ => 0)) := by rw [ecw_1647, va_up_ne _ _ (by decide)]; exact h_1634
          have h_1664 : cw_1647 (16) = .inl (cs 0, 200, .inl (fun _ => 0)) := by rw [ecw_1647, va_up_ne _ _ (by decide)]; exact h_1635
          have h_1665 : cw_1647 (17) = .inl (cs 0, 1600, .inl (fun _ => 0)) := by rw [ecw_1647, va_up_ne _ _ (by decide)]; exact h_1636
          have h_1666 : cw_1647 (18) = .inl (cs 0, 1600, .inl (fun _ => 0)) := by rw [ecw_1647, va_up_ne _ _ (by decide)]; exact h_1637
          have h_1667 : cw_1647 (19) = .inl (cs 0, 200, .inl (fun _ => 0)) := by rw [ecw_1647, va_up_ne _ _ (by decide)]; exact h_1638
          have h_1668 : cw_1647 (20) = .inl (cs 0, 200, .inl (fun _ => 0)) := by rw [ecw_1647, va_up_ne _ _ (by decide)]; exact h_1639
          have h_1669 : cw_1647 (21) = .inl (cs 0, 200, .inl (fun _ => 0)) := by rw [ecw_1647, va_up_ne _ _ (by decide)]; exact h_1640
          have h_1670 : cw_1647 (22) = .inl (cs 0, 200, .inl (fun _ => 0)) := by rw [ecw_1647, va_up_ne _ _ (by decide)]; exact h_1641
          have h_1671 : cw_1647 (23) = .inl (cs 0, 200, .inl (fun _ => 0)) := by rw [ecw_1647, va_up_ne _ _ (by decide)]; exact h_1642
          have h_1672 : cw_1647 (24) = .inl (cs 0, 200, .inl (fun _ => 0)) := by rw [ecw_1647, va_up_ne _ _ (by decide)]; exact h_1643
          have h_1673 : cw_1647 (25) = .inl (cs 0, 200, .inl (fun _ => 0)) := by rw [ecw_1647, va_up_ne _ _ (by decide)]; exact h_1644
          have h_1674 : cw_1647 (26) = .inl (cs 0, 100, .inl (fun _ => 0)) := by rw [ecw_1647, va_up_ne _ _ (by decide)]; exact h_1645
          have h_1675 : cw_1647 (27) = .inl (cs 0, 100, .inl (fun _ => 0)) := by rw [ecw_1647, va_up_ne _ _ (by decide)]; exact h_1646
          clear ecw_1647
          clear h_1619 h_1620 h_1621 h_1622 h_1623 h_1624 h_1625 h_1626 h_1627 h_1628 h_1629 h_1630 h_1631 h_1632 h_1633 h_1634 h_1635 h_1636 h_1637 h_1638 h_1639 h_1640 h_1641 h_1642 h_1643 h_1644 h_1645 h_1646
          refine lv_iinc (v := 4) (lv' := [(1, .int (4)), (0, .ref (h0))]) hx hb d_M_init_273 hl (k := 0) rfl (by decide) (by decide) rfl (fun ls hl => ?_)
          refine lv_goto (tgt := 244) hx hb d_M_init_276 (by decide) ?_
          refine lv_iload_n hx hb d_M_init_244 rfl (lv_at hl 0 rfl) ?_
          refine lv_bipush (v := 10) hx hb d_M_init_245 (by decide) ?_
          refine lv_icmp_ge (tgt := 279) hx hb d_M_init_247 (by decide) (fun c_1676 => ?_) (fun c_1676 => ?_)
          · exact absurd c_1676 (by decide)
          · skip
            refine lv_aload_n hx hb d_M_init_250 rfl (lv_at hl 1 rfl) ?_
            refine pw_getA (ci := 7) (v := .ref (q_1)) hx hb hw i_M hown hK hP (0) (by decide) a_1239 h_1648 rfl 1 (by decide) (hw _ kF_M_7) rfl d_M_init_251 ?_
            refine lv_iload_n hx hb d_M_init_254 rfl (lv_at hl 0 rfl) ?_
            refine lv_bipush (v := 30) hx hb d_M_init_255 (by decide) ?_
            refine pw_iastA (n := 10) (f := (upd (upd (upd (upd (fun _ => 0) (0) (30)) (1) (30)) (2) (30)) (3) (30))) hx hb hK hP hD hS 0 (1) (by decide) a_1240 h_1649 rfl (4) rfl (by decide) (by decide) d_M_init_257 (fun cw_1677 H locs ecw_1677 hP hD hS => ?_)
            have h_1678 : cw_1677 (0) = .inr (7, [.int (0), .ref (q_1), .ref (q_11), .ref (q_24), .int (0), .ref (q_40), .ref (q_59), .ref (q_81), .ref (q_106), .ref (q_134), .ref (q_165), .ref (q_199), .ref (q_236), .ref (q_276), .ref (q_319), .ref (q_365), .ref (q_414), .ref (q_466), .ref (q_521), .ref (q_579), .ref (q_640), .ref (q_704), .int (0), .ref (q_771), .ref (q_841), .int (0), .int (0), .ref (q_914), .ref (q_990), .ref (q_1069), .int (0), .ref (q_1151), .ref (q_1236)]) := by rw [ecw_1677, va_up_ne _ _ (by decide)]; exact h_1648
            have h_1679 : cw_1677 (1) = .inl (cs 0, 10, .inl (upd (upd (upd (upd (upd (fun _ => 0) (0) (30)) (1) (30)) (2) (30)) (3) (30)) (4) (30))) := by rw [ecw_1677]; exact va_up_self _ _ _
            have h_1680 : cw_1677 (2) = .inl (cs 0, 10, .inl (upd (upd (upd (upd (fun _ => 0) (0) (20)) (1) (20)) (2) (20)) (3) (20))) := by rw [ecw_1677, va_up_ne _ _ (by decide)]; exact h_1650
            have h_1681 : cw_1677 (3) = .inl (cs 0, 10, .inl (upd (upd (upd (upd (fun _ => 0) (0) (3)) (1) (3)) (2) (3)) (3) (3))) := by rw [ecw_1677, va_up_ne _ _ (by decide)]; exact h_1651
            have h_1682 : cw_1677 (4) = .inl (cs 0, 200, .inl (fun _ => 0)) := by rw [ecw_1677, va_up_ne _ _ (by decide)]; exact h_1652
            have h_1683 : cw_1677 (5) = .inl (cs 0, 200, .inl (fun _ => 0)) := by rw [ecw_1677, va_up_ne _ _ (by decide)]; exact h_1653
            have h_1684 : cw_1677 (6) = .inl (cs 0, 200, .inl (fun _ => 0)) := by rw [ecw_1677, va_up_ne _ _ (by decide)]; exact h_1654
            have h_1685 : cw_1677 (7) = .inl (cs 0, 200, .inl (fun _ => 0)) := by rw [ecw_1677, va_up_ne _ _ (by decide)]; exact h_1655
            have h_1686 : cw_1677 (8) = .inl (cs 0, 200, .inl (fun _ => 0)) := by rw [ecw_1677, va_up_ne _ _ (by decide)]; exact h_1656
            have h_1687 : cw_1677 (9) = .inl (cs 0, 200, .inl (fun _ => 0)) := by rw [ecw_1677, va_up_ne _ _ (by decide)]; exact h_1657
            have h_1688 : cw_1677 (10) = .inl (cs 0, 200, .inl (fun _ => 0)) := by rw [ecw_1677, va_up_ne _ _ (by decide)]; exact h_1658
            have h_1689 : cw_1677 (11) = .inl (cs 0, 200, .inl (fun _ => 0)) := by rw [ecw_1677, va_up_ne _ _ (by decide)]; exact h_1659
            have h_1690 : cw_1677 (12) = .inl (cs 0, 200, .inl (fun _ => 0)) := by rw [ecw_1677, va_up_ne _ _ (by decide)]; exact h_1660
            have h_1691 : cw_1677 (13) = .inl (cs 0, 200, .inl (fun _ => 0)) := by rw [ecw_1677, va_up_ne _ _ (by decide)]; exact h_1661
            have h_1692 : cw_1677 (14) = .inl (cs 0, 200, .inl (fun _ => 0)) := by rw [ecw_1677, va_up_ne _ _ (by decide)]; exact h_1662
            have h_1693 : cw_1677 (15) = .inl (cs 1, 200, .inl (fun _ => 0)) := by rw [ecw_1677, va_up_ne _ _ (by decide)]; exact h_1663
            have h_1694 : cw_1677 (16) = .inl (cs 0, 200, .inl (fun _ => 0)) := by rw [ecw_1677, va_up_ne _ _ (by decide)]; exact h_1664
            have h_1695 : cw_1677 (17) = .inl (cs 0, 1600, .inl (fun _ => 0)) := by rw [ecw_1677, va_up_ne _ _ (by decide)]; exact h_1665
            have h_1696 : cw_1677 (18) = .inl (cs 0, 1600, .inl (fun _ => 0)) := by rw [ecw_1677, va_up_ne _ _ (by decide)]; exact h_1666
            have h_1697 : cw_1677 (19) = .inl (cs 0, 200, .inl (fun _ => 0)) := by rw [ecw_1677, va_up_ne _ _ (by decide)]; exact h_1667
            have h_1698 : cw_1677 (20) = .inl (cs 0, 200, .inl (fun _ => 0)) := by rw [ecw_1677, va_up_ne _ _ (by decide)]; exact h_1668
            have h_1699 : cw_1677 (21) = .inl (cs 0, 200, .inl (fun _ => 0)) := by rw [ecw_1677, va_up_ne _ _ (by decide)]; exact h_1669
            have h_1700 : cw_1677 (22) = .inl (cs 0, 200, .inl (fun _ => 0)) := by rw [ecw_1677, va_up_ne _ _ (by decide)]; exact h_1670
            have h_1701 : cw_1677 (23) = .inl (cs 0, 200, .inl (fun _ => 0)) := by rw [ecw_1677, va_up_ne _ _ (by decide)]; exact h_1671
            have h_1702 : cw_1677 (24) = .inl (cs 0, 200, .inl (fun _ => 0)) := by rw [ecw_1677, va_up_ne _ _ (by decide)]; exact h_1672
            have h_1703 : cw_1677 (25) = .inl (cs 0, 200, .inl (fun _ => 0)) := by rw [ecw_1677, va_up_ne _ _ (by decide)]; exact h_1673
            have h_1704 : cw_1677 (26) = .inl (cs 0, 100, .inl (fun _ => 0)) := by rw [ecw_1677, va_up_ne _ _ (by decide)]; exact h_1674
            have h_1705 : cw_1677 (27) = .inl (cs 0, 100, .inl (fun _ => 0)) := by rw [ecw_1677, va_up_ne _ _ (by decide)]; exact h_1675
            clear ecw_1677
            clear h_1648 h_1649 h_1650 h_1651 h_1652 h_1653 h_1654 h_1655 h_1656 h_1657 h_1658 h_1659 h_1660 h_1661 h_1662 h_1663 h_1664 h_1665 h_1666 h_1667 h_1668 h_1669 h_1670 h_1671 h_1672 h_1673 h_1674 h_1675
            refine lv_aload_n hx hb d_M_init_258 rfl (lv_at hl 1 rfl) ?_
            refine pw_getA (ci := 7) (v := .ref (q_11)) hx hb hw i_M hown hK hP (0) (by decide) a_1239 h_1678 rfl 2 (by decide) (hw _ kF_M_13) rfl d_M_init_259 ?_
            refine lv_iload_n hx hb d_M_init_262 rfl (lv_at hl 0 rfl) ?_
            refine lv_bipush (v := 20) hx hb d_M_init_263 (by decide) ?_
            refine pw_iastA (n := 10) (f := (upd (upd (upd (upd (fun _ => 0) (0) (20)) (1) (20)) (2) (20)) (3) (20))) hx hb hK hP hD hS 0 (2) (by decide) a_1241 h_1680 rfl (4) rfl (by decide) (by decide) d_M_init_265 (fun cw_1706 H locs ecw_1706 hP hD hS => ?_)
            have h_1707 : cw_1706 (0) = .inr (7, [.int (0), .ref (q_1), .ref (q_11), .ref (q_24), .int (0), .ref (q_40), .ref (q_59), .ref (q_81), .ref (q_106), .ref (q_134), .ref (q_165), .ref (q_199), .ref (q_236), .ref (q_276), .ref (q_319), .ref (q_365), .ref (q_414), .ref (q_466), .ref (q_521), .ref (q_579), .ref (q_640), .ref (q_704), .int (0), .ref (q_771), .ref (q_841), .int (0), .int (0), .ref (q_914), .ref (q_990), .ref (q_1069), .int (0), .ref (q_1151), .ref (q_1236)]) := by rw [ecw_1706, va_up_ne _ _ (by decide)]; exact h_1678
            have h_1708 : cw_1706 (1) = .inl (cs 0, 10, .inl (upd (upd (upd (upd (upd (fun _ => 0) (0) (30)) (1) (30)) (2) (30)) (3) (30)) (4) (30))) := by rw [ecw_1706, va_up_ne _ _ (by decide)]; exact h_1679
            have h_1709 : cw_1706 (2) = .inl (cs 0, 10, .inl (upd (upd (upd (upd (upd (fun _ => 0) (0) (20)) (1) (20)) (2) (20)) (3) (20)) (4) (20))) := by rw [ecw_1706]; exact va_up_self _ _ _
            have h_1710 : cw_1706 (3) = .inl (cs 0, 10, .inl (upd (upd (upd (upd (fun _ => 0) (0) (3)) (1) (3)) (2) (3)) (3) (3))) := by rw [ecw_1706, va_up_ne _ _ (by decide)]; exact h_1681
            have h_1711 : cw_1706 (4) = .inl (cs 0, 200, .inl (fun _ => 0)) := by rw [ecw_1706, va_up_ne _ _ (by decide)]; exact h_1682
            have h_1712 : cw_1706 (5) = .inl (cs 0, 200, .inl (fun _ => 0)) := by rw [ecw_1706, va_up_ne _ _ (by decide)]; exact h_1683
            have h_1713 : cw_1706 (6) = .inl (cs 0, 200, .inl (fun _ => 0)) := by rw [ecw_1706, va_up_ne _ _ (by decide)]; exact h_1684
            have h_1714 : cw_1706 (7) = .inl (cs 0, 200, .inl (fun _ => 0)) := by rw [ecw_1706, va_up_ne _ _ (by decide)]; exact h_1685
            have h_1715 : cw_1706 (8) = .inl (cs 0, 200, .inl (fun _ => 0)) := by rw [ecw_1706, va_up_ne _ _ (by decide)]; exact h_1686
            have h_1716 : cw_1706 (9) = .inl (cs 0, 200, .inl (fun _ => 0)) := by rw [ecw_1706, va_up_ne _ _ (by decide)]; exact h_1687
            have h_1717 : cw_1706 (10) = .inl (cs 0, 200, .inl (fun _ => 0)) := by rw [ecw_1706, va_up_ne _ _ (by decide)]; exact h_1688
            have h_1718 : cw_1706 (11) = .inl (cs 0, 200, .inl (fun _ => 0)) := by rw [ecw_1706, va_up_ne _ _ (by decide)]; exact h_1689
            have h_1719 : cw_1706 (12) = .inl (cs 0, 200, .inl (fun _ => 0)) := by rw [ecw_1706, va_up_ne _ _ (by decide)]; exact h_1690
            have h_1720 : cw_1706 (13) = .inl (cs 0, 200, .inl (fun _ => 0)) := by rw [ecw_1706, va_up_ne _ _ (by decide)]; exact h_1691
            have h_1721 : cw_1706 (14) = .inl (cs 0, 200, .inl (fun _ => 0)) := by rw [ecw_1706, va_up_ne _ _ (by decide)]; exact h_1692
            have h_1722 : cw_1706 (15) = .inl (cs 1, 200, .inl (fun _ => 0)) := by rw [ecw_1706, va_up_ne _ _ (by decide)]; exact h_1693
            have h_1723 : cw_1706 (16) = .inl (cs 0, 200, .inl (fun _ => 0)) := by rw [ecw_1706, va_up_ne _ _ (by decide)]; exact h_1694
            have h_1724 : cw_1706 (17) = .inl (cs 0, 1600, .inl (fun _ => 0)) := by rw [ecw_1706, va_up_ne _ _ (by decide)]; exact h_1695
            have h_1725 : cw_1706 (18) = .inl (cs 0, 1600, .inl (fun _ => 0)) := by rw [ecw_1706, va_up_ne _ _ (by decide)]; exact h_1696
            have h_1726 : cw_1706 (19) = .inl (cs 0, 200, .inl (fun _ => 0)) := by rw [ecw_1706, va_up_ne _ _ (by decide)]; exact h_1697
            have h_1727 : cw_1706 (20) = .inl (cs 0, 200, .inl (fun _ => 0)) := by rw [ecw_1706, va_up_ne _ _ (by decide)]; exact h_1698
            have h_1728 : cw_1706 (21) = .inl (cs 0, 200, .inl (fun _ => 0)) := by rw [ecw_1706, va_up_ne _ _ (by decide)]; exact h_1699
            have h_1729 : cw_1706 (22) = .inl (cs 0, 200, .inl (fun _ => 0)) := by rw [ecw_1706, va_up_ne _ _ (by decide)]; exact h_1700
            have h_1730 : cw_1706 (23) = .inl (cs 0, 200, .inl (fun _ => 0)) := by rw [ecw_1706, va_up_ne _ _ (by decide)]; exact h_1701
            have h_1731 : cw_1706 (24) = .inl (cs 0, 200, .inl (fun _ => 0)) := by rw [ecw_1706, va_up_ne _ _ (by decide)]; exact h_1702
            have h_1732 : cw_1706 (25) = .inl (cs 0, 200, .inl (fun _ => 0)) := by rw [ecw_1706, va_up_ne _ _ (by decide)]; exact h_1703
            have h_1733 : cw_1706 (26) = .inl (cs 0, 100, .inl (fun _ => 0)) := by rw [ecw_1706, va_up_ne _ _ (by decide)]; exact h_1704
            have h_1734 : cw_1706 (27) = .inl (cs 0, 100, .inl (fun _ => 0)) := by rw [ecw_1706, va_up_ne _ _ (by decide)]; exact h_1705
            clear ecw_1706
            clear h_1678 h_1679 h_1680 h_1681 h_1682 h_1683 h_1684 h_1685 h_1686 h_1687 h_1688 h_1689 h_1690 h_1691 h_1692 h_1693 h_1694 h_1695 h_1696 h_1697 h_1698 h_1699 h_1700 h_1701 h_1702 h_1703 h_1704 h_1705
            refine lv_aload_n hx hb d_M_init_266 rfl (lv_at hl 1 rfl) ?_
            refine pw_getA (ci := 7) (v := .ref (q_24)) hx hb hw i_M hown hK hP (0) (by decide) a_1239 h_1707 rfl 3 (by decide) (hw _ kF_M_16) rfl d_M_init_267 ?_
            refine lv_iload_n hx hb d_M_init_270 rfl (lv_at hl 0 rfl) ?_
            refine lv_iconst (v := 3) hx hb d_M_init_271 (by decide) ?_
            refine pw_iastA (n := 10) (f := (upd (upd (upd (upd (fun _ => 0) (0) (3)) (1) (3)) (2) (3)) (3) (3))) hx hb hK hP hD hS 0 (3) (by decide) a_1242 h_1710 rfl (4) rfl (by decide) (by decide) d_M_init_272 (fun cw_1735 H locs ecw_1735 hP hD hS => ?_)
            have h_1736 : cw_1735 (0) = .inr (7, [.int (0), .ref (q_1), .ref (q_11), .ref (q_24), .int (0), .ref (q_40), .ref (q_59), .ref (q_81), .ref (q_106), .ref (q_134), .ref (q_165), .ref (q_199), .ref (q_236), .ref (q_276), .ref (q_319), .ref (q_365), .ref (q_414), .ref (q_466), .ref (q_521), .ref (q_579), .ref (q_640), .ref (q_704), .int (0), .ref (q_771), .ref (q_841), .int (0), .int (0), .ref (q_914), .ref (q_990), .ref (q_1069), .int (0), .ref (q_1151), .ref (q_1236)]) := by rw [ecw_1735, va_up_ne _ _ (by decide)]; exact h_1707
            have h_1737 : cw_1735 (1) = .inl (cs 0, 10, .inl (upd (upd (upd (upd (upd (fun _ => 0) (0) (30)) (1) (30)) (2) (30)) (3) (30)) (4) (30))) := by rw [ecw_1735, va_up_ne _ _ (by decide)]; exact h_1708
            have h_1738 : cw_1735 (2) = .inl (cs 0, 10, .inl (upd (upd (upd (upd (upd (fun _ => 0) (0) (20)) (1) (20)) (2) (20)) (3) (20)) (4) (20))) := by rw [ecw_1735, va_up_ne _ _ (by decide)]; exact h_1709
            have h_1739 : cw_1735 (3) = .inl (cs 0, 10, .inl (upd (upd (upd (upd (upd (fun _ => 0) (0) (3)) (1) (3)) (2) (3)) (3) (3)) (4) (3))) := by rw [ecw_1735]; exact va_up_self _ _ _
            have h_1740 : cw_1735 (4) = .inl (cs 0, 200, .inl (fun _ => 0)) := by rw [ecw_1735, va_up_ne _ _ (by decide)]; exact h_1711
            have h_1741 : cw_1735 (5) = .inl (cs 0, 200, .inl (fun _ => 0)) := by rw [ecw_1735, va_up_ne _ _ (by decide)]; exact h_1712
            have h_1742 : cw_1735 (6) = .inl (cs 0, 200, .inl (fun _ => 0)) := by rw [ecw_1735, va_up_ne _ _ (by decide)]; exact h_1713
            have h_1743 : cw_1735 (7) = .inl (cs 0, 200, .inl (fun _ => 0)) := by rw [ecw_1735, va_up_ne _ _ (by decide)]; exact h_1714
            have h_1744 : cw_1735 (8) = .inl (cs 0, 200, .inl (fun _ => 0)) := by rw [ecw_1735, va_up_ne _ _ (by decide)]; exact h_1715
            have h_1745 : cw_1735 (9) = .inl (cs 0, 200, .inl (fun _ => 0)) := by rw [ecw_1735, va_up_ne _ _ (by decide)]; exact h_1716
            have h_1746 : cw_1735 (10) = .inl (cs 0, 200, .inl (fun _ => 0)) := by rw [ecw_1735, va_up_ne _ _ (by decide)]; exact h_1717
            have h_1747 : cw_1735 (11) = .inl (cs 0, 200, .inl (fun _ => 0)) := by rw [ecw_1735, va_up_ne _ _ (by decide)]; exact h_1718
            have h_1748 : cw_1735 (12) = .inl (cs 0, 200, .inl (fun _ => 0)) := by rw [ecw_1735, va_up_ne _ _ (by decide)]; exact h_1719
            have h_1749 : cw_1735 (13) = .inl (cs 0, 200, .inl (fun _ => 0)) := by rw [ecw_1735, va_up_ne _ _ (by decide)]; exact h_1720
            have h_1750 : cw_1735 (14) = .inl (cs 0, 200, .inl (fun _ => 0)) := by rw [ecw_1735, va_up_ne _ _ (by decide)]; exact h_1721
            have h_1751 : cw_1735 (15) = .inl (cs 1, 200, .inl (fun _ => 0)) := by rw [ecw_1735, va_up_ne _ _ (by decide)]; exact h_1722
            have h_1752 : cw_1735 (16) = .inl (cs 0, 200, .inl (fun _ => 0)) := by rw [ecw_1735, va_up_ne _ _ (by decide)]; exact h_1723
            have h_1753 : cw_1735 (17) = .inl (cs 0, 1600, .inl (fun _ => 0)) := by rw [ecw_1735, va_up_ne _ _ (by decide)]; exact h_1724
            have h_1754 : cw_1735 (18) = .inl (cs 0, 1600, .inl (fun _ => 0)) := by rw [ecw_1735, va_up_ne _ _ (by decide)]; exact h_1725
            have h_1755 : cw_1735 (19) = .inl (cs 0, 200, .inl (fun _ => 0)) := by rw [ecw_1735, va_up_ne _ _ (by decide)]; exact h_1726
            have h_1756 : cw_1735 (20) = .inl (cs 0, 200, .inl (fun _ => 0)) := by rw [ecw_1735, va_up_ne _ _ (by decide)]; exact h_1727
            have h_1757 : cw_1735 (21) = .inl (cs 0, 200, .inl (fun _ => 0)) := by rw [ecw_1735, va_up_ne _ _ (by decide)]; exact h_1728
            have h_1758 : cw_1735 (22) = .inl (cs 0, 200, .inl (fun _ => 0)) := by rw [ecw_1735, va_up_ne _ _ (by decide)]; exact h_1729
            have h_1759 : cw_1735 (23) = .inl (cs 0, 200, .inl (fun _ => 0)) := by rw [ecw_1735, va_up_ne _ _ (by decide)]; exact h_1730
            have h_1760 : cw_1735 (24) = .inl (cs 0, 200, .inl (fun _ => 0)) := by rw [ecw_1735, va_up_ne _ _ (by decide)]; exact h_1731
            have h_1761 : cw_1735 (25) = .inl (cs 0, 200, .inl (fun _ => 0)) := by rw [ecw_1735, va_up_ne _ _ (by decide)]; exact h_1732
            have h_1762 : cw_1735 (26) = .inl (cs 0, 100, .inl (fun _ => 0)) := by rw [ecw_1735, va_up_ne _ _ (by decide)]; exact h_1733
            have h_1763 : cw_1735 (27) = .inl (cs 0, 100, .inl (fun _ => 0)) := by rw [ecw_1735, va_up_ne _ _ (by decide)]; exact h_1734
            clear ecw_1735
            clear h_1707 h_1708 h_1709 h_1710 h_1711 h_1712 h_1713 h_1714 h_1715 h_1716 h_1717 h_1718 h_1719 h_1720 h_1721 h_1722 h_1723 h_1724 h_1725 h_1726 h_1727 h_1728 h_1729 h_1730 h_1731 h_1732 h_1733 h_1734
            refine lv_iinc (v := 5) (lv' := [(1, .int (5)), (0, .ref (h0))]) hx hb d_M_init_273 hl (k := 0) rfl (by decide) (by decide) rfl (fun ls hl => ?_)
            refine lv_goto (tgt := 244) hx hb d_M_init_276 (by decide) ?_
            refine lv_iload_n hx hb d_M_init_244 rfl (lv_at hl 0 rfl) ?_
            refine lv_bipush (v := 10) hx hb d_M_init_245 (by decide) ?_
            refine lv_icmp_ge (tgt := 279) hx hb d_M_init_247 (by decide) (fun c_1764 => ?_) (fun c_1764 => ?_)
            · exact absurd c_1764 (by decide)
            · skip
              refine lv_aload_n hx hb d_M_init_250 rfl (lv_at hl 1 rfl) ?_
              refine pw_getA (ci := 7) (v := .ref (q_1)) hx hb hw i_M hown hK hP (0) (by decide) a_1239 h_1736 rfl 1 (by decide) (hw _ kF_M_7) rfl d_M_init_251 ?_
              refine lv_iload_n hx hb d_M_init_254 rfl (lv_at hl 0 rfl) ?_
              refine lv_bipush (v := 30) hx hb d_M_init_255 (by decide) ?_
              refine pw_iastA (n := 10) (f := (upd (upd (upd (upd (upd (fun _ => 0) (0) (30)) (1) (30)) (2) (30)) (3) (30)) (4) (30))) hx hb hK hP hD hS 0 (1) (by decide) a_1240 h_1737 rfl (5) rfl (by decide) (by decide) d_M_init_257 (fun cw_1765 H locs ecw_1765 hP hD hS => ?_)
              have h_1766 : cw_1765 (0) = .inr (7, [.int (0), .ref (q_1), .ref (q_11), .ref (q_24), .int (0), .ref (q_40), .ref (q_59), .ref (q_81), .ref (q_106), .ref (q_134), .ref (q_165), .ref (q_199), .ref (q_236), .ref (q_276), .ref (q_319), .ref (q_365), .ref (q_414), .ref (q_466), .ref (q_521), .ref (q_579), .ref (q_640), .ref (q_704), .int (0), .ref (q_771), .ref (q_841), .int (0), .int (0), .ref (q_914), .ref (q_990), .ref (q_1069), .int (0), .ref (q_1151), .ref (q_1236)]) := by rw [ecw_1765, va_up_ne _ _ (by decide)]; exact h_1736
              have h_1767 : cw_1765 (1) = .inl (cs 0, 10, .inl (upd (upd (upd (upd (upd (upd (fun _ => 0) (0) (30)) (1) (30)) (2) (30)) (3) (30)) (4) (30)) (5) (30))) := by rw [ecw_1765]; exact va_up_self _ _ _
              have h_1768 : cw_1765 (2) = .inl (cs 0, 10, .inl (upd (upd (upd (upd (upd (fun _ => 0) (0) (20)) (1) (20)) (2) (20)) (3) (20)) (4) (20))) := by rw [ecw_1765, va_up_ne _ _ (by decide)]; exact h_1738
              have h_1769 : cw_1765 (3) = .inl (cs 0, 10, .inl (upd (upd (upd (upd (upd (fun _ => 0) (0) (3)) (1) (3)) (2) (3)) (3) (3)) (4) (3))) := by rw [ecw_1765, va_up_ne _ _ (by decide)]; exact h_1739
              have h_1770 : cw_1765 (4) = .inl (cs 0, 200, .inl (fun _ => 0)) := by rw [ecw_1765, va_up_ne _ _ (by decide)]; exact h_1740
              have h_1771 : cw_1765 (5) = .inl (cs 0, 200, .inl (fun _ => 0)) := by rw [ecw_1765, va_up_ne _ _ (by decide)]; exact h_1741
              have h_1772 : cw_1765 (6) = .inl (cs 0, 200, .inl (fun _ => 0)) := by rw [ecw_1765, va_up_ne _ _ (by decide)]; exact h_1742
              have h_1773 : cw_1765 (7) = .inl (cs 0, 200, .inl (fun _ => 0)) := by rw [ecw_1765, va_up_ne _ _ (by decide)]; exact h_1743
              have h_1774 : cw_1765 (8) = .inl (cs 0, 200, .inl (fun _ => 0)) := by rw [ecw_1765, va_up_ne _ _ (by decide)]; exact h_1744
              have h_1775 : cw_1765 (9) = .inl (cs 0, 200, .inl (fun _ => 0)) := by rw [ecw_1765, va_up_ne _ _ (by decide)]; exact h_1745
              have h_1776 : cw_1765 (10) = .inl (cs 0, 200, .inl (fun _ => 0)) := by rw [ecw_1765, va_up_ne _ _ (by decide)]; exact h_1746
              have h_1777 : cw_1765 (11) = .inl (cs 0, 200, .inl (fun _ => 0)) := by rw [ecw_1765, va_up_ne _ _ (by decide)]; exact h_1747
              have h_1778 : cw_1765 (12) = .inl (cs 0, 200, .inl (fun _ => 0)) := by rw [ecw_1765, va_up_ne _ _ (by decide)]; exact h_1748
              have h_1779 : cw_1765 (13) = .inl (cs 0, 200, .inl (fun _ => 0)) := by rw [ecw_1765, va_up_ne _ _ (by decide)]; exact h_1749
              have h_1780 : cw_1765 (14) = .inl (cs 0, 200, .inl (fun _ => 0)) := by rw [ecw_1765, va_up_ne _ _ (by decide)]; exact h_1750
              have h_1781 : cw_1765 (15) = .inl (cs 1, 200, .inl (fun _ => 0)) := by rw [ecw_1765, va_up_ne _ _ (by decide)]; exact h_1751
              have h_1782 : cw_1765 (16) = .inl (cs 0, 200, .inl (fun _ => 0)) := by rw [ecw_1765, va_up_ne _ _ (by decide)]; exact h_1752
              have h_1783 : cw_1765 (17) = .inl (cs 0, 1600, .inl (fun _ => 0)) := by rw [ecw_1765, va_up_ne _ _ (by decide)]; exact h_1753
              have h_1784 : cw_1765 (18) = .inl (cs 0, 1600, .inl (fun _ => 0)) := by rw [ecw_1765, va_up_ne _ _ (by decide)]; exact h_1754
              have h_1785 : cw_1765 (19) = .inl (cs 0, 200, .inl (fun _ => 0)) := by rw [ecw_1765, va_up_ne _ _ (by decide)]; exact h_1755
              have h_1786 : cw_1765 (20) = .inl (cs 0, 200, .inl (fun _ => 0)) := by rw [ecw_1765, va_up_ne _ _ (by decide)]; exact h_1756
              have h_1787 : cw_1765 (21) = .inl (cs 0, 200, .inl (fun _ => 0)) := by rw [ecw_1765, va_up_ne _ _ (by decide)]; exact h_1757
              have h_1788 : cw_1765 (22) = .inl (cs 0, 200, .inl (fun _ => 0)) := by rw [ecw_1765, va_up_ne _ _ (by decide)]; exact h_1758
              have h_1789 : cw_1765 (23) = .inl (cs 0, 200, .inl (fun _ => 0)) := by rw [ecw_1765, va_up_ne _ _ (by decide)]; exact h_1759
              have h_1790 : cw_1765 (24) = .inl (cs 0, 200, .inl (fun _ => 0)) := by rw [ecw_1765, va_up_ne _ _ (by decide)]; exact h_1760
              have h_1791 : cw_1765 (25) = .inl (cs 0, 200, .inl (fun _ => 0)) := by rw [ecw_1765, va_up_ne _ _ (by decide)]; exact h_1761
              have h_1792 : cw_1765 (26) = .inl (cs 0, 100, .inl (fun _ => 0)) := by rw [ecw_1765, va_up_ne _ _ (by decide)]; exact h_1762
              have h_1793 : cw_1765 (27) = .inl (cs 0, 100, .inl (fun _ => 0)) := by rw [ecw_1765, va_up_ne _ _ (by decide)]; exact h_1763
              clear ecw_1765
              clear h_1736 h_1737 h_1738 h_1739 h_1740 h_1741 h_1742 h_1743 h_1744 h_1745 h_1746 h_1747 h_1748 h_1749 h_1750 h_1751 h_1752 h_1753 h_1754 h_1755 h_1756 h_1757 h_1758 h_1759 h_1760 h_1761 h_1762 h_1763
              refine lv_aload_n hx hb d_M_init_258 rfl (lv_at hl 1 rfl) ?_
              refine pw_getA (ci := 7) (v := .ref (q_11)) hx hb hw i_M hown hK hP (0) (by decide) a_1239 h_1766 rfl 2 (by decide) (hw _ kF_M_13) rfl d_M_init_259 ?_
              refine lv_iload_n hx hb d_M_init_262 rfl (lv_at hl 0 rfl) ?_
              refine lv_bipush (v := 20) hx hb d_M_init_263 (by decide) ?_
              refine pw_iastA (n := 10) (f := (upd (upd (upd (upd (upd (fun _ => 0) (0) (20)) (1) (20)) (2) (20)) (3) (20)) (4) (20))) hx hb hK hP hD hS 0 (2) (by decide) a_1241 h_1768 rfl (5) rfl (by decide) (by decide) d_M_init_265 (fun cw_1794 H locs ecw_1794 hP hD hS => ?_)
              have h_1795 : cw_1794 (0) = .inr (7, [.int (0), .ref (q_1), .ref (q_11), .ref (q_24), .int (0), .ref (q_40), .ref (q_59), .ref (q_81), .ref (q_106), .ref (q_134), .ref (q_165), .ref (q_199), .ref (q_236), .ref (q_276), .ref (q_319), .ref (q_365), .ref (q_414), .ref (q_466), .ref (q_521), .ref (q_579), .ref (q_640), .ref (q_704), .int (0), .ref (q_771), .ref (q_841), .int (0), .int (0), .ref (q_914), .ref (q_990), .ref (q_1069), .int (0), .ref (q_1151), .ref (q_1236)]) := by rw [ecw_1794, va_up_ne _ _ (by decide)]; exact h_1766
              have h_1796 : cw_1794 (1) = .inl (cs 0, 10, .inl (upd (upd (upd (upd (upd (upd (fun _ => 0) (0) (30)) (1) (30)) (2) (30)) (3) (30)) (4) (30)) (5) (30))) := by rw [ecw_1794, va_up_ne _ _ (by decide)]; exact h_1767
              have h_1797 : cw_1794 (2) = .inl (cs 0, 10, .inl (upd (upd (upd (upd (upd (upd (fun _ => 0) (0) (20)) (1) (20)) (2) (20)) (3) (20)) (4) (20)) (5) (20))) := by rw [ecw_1794]; exact va_up_self _ _ _
              have h_1798 : cw_1794 (3) = .inl (cs 0, 10, .inl (upd (upd (upd (upd (upd (fun _ => 0) (0) (3)) (1) (3)) (2) (3)) (3) (3)) (4) (3))) := by rw [ecw_1794, va_up_ne _ _ (by decide)]; exact h_1769
              have h_1799 : cw_1794 (4) = .inl (cs 0, 200, .inl (fun _ => 0)) := by rw [ecw_1794, va_up_ne _ _ (by decide)]; exact h_1770
              have h_1800 : cw_1794 (5) = .inl (cs 0, 200, .inl (fun _ => 0)) := by rw [ecw_1794, va_up_ne _ _ (by decide)]; exact h_1771
              have h_1801 : cw_1794 (6) = .inl (cs 0, 200, .inl (fun _ => 0)) := by rw [ecw_1794, va_up_ne _ _ (by decide)]; exact h_1772
              have h_1802 : cw_1794 (7) = .inl (cs 0, 200, .inl (fun _ => 0)) := by rw [ecw_1794, va_up_ne _ _ (by decide)]; exact h_1773
              have h_1803 : cw_1794 (8) = .inl (cs 0, 200, .inl (fun _ => 0)) := by rw [ecw_1794, va_up_ne _ _ (by decide)]; exact h_1774
              have h_1804 : cw_1794 (9) = .inl (cs 0, 200, .inl (fun _ => 0)) := by rw [ecw_1794, va_up_ne _ _ (by decide)]; exact h_1775
              have h_1805 : cw_1794 (10) = .inl (cs 0, 200, .inl (fun _ => 0)) := by rw [ecw_1794, va_up_ne _ _ (by decide)]; exact h_1776
              have h_1806 : cw_1794 (11) = .inl (cs 0, 200, .inl (fun _ => 0)) := by rw [ecw_1794, va_up_ne _ _ (by decide)]; exact h_1777
              have h_1807 : cw_1794 (12) = .inl (cs 0, 200, .inl (fun _ => 0)) := by rw [ecw_1794, va_up_ne _ _ (by decide)]; exact h_1778
              have h_1808 : cw_1794 (13) = .inl (cs 0, 200, .inl (fun _ => 0)) := by rw [ecw_1794, va_up_ne _ _ (by decide)]; exact h_1779
              have h_1809 : cw_1794 (14) = .inl (cs 0, 200, .inl (fun _ => 0)) := by rw [ecw_1794, va_up_ne _ _ (by decide)]; exact h_1780
              have h_1810 : cw_1794 (15) = .inl (cs 1, 200, .inl (fun _ => 0)) := by rw [ecw_1794, va_up_ne _ _ (by decide)]; exact h_1781
              have h_1811 : cw_1794 (16) = .inl (cs 0, 200, .inl (fun _ => 0)) := by rw [ecw_1794, va_up_ne _ _ (by decide)]; exact h_1782
              have h_1812 : cw_1794 (17) = .inl (cs 0, 1600, .inl (fun _ => 0)) := by rw [ecw_1794, va_up_ne _ _ (by decide)]; exact h_1783
              have h_1813 : cw_1794 (18) = .inl (cs 0, 1600, .inl (fun _ => 0)) := by rw [ecw_1794, va_up_ne _ _ (by decide)]; exact h_1784
              have h_1814 : cw_1794 (19) = .inl (cs 0, 200, .inl (fun _ => 0)) := by rw [ecw_1794, va_up_ne _ _ (by decide)]; exact h_1785
              have h_1815 : cw_1794 (20) = .inl (cs 0, 200, .inl (fun _ => 0)) := by rw [ecw_1794, va_up_ne _ _ (by decide)]; exact h_1786
              have h_1816 : cw_1794 (21) = .inl (cs 0, 200, .inl (fun _ => 0)) := by rw [ecw_1794, va_up_ne _ _ (by decide)]; exact h_1787
              have h_1817 : cw_1794 (22) = .inl (cs 0, 200, .inl (fun _ => 0)) := by rw [ecw_1794, va_up_ne _ _ (by decide)]; exact h_1788
              have h_1818 : cw_1794 (23) = .inl (cs 0, 200, .inl (fun _ => 0)) := by rw [ecw_1794, va_up_ne _ _ (by decide)]; exact h_1789
              have h_1819 : cw_1794 (24) = .inl (cs 0, 200, .inl (fun _ => 0)) := by rw [ecw_1794, va_up_ne _ _ (by decide)]; exact h_1790
              have h_1820 : cw_1794 (25) = .inl (cs 0, 200, .inl (fun _ => 0)) := by rw [ecw_1794, va_up_ne _ _ (by decide)]; exact h_1791
              have h_1821 : cw_1794 (26) = .inl (cs 0, 100, .inl (fun _ => 0)) := by rw [ecw_1794, va_up_ne _ _ (by decide)]; exact h_1792
              have h_1822 : cw_1794 (27) = .inl (cs 0, 100, .inl (fun _ => 0)) := by rw [ecw_1794, va_up_ne _ _ (by decide)]; exact h_1793
              clear ecw_1794
              clear h_1766 h_1767 h_1768 h_1769 h_1770 h_1771 h_1772 h_1773 h_1774 h_1775 h_1776 h_1777 h_1778 h_1779 h_1780 h_1781 h_1782 h_1783 h_1784 h_1785 h_1786 h_1787 h_1788 h_1789 h_1790 h_1791 h_1792 h_1793
              refine lv_aload_n hx hb d_M_init_266 rfl (lv_at hl 1 rfl) ?_
              refine pw_getA (ci := 7) (v := .ref (q_24)) hx hb hw i_M hown hK hP (0) (by decide) a_1239 h_1795 rfl 3 (by decide) (hw _ kF_M_16) rfl d_M_init_267 ?_
              refine lv_iload_n hx hb d_M_init_270 rfl (lv_at hl 0 rfl) ?_
              refine lv_iconst (v := 3) hx hb d_M_init_271 (by decide) ?_
              refine pw_iastA (n := 10) (f := (upd (upd (upd (upd (upd (fun _ => 0) (0) (3)) (1) (3)) (2) (3)) (3) (3)) (4) (3))) hx hb hK hP hD hS 0 (3) (by decide) a_1242 h_1798 rfl (5) rfl (by decide) (by decide) d_M_init_272 (fun cw_1823 H locs ecw_1823 hP hD hS => ?_)
              have h_1824 : cw_1823 (0) = .inr (7, [.int (0), .ref (q_1), .ref (q_11), .ref (q_24), .int (0), .ref (q_40), .ref (q_59), .ref (q_81), .ref (q_106), .ref (q_134), .ref (q_165), .ref (q_199), .ref (q_236), .ref (q_276), .ref (q_319), .ref (q_365), .ref (q_414), .ref (q_466), .ref (q_521), .ref (q_579), .ref (q_640), .ref (q_704), .int (0), .ref (q_771), .ref (q_841), .int (0), .int (0), .ref (q_914), .ref (q_990), .ref (q_1069), .int (0), .ref (q_1151), .ref (q_1236)]) := by rw [ecw_1823, va_up_ne _ _ (by decide)]; exact h_1795
              have h_1825 : cw_1823 (1) = .inl (cs 0, 10, .inl (upd (upd (upd (upd (upd (upd (fun _ => 0) (0) (30)) (1) (30)) (2) (30)) (3) (30)) (4) (30)) (5) (30))) := by rw [ecw_1823, va_up_ne _ _ (by decide)]; exact h_1796
              have h_1826 : cw_1823 (2) = .inl (cs 0, 10, .inl (upd (upd (upd (upd (upd (upd (fun _ => 0) (0) (20)) (1) (20)) (2) (20)) (3) (20)) (4) (20)) (5) (20))) := by rw [ecw_1823, va_up_ne _ _ (by decide)]; exact h_1797
              have h_1827 : cw_1823 (3) = .inl (cs 0, 10, .inl (upd (upd (upd (upd (upd (upd (fun _ => 0) (0) (3)) (1) (3)) (2) (3)) (3) (3)) (4) (3)) (5) (3))) := by rw [ecw_1823]; exact va_up_self _ _ _
              have h_1828 : cw_1823 (4) = .inl (cs 0, 200, .inl (fun _ => 0)) := by rw [ecw_1823, va_up_ne _ _ (by decide)]; exact h_1799
              have h_1829 : cw_1823 (5) = .inl (cs 0, 200, .inl (fun _ => 0)) := by rw [ecw_1823, va_up_ne _ _ (by decide)]; exact h_1800
              have h_1830 : cw_1823 (6) = .inl (cs 0, 200, .inl (fun _ => 0)) := by rw [ecw_1823, va_up_ne _ _ (by decide)]; exact h_1801
              have h_1831 : cw_1823 (7) = .inl (cs 0, 200, .inl (fun _ => 0)) := by rw [ecw_1823, va_up_ne _ _ (by decide)]; exact h_1802
              have h_1832 : cw_1823 (8) = .inl (cs 0, 200, .inl (fun _ => 0)) := by rw [ecw_1823, va_up_ne _ _ (by decide)]; exact h_1803
              have h_1833 : cw_1823 (9) = .inl (cs 0, 200, .inl (fun _ => 0)) := by rw [ecw_1823, va_up_ne _ _ (by decide)]; exact h_1804
              have h_1834 : cw_1823 (10) = .inl (cs 0, 200, .inl (fun _ => 0)) := by rw [ecw_1823, va_up_ne _ _ (by decide)]; exact h_1805
              have h_1835 : cw_1823 (11) = .inl (cs 0, 200, .inl (fun _ => 0)) := by rw [ecw_1823, va_up_ne _ _ (by decide)]; exact h_1806
              have h_1836 : cw_1823 (12) = .inl (cs 0, 200, .inl (fun _ => 0)) := by rw [ecw_1823, va_up_ne _ _ (by decide)]; exact h_1807
              have h_1837 : cw_1823 (13) = .inl (cs 0, 200, .inl (fun _ => 0)) := by rw [ecw_1823, va_up_ne _ _ (by decide)]; exact h_1808
              have h_1838 : cw_1823 (14) = .inl (cs 0, 200, .inl (fun _ => 0)) := by rw [ecw_1823, va_up_ne _ _ (by decide)]; exact h_1809
              have h_1839 : cw_1823 (15) = .inl (cs 1, 200, .inl (fun _ => 0)) := by rw [ecw_1823, va_up_ne _ _ (by decide)]; exact h_1810
              have h_1840 : cw_1823 (16) = .inl (cs 0, 200, .inl (fun _ => 0)) := by rw [ecw_1823, va_up_ne _ _ (by decide)]; exact h_1811
              have h_1841 : cw_1823 (17) = .inl (cs 0, 1600, .inl (fun _ => 0)) := by rw [ecw_1823, va_up_ne _ _ (by decide)]; exact h_1812
              have h_1842 : cw_1823 (18) = .inl (cs 0, 1600, .inl (fun _ => 0)) := by rw [ecw_1823, va_up_ne _ _ (by decide)]; exact h_1813
              have h_1843 : cw_1823 (19) = .inl (cs 0, 200, .inl (fun _ => 0)) := by rw [ecw_1823, va_up_ne _ _ (by decide)]; exact h_1814
              have h_1844 : cw_1823 (20) = .inl (cs 0, 200, .inl (fun _ => 0)) := by rw [ecw_1823, va_up_ne _ _ (by decide)]; exact h_1815
              have h_1845 : cw_1823 (21) = .inl (cs 0, 200, .inl (fun _ => 0)) := by rw [ecw_1823, va_up_ne _ _ (by decide)]; exact h_1816
              have h_1846 : cw_1823 (22) = .inl (cs 0, 200, .inl (fun _ => 0)) := by rw [ecw_1823, va_up_ne _ _ (by decide)]; exact h_1817
              have h_1847 : cw_1823 (23) = .inl (cs 0, 200, .inl (fun _ => 0)) := by rw [ecw_1823, va_up_ne _ _ (by decide)]; exact h_1818
              have h_1848 : cw_1823 (24) = .inl (cs 0, 200, .inl (fun _ => 0)) := by rw [ecw_1823, va_up_ne _ _ (by decide)]; exact h_1819
              have h_1849 : cw_1823 (25) = .inl (cs 0, 200, .inl (fun _ => 0)) := by rw [ecw_1823, va_up_ne _ _ (by decide)]; exact h_1820
              have h_1850 : cw_1823 (26) = .inl (cs 0, 100, .inl (fun _ => 0)) := by rw [ecw_1823, va_up_ne _ _ (by decide)]; exact h_1821
              have h_1851 : cw_1823 (27) = .inl (cs 0, 100, .inl (fun _ => 0)) := by rw [ecw_1823, va_up_ne _ _ (by decide)]; exact h_1822
              clear ecw_1823
              clear h_1795 h_1796 h_1797 h_1798 h_1799 h_1800 h_1801 h_1802 h_1803 h_1804 h_1805 h_1806 h_1807 h_1808 h_1809 h_1810 h_1811 h_1812 h_1813 h_1814 h_1815 h_1816 h_1817 h_1818 h_1819 h_1820 h_1821 h_1822
              refine lv_iinc (v := 6) (lv' := [(1, .int (6)), (0, .ref (h0))]) hx hb d_M_init_273 hl (k := 0) rfl (by decide) (by decide) rfl (fun ls hl => ?_)
              refine lv_goto (tgt := 244) hx hb d_M_init_276 (by decide) ?_
              refine lv_iload_n hx hb d_M_init_244 rfl (lv_at hl 0 rfl) ?_
              refine lv_bipush (v := 10) hx hb d_M_init_245 (by decide) ?_
              refine lv_icmp_ge (tgt := 279) hx hb d_M_init_247 (by decide) (fun c_1852 => ?_) (fun c_1852 => ?_)
              · exact absurd c_1852 (by decide)
              · skip
                refine lv_aload_n hx hb d_M_init_250 rfl (lv_at hl 1 rfl) ?_
                refine pw_getA (ci := 7) (v := .ref (q_1)) hx hb hw i_M hown hK hP (0) (by decide) a_1239 h_1824 rfl 1 (by decide) (hw _ kF_M_7) rfl d_M_init_251 ?_
                refine lv_iload_n hx hb d_M_init_254 rfl (lv_at hl 0 rfl) ?_
                refine lv_bipush (v := 30) hx hb d_M_init_255 (by decide) ?_
                refine pw_iastA (n := 10) (f := (upd (upd (upd (upd (upd (upd (fun _ => 0) (0) (30)) (1) (30)) (2) (30)) (3) (30)) (4) (30)) (5) (30))) hx hb hK hP hD hS 0 (1) (by decide) a_1240 h_1825 rfl (6) rfl (by decide) (by decide) d_M_init_257 (fun cw_1853 H locs ecw_1853 hP hD hS => ?_)
                have h_1854 : cw_1853 (0) = .inr (7, [.int (0), .ref (q_1), .ref (q_11), .ref (q_24), .int (0), .ref (q_40), .ref (q_59), .ref (q_81), .ref (q_106), .ref (q_134), .ref (q_165), .ref (q_199), .ref (q_236), .ref (q_276), .ref (q_319), .ref (q_365), .ref (q_414), .ref (q_466), .ref (q_521), .ref (q_579), .ref (q_640), .ref (q_704), .int (0), .ref (q_771), .ref (q_841), .int (0), .int (0), .ref (q_914), .ref (q_990), .ref (q_1069), .int (0), .ref (q_1151), .ref (q_1236)]) := by rw [ecw_1853, va_up_ne _ _ (by decide)]; exact h_1824
                have h_1855 : cw_1853 (1) = .inl (cs 0, 10, .inl (upd (upd (upd (upd (upd (upd (upd (fun _ => 0) (0) (30)) (1) (30)) (2) (30)) (3) (30)) (4) (30)) (5) (30)) (6) (30))) := by rw [ecw_1853]; exact va_up_self _ _ _
                have h_1856 : cw_1853 (2) = .inl (cs 0, 10, .inl (upd (upd (upd (upd (upd (upd (fun _ => 0) (0) (20)) (1) (20)) (2) (20)) (3) (20)) (4) (20)) (5) (20))) := by rw [ecw_1853, va_up_ne _ _ (by decide)]; exact h_1826
                have h_1857 : cw_1853 (3) = .inl (cs 0, 10, .inl (upd (upd (upd (upd (upd (upd (fun _ => 0) (0) (3)) (1) (3)) (2) (3)) (3) (3)) (4) (3)) (5) (3))) := by rw [ecw_1853, va_up_ne _ _ (by decide)]; exact h_1827
                have h_1858 : cw_1853 (4) = .inl (cs 0, 200, .inl (fun _ => 0)) := by rw [ecw_1853, va_up_ne _ _ (by decide)]; exact h_1828
                have h_1859 : cw_1853 (5) = .inl (cs 0, 200, .inl (fun _ => 0)) := by rw [ecw_1853, va_up_ne _ _ (by decide)]; exact h_1829
                have h_1860 : cw_1853 (6) = .inl (cs 0, 200, .inl (fun _ => 0)) := by rw [ecw_1853, va_up_ne _ _ (by decide)]; exact h_1830
                have h_1861 : cw_1853 (7) = .inl (cs 0, 200, .inl (fun _ => 0)) := by rw [ecw_1853, va_up_ne _ _ (by decide)]; exact h_1831
                have h_1862 : cw_1853 (8) = .inl (cs 0, 200, .inl (fun _ => 0)) := by rw [ecw_1853, va_up_ne _ _ (by decide)]; exact h_1832
                have h_1863 : cw_1853 (9) = .inl (cs 0, 200, .inl (fun _ => 0)) := by rw [ecw_1853, va_up_ne _ _ (by decide)]; exact h_1833
                have h_1864 : cw_1853 (10) = .inl (cs 0, 200, .inl (fun _ => 0)) := by rw [ecw_1853, va_up_ne _ _ (by decide)]; exact h_1834
                have h_1865 : cw_1853 (11) = .inl (cs 0, 200, .inl (fun _ => 0)) := by rw [ecw_1853, va_up_ne _ _ (by decide)]; exact h_1835
                have h_1866 : cw_1853 (12) = .inl (cs 0, 200, .inl (fun _ => 0)) := by rw [ecw_1853, va_up_ne _ _ (by decide)]; exact h_1836
                have h_1867 : cw_1853 (13) = .inl (cs 0, 200, .inl (fun _ => 0)) := by rw [ecw_1853, va_up_ne _ _ (by decide)]; exact h_1837
                have h_1868 : cw_1853 (14) = .inl (cs 0, 200, .inl (fun _ => 0)) := by rw [ecw_1853, va_up_ne _ _ (by decide)]; exact h_1838
                have h_1869 : cw_1853 (15) = .inl (cs 1, 200, .inl (fun _ => 0)) := by rw [ecw_1853, va_up_ne _ _ (by decide)]; exact h_1839
                have h_1870 : cw_1853 (16) = .inl (cs 0, 200, .inl (fun _ => 0)) := by rw [ecw_1853, va_up_ne _ _ (by decide)]; exact h_1840
                have h_1871 : cw_1853 (17) = .inl (cs 0, 1600, .inl (fun _ => 0)) := by rw [ecw_1853, va_up_ne _ _ (by decide)]; exact h_1841
                have h_1872 : cw_1853 (18) = .inl (cs 0, 1600, .inl (fun _ => 0)) := by rw [ecw_1853, va_up_ne _ _ (by decide)]; exact h_1842
                have h_1873 : cw_1853 (19) = .inl (cs 0, 200, .inl (fun _ => 0)) := by rw [ecw_1853, va_up_ne _ _ (by decide)]; exact h_1843
                have h_1874 : cw_1853 (20) = .inl (cs 0, 200, .inl (fun _ => 0)) := by rw [ecw_1853, va_up_ne _ _ (by decide)]; exact h_1844
                have h_1875 : cw_1853 (21) = .inl (cs 0, 200, .inl (fun _ => 0)) := by rw [ecw_1853, va_up_ne _ _ (by decide)]; exact h_1845
                have h_1876 : cw_1853 (22) = .inl (cs 0, 200, .inl (fun _ => 0)) := by rw [ecw_1853, va_up_ne _ _ (by decide)]; exact h_1846
                have h_1877 : cw_1853 (23) = .inl (cs 0, 200, .inl (fun _ => 0)) := by rw [ecw_1853, va_up_ne _ _ (by decide)]; exact h_1847
                have h_1878 : cw_1853 (24) = .inl (cs 0, 200, .inl (fun _ => 0)) := by rw [ecw_1853, va_up_ne _ _ (by decide)]; exact h_1848
                have h_1879 : cw_1853 (25) = .inl (cs 0, 200, .inl (fun _ => 0)) := by rw [ecw_1853, va_up_ne _ _ (by decide)]; exact h_1849
                have h_1880 : cw_1853 (26) = .inl (cs 0, 100, .inl (fun _ => 0)) := by rw [ecw_1853, va_up_ne _ _ (by decide)]; exact h_1850
                have h_1881 : cw_1853 (27) = .inl (cs 0, 100, .inl (fun _ => 0)) := by rw [ecw_1853, va_up_ne _ _ (by decide)]; exact h_1851
                clear ecw_1853
                clear h_1824 h_1825 h_1826 h_1827 h_1828 h_1829 h_1830 h_1831 h_1832 h_1833 h_1834 h_1835 h_1836 h_1837 h_1838 h_1839 h_1840 h_1841 h_1842 h_1843 h_1844 h_1845 h_1846 h_1847 h_1848 h_1849 h_1850 h_1851
                refine lv_aload_n hx hb d_M_init_258 rfl (lv_at hl 1 rfl) ?_
                refine pw_getA (ci := 7) (v := .ref (q_11)) hx hb hw i_M hown hK hP (0) (by decide) a_1239 h_1854 rfl 2 (by decide) (hw _ kF_M_13) rfl d_M_init_259 ?_
                refine lv_iload_n hx hb d_M_init_262 rfl (lv_at hl 0 rfl) ?_
                refine lv_bipush (v := 20) hx hb d_M_init_263 (by decide) ?_
                refine pw_iastA (n := 10) (f := (upd (upd (upd (upd (upd (upd (fun _ => 0) (0) (20)) (1) (20)) (2) (20)) (3) (20)) (4) (20)) (5) (20))) hx hb hK hP hD hS 0 (2) (by decide) a_1241 h_1856 rfl (6) rfl (by decide) (by decide) d_M_init_265 (fun cw_1882 H locs ecw_1882 hP hD hS => ?_)
                have h_1883 : cw_1882 (0) = .inr (7, [.int (0), .ref (q_1), .ref (q_11), .ref (q_24), .int (0), .ref (q_40), .ref (q_59), .ref (q_81), .ref (q_106), .ref (q_134), .ref (q_165), .ref (q_199), .ref (q_236), .ref (q_276), .ref (q_319), .ref (q_365), .ref (q_414), .ref (q_466), .ref (q_521), .ref (q_579), .ref (q_640), .ref (q_704), .int (0), .ref (q_771), .ref (q_841), .int (0), .int (0), .ref (q_914), .ref (q_990), .ref (q_1069), .int (0), .ref (q_1151), .ref (q_1236)]) := by rw [ecw_1882, va_up_ne _ _ (by decide)]; exact h_1854
                have h_1884 : cw_1882 (1) = .inl (cs 0, 10, .inl (upd (upd (upd (upd (upd (upd (upd (fun _ => 0) (0) (30)) (1) (30)) (2) (30)) (3) (30)) (4) (30)) (5) (30)) (6) (30))) := by rw [ecw_1882, va_up_ne _ _ (by decide)]; exact h_1855
                have h_1885 : cw_1882 (2) = .inl (cs 0, 10, .inl (upd (upd (upd (upd (upd (upd (upd (fun _ => 0) (0) (20)) (1) (20)) (2) (20)) (3) (20)) (4) (20)) (5) (20)) (6) (20))) := by rw [ecw_1882]; exact va_up_self _ _ _
                have h_1886 : cw_1882 (3) = .inl (cs 0, 10, .inl (upd (upd (upd (upd (upd (upd (fun _ => 0) (0) (3)) (1) (3)) (2) (3)) (3) (3)) (4) (3)) (5) (3))) := by rw [ecw_1882, va_up_ne _ _ (by decide)]; exact h_1857
                have h_1887 : cw_1882 (4) = .inl (cs 0, 200, .inl (fun _ => 0)) := by rw [ecw_1882, va_up_ne _ _ (by decide)]; exact h_1858
                have h_1888 : cw_1882 (5) = .inl (cs 0, 200, .inl (fun _ => 0)) := by rw [ecw_1882, va_up_ne _ _ (by decide)]; exact h_1859
                have h_1889 : cw_1882 (6) = .inl (cs 0, 200, .inl (fun _ => 0)) := by rw [ecw_1882, va_up_ne _ _ (by decide)]; exact h_1860
                have h_1890 : cw_1882 (7) = .inl (cs 0, 200, .inl (fun _ => 0)) := by rw [ecw_1882, va_up_ne _ _ (by decide)]; exact h_1861
                have h_1891 : cw_1882 (8) = .inl (cs 0, 200, .inl (fun _ => 0)) := by rw [ecw_1882, va_up_ne _ _ (by decide)]; exact h_1862
                have h_1892 : cw_1882 (9) = .inl (cs 0, 200, .inl (fun _ => 0)) := by rw [ecw_1882, va_up_ne _ _ (by decide)]; exact h_1863
                have h_1893 : cw_1882 (10) = .inl (cs 0, 200, .inl (fun _ => 0)) := by rw [ecw_1882, va_up_ne _ _ (by decide)]; exact h_1864
                have h_1894 : cw_1882 (11) = .inl (cs 0, 200, .inl (fun _ => 0)) := by rw [ecw_1882, va_up_ne _ _ (by decide)]; exact h_1865
                have h_1895 : cw_1882 (12) = .inl (cs 0, 200, .inl (fun _ => 0)) := by rw [ecw_1882, va_up_ne _ _ (by decide)]; exact h_1866
                have h_1896 : cw_1882 (13) = .inl (cs 0, 200, .inl (fun _ => 0)) := by rw [ecw_1882, va_up_ne _ _ (by decide)]; exact h_1867
                have h_1897 : cw_1882 (14) = .inl (cs 0, 200, .inl (fun _ => 0)) := by rw [ecw_1882, va_up_ne _ _ (by decide)]; exact h_1868
                have h_1898 : cw_1882 (15) = .inl (cs 1, 200, .inl (fun _ => 0)) := by rw [ecw_1882, va_up_ne _ _ (by decide)]; exact h_1869
                have h_1899 : cw_1882 (16) = .inl (cs 0, 200, .inl (fun _ => 0)) := by rw [ecw_1882, va_up_ne _ _ (by decide)]; exact h_1870
                have h_1900 : cw_1882 (17) = .inl (cs 0, 1600, .inl (fun _ => 0)) := by rw [ecw_1882, va_up_ne _ _ (by decide)]; exact h_1871
                have h_1901 : cw_1882 (18) = .inl (cs 0, 1600, .inl (fun _ => 0)) := by rw [ecw_1882, va_up_ne _ _ (by decide)]; exact h_1872
                have h_1902 : cw_1882 (19) = .inl (cs 0, 200, .inl (fun _ => 0)) := by rw [ecw_1882, va_up_ne _ _ (by decide)]; exact h_1873
                have h_1903 : cw_1882 (20) = .inl (cs 0, 200, .inl (fun _ => 0)) := by rw [ecw_1882, va_up_ne _ _ (by decide)]; exact h_1874
                have h_1904 : cw_1882 (21) = .inl (cs 0, 200, .inl (fun _ => 0)) := by rw [ecw_1882, va_up_ne _ _ (by decide)]; exact h_1875
                have h_1905 : cw_1882 (22) = .inl (cs 0, 200, .inl (fun _ => 0)) := by rw [ecw_1882, va_up_ne _ _ (by decide)]; exact h_1876
                have h_1906 : cw_1882 (23) = .inl (cs 0, 200, .inl (fun _ => 0)) := by rw [ecw_1882, va_up_ne _ _ (by decide)]; exact h_1877
                have h_1907 : cw_1882 (24) = .inl (cs 0, 200, .inl (fun _ => 0)) := by rw [ecw_1882, va_up_ne _ _ (by decide)]; exact h_1878
                have h_1908 : cw_1882 (25) = .inl (cs 0, 200, .inl (fun _ => 0)) := by rw [ecw_1882, va_up_ne _ _ (by decide)]; exact h_1879
                have h_1909 : cw_1882 (26) = .inl (cs 0, 100, .inl (fun _ => 0)) := by rw [ecw_1882, va_up_ne _ _ (by decide)]; exact h_1880
                have h_1910 : cw_1882 (27) = .inl (cs 0, 100, .inl (fun _ => 0)) := by rw [ecw_1882, va_up_ne _ _ (by decide)]; exact h_1881
                clear ecw_1882
                clear h_1854 h_1855 h_1856 h_1857 h_1858 h_1859 h_1860 h_1861 h_1862 h_1863 h_1864 h_1865 h_1866 h_1867 h_1868 h_1869 h_1870 h_1871 h_1872 h_1873 h_1874 h_1875 h_1876 h_1877 h_1878 h_1879 h_1880 h_1881
                refine lv_aload_n hx hb d_M_init_266 rfl (lv_at hl 1 rfl) ?_
                refine pw_getA (ci := 7) (v := .ref (q_24)) hx hb hw i_M hown hK hP (0) (by decide) a_1239 h_1883 rfl 3 (by decide) (hw _ kF_M_16) rfl d_M_init_267 ?_
                refine lv_iload_n hx hb d_M_init_270 rfl (lv_at hl 0 rfl) ?_
                refine lv_iconst (v := 3) hx hb d_M_init_271 (by decide) ?_
                refine pw_iastA (n := 10) (f := (upd (upd (upd (upd (upd (upd (fun _ => 0) (0) (3)) (1) (3)) (2) (3)) (3) (3)) (4) (3)) (5) (3))) hx hb hK hP hD hS 0 (3) (by decide) a_1242 h_1886 rfl (6) rfl (by decide) (by decide) d_M_init_272 (fun cw_1911 H locs ecw_1911 hP hD hS => ?_)
                have h_1912 : cw_1911 (0) = .inr (7, [.int (0), .ref (q_1), .ref (q_11), .ref (q_24), .int (0), .ref (q_40), .ref (q_59), .ref (q_81), .ref (q_106), .ref (q_134), .ref (q_165), .ref (q_199), .ref (q_236), .ref (q_276), .ref (q_319), .ref (q_365), .ref (q_414), .ref (q_466), .ref (q_521), .ref (q_579), .ref (q_640), .ref (q_704), .int (0), .ref (q_771), .ref (q_841), .int (0), .int (0), .ref (q_914), .ref (q_990), .ref (q_1069), .int (0), .ref (q_1151), .ref (q_1236)]) := by rw [ecw_1911, va_up_ne _ _ (by decide)]; exact h_1883
                have h_1913 : cw_1911 (1) = .inl (cs 0, 10, .inl (upd (upd (upd (upd (upd (upd (upd (fun _ => 0) (0) (30)) (1) (30)) (2) (30)) (3) (30)) (4) (30)) (5) (30)) (6) (30))) := by rw [ecw_1911, va_up_ne _ _ (by decide)]; exact h_1884
                have h_1914 : cw_1911 (2) = .inl (cs 0, 10, .inl (upd (upd (upd (upd (upd (upd (upd (fun _ => 0) (0) (20)) (1) (20)) (2) (20)) (3) (20)) (4) (20)) (5) (20)) (6) (20))) := by rw [ecw_1911, va_up_ne _ _ (by decide)]; exact h_1885
                have h_1915 : cw_1911 (3) = .inl (cs 0, 10, .inl (upd (upd (upd (upd (upd (upd (upd (fun _ => 0) (0) (3)) (1) (3)) (2) (3)) (3) (3)) (4) (3)) (5) (3)) (6) (3))) := by rw [ecw_1911]; exact va_up_self _ _ _
                have h_1916 : cw_1911 (4) = .inl (cs 0, 200, .inl (fun _ => 0)) := by rw [ecw_1911, va_up_ne _ _ (by decide)]; exact h_1887
                have h_1917 : cw_1911 (5) = .inl (cs 0, 200, .inl (fun _ => 0)) := by rw [ecw_1911, va_up_ne _ _ (by decide)]; exact h_1888
                have h_1918 : cw_1911 (6) = .inl (cs 0, 200, .inl (fun _ => 0)) := by rw [ecw_1911, va_up_ne _ _ (by decide)]; exact h_1889
                have h_1919 : cw_1911 (7) = .inl (cs 0, 200, .inl (fun _ => 0)) := by rw [ecw_1911, va_up_ne _ _ (by decide)]; exact h_1890
                have h_1920 : cw_1911 (8) = .inl (cs 0, 200, .inl (fun _ => 0)) := by rw [ecw_1911, va_up_ne _ _ (by decide)]; exact h_1891
                have h_1921 : cw_1911 (9) = .inl (cs 0, 200, .inl (fun _ => 0)) := by rw [ecw_1911, va_up_ne _ _ (by decide)]; exact h_1892
                have h_1922 : cw_1911 (10) = .inl (cs 0, 200, .inl (fun _ => 0)) := by rw [ecw_1911, va_up_ne _ _ (by decide)]; exact h_1893
                have h_1923 : cw_1911 (11) = .inl (cs 0, 200, .inl (fun _ => 0)) := by rw [ecw_1911, va_up_ne _ _ (by decide)]; exact h_1894
                have h_1924 : cw_1911 (12) = .inl (cs 0, 200, .inl (fun _ => 0)) := by rw [ecw_1911, va_up_ne _ _ (by decide)]; exact h_1895
                have h_1925 : cw_1911 (13) = .inl (cs 0, 200, .inl (fun _ => 0)) := by rw [ecw_1911, va_up_ne _ _ (by decide)]; exact h_1896
                have h_1926 : cw_1911 (14) = .inl (cs 0, 200, .inl (fun _ => 0)) := by rw [ecw_1911, va_up_ne _ _ (by decide)]; exact h_1897
                have h_1927 : cw_1911 (15) = .inl (cs 1, 200, .inl (fun _ => 0)) := by rw [ecw_1911, va_up_ne _ _ (by decide)]; exact h_1898
                have h_1928 : cw_1911 (16) = .inl (cs 0, 200, .inl (fun _ => 0)) := by rw [ecw_1911, va_up_ne _ _ (by decide)]; exact h_1899
                have h_1929 : cw_1911 (17) = .inl (cs 0, 1600, .inl (fun _ => 0)) := by rw [ecw_1911, va_up_ne _ _ (by decide)]; exact h_1900
                have h_1930 : cw_1911 (18) = .inl (cs 0, 1600, .inl (fun _ => 0)) := by rw [ecw_1911, va_up_ne _ _ (by decide)]; exact h_1901
                have h_1931 : cw_1911 (19) = .inl (cs 0, 200, .inl (fun _ => 0)) := by rw [ecw_1911, va_up_ne _ _ (by decide)]; exact h_1902
                have h_1932 : cw_1911 (20) = .inl (cs 0, 200, .inl (fun _ => 0)) := by rw [ecw_1911, va_up_ne _ _ (by decide)]; exact h_1903
                have h_1933 : cw_1911 (21) = .inl (cs 0, 200, .inl (fun _ => 0)) := by rw [ecw_1911, va_up_ne _ _ (by decide)]; exact h_1904
                have h_1934 : cw_1911 (22) = .inl (cs 0, 200, .inl (fun _ => 0)) := by rw [ecw_1911, va_up_ne _ _ (by decide)]; exact h_1905
                have h_1935 : cw_1911 (23) = .inl (cs 0, 200, .inl (fun _ => 0)) := by rw [ecw_1911, va_up_ne _ _ (by decide)]; exact h_1906
                have h_1936 : cw_1911 (24) = .inl (cs 0, 200, .inl (fun _ => 0)) := by rw [ecw_1911, va_up_ne _ _ (by decide)]; exact h_1907
                have h_1937 : cw_1911 (25) = .inl (cs 0, 200, .inl (fun _ => 0)) := by rw [ecw_1911, va_up_ne _ _ (by decide)]; exact h_1908
                have h_1938 : cw_1911 (26) = .inl (cs 0, 100, .inl (fun _ => 0)) := by rw [ecw_1911, va_up_ne _ _ (by decide)]; exact h_1909
                have h_1939 : cw_1911 (27) = .inl (cs 0, 100, .inl (fun _ => 0)) := by rw [ecw_1911, va_up_ne _ _ (by decide)]; exact h_1910
                clear ecw_1911
                clear h_1883 h_1884 h_1885 h_1886 h_1887 h_1888 h_1889 h_1890 h_1891 h_1892 h_1893 h_1894 h_1895 h_1896 h_1897 h_1898 h_1899 h_1900 h_1901 h_1902 h_1903 h_1904 h_1905 h_1906 h_1907 h_1908 h_1909 h_1910
                refine lv_iinc (v := 7) (lv' := [(1, .int (7)), (0, .ref (h0))]) hx hb d_M_init_273 hl (k := 0) rfl (by decide) (by decide) rfl (fun ls hl => ?_)
                refine lv_goto (tgt := 244) hx hb d_M_init_276 (by decide) ?_
                refine lv_iload_n hx hb d_M_init_244 rfl (lv_at hl 0 rfl) ?_
                refine lv_bipush (v := 10) hx hb d_M_init_245 (by decide) ?_
                refine lv_icmp_ge (tgt := 279) hx hb d_M_init_247 (by decide) (fun c_1940 => ?_) (fun c_1940 => ?_)
                · exact absurd c_1940 (by decide)
                · skip
                  refine lv_aload_n hx hb d_M_init_250 rfl (lv_at hl 1 rfl) ?_
                  refine pw_getA (ci := 7) (v := .ref (q_1)) hx hb hw i_M hown hK hP (0) (by decide) a_1239 h_1912 rfl 1 (by decide) (hw _ kF_M_7) rfl d_M_init_251 ?_
                  refine lv_iload_n hx hb d_M_init_254 rfl (lv_at hl 0 rfl) ?_
                  refine lv_bipush (v := 30) hx hb d_M_init_255 (by decide) ?_
                  refine pw_iastA (n := 10) (f := (upd (upd (upd (upd (upd (upd (upd (fun _ => 0) (0) (30)) (1) (30)) (2) (30)) (3) (30)) (4) (30)) (5) (30)) (6) (30))) hx hb hK hP hD hS 0 (1) (by decide) a_1240 h_1913 rfl (7) rfl (by decide) (by decide) d_M_init_257 (fun cw_1941 H locs ecw_1941 hP hD hS => ?_)
                  have h_1942 : cw_1941 (0) = .inr (7, [.int (0), .ref (q_1), .ref (q_11), .ref (q_24), .int (0), .ref (q_40), .ref (q_59), .ref (q_81), .ref (q_106), .ref (q_134), .ref (q_165), .ref (q_199), .ref (q_236), .ref (q_276), .ref (q_319), .ref (q_365), .ref (q_414), .ref (q_466), .ref (q_521), .ref (q_579), .ref (q_640), .ref (q_704), .int (0), .ref (q_771), .ref (q_841), .int (0), .int (0), .ref (q_914), .ref (q_990), .ref (q_1069), .int (0), .ref (q_1151), .ref (q_1236)]) := by rw [ecw_1941, va_up_ne _ _ (by decide)]; exact h_1912
                  have h_1943 : cw_1941 (1) = .inl (cs 0, 10, .inl (upd (upd (upd (upd (upd (upd (upd (upd (fun _ => 0) (0) (30)) (1) (30)) (2) (30)) (3) (30)) (4) (30)) (5) (30)) (6) (30)) (7) (30))) := by rw [ecw_1941]; exact va_up_self _ _ _
                  have h_1944 : cw_1941 (2) = .inl (cs 0, 10, .inl (upd (upd (upd (upd (upd (upd (upd (fun _ => 0) (0) (20)) (1) (20)) (2) (20)) (3) (20)) (4) (20)) (5) (20)) (6) (20))) := by rw [ecw_1941, va_up_ne _ _ (by decide)]; exact h_1914
                  have h_1945 : cw_1941 (3) = .inl (cs 0, 10, .inl (upd (upd (upd (upd (upd (upd (upd (fun _ => 0) (0) (3)) (1) (3)) (2) (3)) (3) (3)) (4) (3)) (5) (3)) (6) (3))) := by rw [ecw_1941, va_up_ne _ _ (by decide)]; exact h_1915
                  have h_1946 : cw_1941 (4) = .inl (cs 0, 200, .inl (fun _ => 0)) := by rw [ecw_1941, va_up_ne _ _ (by decide)]; exact h_1916
                  have h_1947 : cw_1941 (5) = .inl (cs 0, 200, .inl (fun _ => 0)) := by rw [ecw_1941, va_up_ne _ _ (by decide)]; exact h_1917
                  have h_1948 : cw_1941 (6) = .inl (cs 0, 200, .inl (fun _ => 0)) := by rw [ecw_1941, va_up_ne _ _ (by decide)]; exact h_1918
                  have h_1949 : cw_1941 (7) = .inl (cs 0, 200, .inl (fun _ => 0)) := by rw [ecw_1941, va_up_ne _ _ (by decide)]; exact h_1919
                  have h_1950 : cw_1941 (8) = .inl (cs 0, 200, .inl (fun _ => 0)) := by rw [ecw_1941, va_up_ne _ _ (by decide)]; exact h_1920
                  have h_1951 : cw_1941 (9) = .inl (cs 0, 200, .inl (fun _ => 0)) := by rw [ecw_1941, va_up_ne _ _ (by decide)]; exact h_1921
                  have h_1952 : cw_1941 (10) = .inl (cs 0, 200, .inl (fun _ => 0)) := by rw [ecw_1941, va_up_ne _ _ (by decide)]; exact h_1922
                  have h_1953 : cw_1941 (11) = .inl (cs 0, 200, .inl (fun _ => 0)) := by rw [ecw_1941, va_up_ne _ _ (by decide)]; exact h_1923
                  have h_1954 : cw_1941 (12) = .inl (cs 0, 200, .inl (fun _ => 0)) := by rw [ecw_1941, va_up_ne _ _ (by decide)]; exact h_1924
                  have h_1955 : cw_1941 (13) = .inl (cs 0, 200, .inl (fun _ => 0)) := by rw [ecw_1941, va_up_ne _ _ (by decide)]; exact h_1925
                  have h_1956 : cw_1941 (14) = .inl (cs 0, 200, .inl (fun _ => 0)) := by rw [ecw_1941, va_up_ne _ _ (by decide)]; exact h_1926
                  have h_1957 : cw_1941 (15) = .inl (cs 1, 200, .inl (fun _ => 0)) := by rw [ecw_1941, va_up_ne _ _ (by decide)]; exact h_1927
                  have h_1958 : cw_1941 (16) = .inl (cs 0, 200, .inl (fun _ => 0)) := by rw [ecw_1941, va_up_ne _ _ (by decide)]; exact h_1928
                  have h_1959 : cw_1941 (17) = .inl (cs 0, 1600, .inl (fun _ => 0)) := by rw [ecw_1941, va_up_ne _ _ (by decide)]; exact h_1929
                  have h_1960 : cw_1941 (18) = .inl (cs 0, 1600, .inl (fun _ => 0)) := by rw [ecw_1941, va_up_ne _ _ (by decide)]; exact h_1930
                  have h_1961 : cw_1941 (19) = .inl (cs 0, 200, .inl (fun _ => 0)) := by rw [ecw_1941, va_up_ne _ _ (by decide)]; exact h_1931
                  have h_1962 : cw_1941 (20) = .inl (cs 0, 200, .inl (fun _ => 0)) := by rw [ecw_1941, va_up_ne _ _ (by decide)]; exact h_1932
                  have h_1963 : cw_1941 (21) = .inl (cs 0, 200, .inl (fun _ => 0)) := by rw [ecw_1941, va_up_ne _ _ (by decide)]; exact h_1933
                  have h_1964 : cw_1941 (22) = .inl (cs 0, 200, .inl (fun _ => 0)) := by rw [ecw_1941, va_up_ne _ _ (by decide)]; exact h_1934
                  have h_1965 : cw_1941 (23) = .inl (cs 0, 200, .inl (fun _ => 0)) := by rw [ecw_1941, va_up_ne _ _ (by decide)]; exact h_1935
                  have h_1966 : cw_1941 (24) = .inl (cs 0, 200, .inl (fun _ => 0)) := by rw [ecw_1941, va_up_ne _ _ (by decide)]; exact h_1936
                  have h_1967 : cw_1941 (25) = .inl (cs 0, 200, .inl (fun _ => 0)) := by rw [ecw_1941, va_up_ne _ _ (by decide)]; exact h_1937
                  have h_1968 : cw_1941 (26) = .inl (cs 0, 100, .inl (fun _ => 0)) := by rw [ecw_1941, va_up_ne _ _ (by decide)]; exact h_1938
                  have h_1969 : cw_1941 (27) = .inl (cs 0, 100, .inl (fun _ => 0)) := by rw [ecw_1941, va_up_ne _ _ (by decide)]; exact h_1939
                  clear ecw_1941
                  clear h_1912 h_1913 h_1914 h_1915 h_1916 h_1917 h_1918 h_1919 h_1920 h_1921 h_1922 h_1923 h_1924 h_1925 h_1926 h_1927 h_1928 h_1929 h_1930 h_1931 h_1932 h_1933 h_1934 h_1935 h_1936 h_1937 h_1938 h_1939
                  refine lv_aload_n hx hb d_M_init_258 rfl (lv_at hl 1 rfl) ?_
                  refine pw_getA (ci := 7) (v := .ref (q_11)) hx hb hw i_M hown hK hP (0) (by decide) a_1239 h_1942 rfl 2 (by decide) (hw _ kF_M_13) rfl d_M_init_259 ?_
                  refine lv_iload_n hx hb d_M_init_262 rfl (lv_at hl 0 rfl) ?_
                  refine lv_bipush (v := 20) hx hb d_M_init_263 (by decide) ?_
                  refine pw_iastA (n := 10) (f := (upd (upd (upd (upd (upd (upd (upd (fun _ => 0) (0) (20)) (1) (20)) (2) (20)) (3) (20)) (4) (20)) (5) (20)) (6) (20))) hx hb hK hP hD hS 0 (2) (by decide) a_1241 h_1944 rfl (7) rfl (by decide) (by decide) d_M_init_265 (fun cw_1970 H locs ecw_1970 hP hD hS => ?_)
                  have h_1971 : cw_1970 (0) = .inr (7, [.int (0), .ref (q_1), .ref (q_11), .ref (q_24), .int (0), .ref (q_40), .ref (q_59), .ref (q_81), .ref (q_106), .ref (q_134), .ref (q_165), .ref (q_199), .ref (q_236), .ref (q_276), .ref (q_319), .ref (q_365), .ref (q_414), .ref (q_466), .ref (q_521), .ref (q_579), .ref (q_640), .ref (q_704), .int (0), .ref (q_771), .ref (q_841), .int (0), .int (0), .ref (q_914), .ref (q_990), .ref (q_1069), .int (0), .ref (q_1151), .ref (q_1236)]) := by rw [ecw_1970, va_up_ne _ _ (by decide)]; exact h_1942
                  have h_1972 : cw_1970 (1) = .inl (cs 0, 10, .inl (upd (upd (upd (upd (upd (upd (upd (upd (fun _ => 0) (0) (30)) (1) (30)) (2) (30)) (3) (30)) (4) (30)) (5) (30)) (6) (30)) (7) (30))) := by rw [ecw_1970, va_up_ne _ _ (by decide)]; exact h_1943
                  have h_1973 : cw_1970 (2) = .inl (cs 0, 10, .inl (upd (upd (upd (upd (upd (upd (upd (upd (fun _ => 0) (0) (20)) (1) (20)) (2) (20)) (3) (20)) (4) (20)) (5) (20)) (6) (20)) (7) (20))) := by rw [ecw_1970]; exact va_up_self _ _ _
                  have h_1974 : cw_1970 (3) = .inl (cs 0, 10, .inl (upd (upd (upd (upd (upd (upd (upd (fun _ => 0) (0) (3)) (1) (3)) (2) (3)) (3) (3)) (4) (3)) (5) (3)) (6) (3))) := by rw [ecw_1970, va_up_ne _ _ (by decide)]; exact h_1945
                  have h_1975 : cw_1970 (4) = .inl (cs 0, 200, .inl (fun _ => 0)) := by rw [ecw_1970, va_up_ne _ _ (by decide)]; exact h_1946
                  have h_1976 : cw_1970 (5) = .inl (cs 0, 200, .inl (fun _ => 0)) := by rw [ecw_1970, va_up_ne _ _ (by decide)]; exact h_1947
                  have h_1977 : cw_1970 (6) = .inl (cs 0, 200, .inl (fun _ => 0)) := by rw [ecw_1970, va_up_ne _ _ (by decide)]; exact h_1948
                  have h_1978 : cw_1970 (7) = .inl (cs 0, 200, .inl (fun _ => 0)) := by rw [ecw_1970, va_up_ne _ _ (by decide)]; exact h_1949
                  have h_1979 : cw_1970 (8) = .inl (cs 0, 200, .inl (fun _ => 0)) := by rw [ecw_1970, va_up_ne _ _ (by decide)]; exact h_1950
                  have h_1980 : cw_1970 (9) = .inl (cs 0, 200, .inl (fun _ => 0)) := by rw [ecw_1970, va_up_ne _ _ (by decide)]; exact h_1951
                  have h_1981 : cw_1970 (10) = .inl (cs 0, 200, .inl (fun _ => 0)) := by rw [ecw_1970, va_up_ne _ _ (by decide)]; exact h_1952
                  have h_1982 : cw_1970 (11) = .inl (cs 0, 200, .inl (fun _ => 0)) := by rw [ecw_1970, va_up_ne _ _ (by decide)]; exact h_1953
                  have h_1983 : cw_1970 (12) = .inl (cs 0, 200, .inl (fun _ => 0)) := by rw [ecw_1970, va_up_ne _ _ (by decide)]; exact h_1954
                  have h_1984 : cw_1970 (13) = .inl (cs 0, 200, .inl (fun _ => 0)) := by rw [ecw_1970, va_up_ne _ _ (by decide)]; exact h_1955
                  have h_1985 : cw_1970 (14) = .inl (cs 0, 200, .inl (fun _ => 0)) := by rw [ecw_1970, va_up_ne _ _ (by decide)]; exact h_1956
                  have h_1986 : cw_1970 (15) = .inl (cs 1, 200, .inl (fun _ => 0)) := by rw [ecw_1970, va_up_ne _ _ (by decide)]; exact h_1957
                  have h_1987 : cw_1970 (16) = .inl (cs 0, 200, .inl (fun _ => 0)) := by rw [ecw_1970, va_up_ne _ _ (by decide)]; exact h_1958
                  have h_1988 : cw_1970 (17) = .inl (cs 0, 1600, .inl (fun _ => 0)) := by rw [ecw_1970, va_up_ne _ _ (by decide)]; exact h_1959
                  have h_1989 : cw_1970 (18) = .inl (cs 0, 1600, .inl (fun _ => 0)) := by rw [ecw_1970, va_up_ne _ _ (by decide)]; exact h_1960
                  have h_1990 : cw_1970 (19) = .inl (cs 0, 200, .inl (fun _ => 0)) := by rw [ecw_1970, va_up_ne _ _ (by decide)]; exact h_1961
                  have h_1991 : cw_1970 (20) = .inl (cs 0, 200, .inl (fun _ => 0)) := by rw [ecw_1970, va_up_ne _ _ (by decide)]; exact h_1962
                  have h_1992 : cw_1970 (21) = .inl (cs 0, 200, .inl (fun _ => 0)) := by rw [ecw_1970, va_up_ne _ _ (by decide)]; exact h_1963
                  have h_1993 : cw_1970 (22) = .inl (cs 0, 200, .inl (fun _ => 0)) := by rw [ecw_1970, va_up_ne _ _ (by decide)]; exact h_1964
                  have h_1994 : cw_1970 (23) = .inl (cs 0, 200, .inl (fun _ => 0)) := by rw [ecw_1970, va_up_ne _ _ (by decide)]; exact h_1965
                  have h_1995 : cw_1970 (24) = .inl (cs 0, 200, .inl (fun _ => 0)) := by rw [ecw_1970, va_up_ne _ _ (by decide)]; exact h_1966
                  have h_1996 : cw_1970 (25) = .inl (cs 0, 200, .inl (fun _ => 0)) := by rw [ecw_1970, va_up_ne _ _ (by decide)]; exact h_1967
                  have h_1997 : cw_1970 (26) = .inl (cs 0, 100, .inl (fun _ => 0)) := by rw [ecw_1970, va_up_ne _ _ (by decide)]; exact h_1968
                  have h_1998 : cw_1970 (27) = .inl (cs 0, 100, .inl (fun _ => 0)) := by rw [ecw_1970, va_up_ne _ _ (by decide)]; exact h_1969
                  clear ecw_1970
                  clear h_1942 h_1943 h_1944 h_1945 h_1946 h_1947 h_1948 h_1949 h_1950 h_1951 h_1952 h_1953 h_1954 h_1955 h_1956 h_1957 h_1958 h_1959 h_1960 h_1961 h_1962 h_1963 h_1964 h_1965 h_1966 h_1967 h_1968 h_1969
                  refine lv_aload_n hx hb d_M_init_266 rfl (lv_at hl 1 rfl) ?_
                  refine pw_getA (ci := 7) (v := .ref (q_24)) hx hb hw i_M hown hK hP (0) (by decide) a_1239 h_1971 rfl 3 (by decide) (hw _ kF_M_16) rfl d_M_init_267 ?_
                  refine lv_iload_n hx hb d_M_init_270 rfl (lv_at hl 0 rfl) ?_
                  refine lv_iconst (v := 3) hx hb d_M_init_271 (by decide) ?_
                  refine pw_iastA (n := 10) (f := (upd (upd (upd (upd (upd (upd (upd (fun _ => 0) (0) (3)) (1) (3)) (2) (3)) (3) (3)) (4) (3)) (5) (3)) (6) (3))) hx hb hK hP hD hS 0 (3) (by decide) a_1242 h_1974 rfl (7) rfl (by decide) (by decide) d_M_init_272 (fun cw_1999 H locs ecw_1999 hP hD hS => ?_)
                  have h_2000 : cw_1999 (0) = .inr (7, [.int (0), .ref (q_1), .ref (q_11), .ref (q_24), .int (0), .ref (q_40), .ref (q_59), .ref (q_81), .ref (q_106), .ref (q_134), .ref (q_165), .ref (q_199), .ref (q_236), .ref (q_276), .ref (q_319), .ref (q_365), .ref (q_414), .ref (q_466), .ref (q_521), .ref (q_579), .ref (q_640), .ref (q_704), .int (0), .ref (q_771), .ref (q_841), .int (0), .int (0), .ref (q_914), .ref (q_990), .ref (q_1069), .int (0), .ref (q_1151), .ref (q_1236)]) := by rw [ecw_1999, va_up_ne _ _ (by decide)]; exact h_1971
                  have h_2001 : cw_1999 (1) = .inl (cs 0, 10, .inl (upd (upd (upd (upd (upd (upd (upd (upd (fun _ => 0) (0) (30)) (1) (30)) (2) (30)) (3) (30)) (4) (30)) (5) (30)) (6) (30)) (7) (30))) := by rw [ecw_1999, va_up_ne _ _ (by decide)]; exact h_1972
                  have h_2002 : cw_1999 (2) = .inl (cs 0, 10, .inl (upd (upd (upd (upd (upd (upd (upd (upd (fun _ => 0) (0) (20)) (1) (20)) (2) (20)) (3) (20)) (4) (20)) (5) (20)) (6) (20)) (7) (20))) := by rw [ecw_1999, va_up_ne _ _ (by decide)]; exact h_1973
                  have h_2003 : cw_1999 (3) = .inl (cs 0, 10, .inl (upd (upd (upd (upd (upd (upd (upd (upd (fun _ => 0) (0) (3)) (1) (3)) (2) (3)) (3) (3)) (4) (3)) (5) (3)) (6) (3)) (7) (3))) := by rw [ecw_1999]; exact va_up_self _ _ _
                  have h_2004 : cw_1999 (4) = .inl (cs 0, 200, .inl (fun _ => 0)) := by rw [ecw_1999, va_up_ne _ _ (by decide)]; exact h_1975
                  have h_2005 : cw_1999 (5) = .inl (cs 0, 200, .inl (fun _ => 0)) := by rw [ecw_1999, va_up_ne _ _ (by decide)]; exact h_1976
                  have h_2006 : cw_1999 (6) = .inl (cs 0, 200, .inl (fun _ => 0)) := by rw [ecw_1999, va_up_ne _ _ (by decide)]; exact h_1977
                  have h_2007 : cw_1999 (7) = .inl (cs 0, 200, .inl (fun _ => 0)) := by rw [ecw_1999, va_up_ne _ _ (by decide)]; exact h_1978
                  have h_2008 : cw_1999 (8) = .inl (cs 0, 200, .inl (fun _ => 0)) := by rw [ecw_1999, va_up_ne _ _ (by decide)]; exact h_1979
                  have h_2009 : cw_1999 (9) = .inl (cs 0, 200, .inl (fun _ => 0)) := by rw [ecw_1999, va_up_ne _ _ (by decide)]; exact h_1980
                  have h_2010 : cw_1999 (10) = .inl (cs 0, 200, .inl (fun _ => 0)) := by rw [ecw_1999, va_up_ne _ _ (by decide)]; exact h_1981
                  have h_2011 : cw_1999 (11) = .inl (cs 0, 200, .inl (fun _ => 0)) := by rw [ecw_1999, va_up_ne _ _ (by decide)]; exact h_1982
                  have h_2012 : cw_1999 (12) = .inl (cs 0, 200, .inl (fun _ => 0)) := by rw [ecw_1999, va_up_ne _ _ (by decide)]; exact h_1983
                  have h_2013 : cw_1999 (13) = .inl (cs 0, 200, .inl (fun _ => 0)) := by rw [ecw_1999, va_up_ne _ _ (by decide)]; exact h_1984
                  have h_2014 : cw_1999 (14) = .inl (cs 0, 200, .inl (fun _ => 0)) := by rw [ecw_1999, va_up_ne _ _ (by decide)]; exact h_1985
                  have h_2015 : cw_1999 (15) = .inl (cs 1, 200, .inl (fun _ => 0)) := by rw [ecw_1999, va_up_ne _ _ (by decide)]; exact h_1986
                  have h_2016 : cw_1999 (16) = .inl (cs 0, 200, .inl (fun _ => 0)) := by rw [ecw_1999, va_up_ne _ _ (by decide)]; exact h_1987
                  have h_2017 : cw_1999 (17) = .inl (cs 0, 1600, .inl (fun _ => 0)) := by rw [ecw_1999, va_up_ne _ _ (by decide)]; exact h_1988
                  have h_2018 : cw_1999 (18) = .inl (cs 0, 1600, .inl (fun _ => 0)) := by rw [ecw_1999, va_up_ne _ _ (by decide)]; exact h_1989
                  have h_2019 : cw_1999 (19) = .inl (cs 0, 200, .inl (fun _ => 0)) := by rw [ecw_1999, va_up_ne _ _ (by decide)]; exact h_1990
                  have h_2020 : cw_1999 (20) = .inl (cs 0, 200, .inl (fun _ => 0)) := by rw [ecw_1999, va_up_ne _ _ (by decide)]; exact h_1991
                  have h_2021 : cw_1999 (21) = .inl (cs 0, 200, .inl (fun _ => 0)) := by rw [ecw_1999, va_up_ne _ _ (by decide)]; exact h_1992
                  have h_2022 : cw_1999 (22) = .inl (cs 0, 200, .inl (fun _ => 0)) := by rw [ecw_1999, va_up_ne _ _ (by decide)]; exact h_1993
                  have h_2023 : cw_1999 (23) = .inl (cs 0, 200, .inl (fun _ => 0)) := by rw [ecw_1999, va_up_ne _ _ (by decide)]; exact h_1994
                  have h_2024 : cw_1999 (24) = .inl (cs 0, 200, .inl (fun _ => 0)) := by rw [ecw_1999, va_up_ne _ _ (by decide)]; exact h_1995
                  have h_2025 : cw_1999 (25) = .inl (cs 0, 200, .inl (fun _ => 0)) := by rw [ecw_1999, va_up_ne _ _ (by decide)]; exact h_1996
                  have h_2026 : cw_1999 (26) = .inl (cs 0, 100, .inl (fun _ => 0)) := by rw [ecw_1999, va_up_ne _ _ (by decide)]; exact h_1997
                  have h_2027 : cw_1999 (27) = .inl (cs 0, 100, .inl (fun _ => 0)) := by rw [ecw_1999, va_up_ne _ _ (by decide)]; exact h_1998
                  clear ecw_1999
                  clear h_1971 h_1972 h_1973 h_1974 h_1975 h_1976 h_1977 h_1978 h_1979 h_1980 h_1981 h_1982 h_1983 h_1984 h_1985 h_1986 h_1987 h_1988 h_1989 h_1990 h_1991 h_1992 h_1993 h_1994 h_1995 h_1996 h_1997 h_1998
                  refine lv_iinc (v := 8) (lv' := [(1, .int (8)), (0, .ref (h0))]) hx hb d_M_init_273 hl (k := 0) rfl (by decide) (by decide) rfl (fun ls hl => ?_)
                  refine lv_goto (tgt := 244) hx hb d_M_init_276 (by decide) ?_
                  refine lv_iload_n hx hb d_M_init_244 rfl (lv_at hl 0 rfl) ?_
                  refine lv_bipush (v := 10) hx hb d_M_init_245 (by decide) ?_
                  refine lv_icmp_ge (tgt := 279) hx hb d_M_init_247 (by decide) (fun c_2028 => ?_) (fun c_2028 => ?_)
                  · exact absurd c_2028 (by decide)
                  · skip
                    refine lv_aload_n hx hb d_M_init_250 rfl (lv_at hl 1 rfl) ?_
                    refine pw_getA (ci := 7) (v := .ref (q_1)) hx hb hw i_M hown hK hP (0) (by decide) a_1239 h_2000 rfl 1 (by decide) (hw _ kF_M_7) rfl d_M_init_251 ?_
                    refine lv_iload_n hx hb d_M_init_254 rfl (lv_at hl 0 rfl) ?_
                    refine lv_bipush (v := 30) hx hb d_M_init_255 (by decide) ?_
                    refine pw_iastA (n := 10) (f := (upd (upd (upd (upd (upd (upd (upd (upd (fun _ => 0) (0) (30)) (1) (30)) (2) (30)) (3) (30)) (4) (30)) (5) (30)) (6) (30)) (7) (30))) hx hb hK hP hD hS 0 (1) (by decide) a_1240 h_2001 rfl (8) rfl (by decide) (by decide) d_M_init_257 (fun cw_2029 H locs ecw_2029 hP hD hS => ?_)
                    have h_2030 : cw_2029 (0) = .inr (7, [.int (0), .ref (q_1), .ref (q_11), .ref (q_24), .int (0), .ref (q_40), .ref (q_59), .ref (q_81), .ref (q_106), .ref (q_134), .ref (q_165), .ref (q_199), .ref (q_236), .ref (q_276), .ref (q_319), .ref (q_365), .ref (q_414), .ref (q_466), .ref (q_521), .ref (q_579), .ref (q_640), .ref (q_704), .int (0), .ref (q_771), .ref (q_841), .int (0), .int (0), .ref (q_914), .ref (q_990), .ref (q_1069), .int (0), .ref (q_1151), .ref (q_1236)]) := by rw [ecw_2029, va_up_ne _ _ (by decide)]; exact h_2000
                    have h_2031 : cw_2029 (1) = .inl (cs 0, 10, .inl (upd (upd (upd (upd (upd (upd (upd (upd (upd (fun _ => 0) (0) (30)) (1) (30)) (2) (30)) (3) (30)) (4) (30)) (5) (30)) (6) (30)) (7) (30)) (8) (30))) := by rw [ecw_2029]; exact va_up_self _ _ _
                    have h_2032 : cw_2029 (2) = .inl (cs 0, 10, .inl (upd (upd (upd (upd (upd (upd (upd (upd (fun _ => 0) (0) (20)) (1) (20)) (2) (20)) (3) (20)) (4) (20)) (5) (20)) (6) (20)) (7) (20))) := by rw [ecw_2029, va_up_ne _ _ (by decide)]; exact h_2002
                    have h_2033 : cw_2029 (3) = .inl (cs 0, 10, .inl (upd (upd (upd (upd (upd (upd (upd (upd (fun _ => 0) (0) (3)) (1) (3)) (2) (3)) (3) (3)) (4) (3)) (5) (3)) (6) (3)) (7) (3))) := by rw [ecw_2029, va_up_ne _ _ (by decide)]; exact h_2003
                    have h_2034 : cw_2029 (4) = .inl (cs 0, 200, .inl (fun _ => 0)) := by rw [ecw_2029, va_up_ne _ _ (by decide)]; exact h_2004
                    have h_2035 : cw_2029 (5) = .inl (cs 0, 200, .inl (fun _ => 0)) := by rw [ecw_2029, va_up_ne _ _ (by decide)]; exact h_2005
                    have h_2036 : cw_2029 (6) = .inl (cs 0, 200, .inl (fun _ => 0)) := by rw [ecw_2029, va_up_ne _ _ (by decide)]; exact h_2006
                    have h_2037 : cw_2029 (7) = .inl (cs 0, 200, .inl (fun _ => 0)) := by rw [ecw_2029, va_up_ne _ _ (by decide)]; exact h_2007
                    have h_2038 : cw_2029 (8) = .inl (cs 0, 200, .inl (fun _ => 0)) := by rw [ecw_2029, va_up_ne _ _ (by decide)]; exact h_2008
                    have h_2039 : cw_2029 (9) = .inl (cs 0, 200, .inl (fun _ => 0)) := by rw [ecw_2029, va_up_ne _ _ (by decide)]; exact h_2009
                    have h_2040 : cw_2029 (10) = .inl (cs 0, 200, .inl (fun _ => 0)) := by rw [ecw_2029, va_up_ne _ _ (by decide)]; exact h_2010
                    have h_2041 : cw_2029 (11) = .inl (cs 0, 200, .inl (fun _ => 0)) := by rw [ecw_2029, va_up_ne _ _ (by decide)]; exact h_2011
                    have h_2042 : cw_2029 (12) = .inl (cs 0, 200, .inl (fun _ => 0)) := by rw [ecw_2029, va_up_ne _ _ (by decide)]; exact h_2012
                    have h_2043 : cw_2029 (13) = .inl (cs 0, 200, .inl (fun _ => 0)) := by rw [ecw_2029, va_up_ne _ _ (by decide)]; exact h_2013
                    have h_2044 : cw_2029 (14) = .inl (cs 0, 200, .inl (fun _ => 0)) := by rw [ecw_2029, va_up_ne _ _ (by decide)]; exact h_2014
                    have h_2045 : cw_2029 (15) = .inl (cs 1, 200, .inl (fun _ => 0)) := by rw [ecw_2029, va_up_ne _ _ (by decide)]; exact h_2015
                    have h_2046 : cw_2029 (16) = .inl (cs 0, 200, .inl (fun _ => 0)) := by rw [ecw_2029, va_up_ne _ _ (by decide)]; exact h_2016
                    have h_2047 : cw_2029 (17) = .inl (cs 0, 1600, .inl (fun _ => 0)) := by rw [ecw_2029, va_up_ne _ _ (by decide)]; exact h_2017
                    have h_2048 : cw_2029 (18) = .inl (cs 0, 1600, .inl (fun _ => 0)) := by rw [ecw_2029, va_up_ne _ _ (by decide)]; exact h_2018
                    have h_2049 : cw_2029 (19) = .inl (cs 0, 200, .inl (fun _ => 0)) := by rw [ecw_2029, va_up_ne _ _ (by decide)]; exact h_2019
                    have h_2050 : cw_2029 (20) = .inl (cs 0, 200, .inl (fun _ => 0)) := by rw [ecw_2029, va_up_ne _ _ (by decide)]; exact h_2020
                    have h_2051 : cw_2029 (21) = .inl (cs 0, 200, .inl (fun _ => 0)) := by rw [ecw_2029, va_up_ne _ _ (by decide)]; exact h_2021
                    have h_2052 : cw_2029 (22) = .inl (cs 0, 200, .inl (fun _ => 0)) := by rw [ecw_2029, va_up_ne _ _ (by decide)]; exact h_2022
                    have h_2053 : cw_2029 (23) = .inl (cs 0, 200, .inl (fun _ => 0)) := by rw [ecw_2029, va_up_ne _ _ (by decide)]; exact h_2023
                    have h_2054 : cw_2029 (24) = .inl (cs 0, 200, .inl (fun _ => 0)) := by rw [ecw_2029, va_up_ne _ _ (by decide)]; exact h_2024
                    have h_2055 : cw_2029 (25) = .inl (cs 0, 200, .inl (fun _ => 0)) := by rw [ecw_2029, va_up_ne _ _ (by decide)]; exact h_2025
                    have h_2056 : cw_2029 (26) = .inl (cs 0, 100, .inl (fun _ => 0)) := by rw [ecw_2029, va_up_ne _ _ (by decide)]; exact h_2026
                    have h_2057 : cw_2029 (27) = .inl (cs 0, 100, .inl (fun _ => 0)) := by rw [ecw_2029, va_up_ne _ _ (by decide)]; exact h_2027
                    clear ecw_2029
                    clear h_2000 h_2001 h_2002 h_2003 h_2004 h_2005 h_2006 h_2007 h_2008 h_2009 h_2010 h_2011 h_2012 h_2013 h_2014 h_2015 h_2016 h_2017 h_2018 h_2019 h_2020 h_2021 h_2022 h_2023 h_2024 h_2025 h_2026 h_2027
                    refine lv_aload_n hx hb d_M_init_258 rfl (lv_at hl 1 rfl) ?_
                    refine pw_getA (ci := 7) (v := .ref (q_11)) hx hb hw i_M hown hK hP (0) (by decide) a_1239 h_2030 rfl 2 (by decide) (hw _ kF_M_13) rfl d_M_init_259 ?_
                    refine lv_iload_n hx hb d_M_init_262 rfl (lv_at hl 0 rfl) ?_
                    refine lv_bipush (v := 20) hx hb d_M_init_263 (by decide) ?_
                    refine pw_iastA (n := 10) (f := (upd (upd (upd (upd (upd (upd (upd (upd (fun _ => 0) (0) (20)) (1) (20)) (2) (20)) (3) (20)) (4) (20)) (5) (20)) (6) (20)) (7) (20))) hx hb hK hP hD hS 0 (2) (by decide) a_1241 h_2032 rfl (8) rfl (by decide) (by decide) d_M_init_265 (fun cw_2058 H locs ecw_2058 hP hD hS => ?_)
                    have h_2059 : cw_2058 (0) = .inr (7, [.int (0), .ref (q_1), .ref (q_11), .ref (q_24), .int (0), .ref (q_40), .ref (q_59), .ref (q_81), .ref (q_106), .ref (q_134), .ref (q_165), .ref (q_199), .ref (q_236), .ref (q_276), .ref (q_319), .ref (q_365), .ref (q_414), .ref (q_466), .ref (q_521), .ref (q_579), .ref (q_640), .ref (q_704), .int (0), .ref (q_771), .ref (q_841), .int (0), .int (0), .ref (q_914), .ref (q_990), .ref (q_1069), .int (0), .ref (q_1151), .ref (q_1236)]) := by rw [ecw_2058, va_up_ne _ _ (by decide)]; exact h_2030
                    have h_2060 : cw_2058 (1) = .inl (cs 0, 10, .inl (upd (upd (upd (upd (upd (upd (upd (upd (upd (fun _ => 0) (0) (30)) (1) (30)) (2) (30)) (3) (30)) (4) (30)) (5) (30)) (6) (30)) (7) (30)) (8) (30))) := by rw [ecw_2058, va_up_ne _ _ (by decide)]; exact h_2031
                    have h_2061 : cw_2058 (2) = .inl (cs 0, 10, .inl (upd (upd (upd (upd (upd (upd (upd (upd (upd (fun _ => 0) (0) (20)) (1) (20)) (2) (20)) (3) (20)) (4) (20)) (5) (20)) (6) (20)) (7) (20)) (8) (20))) := by rw [ecw_2058]; exact va_up_self _ _ _
                    have h_2062 : cw_2058 (3) = .inl (cs 0, 10, .inl (upd (upd (upd (upd (upd (upd (upd (upd (fun _ => 0) (0) (3)) (1) (3)) (2) (3)) (3) (3)) (4) (3)) (5) (3)) (6) (3)) (7) (3))) := by rw [ecw_2058, va_up_ne _ _ (by decide)]; exact h_2033
                    have h_2063 : cw_2058 (4) = .inl (cs 0, 200, .inl (fun _ => 0)) := by rw [ecw_2058, va_up_ne _ _ (by decide)]; exact h_2034
                    have h_2064 : cw_2058 (5) = .inl (cs 0, 200, .inl (fun _ => 0)) := by rw [ecw_2058, va_up_ne _ _ (by decide)]; exact h_2035
                    have h_2065 : cw_2058 (6) = .inl (cs 0, 200, .inl (fun _ => 0)) := by rw [ecw_2058, va_up_ne _ _ (by decide)]; exact h_2036
                    have h_2066 : cw_2058 (7) = .inl (cs 0, 200, .inl (fun _ => 0)) := by rw [ecw_2058, va_up_ne _ _ (by decide)]; exact h_2037
                    have h_2067 : cw_2058 (8) = .inl (cs 0, 200, .inl (fun _ => 0)) := by rw [ecw_2058, va_up_ne _ _ (by decide)]; exact h_2038
                    have h_2068 : cw_2058 (9) = .inl (cs 0, 200, .inl (fun _ => 0)) := by rw [ecw_2058, va_up_ne _ _ (by decide)]; exact h_2039
                    have h_2069 : cw_2058 (10) = .inl (cs 0, 200, .inl (fun _ => 0)) := by rw [ecw_2058, va_up_ne _ _ (by decide)]; exact h_2040
                    have h_2070 : cw_2058 (11) = .inl (cs 0, 200, .inl (fun _ => 0)) := by rw [ecw_2058, va_up_ne _ _ (by decide)]; exact h_2041
                    have h_2071 : cw_2058 (12) = .inl (cs 0, 200, .inl (fun _ => 0)) := by rw [ecw_2058, va_up_ne _ _ (by decide)]; exact h_2042
                    have h_2072 : cw_2058 (13) = .inl (cs 0, 200, .inl (fun _ => 0)) := by rw [ecw_2058, va_up_ne _ _ (by decide)]; exact h_2043
                    have h_2073 : cw_2058 (14) = .inl (cs 0, 200, .inl (fun _ => 0)) := by rw [ecw_2058, va_up_ne _ _ (by decide)]; exact h_2044
                    have h_2074 : cw_2058 (15) = .inl (cs 1, 200, .inl (fun _ => 0)) := by rw [ecw_2058, va_up_ne _ _ (by decide)]; exact h_2045
                    have h_2075 : cw_2058 (16) = .inl (cs 0, 200, .inl (fun _ => 0)) := by rw [ecw_2058, va_up_ne _ _ (by decide)]; exact h_2046
                    have h_2076 : cw_2058 (17) = .inl (cs 0, 1600, .inl (fun _ => 0)) := by rw [ecw_2058, va_up_ne _ _ (by decide)]; exact h_2047
                    have h_2077 : cw_2058 (18) = .inl (cs 0, 1600, .inl (fun _ => 0)) := by rw [ecw_2058, va_up_ne _ _ (by decide)]; exact h_2048
                    have h_2078 : cw_2058 (19) = .inl (cs 0, 200, .inl (fun _ => 0)) := by rw [ecw_2058, va_up_ne _ _ (by decide)]; exact h_2049
                    have h_2079 : cw_2058 (20) = .inl (cs 0, 200, .inl (fun _ => 0)) := by rw [ecw_2058, va_up_ne _ _ (by decide)]; exact h_2050
                    have h_2080 : cw_2058 (21) = .inl (cs 0, 200, .inl (fun _ => 0)) := by rw [ecw_2058, va_up_ne _ _ (by decide)]; exact h_2051
                    have h_2081 : cw_2058 (22) = .inl (cs 0, 200, .inl (fun _ => 0)) := by rw [ecw_2058, va_up_ne _ _ (by decide)]; exact h_2052
                    have h_2082 : cw_2058 (23) = .inl (cs 0, 200, .inl (fun _ => 0)) := by rw [ecw_2058, va_up_ne _ _ (by decide)]; exact h_2053
                    have h_2083 : cw_2058 (24) = .inl (cs 0, 200, .inl (fun _ => 0)) := by rw [ecw_2058, va_up_ne _ _ (by decide)]; exact h_2054
                    have h_2084 : cw_2058 (25) = .inl (cs 0, 200, .inl (fun _ => 0)) := by rw [ecw_2058, va_up_ne _ _ (by decide)]; exact h_2055
                    have h_2085 : cw_2058 (26) = .inl (cs 0, 100, .inl (fun _ => 0)) := by rw [ecw_2058, va_up_ne _ _ (by decide)]; exact h_2056
                    have h_2086 : cw_2058 (27) = .inl (cs 0, 100, .inl (fun _ => 0)) := by rw [ecw_2058, va_up_ne _ _ (by decide)]; exact h_2057
                    clear ecw_2058
                    clear h_2030 h_2031 h_2032 h_2033 h_2034 h_2035 h_2036 h_2037 h_2038 h_2039 h_2040 h_2041 h_2042 h_2043 h_2044 h_2045 h_2046 h_2047 h_2048 h_2049 h_2050 h_2051 h_2052 h_2053 h_2054 h_2055 h_2056 h_2057
                    refine lv_aload_n hx hb d_M_init_266 rfl (lv_at hl 1 rfl) ?_
                    refine pw_getA (ci := 7) (v := .ref (q_24)) hx hb hw i_M hown hK hP (0) (by decide) a_1239 h_2059 rfl 3 (by decide) (hw _ kF_M_16) rfl d_M_init_267 ?_
                    refine lv_iload_n hx hb d_M_init_270 rfl (lv_at hl 0 rfl) ?_
                    refine lv_iconst (v := 3) hx hb d_M_init_271 (by decide) ?_
                    refine pw_iastA (n := 10) (f := (upd (upd (upd (upd (upd (upd (upd (upd (fun _ => 0) (0) (3)) (1) (3)) (2) (3)) (3) (3)) (4) (3)) (5) (3)) (6) (3)) (7) (3))) hx hb hK hP hD hS 0 (3) (by decide) a_1242 h_2062 rfl (8) rfl (by decide) (by decide) d_M_init_272 (fun cw_2087 H locs ecw_2087 hP hD hS => ?_)
                    have h_2088 : cw_2087 (0) = .inr (7, [.int (0), .ref (q_1), .ref (q_11), .ref (q_24), .int (0), .ref (q_40), .ref (q_59), .ref (q_81), .ref (q_106), .ref (q_134), .ref (q_165), .ref (q_199), .ref (q_236), .ref (q_276), .ref (q_319), .ref (q_365), .ref (q_414), .ref (q_466), .ref (q_521), .ref (q_579), .ref (q_640), .ref (q_704), .int (0), .ref (q_771), .ref (q_841), .int (0), .int (0), .ref (q_914), .ref (q_990), .ref (q_1069), .int (0), .ref (q_1151), .ref (q_1236)]) := by rw [ecw_2087, va_up_ne _ _ (by decide)]; exact h_2059
                    have h_2089 : cw_2087 (1) = .inl (cs 0, 10, .inl (upd (upd (upd (upd (upd (upd (upd (upd (upd (fun _ => 0) (0) (30)) (1) (30)) (2) (30)) (3) (30)) (4) (30)) (5) (30)) (6) (30)) (7) (30)) (8) (30))) := by rw [ecw_2087, va_up_ne _ _ (by decide)]; exact h_2060
                    have h_2090 : cw_2087 (2) = .inl (cs 0, 10, .inl (upd (upd (upd (upd (upd (upd (upd (upd (upd (fun _ => 0) (0) (20)) (1) (20)) (2) (20)) (3) (20)) (4) (20)) (5) (20)) (6) (20)) (7) (20)) (8) (20))) := by rw [ecw_2087, va_up_ne _ _ (by decide)]; exact h_2061
                    have h_2091 : cw_2087 (3) = .inl (cs 0, 10, .inl (upd (upd (upd (upd (upd (upd (upd (upd (upd (fun _ => 0) (0) (3)) (1) (3)) (2) (3)) (3) (3)) (4) (3)) (5) (3)) (6) (3)) (7) (3)) (8) (3))) := by rw [ecw_2087]; exact va_up_self _ _ _
                    have h_2092 : cw_2087 (4) = .inl (cs 0, 200, .inl (fun _ => 0)) := by rw [ecw_2087, va_up_ne _ _ (by decide)]; exact h_2063
                    have h_2093 : cw_2087 (5) = .inl (cs 0, 200, .inl (fun _ => 0)) := by rw [ecw_2087, va_up_ne _ _ (by decide)]; exact h_2064
                    have h_2094 : cw_2087 (6) = .inl (cs 0, 200, .inl (fun _ => 0)) := by rw [ecw_2087, va_up_ne _ _ (by decide)]; exact h_2065
                    have h_2095 : cw_2087 (7) = .inl (cs 0, 200, .inl (fun _ => 0)) := by rw [ecw_2087, va_up_ne _ _ (by decide)]; exact h_2066
                    have h_2096 : cw_2087 (8) = .inl (cs 0, 200, .inl (fun _ => 0)) := by rw [ecw_2087, va_up_ne _ _ (by decide)]; exact h_2067
                    have h_2097 : cw_2087 (9) = .inl (cs 0, 200, .inl (fun _ => 0)) := by rw [ecw_2087, va_up_ne _ _ (by decide)]; exact h_2068
                    have h_2098 : cw_2087 (10) = .inl (cs 0, 200, .inl (fun _ => 0)) := by rw [ecw_2087, va_up_ne _ _ (by decide)]; exact h_2069
                    have h_2099 : cw_2087 (11) = .inl (cs 0, 200, .inl (fun _ => 0)) := by rw [ecw_2087, va_up_ne _ _ (by decide)]; exact h_2070
                    have h_2100 : cw_2087 (12) = .inl (cs 0, 200, .inl (fun _ => 0)) := by rw [ecw_2087, va_up_ne _ _ (by decide)]; exact h_2071
                    have h_2101 : cw_2087 (13) = .inl (cs 0, 200, .inl (fun _ => 0)) := by rw [ecw_2087, va_up_ne _ _ (by decide)]; exact h_2072
                    have h_2102 : cw_2087 (14) = .inl (cs 0, 200, .inl (fun _ => 0)) := by rw [ecw_2087, va_up_ne _ _ (by decide)]; exact h_2073
                    have h_2103 : cw_2087 (15) = .inl (cs 1, 200, .inl (fun _ => 0)) := by rw [ecw_2087, va_up_ne _ _ (by decide)]; exact h_2074
                    have h_2104 : cw_2087 (16) = .inl (cs 0, 200, .inl (fun _ => 0)) := by rw [ecw_2087, va_up_ne _ _ (by decide)]; exact h_2075
                    have h_2105 : cw_2087 (17) = .inl (cs 0, 1600, .inl (fun _ => 0)) := by rw [ecw_2087, va_up_ne _ _ (by decide)]; exact h_2076
                    have h_2106 : cw_2087 (18) = .inl (cs 0, 1600, .inl (fun _ => 0)) := by rw [ecw_2087, va_up_ne _ _ (by decide)]; exact h_2077
                    have h_2107 : cw_2087 (19) = .inl (cs 0, 200, .inl (fun _ => 0)) := by rw [ecw_2087, va_up_ne _ _ (by decide)]; exact h_2078
                    have h_2108 : cw_2087 (20) = .inl (cs 0, 200, .inl (fun _ => 0)) := by rw [ecw_2087, va_up_ne _ _ (by decide)]; exact h_2079
                    have h_2109 : cw_2087 (21) = .inl (cs 0, 200, .inl (fun _ => 0)) := by rw [ecw_2087, va_up_ne _ _ (by decide)]; exact h_2080
                    have h_2110 : cw_2087 (22) = .inl (cs 0, 200, .inl (fun _ => 0)) := by rw [ecw_2087, va_up_ne _ _ (by decide)]; exact h_2081
                    have h_2111 : cw_2087 (23) = .inl (cs 0, 200, .inl (fun _ => 0)) := by rw [ecw_2087, va_up_ne _ _ (by decide)]; exact h_2082
                    have h_2112 : cw_2087 (24) = .inl (cs 0, 200, .inl (fun _ => 0)) := by rw [ecw_2087, va_up_ne _ _ (by decide)]; exact h_2083
                    have h_2113 : cw_2087 (25) = .inl (cs 0, 200, .inl (fun _ => 0)) := by rw [ecw_2087, va_up_ne _ _ (by decide)]; exact h_2084
                    have h_2114 : cw_2087 (26) = .inl (cs 0, 100, .inl (fun _ => 0)) := by rw [ecw_2087, va_up_ne _ _ (by decide)]; exact h_2085
                    have h_2115 : cw_2087 (27) = .inl (cs 0, 100, .inl (fun _ => 0)) := by rw [ecw_2087, va_up_ne _ _ (by decide)]; exact h_2086
                    clear ecw_2087
                    clear h_2059 h_2060 h_2061 h_2062 h_2063 h_2064 h_2065 h_2066 h_2067 h_2068 h_2069 h_2070 h_2071 h_2072 h_2073 h_2074 h_2075 h_2076 h_2077 h_2078 h_2079 h_2080 h_2081 h_2082 h_2083 h_2084 h_2085 h_2086
                    refine lv_iinc (v := 9) (lv' := [(1, .int (9)), (0, .ref (h0))]) hx hb d_M_init_273 hl (k := 0) rfl (by decide) (by decide) rfl (fun ls hl => ?_)
                    refine lv_goto (tgt := 244) hx hb d_M_init_276 (by decide) ?_
                    refine lv_iload_n hx hb d_M_init_244 rfl (lv_at hl 0 rfl) ?_
                    refine lv_bipush (v := 10) hx hb d_M_init_245 (by decide) ?_
                    refine lv_icmp_ge (tgt := 279) hx hb d_M_init_247 (by decide) (fun c_2116 => ?_) (fun c_2116 => ?_)
                    · exact absurd c_2116 (by decide)
                    · skip
                      refine lv_aload_n hx hb d_M_init_250 rfl (lv_at hl 1 rfl) ?_
                      refine pw_getA (ci := 7) (v := .ref (q_1)) hx hb hw i_M hown hK hP (0) (by decide) a_1239 h_2088 rfl 1 (by decide) (hw _ kF_M_7) rfl d_M_init_251 ?_
                      refine lv_iload_n hx hb d_M_init_254 rfl (lv_at hl 0 rfl) ?_
                      refine lv_bipush (v := 30) hx hb d_M_init_255 (by decide) ?_
                      refine pw_iastA (n := 10) (f := (upd (upd (upd (upd (upd (upd (upd (upd (upd (fun _ => 0) (0) (30)) (1) (30)) (2) (30)) (3) (30)) (4) (30)) (5) (30)) (6) (30)) (7) (30)) (8) (30))) hx hb hK hP hD hS 0 (1) (by decide) a_1240 h_2089 rfl (9) rfl (by decide) (by decide) d_M_init_257 (fun cw_2117 H locs ecw_2117 hP hD hS => ?_)
                      have h_2118 : cw_2117 (0) = .inr (7, [.int (0), .ref (q_1), .ref (q_11), .ref (q_24), .int (0), .ref (q_40), .ref (q_59), .ref (q_81), .ref (q_106), .ref (q_134), .ref (q_165), .ref (q_199), .ref (q_236), .ref (q_276), .ref (q_319), .ref (q_365), .ref (q_414), .ref (q_466), .ref (q_521), .ref (q_579), .ref (q_640), .ref (q_704), .int (0), .ref (q_771), .ref (q_841), .int (0), .int (0), .ref (q_914), .ref (q_990), .ref (q_1069), .int (0), .ref (q_1151), .ref (q_1236)]) := by rw [ecw_2117, va_up_ne _ _ (by decide)]; exact h_2088
                      have h_2119 : cw_2117 (1) = .inl (cs 0, 10, .inl (upd (upd (upd (upd (upd (upd (upd (upd (upd (upd (fun _ => 0) (0) (30)) (1) (30)) (2) (30)) (3) (30)) (4) (30)) (5) (30)) (6) (30)) (7) (30)) (8) (30)) (9) (30))) := by rw [ecw_2117]; exact va_up_self _ _ _
                      have h_2120 : cw_2117 (2) = .inl (cs 0, 10, .inl (upd (upd (upd (upd (upd (upd (upd (upd (upd (fun _ => 0) (0) (20)) (1) (20)) (2) (20)) (3) (20)) (4) (20)) (5) (20)) (6) (20)) (7) (20)) (8) (20))) := by rw [ecw_2117, va_up_ne _ _ (by decide)]; exact h_2090
                      have h_2121 : cw_2117 (3) = .inl (cs 0, 10, .inl (upd (upd (upd (upd (upd (upd (upd (upd (upd (fun _ => 0) (0) (3)) (1) (3)) (2) (3)) (3) (3)) (4) (3)) (5) (3)) (6) (3)) (7) (3)) (8) (3))) := by rw [ecw_2117, va_up_ne _ _ (by decide)]; exact h_2091
                      have h_2122 : cw_2117 (4) = .inl (cs 0, 200, .inl (fun _ => 0)) := by rw [ecw_2117, va_up_ne _ _ (by decide)]; exact h_2092
                      have h_2123 : cw_2117 (5) = .inl (cs 0, 200, .inl (fun _ => 0)) := by rw [ecw_2117, va_up_ne _ _ (by decide)]; exact h_2093
                      have h_2124 : cw_2117 (6) = .inl (cs 0, 200, .inl (fun _ => 0)) := by rw [ecw_2117, va_up_ne _ _ (by decide)]; exact h_2094
                      have h_2125 : cw_2117 (7) = .inl (cs 0, 200, .inl (fun _ => 0)) := by rw [ecw_2117, va_up_ne _ _ (by decide)]; exact h_2095
                      have h_2126 : cw_2117 (8) = .inl (cs 0, 200, .inl (fun _ => 0)) := by rw [ecw_2117, va_up_ne _ _ (by decide)]; exact h_2096
                      have h_2127 : cw_2117 (9) = .inl (cs 0, 200, .inl (fun _ => 0)) := by rw [ecw_2117, va_up_ne _ _ (by decide)]; exact h_2097
                      have h_2128 : cw_2117 (10) = .inl (cs 0, 200, .inl (fun _ => 0)) := by rw [ecw_2117, va_up_ne _ _ (by decide)]; exact h_2098
                      have h_2129 : cw_2117 (11) = .inl (cs 0, 200, .inl (fun _ => 0)) := by rw [ecw_2117, va_up_ne _ _ (by decide)]; exact h_2099
                      have h_2130 : cw_2117 (12) = .inl (cs 0, 200, .inl (fun _ => 0)) := by rw [ecw_2117, va_up_ne _ _ (by decide)]; exact h_2100
                      have h_2131 : cw_2117 (13) = .inl (cs 0, 200, .inl (fun _ => 0)) := by rw [ecw_2117, va_up_ne _ _ (by decide)]; exact h_2101
                      have h_2132 : cw_2117 (14) = .inl (cs 0, 200, .inl (fun _ => 0)) := by rw [ecw_2117, va_up_ne _ _ (by decide)]; exact h_2102
                      have h_2133 : cw_2117 (15) = .inl (cs 1, 200, .inl (fun _ => 0)) := by rw [ecw_2117, va_up_ne _ _ (by decide)]; exact h_2103
                      have h_2134 : cw_2117 (16) = .inl (cs 0, 200, .inl (fun _ => 0)) := by rw [ecw_2117, va_up_ne _ _ (by decide)]; exact h_2104
                      have h_2135 : cw_2117 (17) = .inl (cs 0, 1600, .inl (fun _ => 0)) := by rw [ecw_2117, va_up_ne _ _ (by decide)]; exact h_2105
                      have h_2136 : cw_2117 (18) = .inl (cs 0, 1600, .inl (fun _ => 0)) := by rw [ecw_2117, va_up_ne _ _ (by decide)]; exact h_2106
                      have h_2137 : cw_2117 (19) = .inl (cs 0, 200, .inl (fun _ => 0)) := by rw [ecw_2117, va_up_ne _ _ (by decide)]; exact h_2107
                      have h_2138 : cw_2117 (20) = .inl (cs 0, 200, .inl (fun _ => 0)) := by rw [ecw_2117, va_up_ne _ _ (by decide)]; exact h_2108
                      have h_2139 : cw_2117 (21) = .inl (cs 0, 200, .inl (fun _ => 0)) := by rw [ecw_2117, va_up_ne _ _ (by decide)]; exact h_2109
                      have h_2140 : cw_2117 (22) = .inl (cs 0, 200, .inl (fun _ => 0)) := by rw [ecw_2117, va_up_ne _ _ (by decide)]; exact h_2110
                      have h_2141 : cw_2117 (23) = .inl (cs 0, 200, .inl (fun _ => 0)) := by rw [ecw_2117, va_up_ne _ _ (by decide)]; exact h_2111
                      have h_2142 : cw_2117 (24) = .inl (cs 0, 200, .inl (fun _ => 0)) := by rw [ecw_2117, va_up_ne _ _ (by decide)]; exact h_2112
                      have h_2143 : cw_2117 (25) = .inl (cs 0, 200, .inl (fun _ => 0)) := by rw [ecw_2117, va_up_ne _ _ (by decide)]; exact h_2113
                      have h_2144 : cw_2117 (26) = .inl (cs 0, 100, .inl (fun _ => 0)) := by rw [ecw_2117, va_up_ne _ _ (by decide)]; exact h_2114
                      have h_2145 : cw_2117 (27) = .inl (cs 0, 100, .inl (fun _ => 0)) := by rw [ecw_2117, va_up_ne _ _ (by decide)]; exact h_2115
                      clear ecw_2117
                      clear h_2088 h_2089 h_2090 h_2091 h_2092 h_2093 h_2094 h_2095 h_2096 h_2097 h_2098 h_2099 h_2100 h_2101 h_2102 h_2103 h_2104 h_2105 h_2106 h_2107 h_2108 h_2109 h_2110 h_2111 h_2112 h_2113 h_2114 h_2115
                      refine lv_aload_n hx hb d_M_init_258 rfl (lv_at hl 1 rfl) ?_
                      refine pw_getA (ci := 7) (v := .ref (q_11)) hx hb hw i_M hown hK hP (0) (by decide) a_1239 h_2118 rfl 2 (by decide) (hw _ kF_M_13) rfl d_M_init_259 ?_
                      refine lv_iload_n hx hb d_M_init_262 rfl (lv_at hl 0 rfl) ?_
                      refine lv_bipush (v := 20) hx hb d_M_init_263 (by decide) ?_
                      refine pw_iastA (n := 10) (f := (upd (upd (upd (upd (upd (upd (upd (upd (upd (fun _ => 0) (0) (20)) (1) (20)) (2) (20)) (3) (20)) (4) (20)) (5) (20)) (6) (20)) (7) (20)) (8) (20))) hx hb hK hP hD hS 0 (2) (by decide) a_1241 h_2120 rfl (9) rfl (by decide) (by decide) d_M_init_265 (fun cw_2146 H locs ecw_2146 hP hD hS => ?_)
                      have h_2147 : cw_2146 (0) = .inr (7, [.int (0), .ref (q_1), .ref (q_11), .ref (q_24), .int (0), .ref (q_40), .ref (q_59), .ref (q_81), .ref (q_106), .ref (q_134), .ref (q_165), .ref (q_199), .ref (q_236), .ref (q_276), .ref (q_319), .ref (q_365), .ref (q_414), .ref (q_466), .ref (q_521), .ref (q_579), .ref (q_640), .ref (q_704), .int (0), .ref (q_771), .ref (q_841), .int (0), .int (0), .ref (q_914), .ref (q_990), .ref (q_1069), .int (0), .ref (q_1151), .ref (q_1236)]) := by rw [ecw_2146, va_up_ne _ _ (by decide)]; exact h_2118
                      have h_2148 : cw_2146 (1) = .inl (cs 0, 10, .inl (upd (upd (upd (upd (upd (upd (upd (upd (upd (upd (fun _ => 0) (0) (30)) (1) (30)) (2) (30)) (3) (30)) (4) (30)) (5) (30)) (6) (30)) (7) (30)) (8) (30)) (9) (30))) := by rw [ecw_2146, va_up_ne _ _ (by decide)]; exact h_2119
                      have h_2149 : cw_2146 (2) = .inl (cs 0, 10, .inl (upd (upd (upd (upd (upd (upd (upd (upd (upd (upd (fun _ => 0) (0) (20)) (1) (20)) (2) (20)) (3) (20)) (4) (20)) (5) (20)) (6) (20)) (7) (20)) (8) (20)) (9) (20))) := by rw [ecw_2146]; exact va_up_self _ _ _
                      have h_2150 : cw_2146 (3) = .inl (cs 0, 10, .inl (upd (upd (upd (upd (upd (upd (upd (upd (upd (fun _ => 0) (0) (3)) (1) (3)) (2) (3)) (3) (3)) (4) (3)) (5) (3)) (6) (3)) (7) (3)) (8) (3))) := by rw [ecw_2146, va_up_ne _ _ (by decide)]; exact h_2121
                      have h_2151 : cw_2146 (4) = .inl (cs 0, 200, .inl (fun _ => 0)) := by rw [ecw_2146, va_up_ne _ _ (by decide)]; exact h_2122
                      have h_2152 : cw_2146 (5) = .inl (cs 0, 200, .inl (fun _ => 0)) := by rw [ecw_2146, va_up_ne _ _ (by decide)]; exact h_2123
                      have h_2153 : cw_2146 (6) = .inl (cs 0, 200, .inl (fun _ => 0)) := by rw [ecw_2146, va_up_ne _ _ (by decide)]; exact h_2124
                      have h_2154 : cw_2146 (7) = .inl (cs 0, 200, .inl (fun _ => 0)) := by rw [ecw_2146, va_up_ne _ _ (by decide)]; exact h_2125
                      have h_2155 : cw_2146 (8) = .inl (cs 0, 200, .inl (fun _ => 0)) := by rw [ecw_2146, va_up_ne _ _ (by decide)]; exact h_2126
                      have h_2156 : cw_2146 (9) = .inl (cs 0, 200, .inl (fun _ => 0)) := by rw [ecw_2146, va_up_ne _ _ (by decide)]; exact h_2127
                      have h_2157 : cw_2146 (10) = .inl (cs 0, 200, .inl (fun _ => 0)) := by rw [ecw_2146, va_up_ne _ _ (by decide)]; exact h_2128
                      have h_2158 : cw_2146 (11) = .inl (cs 0, 200, .inl (fun _ => 0)) := by rw [ecw_2146, va_up_ne _ _ (by decide)]; exact h_2129
                      have h_2159 : cw_2146 (12) = .inl (cs 0, 200, .inl (fun _ => 0)) := by rw [ecw_2146, va_up_ne _ _ (by decide)]; exact h_2130
                      have h_2160 : cw_2146 (13) = .inl (cs 0, 200, .inl (fun _ => 0)) := by rw [ecw_2146, va_up_ne _ _ (by decide)]; exact h_2131
                      have h_2161 : cw_2146 (14) = .inl (cs 0, 200, .inl (fun _ => 0)) := by rw [ecw_2146, va_up_ne _ _ (by decide)]; exact h_2132
                      have h_2162 : cw_2146 (15) = .inl (cs 1, 200, .inl (fun _ => 0)) := by rw [ecw_2146, va_up_ne _ _ (by decide)]; exact h_2133
                      have h_2163 : cw_2146 (16) = .inl (cs 0, 200, .inl (fun _ => 0)) := by rw [ecw_2146, va_up_ne _ _ (by decide)]; exact h_2134
                      have h_2164 : cw_2146 (17) = .inl (cs 0, 1600, .inl (fun _ => 0)) := by rw [ecw_2146, va_up_ne _ _ (by decide)]; exact h_2135
                      have h_2165 : cw_2146 (18) = .inl (cs 0, 1600, .inl (fun _ => 0)) := by rw [ecw_2146, va_up_ne _ _ (by decide)]; exact h_2136
                      have h_2166 : cw_2146 (19) = .inl (cs 0, 200, .inl (fun _ => 0)) := by rw [ecw_2146, va_up_ne _ _ (by decide)]; exact h_2137
                      have h_2167 : cw_2146 (20) = .inl (cs 0, 200, .inl (fun _ => 0)) := by rw [ecw_2146, va_up_ne _ _ (by decide)]; exact h_2138
                      have h_2168 : cw_2146 (21) = .inl (cs 0, 200, .inl (fun _ => 0)) := by rw [ecw_2146, va_up_ne _ _ (by decide)]; exact h_2139
                      have h_2169 : cw_2146 (22) = .inl (cs 0, 200, .inl (fun _ => 0)) := by rw [ecw_2146, va_up_ne _ _ (by decide)]; exact h_2140
                      have h_2170 : cw_2146 (23) = .inl (cs 0, 200, .inl (fun _ => 0)) := by rw [ecw_2146, va_up_ne _ _ (by decide)]; exact h_2141
                      have h_2171 : cw_2146 (24) = .inl (cs 0, 200, .inl (fun _ => 0)) := by rw [ecw_2146, va_up_ne _ _ (by decide)]; exact h_2142
                      have h_2172 : cw_2146 (25) = .inl (cs 0, 200, .inl (fun _ => 0)) := by rw [ecw_2146, va_up_ne _ _ (by decide)]; exact h_2143
                      have h_2173 : cw_2146 (26) = .inl (cs 0, 100, .inl (fun _ => 0)) := by rw [ecw_2146, va_up_ne _ _ (by decide)]; exact h_2144
                      have h_2174 : cw_2146 (27) = .inl (cs 0, 100, .inl (fun _ => 0)) := by rw [ecw_2146, va_up_ne _ _ (by decide)]; exact h_2145
                      clear ecw_2146
                      clear h_2118 h_2119 h_2120 h_2121 h_2122 h_2123 h_2124 h_2125 h_2126 h_2127 h_2128 h_2129 h_2130 h_2131 h_2132 h_2133 h_2134 h_2135 h_2136 h_2137 h_2138 h_2139 h_2140 h_2141 h_2142 h_2143 h_2144 h_2145
                      refine lv_aload_n hx hb d_M_init_266 rfl (lv_at hl 1 rfl) ?_
                      refine pw_getA (ci := 7) (v := .ref (q_24)) hx hb hw i_M hown hK hP (0) (by decide) a_1239 h_2147 rfl 3 (by decide) (hw _ kF_M_16) rfl d_M_init_267 ?_
                      refine lv_iload_n hx hb d_M_init_270 rfl (lv_at hl 0 rfl) ?_
                      refine lv_iconst (v := 3) hx hb d_M_init_271 (by decide) ?_
                      refine pw_iastA (n := 10) (f := (upd (upd (upd (upd (upd (upd (upd (upd (upd (fun _ => 0) (0) (3)) (1) (3)) (2) (3)) (3) (3)) (4) (3)) (5) (3)) (6) (3)) (7) (3)) (8) (3))) hx hb hK hP hD hS 0 (3) (by decide) a_1242 h_2150 rfl (9) rfl (by decide) (by decide) d_M_init_272 (fun cw_2175 H locs ecw_2175 hP hD hS => ?_)
                      have h_2176 : cw_2175 (0) = .inr (7, [.int (0), .ref (q_1), .ref (q_11), .ref (q_24), .int (0), .ref (q_40), .ref (q_59), .ref (q_81), .ref (q_106), .ref (q_134), .ref (q_165), .ref (q_199), .ref (q_236), .ref (q_276), .ref (q_319), .ref (q_365), .ref (q_414), .ref (q_466), .ref (q_521), .ref (q_579), .ref (q_640), .ref (q_704), .int (0), .ref (q_771), .ref (q_841), .int (0), .int (0), .ref (q_914), .ref (q_990), .ref (q_1069), .int (0), .ref (q_1151), .ref (q_1236)]) := by rw [ecw_2175, va_up_ne _ _ (by decide)]; exact h_2147
                      have h_2177 : cw_2175 (1) = .inl (cs 0, 10, .inl (upd (upd (upd (upd (upd (upd (upd (upd (upd (upd (fun _ => 0) (0) (30)) (1) (30)) (2) (30)) (3) (30)) (4) (30)) (5) (30)) (6) (30)) (7) (30)) (8) (30)) (9) (30))) := by rw [ecw_2175, va_up_ne _ _ (by decide)]; exact h_2148
                      have h_2178 : cw_2175 (2) = .inl (cs 0, 10, .inl (upd (upd (upd (upd (upd (upd (upd (upd (upd (upd (fun _ => 0) (0) (20)) (1) (20)) (2) (20)) (3) (20)) (4) (20)) (5) (20)) (6) (20)) (7) (20)) (8) (20)) (9) (20))) := by rw [ecw_2175, va_up_ne _ _ (by decide)]; exact h_2149
                      have h_2179 : cw_2175 (3) = .inl (cs 0, 10, .inl (upd (upd (upd (upd (upd (upd (upd (upd (upd (upd (fun _ => 0) (0) (3)) (1) (3)) (2) (3)) (3) (3)) (4) (3)) (5) (3)) (6) (3)) (7) (3)) (8) (3)) (9) (3))) := by rw [ecw_2175]; exact va_up_self _ _ _
                      have h_2180 : cw_2175 (4) = .inl (cs 0, 200, .inl (fun _ => 0)) := by rw [ecw_2175, va_up_ne _ _ (by decide)]; exact h_2151
                      have h_2181 : cw_2175 (5) = .inl (cs 0, 200, .inl (fun _ => 0)) := by rw [ecw_2175, va_up_ne _ _ (by decide)]; exact h_2152
                      have h_2182 : cw_2175 (6) = .inl (cs 0, 200, .inl (fun _ => 0)) := by rw [ecw_2175, va_up_ne _ _ (by decide)]; exact h_2153
                      have h_2183 : cw_2175 (7) = .inl (cs 0, 200, .inl (fun _ => 0)) := by rw [ecw_2175, va_up_ne _ _ (by decide)]; exact h_2154
                      have h_2184 : cw_2175 (8) = .inl (cs 0, 200, .inl (fun _ => 0)) := by rw [ecw_2175, va_up_ne _ _ (by decide)]; exact h_2155
                      have h_2185 : cw_2175 (9) = .inl (cs 0, 200, .inl (fun _ => 0)) := by rw [ecw_2175, va_up_ne _ _ (by decide)]; exact h_2156
                      have h_2186 : cw_2175 (10) = .inl (cs 0, 200, .inl (fun _ => 0)) := by rw [ecw_2175, va_up_ne _ _ (by decide)]; exact h_2157
                      have h_2187 : cw_2175 (11) = .inl (cs 0, 200, .inl (fun _ => 0)) := by rw [ecw_2175, va_up_ne _ _ (by decide)]; exact h_2158
                      have h_2188 : cw_2175 (12) = .inl (cs 0, 200, .inl (fun _ => 0)) := by rw [ecw_2175, va_up_ne _ _ (by decide)]; exact h_2159
                      have h_2189 : cw_2175 (13) = .inl (cs 0, 200, .inl (fun _ => 0)) := by rw [ecw_2175, va_up_ne _ _ (by decide)]; exact h_2160
                      have h_2190 : cw_2175 (14) = .inl (cs 0, 200, .inl (fun _ => 0)) := by rw [ecw_2175, va_up_ne _ _ (by decide)]; exact h_2161
                      have h_2191 : cw_2175 (15) = .inl (cs 1, 200, .inl (fun _ => 0)) := by rw [ecw_2175, va_up_ne _ _ (by decide)]; exact h_2162
                      have h_2192 : cw_2175 (16) = .inl (cs 0, 200, .inl (fun _ => 0)) := by rw [ecw_2175, va_up_ne _ _ (by decide)]; exact h_2163
                      have h_2193 : cw_2175 (17) = .inl (cs 0, 1600, .inl (fun _ => 0)) := by rw [ecw_2175, va_up_ne _ _ (by decide)]; exact h_2164
                      have h_2194 : cw_2175 (18) = .inl (cs 0, 1600, .inl (fun _ => 0)) := by rw [ecw_2175, va_up_ne _ _ (by decide)]; exact h_2165
                      have h_2195 : cw_2175 (19) = .inl (cs 0, 200, .inl (fun _ => 0)) := by rw [ecw_2175, va_up_ne _ _ (by decide)]; exact h_2166
                      have h_2196 : cw_2175 (20) = .inl (cs 0, 200, .inl (fun _ => 0)) := by rw [ecw_2175, va_up_ne _ _ (by decide)]; exact h_2167
                      have h_2197 : cw_2175 (21) = .inl (cs 0, 200, .inl (fun _ => 0)) := by rw [ecw_2175, va_up_ne _ _ (by decide)]; exact h_2168
                      have h_2198 : cw_2175 (22) = .inl (cs 0, 200, .inl (fun _ => 0)) := by rw [ecw_2175, va_up_ne _ _ (by decide)]; exact h_2169
                      have h_2199 : cw_2175 (23) = .inl (cs 0, 200, .inl (fun _ => 0)) := by rw [ecw_2175, va_up_ne _ _ (by decide)]; exact h_2170
                      have h_2200 : cw_2175 (24) = .inl (cs 0, 200, .inl (fun _ => 0)) := by rw [ecw_2175, va_up_ne _ _ (by decide)]; exact h_2171
                      have h_2201 : cw_2175 (25) = .inl (cs 0, 200, .inl (fun _ => 0)) := by rw [ecw_2175, va_up_ne _ _ (by decide)]; exact h_2172
                      have h_2202 : cw_2175 (26) = .inl (cs 0, 100, .inl (fun _ => 0)) := by rw [ecw_2175, va_up_ne _ _ (by decide)]; exact h_2173
                      have h_2203 : cw_2175 (27) = .inl (cs 0, 100, .inl (fun _ => 0)) := by rw [ecw_2175, va_up_ne _ _ (by decide)]; exact h_2174
                      clear ecw_2175
                      clear h_2147 h_2148 h_2149 h_2150 h_2151 h_2152 h_2153 h_2154 h_2155 h_2156 h_2157 h_2158 h_2159 h_2160 h_2161 h_2162 h_2163 h_2164 h_2165 h_2166 h_2167 h_2168 h_2169 h_2170 h_2171 h_2172 h_2173 h_2174
                      refine lv_iinc (v := 10) (lv' := [(1, .int (10)), (0, .ref (h0))]) hx hb d_M_init_273 hl (k := 0) rfl (by decide) (by decide) rfl (fun ls hl => ?_)
                      refine lv_goto (tgt := 244) hx hb d_M_init_276 (by decide) ?_
                      refine lv_iload_n hx hb d_M_init_244 rfl (lv_at hl 0 rfl) ?_
                      refine lv_bipush (v := 10) hx hb d_M_init_245 (by decide) ?_
                      refine lv_icmp_ge (tgt := 279) hx hb d_M_init_247 (by decide) (fun c_2204 => ?_) (fun c_2204 => ?_)
                      · skip
                        exact W.vret hx hb hr (fun t ht hW => ⟨⟨(28, bk_1237, cw_2175), rfl, ⟨rfl, a_1239, by show cw_2175 0 = .inr (7, [.int 0, .ref (bk_1237 (1)), .ref (bk_1237 (2)), .ref (bk_1237 (3)), .int 0, .ref (bk_1237 (4)), .ref (bk_1237 (5)), .ref (bk_1237 (6)), .ref (bk_1237 (7)), .ref (bk_1237 (8)), .ref (bk_1237 (9)), .ref (bk_1237 (10)), .ref (bk_1237 (11)), .ref (bk_1237 (12)), .ref (bk_1237 (13)), .ref (bk_1237 (14)), .ref (bk_1237 (15)), .ref (bk_1237 (16)), .ref (bk_1237 (17)), .ref (bk_1237 (18)), .ref (bk_1237 (19)), .ref (bk_1237 (20)), .int 0, .ref (bk_1237 (21)), .ref (bk_1237 (22)), .int 0, .int 0, .ref (bk_1237 (23)), .ref (bk_1237 (24)), .ref (bk_1237 (25)), .int 0, .ref (bk_1237 (26)), .ref (bk_1237 (27))]); rw [a_1240, a_1241, a_1242, a_1243, a_1244, a_1245, a_1246, a_1247, a_1248, a_1249, a_1250, a_1251, a_1252, a_1253, a_1254, a_1255, a_1256, a_1257, a_1258, a_1259, a_1260, a_1261, a_1262, a_1263, a_1264, a_1265, a_1266]; exact h_2176, h_2177, h_2178, h_2179, h_2180, h_2181, h_2182, h_2183, h_2184, h_2185, h_2186, h_2187, h_2188, h_2189, h_2190, h_2191, h_2192, h_2193, h_2194, h_2195, h_2196, h_2197, h_2198, h_2199, h_2200, h_2201, h_2202, h_2203⟩, by rw [ht]; exact hP, va_K.moved hW.alike hK, hD⟩, hS.F ht⟩) hS.2.2 d_M_init_279
                      · exact absurd c_2204 (by decide)

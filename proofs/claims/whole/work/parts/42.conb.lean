set_option maxHeartbeats 4000000 in
set_option maxRecDepth 100000 in
theorem c_I_init (l : Launch) (D : va_G) (cs : Nat → ClassId) (N : Nat) (bk : Nat → Nat) (cw : Nat → va_E) (sz : Nat) (K : Nat) (hk : K < N) (h0 : Nat) (ha : bk K = h0) (he : cw K = .inr (2, [.int (0), .int (0), .int (0), .int (0), .int (0), .null, .int (0), .int (0), .int (0), .int (0), .int (0), .int (0), .int (0), .int (0)])) (nu pa od ex rp : Int32) (hrp : narrow .boolean (.int rp) = .int rp ∧ fits .boolean (.int rp) = true) : Met l y_I_init w_I_init ({ frames := 2, cells := 3, slots := 21, locals := 32 }) (va_Pc [.ref (h0), .int (nu), .int (pa), .int (od), .int (ex), .int (rp)] (PB D classes (TY cs) N bk cw sz)) (va_Qv (fun u : Wt => u.1 = N + 1 + 1 + 1 ∧ (∀ k, k < N → u.2.1 k = bk k) ∧ (∀ k, k < N → k ≠ K → u.2.2 k = cw k) ∧ u.2.2 K = .inr (2, [.int nu, .int pa, .int od, .int ex, .int rp, .ref (u.2.1 (N)), .int (if ex = -1 then 0 else 1), .int 0, .int (-1), .int 0, .int (-1), .int (-1), .int (-1), .int 0]) ∧ u.2.2 (N) = .inr (3, [.ref (u.2.1 (N + 1)), .ref (u.2.1 (N + 1 + 1)), .int 0, .int (-1), .int (-1)]) ∧ u.2.2 (N + 1) = .inl (cs 0, 8, .inl (fun _ => 0)) ∧ u.2.2 (N + 1 + 1) = .inl (cs 0, 8, .inl (fun _ => 0))) (Wd D classes (TY cs) (AA N bk sz)) (AA N bk sz)) 3 21 (AA N bk sz) := by
  refine pw_entry (cc := b_I_init) (maxL := 6) (ret := none) (by decide +kernel) rfl (Nat.le_of_ble_eq_true rfl) ?_
  intro p_ e_ s m below_ meth_ c_ ls hx hb hr hml hts hown hlocks hin hsz hP hK hD hS hA hN hl
  have hw : ∀ w ∈ WA, w.before _ s = true := fun w h => hts w (List.mem_cons_of_mem _ h)
  have hown : s.vm.findClass "IssueRows$Issue" = some m.cls := hown
  have hl : lv_has ls 6 [(0, .ref (h0)), (1, .int (nu)), (2, .int (pa)), (3, .int (od)), (4, .int (ex)), (5, .int (rp))] := hl
  have hbb : ∀ k, k < N → bk k = bk k := fun _ _ => rfl
  have hoth : ∀ k, k < N → k ≠ K → cw k = cw k := fun _ _ _ => rfl
  refine lv_aload_n hx hb d_I_init_0 rfl (lv_at hl 0 rfl) ?_
  refine W.objInit hx hb hown (hw _ kM_I_3) (hw _ kI_O_init) (hw _ kC_O_init) rfl (by rw [hml]; exact hl.1) rfl d_I_init_1 (Nat.le_of_ble_eq_true rfl) (Nat.le_of_ble_eq_true rfl) ?_
  refine W.eq (g2 := F0 m 4 ls []) rfl ?_
  refine lv_aload_n hx hb d_I_init_4 rfl (lv_at hl 0 rfl) ?_
  refine pw_new (ci := 3) (fs := [.null, .null, .int (0), .int (0), .int (0)]) hx hb hw i_G t_G t_G_ok hown (hw _ kL_I_9) (hw _ kA_G) (hw _ kZ_G) hK hP hD hS hA rfl (fun j hj => by match j, hj with | 0, _ => rfl | 1, _ => rfl | 2, _ => rfl | 3, _ => rfl | 4, _ => rfl) (Nat.le_of_ble_eq_true rfl) (Nat.le_of_ble_eq_true rfl) d_I_init_5 (fun q_1 H hP hD hS => ?_)
  obtain ⟨bk_2, ebbk_2⟩ : ∃ x, x = va_up bk (N) q_1 := ⟨_, rfl⟩
  obtain ⟨cw_3, eccw_3⟩ : ∃ x, x = va_up cw (N) (.inr (3, [.null, .null, .int (0), .int (0), .int (0)])) := ⟨_, rfl⟩
  rw [← ebbk_2, ← eccw_3] at hP hD
  have hb_4 : ∀ k, k < N → bk_2 k = bk k := fun k h => by rw [ebbk_2]; exact va_up_ne _ _ (by omega)
  have a_5 : bk_2 (K) = h0 := (hb_4 (K) (by omega)).trans ha
  have hbb : ∀ k, k < N → bk_2 k = bk k := fun k h => (hb_4 k (by omega)).trans (hbb k h)
  have a_6 : bk_2 (N) = q_1 := by rw [ebbk_2]; exact va_up_self _ _ _
  have h_7 : cw_3 (K) = .inr (2, [.int (0), .int (0), .int (0), .int (0), .int (0), .null, .int (0), .int (0), .int (0), .int (0), .int (0), .int (0), .int (0), .int (0)]) := (show cw_3 (K) = cw (K) by rw [eccw_3, va_up_ne _ _ (by omega)]).trans he
  have h_8 : cw_3 (N) = .inr (3, [.null, .null, .int (0), .int (0), .int (0)]) := by rw [eccw_3]; exact va_up_self _ _ _
  have hoth : ∀ k, k < N → k ≠ K → cw_3 k = cw k := fun k h1 h2 => (show cw_3 k = cw k by rw [eccw_3, va_up_ne _ _ (by omega)]).trans (hoth k h1 h2)
  refine lv_dup hx hb d_I_init_8 rfl ?_
  refine pw_callv (va_runIN (As := []) (rest := [.ref (q_1), .ref (h0)]) ⟨hx, hb, hml, hown, hw⟩ (c_G_init l D cs (N + 1) bk_2 cw_3 H.size (N) (by omega) (q_1) a_6 h_8 ) (cw_IN 0 hw (kN_I_11 hN) kI_G_init kZ_G kC_G_init rfl rfl rfl ⟨by decide, by decide, by decide +kernel⟩ ⟨Nat.le_of_ble_eq_true rfl, Nat.le_of_ble_eq_true rfl⟩) (pw_preS hN hK hP hD) rfl rfl hl.1 rfl (lv_room (Nat.le_of_ble_eq_true rfl)) d_I_init_9 ⟨Nat.le_of_ble_eq_true rfl, Nat.le_of_ble_eq_true rfl⟩) hS (wl_free hD hS hA) (fun N1 bk1 cw1 H locs hu hP hD hS => ?_)
  obtain ⟨z_11, z_12, z_13, z_14, z_15, z_16⟩ := hu
  dsimp only at z_11 z_12 z_13 z_14 z_15 z_16
  subst z_11
  obtain ⟨bk_9, ebbk_9⟩ : ∃ x, x = bk1 := ⟨_, rfl⟩
  obtain ⟨cw_10, eccw_10⟩ : ∃ x, x = cw1 := ⟨_, rfl⟩
  rw [← ebbk_9, ← eccw_10] at hP hD
  rw [← ebbk_9] at z_12
  rw [← eccw_10] at z_13
  first | rw [← ebbk_9, ← eccw_10] at z_14 | rw [← eccw_10] at z_14
  first | rw [← ebbk_9, ← eccw_10] at z_15 | rw [← eccw_10] at z_15
  first | rw [← ebbk_9, ← eccw_10] at z_16 | rw [← eccw_10] at z_16
  have a_17 : bk_9 (K) = h0 := (z_12 (K) (by omega)).trans a_5
  have a_18 : bk_9 (N) = q_1 := (z_12 (N) (by omega)).trans a_6
  have hbb : ∀ k, k < N → bk_9 k = bk k := fun k h => (z_12 k (by omega)).trans (hbb k h)
  have h_19 : cw_10 (K) = .inr (2, [.int (0), .int (0), .int (0), .int (0), .int (0), .null, .int (0), .int (0), .int (0), .int (0), .int (0), .int (0), .int (0), .int (0)]) := (z_13 (K) (by omega) (by omega)).trans h_7
  have hoth : ∀ k, k < N → k ≠ K → cw_10 k = cw k := fun k h1 h2 => (z_13 k (by omega) (by omega)).trans (hoth k h1 h2)
  obtain ⟨q_20, a_21⟩ : ∃ x, bk_9 (N + 1) = x := ⟨_, rfl⟩
  obtain ⟨q_22, a_23⟩ : ∃ x, bk_9 (N + 1 + 1) = x := ⟨_, rfl⟩
  try simp only [a_21, a_23] at z_14
  try simp only [a_21, a_23] at z_15
  try simp only [a_21, a_23] at z_16
  refine pw_putFA (ci := 2) (v := .ref (q_1)) (ty := (t_I 5)) (fs' := [.int (0), .int (0), .int (0), .int (0), .int (0), .ref (q_1), .int (0), .int (0), .int (0), .int (0), .int (0), .int (0), .int (0), .int (0)]) hx hb hw i_I t_I t_I_ok n_I hown hK hP hD hS (K) (by omega) a_17 h_19 rfl 5 (by decide) (hw _ kF_I_12) rfl hin rfl (t_I_ok 5 (by decide)) rfl rfl (Nat.le_of_ble_eq_true rfl) rfl d_I_init_12 (fun cw_24 H locs ecw_24 hP hD hS => ?_)
  have h_25 : cw_24 (K) = .inr (2, [.int (0), .int (0), .int (0), .int (0), .int (0), .ref (q_1), .int (0), .int (0), .int (0), .int (0), .int (0), .int (0), .int (0), .int (0)]) := by rw [ecw_24]; exact va_up_self _ _ _
  have h_26 : cw_24 (N) = .inr (3, [.ref (q_20), .ref (q_22), .int (0), .int (-1), .int (-1)]) := by rw [ecw_24, va_up_ne _ _ (by omega)]; exact z_14
  have h_27 : cw_24 (N + 1) = .inl (cs 0, 8, .inl (fun _ => 0)) := by rw [ecw_24, va_up_ne _ _ (by omega)]; exact z_15
  have h_28 : cw_24 (N + 1 + 1) = .inl (cs 0, 8, .inl (fun _ => 0)) := by rw [ecw_24, va_up_ne _ _ (by omega)]; exact z_16
  have hoth : ∀ k, k < N → k ≠ K → cw_24 k = cw k := fun k h1 h2 => (show cw_24 k = cw_10 k by rw [ecw_24, va_up_ne _ _ (by omega)]).trans (hoth k h1 h2)
  refine lv_aload_n hx hb d_I_init_15 rfl (lv_at hl 0 rfl) ?_
  refine lv_iconst (v := 0) hx hb d_I_init_16 (by decide) ?_
  refine pw_putA (ci := 2) (v := .int (0)) (ty := .int) (fs' := [.int (0), .int (0), .int (0), .int (0), .int (0), .ref (q_1), .int (0), .int (0), .int (0), .int (0), .int (0), .int (0), .int (0), .int (0)]) hx hb hw i_I t_I t_I_ok n_I hown hK hP hD hS (K) (by omega) a_17 h_25 rfl 7 (by decide) (hw _ kF_I_18) rfl (t_I_ok 7 (by decide)) rfl rfl (Nat.le_of_ble_eq_true rfl) rfl d_I_init_17 (fun cw_29 H locs ecw_29 hP hD hS => ?_)
  have h_30 : cw_29 (K) = .inr (2, [.int (0), .int (0), .int (0), .int (0), .int (0), .ref (q_1), .int (0), .int (0), .int (0), .int (0), .int (0), .int (0), .int (0), .int (0)]) := by rw [ecw_29]; exact va_up_self _ _ _
  have h_31 : cw_29 (N) = .inr (3, [.ref (q_20), .ref (q_22), .int (0), .int (-1), .int (-1)]) := by rw [ecw_29, va_up_ne _ _ (by omega)]; exact h_26
  have h_32 : cw_29 (N + 1) = .inl (cs 0, 8, .inl (fun _ => 0)) := by rw [ecw_29, va_up_ne _ _ (by omega)]; exact h_27
  have h_33 : cw_29 (N + 1 + 1) = .inl (cs 0, 8, .inl (fun _ => 0)) := by rw [ecw_29, va_up_ne _ _ (by omega)]; exact h_28
  have hoth : ∀ k, k < N → k ≠ K → cw_29 k = cw k := fun k h1 h2 => (show cw_29 k = cw_24 k by rw [ecw_29, va_up_ne _ _ (by omega)]).trans (hoth k h1 h2)
  refine lv_aload_n hx hb d_I_init_20 rfl (lv_at hl 0 rfl) ?_
  refine lv_iconst (v := -1) hx hb d_I_init_21 (by decide) ?_
  refine pw_putA (ci := 2) (v := .int (-1)) (ty := .int) (fs' := [.int (0), .int (0), .int (0), .int (0), .int (0), .ref (q_1), .int (0), .int (0), .int (-1), .int (0), .int (0), .int (0), .int (0), .int (0)]) hx hb hw i_I t_I t_I_ok n_I hown hK hP hD hS (K) (by omega) a_17 h_30 rfl 8 (by decide) (hw _ kF_I_22) rfl (t_I_ok 8 (by decide)) rfl rfl (Nat.le_of_ble_eq_true rfl) rfl d_I_init_22 (fun cw_34 H locs ecw_34 hP hD hS => ?_)
  have h_35 : cw_34 (K) = .inr (2, [.int (0), .int (0), .int (0), .int (0), .int (0), .ref (q_1), .int (0), .int (0), .int (-1), .int (0), .int (0), .int (0), .int (0), .int (0)]) := by rw [ecw_34]; exact va_up_self _ _ _
  have h_36 : cw_34 (N) = .inr (3, [.ref (q_20), .ref (q_22), .int (0), .int (-1), .int (-1)]) := by rw [ecw_34, va_up_ne _ _ (by omega)]; exact h_31
  have h_37 : cw_34 (N + 1) = .inl (cs 0, 8, .inl (fun _ => 0)) := by rw [ecw_34, va_up_ne _ _ (by omega)]; exact h_32
  have h_38 : cw_34 (N + 1 + 1) = .inl (cs 0, 8, .inl (fun _ => 0)) := by rw [ecw_34, va_up_ne _ _ (by omega)]; exact h_33
  have hoth : ∀ k, k < N → k ≠ K → cw_34 k = cw k := fun k h1 h2 => (show cw_34 k = cw_29 k by rw [ecw_34, va_up_ne _ _ (by omega)]).trans (hoth k h1 h2)
  refine lv_aload_n hx hb d_I_init_25 rfl (lv_at hl 0 rfl) ?_
  refine lv_iconst (v := 0) hx hb d_I_init_26 (by decide) ?_
  refine pw_putA (ci := 2) (v := .int (0)) (ty := .int) (fs' := [.int (0), .int (0), .int (0), .int (0), .int (0), .ref (q_1), .int (0), .int (0), .int (-1), .int (0), .int (0), .int (0), .int (0), .int (0)]) hx hb hw i_I t_I t_I_ok n_I hown hK hP hD hS (K) (by omega) a_17 h_35 rfl 9 (by decide) (hw _ kF_I_25) rfl (t_I_ok 9 (by decide)) rfl rfl (Nat.le_of_ble_eq_true rfl) rfl d_I_init_27 (fun cw_39 H locs ecw_39 hP hD hS => ?_)
  have h_40 : cw_39 (K) = .inr (2, [.int (0), .int (0), .int (0), .int (0), .int (0), .ref (q_1), .int (0), .int (0), .int (-1), .int (0), .int (0), .int (0), .int (0), .int (0)]) := by rw [ecw_39]; exact va_up_self _ _ _
  have h_41 : cw_39 (N) = .inr (3, [.ref (q_20), .ref (q_22), .int (0), .int (-1), .int (-1)]) := by rw [ecw_39, va_up_ne _ _ (by omega)]; exact h_36
  have h_42 : cw_39 (N + 1) = .inl (cs 0, 8, .inl (fun _ => 0)) := by rw [ecw_39, va_up_ne _ _ (by omega)]; exact h_37
  have h_43 : cw_39 (N + 1 + 1) = .inl (cs 0, 8, .inl (fun _ => 0)) := by rw [ecw_39, va_up_ne _ _ (by omega)]; exact h_38
  have hoth : ∀ k, k < N → k ≠ K → cw_39 k = cw k := fun k h1 h2 => (show cw_39 k = cw_34 k by rw [ecw_39, va_up_ne _ _ (by omega)]).trans (hoth k h1 h2)
  refine lv_aload_n hx hb d_I_init_30 rfl (lv_at hl 0 rfl) ?_
  refine lv_iconst (v := -1) hx hb d_I_init_31 (by decide) ?_
  refine pw_putA (ci := 2) (v := .int (-1)) (ty := .int) (fs' := [.int (0), .int (0), .int (0), .int (0), .int (0), .ref (q_1), .int (0), .int (0), .int (-1), .int (0), .int (-1), .int (0), .int (0), .int (0)]) hx hb hw i_I t_I t_I_ok n_I hown hK hP hD hS (K) (by omega) a_17 h_40 rfl 10 (by decide) (hw _ kF_I_28) rfl (t_I_ok 10 (by decide)) rfl rfl (Nat.le_of_ble_eq_true rfl) rfl d_I_init_32 (fun cw_44 H locs ecw_44 hP hD hS => ?_)
  have h_45 : cw_44 (K) = .inr (2, [.int (0), .int (0), .int (0), .int (0), .int (0), .ref (q_1), .int (0), .int (0), .int (-1), .int (0), .int (-1), .int (0), .int (0), .int (0)]) := by rw [ecw_44]; exact va_up_self _ _ _
  have h_46 : cw_44 (N) = .inr (3, [.ref (q_20), .ref (q_22), .int (0), .int (-1), .int (-1)]) := by rw [ecw_44, va_up_ne _ _ (by omega)]; exact h_41
  have h_47 : cw_44 (N + 1) = .inl (cs 0, 8, .inl (fun _ => 0)) := by rw [ecw_44, va_up_ne _ _ (by omega)]; exact h_42
  have h_48 : cw_44 (N + 1 + 1) = .inl (cs 0, 8, .inl (fun _ => 0)) := by rw [ecw_44, va_up_ne _ _ (by omega)]; exact h_43
  have hoth : ∀ k, k < N → k ≠ K → cw_44 k = cw k := fun k h1 h2 => (show cw_44 k = cw_39 k by rw [ecw_44, va_up_ne _ _ (by omega)]).trans (hoth k h1 h2)
  refine lv_aload_n hx hb d_I_init_35 rfl (lv_at hl 0 rfl) ?_
  refine lv_iconst (v := -1) hx hb d_I_init_36 (by decide) ?_
  refine pw_putA (ci := 2) (v := .int (-1)) (ty := .int) (fs' := [.int (0), .int (0), .int (0), .int (0), .int (0), .ref (q_1), .int (0), .int (0), .int (-1), .int (0), .int (-1), .int (-1), .int (0), .int (0)]) hx hb hw i_I t_I t_I_ok n_I hown hK hP hD hS (K) (by omega) a_17 h_45 rfl 11 (by decide) (hw _ kF_I_31) rfl (t_I_ok 11 (by decide)) rfl rfl (Nat.le_of_ble_eq_true rfl) rfl d_I_init_37 (fun cw_49 H locs ecw_49 hP hD hS => ?_)
  have h_50 : cw_49 (K) = .inr (2, [.int (0), .int (0), .int (0), .int (0), .int (0), .ref (q_1), .int (0), .int (0), .int (-1), .int (0), .int (-1), .int (-1), .int (0), .int (0)]) := by rw [ecw_49]; exact va_up_self _ _ _
  have h_51 : cw_49 (N) = .inr (3, [.ref (q_20), .ref (q_22), .int (0), .int (-1), .int (-1)]) := by rw [ecw_49, va_up_ne _ _ (by omega)]; exact h_46
  have h_52 : cw_49 (N + 1) = .inl (cs 0, 8, .inl (fun _ => 0)) := by rw [ecw_49, va_up_ne _ _ (by omega)]; exact h_47
  have h_53 : cw_49 (N + 1 + 1) = .inl (cs 0, 8, .inl (fun _ => 0)) := by rw [ecw_49, va_up_ne _ _ (by omega)]; exact h_48
  have hoth : ∀ k, k < N → k ≠ K → cw_49 k = cw k := fun k h1 h2 => (show cw_49 k = cw_44 k by rw [ecw_49, va_up_ne _ _ (by omega)]).trans (hoth k h1 h2)
  refine lv_aload_n hx hb d_I_init_40 rfl (lv_at hl 0 rfl) ?_
  refine lv_iconst (v := -1) hx hb d_I_init_41 (by decide) ?_
  refine pw_putA (ci := 2) (v := .int (-1)) (ty := .int) (fs' := [.int (0), .int (0), .int (0), .int (0), .int (0), .ref (q_1), .int (0), .int (0), .int (-1), .int (0), .int (-1), .int (-1), .int (-1), .int (0)]) hx hb hw i_I t_I t_I_ok n_I hown hK hP hD hS (K) (by omega) a_17 h_50 rfl 12 (by decide) (hw _ kF_I_34) rfl (t_I_ok 12 (by decide)) rfl rfl (Nat.le_of_ble_eq_true rfl) rfl d_I_init_42 (fun cw_54 H locs ecw_54 hP hD hS => ?_)
  have h_55 : cw_54 (K) = .inr (2, [.int (0), .int (0), .int (0), .int (0), .int (0), .ref (q_1), .int (0), .int (0), .int (-1), .int (0), .int (-1), .int (-1), .int (-1), .int (0)]) := by rw [ecw_54]; exact va_up_self _ _ _
  have h_56 : cw_54 (N) = .inr (3, [.ref (q_20), .ref (q_22), .int (0), .int (-1), .int (-1)]) := by rw [ecw_54, va_up_ne _ _ (by omega)]; exact h_51
  have h_57 : cw_54 (N + 1) = .inl (cs 0, 8, .inl (fun _ => 0)) := by rw [ecw_54, va_up_ne _ _ (by omega)]; exact h_52
  have h_58 : cw_54 (N + 1 + 1) = .inl (cs 0, 8, .inl (fun _ => 0)) := by rw [ecw_54, va_up_ne _ _ (by omega)]; exact h_53
  have hoth : ∀ k, k < N → k ≠ K → cw_54 k = cw k := fun k h1 h2 => (show cw_54 k = cw_49 k by rw [ecw_54, va_up_ne _ _ (by omega)]).trans (hoth k h1 h2)
  refine lv_aload_n hx hb d_I_init_45 rfl (lv_at hl 0 rfl) ?_
  refine lv_iconst (v := 0) hx hb d_I_init_46 (by decide) ?_
  refine pw_putA (ci := 2) (v := .int (0)) (ty := .int) (fs' := [.int (0), .int (0), .int (0), .int (0), .int (0), .ref (q_1), .int (0), .int (0), .int (-1), .int (0), .int (-1), .int (-1), .int (-1), .int (0)]) hx hb hw i_I t_I t_I_ok n_I hown hK hP hD hS (K) (by omega) a_17 h_55 rfl 13 (by decide) (hw _ kF_I_37) rfl (t_I_ok 13 (by decide)) rfl rfl (Nat.le_of_ble_eq_true rfl) rfl d_I_init_47 (fun cw_59 H locs ecw_59 hP hD hS => ?_)
  have h_60 : cw_59 (K) = .inr (2, [.int (0), .int (0), .int (0), .int (0), .int (0), .ref (q_1), .int (0), .int (0), .int (-1), .int (0), .int (-1), .int (-1), .int (-1), .int (0)]) := by rw [ecw_59]; exact va_up_self _ _ _
  have h_61 : cw_59 (N) = .inr (3, [.ref (q_20), .ref (q_22), .int (0), .int (-1), .int (-1)]) := by rw [ecw_59, va_up_ne _ _ (by omega)]; exact h_56
  have h_62 : cw_59 (N + 1) = .inl (cs 0, 8, .inl (fun _ => 0)) := by rw [ecw_59, va_up_ne _ _ (by omega)]; exact h_57
  have h_63 : cw_59 (N + 1 + 1) = .inl (cs 0, 8, .inl (fun _ => 0)) := by rw [ecw_59, va_up_ne _ _ (by omega)]; exact h_58
  have hoth : ∀ k, k < N → k ≠ K → cw_59 k = cw k := fun k h1 h2 => (show cw_59 k = cw_54 k by rw [ecw_59, va_up_ne _ _ (by omega)]).trans (hoth k h1 h2)
  refine lv_aload_n hx hb d_I_init_50 rfl (lv_at hl 0 rfl) ?_
  refine lv_iload_n hx hb d_I_init_51 rfl (lv_at hl 1 rfl) ?_
  refine pw_putFA (ci := 2) (v := .int (nu)) (ty := .int) (fs' := [.int (nu), .int (0), .int (0), .int (0), .int (0), .ref (q_1), .int (0), .int (0), .int (-1), .int (0), .int (-1), .int (-1), .int (-1), .int (0)]) hx hb hw i_I t_I t_I_ok n_I hown hK hP hD hS (K) (by omega) a_17 h_60 rfl 0 (by decide) (hw _ kF_I_40) rfl hin rfl (t_I_ok 0 (by decide)) rfl rfl (Nat.le_of_ble_eq_true rfl) rfl d_I_init_52 (fun cw_64 H locs ecw_64 hP hD hS => ?_)
  have h_65 : cw_64 (K) = .inr (2, [.int (nu), .int (0), .int (0), .int (0), .int (0), .ref (q_1), .int (0), .int (0), .int (-1), .int (0), .int (-1), .int (-1), .int (-1), .int (0)]) := by rw [ecw_64]; exact va_up_self _ _ _
  have h_66 : cw_64 (N) = .inr (3, [.ref (q_20), .ref (q_22), .int (0), .int (-1), .int (-1)]) := by rw [ecw_64, va_up_ne _ _ (by omega)]; exact h_61
  have h_67 : cw_64 (N + 1) = .inl (cs 0, 8, .inl (fun _ => 0)) := by rw [ecw_64, va_up_ne _ _ (by omega)]; exact h_62
  have h_68 : cw_64 (N + 1 + 1) = .inl (cs 0, 8, .inl (fun _ => 0)) := by rw [ecw_64, va_up_ne _ _ (by omega)]; exact h_63
  have hoth : ∀ k, k < N → k ≠ K → cw_64 k = cw k := fun k h1 h2 => (show cw_64 k = cw_59 k by rw [ecw_64, va_up_ne _ _ (by omega)]).trans (hoth k h1 h2)
  refine lv_aload_n hx hb d_I_init_55 rfl (lv_at hl 0 rfl) ?_
  refine lv_iload_n hx hb d_I_init_56 rfl (lv_at hl 2 rfl) ?_
  refine pw_putFA (ci := 2) (v := .int (pa)) (ty := .int) (fs' := [.int (nu), .int (pa), .int (0), .int (0), .int (0), .ref (q_1), .int (0), .int (0), .int (-1), .int (0), .int (-1), .int (-1), .int (-1), .int (0)]) hx hb hw i_I t_I t_I_ok n_I hown hK hP hD hS (K) (by omega) a_17 h_65 rfl 1 (by decide) (hw _ kF_I_43) rfl hin rfl (t_I_ok 1 (by decide)) rfl rfl (Nat.le_of_ble_eq_true rfl) rfl d_I_init_57 (fun cw_69 H locs ecw_69 hP hD hS => ?_)
  have h_70 : cw_69 (K) = .inr (2, [.int (nu), .int (pa), .int (0), .int (0), .int (0), .ref (q_1), .int (0), .int (0), .int (-1), .int (0), .int (-1), .int (-1), .int (-1), .int (0)]) := by rw [ecw_69]; exact va_up_self _ _ _
  have h_71 : cw_69 (N) = .inr (3, [.ref (q_20), .ref (q_22), .int (0), .int (-1), .int (-1)]) := by rw [ecw_69, va_up_ne _ _ (by omega)]; exact h_66
  have h_72 : cw_69 (N + 1) = .inl (cs 0, 8, .inl (fun _ => 0)) := by rw [ecw_69, va_up_ne _ _ (by omega)]; exact h_67
  have h_73 : cw_69 (N + 1 + 1) = .inl (cs 0, 8, .inl (fun _ => 0)) := by rw [ecw_69, va_up_ne _ _ (by omega)]; exact h_68
  have hoth : ∀ k, k < N → k ≠ K → cw_69 k = cw k := fun k h1 h2 => (show cw_69 k = cw_64 k by rw [ecw_69, va_up_ne _ _ (by omega)]).trans (hoth k h1 h2)
  refine lv_aload_n hx hb d_I_init_60 rfl (lv_at hl 0 rfl) ?_
  refine lv_iload_n hx hb d_I_init_61 rfl (lv_at hl 3 rfl) ?_
  refine pw_putFA (ci := 2) (v := .int (od)) (ty := .int) (fs' := [.int (nu), .int (pa), .int (od), .int (0), .int (0), .ref (q_1), .int (0), .int (0), .int (-1), .int (0), .int (-1), .int (-1), .int (-1), .int (0)]) hx hb hw i_I t_I t_I_ok n_I hown hK hP hD hS (K) (by omega) a_17 h_70 rfl 2 (by decide) (hw _ kF_I_46) rfl hin rfl (t_I_ok 2 (by decide)) rfl rfl (Nat.le_of_ble_eq_true rfl) rfl d_I_init_62 (fun cw_74 H locs ecw_74 hP hD hS => ?_)
  have h_75 : cw_74 (K) = .inr (2, [.int (nu), .int (pa), .int (od), .int (0), .int (0), .ref (q_1), .int (0), .int (0), .int (-1), .int (0), .int (-1), .int (-1), .int (-1), .int (0)]) := by rw [ecw_74]; exact va_up_self _ _ _
  have h_76 : cw_74 (N) = .inr (3, [.ref (q_20), .ref (q_22), .int (0), .int (-1), .int (-1)]) := by rw [ecw_74, va_up_ne _ _ (by omega)]; exact h_71
  have h_77 : cw_74 (N + 1) = .inl (cs 0, 8, .inl (fun _ => 0)) := by rw [ecw_74, va_up_ne _ _ (by omega)]; exact h_72
  have h_78 : cw_74 (N + 1 + 1) = .inl (cs 0, 8, .inl (fun _ => 0)) := by rw [ecw_74, va_up_ne _ _ (by omega)]; exact h_73
  have hoth : ∀ k, k < N → k ≠ K → cw_74 k = cw k := fun k h1 h2 => (show cw_74 k = cw_69 k by rw [ecw_74, va_up_ne _ _ (by omega)]).trans (hoth k h1 h2)
  refine lv_aload_n hx hb d_I_init_65 rfl (lv_at hl 0 rfl) ?_
  refine lv_iload hx hb d_I_init_66 (lv_at hl 4 rfl) ?_
  refine pw_putFA (ci := 2) (v := .int (ex)) (ty := .int) (fs' := [.int (nu), .int (pa), .int (od), .int (ex), .int (0), .ref (q_1), .int (0), .int (0), .int (-1), .int (0), .int (-1), .int (-1), .int (-1), .int (0)]) hx hb hw i_I t_I t_I_ok n_I hown hK hP hD hS (K) (by omega) a_17 h_75 rfl 3 (by decide) (hw _ kF_I_49) rfl hin rfl (t_I_ok 3 (by decide)) rfl rfl (Nat.le_of_ble_eq_true rfl) rfl d_I_init_68 (fun cw_79 H locs ecw_79 hP hD hS => ?_)
  have h_80 : cw_79 (K) = .inr (2, [.int (nu), .int (pa), .int (od), .int (ex), .int (0), .ref (q_1), .int (0), .int (0), .int (-1), .int (0), .int (-1), .int (-1), .int (-1), .int (0)]) := by rw [ecw_79]; exact va_up_self _ _ _
  have h_81 : cw_79 (N) = .inr (3, [.ref (q_20), .ref (q_22), .int (0), .int (-1), .int (-1)]) := by rw [ecw_79, va_up_ne _ _ (by omega)]; exact h_76
  have h_82 : cw_79 (N + 1) = .inl (cs 0, 8, .inl (fun _ => 0)) := by rw [ecw_79, va_up_ne _ _ (by omega)]; exact h_77
  have h_83 : cw_79 (N + 1 + 1) = .inl (cs 0, 8, .inl (fun _ => 0)) := by rw [ecw_79, va_up_ne _ _ (by omega)]; exact h_78
  have hoth : ∀ k, k < N → k ≠ K → cw_79 k = cw k := fun k h1 h2 => (show cw_79 k = cw_74 k by rw [ecw_79, va_up_ne _ _ (by omega)]).trans (hoth k h1 h2)
  refine lv_aload_n hx hb d_I_init_71 rfl (lv_at hl 0 rfl) ?_
  refine lv_iload hx hb d_I_init_72 (lv_at hl 5 rfl) ?_
  refine pw_putFA (ci := 2) (v := .int (rp)) (ty := (t_I 4)) (fs' := [.int (nu), .int (pa), .int (od), .int (ex), .int (rp), .ref (q_1), .int (0), .int (0), .int (-1), .int (0), .int (-1), .int (-1), .int (-1), .int (0)]) hx hb hw i_I t_I t_I_ok n_I hown hK hP hD hS (K) (by omega) a_17 h_80 rfl 4 (by decide) (hw _ kF_I_52) rfl hin rfl (t_I_ok 4 (by decide)) hrp.1 hrp.2 (Nat.le_of_ble_eq_true rfl) rfl d_I_init_74 (fun cw_84 H locs ecw_84 hP hD hS => ?_)
  have h_85 : cw_84 (K) = .inr (2, [.int (nu), .int (pa), .int (od), .int (ex), .int (rp), .ref (q_1), .int (0), .int (0), .int (-1), .int (0), .int (-1), .int (-1), .int (-1), .int (0)]) := by rw [ecw_84]; exact va_up_self _ _ _
  have h_86 : cw_84 (N) = .inr (3, [.ref (q_20), .ref (q_22), .int (0), .int (-1), .int (-1)]) := by rw [ecw_84, va_up_ne _ _ (by omega)]; exact h_81
  have h_87 : cw_84 (N + 1) = .inl (cs 0, 8, .inl (fun _ => 0)) := by rw [ecw_84, va_up_ne _ _ (by omega)]; exact h_82
  have h_88 : cw_84 (N + 1 + 1) = .inl (cs 0, 8, .inl (fun _ => 0)) := by rw [ecw_84, va_up_ne _ _ (by omega)]; exact h_83
  have hoth : ∀ k, k < N → k ≠ K → cw_84 k = cw k := fun k h1 h2 => (show cw_84 k = cw_79 k by rw [ecw_84, va_up_ne _ _ (by omega)]).trans (hoth k h1 h2)
  refine lv_aload_n hx hb d_I_init_77 rfl (lv_at hl 0 rfl) ?_
  refine lv_iload hx hb d_I_init_78 (lv_at hl 4 rfl) ?_
  refine lv_iconst (v := -1) hx hb d_I_init_80 (by decide) ?_
  refine lv_icmp_ne (tgt := 88) hx hb d_I_init_81 (by decide) (fun c_89 => ?_) (fun c_89 => ?_)
  · have c_89 : ¬ ex = (-1) := c_89
    refine lv_iconst (v := 1) hx hb d_I_init_88 (by decide) ?_
    refine pw_putA (ci := 2) (v := .int (1)) (ty := .int) (fs' := [.int (nu), .int (pa), .int (od), .int (ex), .int (rp), .ref (q_1), .int (1), .int (0), .int (-1), .int (0), .int (-1), .int (-1), .int (-1), .int (0)]) hx hb hw i_I t_I t_I_ok n_I hown hK hP hD hS (K) (by omega) a_17 h_85 rfl 6 (by decide) (hw _ kF_I_56) rfl (t_I_ok 6 (by decide)) rfl rfl (Nat.le_of_ble_eq_true rfl) rfl d_I_init_89 (fun cw_90 H locs ecw_90 hP hD hS => ?_)
    have h_91 : cw_90 (K) = .inr (2, [.int (nu), .int (pa), .int (od), .int (ex), .int (rp), .ref (q_1), .int (1), .int (0), .int (-1), .int (0), .int (-1), .int (-1), .int (-1), .int (0)]) := by rw [ecw_90]; exact va_up_self _ _ _
    have h_92 : cw_90 (N) = .inr (3, [.ref (q_20), .ref (q_22), .int (0), .int (-1), .int (-1)]) := by rw [ecw_90, va_up_ne _ _ (by omega)]; exact h_86
    have h_93 : cw_90 (N + 1) = .inl (cs 0, 8, .inl (fun _ => 0)) := by rw [ecw_90, va_up_ne _ _ (by omega)]; exact h_87
    have h_94 : cw_90 (N + 1 + 1) = .inl (cs 0, 8, .inl (fun _ => 0)) := by rw [ecw_90, va_up_ne _ _ (by omega)]; exact h_88
    have hoth : ∀ k, k < N → k ≠ K → cw_90 k = cw k := fun k h1 h2 => (show cw_90 k = cw_84 k by rw [ecw_90, va_up_ne _ _ (by omega)]).trans (hoth k h1 h2)
    exact W.vret hx hb hr (fun t ht hW => ⟨⟨(N + 1 + 1 + 1, bk_9, cw_90), rfl, ⟨rfl, hbb, hoth, by show cw_90 (K) = .inr (2, [.int nu, .int pa, .int od, .int ex, .int rp, .ref (bk_9 (N)), .int (if ex = -1 then 0 else 1), .int 0, .int (-1), .int 0, .int (-1), .int (-1), .int (-1), .int 0]); rw [a_18, if_neg c_89]; exact h_91, by show cw_90 (N) = .inr (3, [.ref (bk_9 (N + 1)), .ref (bk_9 (N + 1 + 1)), .int 0, .int (-1), .int (-1)]); rw [a_21, a_23]; exact h_92, h_93, h_94⟩, by rw [ht]; exact hP, va_K.moved hW.alike hK, hD⟩, hS.F ht⟩) hS.2.2 d_I_init_92
  · have c_89 : ex = (-1) := c_89
    refine lv_iconst (v := 0) hx hb d_I_init_84 (by decide) ?_
    refine lv_goto (tgt := 89) hx hb d_I_init_85 (by decide) ?_
    refine pw_putA (ci := 2) (v := .int (0)) (ty := .int) (fs' := [.int (nu), .int (pa), .int (od), .int (ex), .int (rp), .ref (q_1), .int (0), .int (0), .int (-1), .int (0), .int (-1), .int (-1), .int (-1), .int (0)]) hx hb hw i_I t_I t_I_ok n_I hown hK hP hD hS (K) (by omega) a_17 h_85 rfl 6 (by decide) (hw _ kF_I_56) rfl (t_I_ok 6 (by decide)) rfl rfl (Nat.le_of_ble_eq_true rfl) rfl d_I_init_89 (fun cw_95 H locs ecw_95 hP hD hS => ?_)
    have h_96 : cw_95 (K) = .inr (2, [.int (nu), .int (pa), .int (od), .int (ex), .int (rp), .ref (q_1), .int (0), .int (0), .int (-1), .int (0), .int (-1), .int (-1), .int (-1), .int (0)]) := by rw [ecw_95]; exact va_up_self _ _ _
    have h_97 : cw_95 (N) = .inr (3, [.ref (q_20), .ref (q_22), .int (0), .int (-1), .int (-1)]) := by rw [ecw_95, va_up_ne _ _ (by omega)]; exact h_86
    have h_98 : cw_95 (N + 1) = .inl (cs 0, 8, .inl (fun _ => 0)) := by rw [ecw_95, va_up_ne _ _ (by omega)]; exact h_87
    have h_99 : cw_95 (N + 1 + 1) = .inl (cs 0, 8, .inl (fun _ => 0)) := by rw [ecw_95, va_up_ne _ _ (by omega)]; exact h_88
    have hoth : ∀ k, k < N → k ≠ K → cw_95 k = cw k := fun k h1 h2 => (show cw_95 k = cw_84 k by rw [ecw_95, va_up_ne _ _ (by omega)]).trans (hoth k h1 h2)
    exact W.vret hx hb hr (fun t ht hW => ⟨⟨(N + 1 + 1 + 1, bk_9, cw_95), rfl, ⟨rfl, hbb, hoth, by show cw_95 (K) = .inr (2, [.int nu, .int pa, .int od, .int ex, .int rp, .ref (bk_9 (N)), .int (if ex = -1 then 0 else 1), .int 0, .int (-1), .int 0, .int (-1), .int (-1), .int (-1), .int 0]); rw [a_18, if_pos c_89]; exact h_96, by show cw_95 (N) = .inr (3, [.ref (bk_9 (N + 1)), .ref (bk_9 (N + 1 + 1)), .int 0, .int (-1), .int (-1)]); rw [a_21, a_23]; exact h_97, h_98, h_99⟩, by rw [ht]; exact hP, va_K.moved hW.alike hK, hD⟩, hS.F ht⟩) hS.2.2 d_I_init_92

set_option maxHeartbeats 4000000 in
set_option maxRecDepth 100000 in
theorem c_U_init (l : Launch) (D : va_G) (cs : Nat → ClassId) (N : Nat) (bk : Nat → Nat) (cw : Nat → va_E) (sz : Nat) (K : Nat) (hk : K < N) (h0 : Nat) (ha : bk K = h0) (he : cw K = .inr (1, [.int (0), .int (0), .int (0)]))  : Met l y_U_init w_U_init ({ frames := 1, cells := 0, slots := 0, locals := 12 }) (va_Pc [.ref (h0)] (PB D classes (TY cs) N bk cw sz)) (va_Qv (fun u : Wt => u.1 = N ∧ (∀ k, k < N → u.2.1 k = bk k) ∧ (∀ k, k < N → k ≠ K → u.2.2 k = cw k) ∧ u.2.2 K = .inr (1, [.int 30, .int 20, .int 3])) (Wd D classes (TY cs) (AA N bk sz)) (AA N bk sz)) 0 0 (AA N bk sz) := by
  refine pw_entry (cc := b_U_init) (maxL := 1) (ret := none) (by decide +kernel) rfl (Nat.le_of_ble_eq_true rfl) ?_
  intro p_ e_ s m below_ meth_ c_ ls hx hb hr hml hts hown hlocks hin hsz hP hK hD hS hA hN hl
  have hw : ∀ w ∈ WA, w.before _ s = true := fun w h => hts w (List.mem_cons_of_mem _ h)
  have hown : s.vm.findClass "IssueRows$Rule" = some m.cls := hown
  have hl : lv_has ls 1 [(0, .ref (h0))] := hl
  have hbb : ∀ k, k < N → bk k = bk k := fun _ _ => rfl
  have hoth : ∀ k, k < N → k ≠ K → cw k = cw k := fun _ _ _ => rfl
  refine lv_aload_n hx hb d_U_init_0 rfl (lv_at hl 0 rfl) ?_
  refine W.objInit hx hb hown (hw _ kM_U_3) (hw _ kI_O_init) (hw _ kC_O_init) rfl (by rw [hml]; exact hl.1) rfl d_U_init_1 (Nat.le_of_ble_eq_true rfl) (Nat.le_of_ble_eq_true rfl) ?_
  refine W.eq (g2 := F0 m 4 ls []) rfl ?_
  refine lv_aload_n hx hb d_U_init_4 rfl (lv_at hl 0 rfl) ?_
  refine lv_bipush (v := 30) hx hb d_U_init_5 (by decide) ?_
  refine pw_putA (ci := 1) (v := .int (30)) (ty := .int) (fs' := [.int (30), .int (0), .int (0)]) hx hb hw i_U t_U t_U_ok n_U hown hK hP hD hS (K) (by omega) ha he rfl 0 (by decide) (hw _ kF_U_9) rfl (t_U_ok 0 (by decide)) rfl rfl (Nat.le_of_ble_eq_true rfl) rfl d_U_init_7 (fun cw_1 H locs ecw_1 hP hD hS => ?_)
  have h_2 : cw_1 (K) = .inr (1, [.int (30), .int (0), .int (0)]) := by rw [ecw_1]; exact va_up_self _ _ _
  have hoth : ∀ k, k < N → k ≠ K → cw_1 k = cw k := fun k h1 h2 => (show cw_1 k = cw k by rw [ecw_1, va_up_ne _ _ (by omega)]).trans (hoth k h1 h2)
  refine lv_aload_n hx hb d_U_init_10 rfl (lv_at hl 0 rfl) ?_
  refine lv_bipush (v := 20) hx hb d_U_init_11 (by decide) ?_
  refine pw_putA (ci := 1) (v := .int (20)) (ty := .int) (fs' := [.int (30), .int (20), .int (0)]) hx hb hw i_U t_U t_U_ok n_U hown hK hP hD hS (K) (by omega) ha h_2 rfl 1 (by decide) (hw _ kF_U_15) rfl (t_U_ok 1 (by decide)) rfl rfl (Nat.le_of_ble_eq_true rfl) rfl d_U_init_13 (fun cw_3 H locs ecw_3 hP hD hS => ?_)
  have h_4 : cw_3 (K) = .inr (1, [.int (30), .int (20), .int (0)]) := by rw [ecw_3]; exact va_up_self _ _ _
  have hoth : ∀ k, k < N → k ≠ K → cw_3 k = cw k := fun k h1 h2 => (show cw_3 k = cw_1 k by rw [ecw_3, va_up_ne _ _ (by omega)]).trans (hoth k h1 h2)
  refine lv_aload_n hx hb d_U_init_16 rfl (lv_at hl 0 rfl) ?_
  refine lv_iconst (v := 3) hx hb d_U_init_17 (by decide) ?_
  refine pw_putA (ci := 1) (v := .int (3)) (ty := .int) (fs' := [.int (30), .int (20), .int (3)]) hx hb hw i_U t_U t_U_ok n_U hown hK hP hD hS (K) (by omega) ha h_4 rfl 2 (by decide) (hw _ kF_U_18) rfl (t_U_ok 2 (by decide)) rfl rfl (Nat.le_of_ble_eq_true rfl) rfl d_U_init_18 (fun cw_5 H locs ecw_5 hP hD hS => ?_)
  have h_6 : cw_5 (K) = .inr (1, [.int (30), .int (20), .int (3)]) := by rw [ecw_5]; exact va_up_self _ _ _
  have hoth : ∀ k, k < N → k ≠ K → cw_5 k = cw k := fun k h1 h2 => (show cw_5 k = cw_3 k by rw [ecw_5, va_up_ne _ _ (by omega)]).trans (hoth k h1 h2)
  exact W.vret hx hb hr (fun t ht hW => ⟨⟨(N, bk, cw_5), rfl, ⟨rfl, hbb, hoth, h_6⟩, by rw [ht]; exact hP, va_K.moved hW.alike hK, hD⟩, hS.F ht⟩) hS.2.2 d_U_init_21
set_option maxHeartbeats 4000000 in
set_option maxRecDepth 100000 in
theorem c_G_init (l : Launch) (D : va_G) (cs : Nat → ClassId) (N : Nat) (bk : Nat → Nat) (cw : Nat → va_E) (sz : Nat) (K : Nat) (hk : K < N) (h0 : Nat) (ha : bk K = h0) (he : cw K = .inr (3, [.null, .null, .int (0), .int (0), .int (0)]))  : Met l y_G_init w_G_init ({ frames := 1, cells := 2, slots := 16, locals := 12 }) (va_Pc [.ref (h0)] (PB D classes (TY cs) N bk cw sz)) (va_Qv (fun u : Wt => u.1 = N + 1 + 1 ∧ (∀ k, k < N → u.2.1 k = bk k) ∧ (∀ k, k < N → k ≠ K → u.2.2 k = cw k) ∧ u.2.2 K = .inr (3, [.ref (u.2.1 (N)), .ref (u.2.1 (N + 1)), .int 0, .int (-1), .int (-1)]) ∧ u.2.2 (N) = .inl (cs 0, 8, .inl (fun _ => 0)) ∧ u.2.2 (N + 1) = .inl (cs 0, 8, .inl (fun _ => 0))) (Wd D classes (TY cs) (AA N bk sz)) (AA N bk sz)) 2 16 (AA N bk sz) := by
  refine pw_entry (cc := b_G_init) (maxL := 1) (ret := none) (by decide +kernel) rfl (Nat.le_of_ble_eq_true rfl) ?_
  intro p_ e_ s m below_ meth_ c_ ls hx hb hr hml hts hown hlocks hin hsz hP hK hD hS hA hN hl
  have hw : ∀ w ∈ WA, w.before _ s = true := fun w h => hts w (List.mem_cons_of_mem _ h)
  have hown : s.vm.findClass "IssueRows$Routing" = some m.cls := hown
  have hl : lv_has ls 1 [(0, .ref (h0))] := hl
  have hbb : ∀ k, k < N → bk k = bk k := fun _ _ => rfl
  have hoth : ∀ k, k < N → k ≠ K → cw k = cw k := fun _ _ _ => rfl
  refine lv_aload_n hx hb d_G_init_0 rfl (lv_at hl 0 rfl) ?_
  refine W.objInit hx hb hown (hw _ kM_G_3) (hw _ kI_O_init) (hw _ kC_O_init) rfl (by rw [hml]; exact hl.1) rfl d_G_init_1 (Nat.le_of_ble_eq_true rfl) (Nat.le_of_ble_eq_true rfl) ?_
  refine W.eq (g2 := F0 m 4 ls []) rfl ?_
  refine lv_aload_n hx hb d_G_init_4 rfl (lv_at hl 0 rfl) ?_
  refine lv_bipush (v := 8) hx hb d_G_init_5 (by decide) ?_
  refine pw_newa (atype := .int) hx hb (hw _ kR_int) rfl hK hP hD hS hA 0 rfl (8) rfl (by decide) (Nat.le_of_ble_eq_true rfl) (Nat.le_of_ble_eq_true rfl) d_G_init_7 (fun q_1 H hP hD hS => ?_)
  obtain ⟨bk_2, ebbk_2⟩ : ∃ x, x = va_up bk (N) q_1 := ⟨_, rfl⟩
  obtain ⟨cw_3, eccw_3⟩ : ∃ x, x = va_up cw (N) (.inl (cs 0, 8, .inl (fun _ => 0))) := ⟨_, rfl⟩
  rw [← ebbk_2, ← eccw_3] at hP hD
  have hb_4 : ∀ k, k < N → bk_2 k = bk k := fun k h => by rw [ebbk_2]; exact va_up_ne _ _ (by omega)
  have a_5 : bk_2 (K) = h0 := (hb_4 (K) (by omega)).trans ha
  have hbb : ∀ k, k < N → bk_2 k = bk k := fun k h => (hb_4 k (by omega)).trans (hbb k h)
  have a_6 : bk_2 (N) = q_1 := by rw [ebbk_2]; exact va_up_self _ _ _
  have h_7 : cw_3 (K) = .inr (3, [.null, .null, .int (0), .int (0), .int (0)]) := (show cw_3 (K) = cw (K) by rw [eccw_3, va_up_ne _ _ (by omega)]).trans he
  have h_8 : cw_3 (N) = .inl (cs 0, 8, .inl (fun _ => 0)) := by rw [eccw_3]; exact va_up_self _ _ _
  have hoth : ∀ k, k < N → k ≠ K → cw_3 k = cw k := fun k h1 h2 => (show cw_3 k = cw k by rw [eccw_3, va_up_ne _ _ (by omega)]).trans (hoth k h1 h2)
  refine pw_putFA (ci := 3) (v := .ref (q_1)) (ty := (t_G 0)) (fs' := [.ref (q_1), .null, .int (0), .int (0), .int (0)]) hx hb hw i_G t_G t_G_ok n_G hown hK hP hD hS (K) (by omega) a_5 h_7 rfl 0 (by decide) (hw _ kF_G_9) rfl hin rfl (t_G_ok 0 (by decide)) rfl rfl (Nat.le_of_ble_eq_true rfl) rfl d_G_init_9 (fun cw_9 H locs ecw_9 hP hD hS => ?_)
  have h_10 : cw_9 (K) = .inr (3, [.ref (q_1), .null, .int (0), .int (0), .int (0)]) := by rw [ecw_9]; exact va_up_self _ _ _
  have h_11 : cw_9 (N) = .inl (cs 0, 8, .inl (fun _ => 0)) := by rw [ecw_9, va_up_ne _ _ (by omega)]; exact h_8
  have hoth : ∀ k, k < N → k ≠ K → cw_9 k = cw k := fun k h1 h2 => (show cw_9 k = cw_3 k by rw [ecw_9, va_up_ne _ _ (by omega)]).trans (hoth k h1 h2)
  refine lv_aload_n hx hb d_G_init_12 rfl (lv_at hl 0 rfl) ?_
  refine lv_bipush (v := 8) hx hb d_G_init_13 (by decide) ?_
  refine pw_newa (atype := .int) hx hb (hw _ kR_int) rfl hK hP hD hS hA 0 rfl (8) rfl (by decide) (Nat.le_of_ble_eq_true rfl) (Nat.le_of_ble_eq_true rfl) d_G_init_15 (fun q_12 H hP hD hS => ?_)
  obtain ⟨bk_13, ebbk_13⟩ : ∃ x, x = va_up bk_2 (N + 1) q_12 := ⟨_, rfl⟩
  obtain ⟨cw_14, eccw_14⟩ : ∃ x, x = va_up cw_9 (N + 1) (.inl (cs 0, 8, .inl (fun _ => 0))) := ⟨_, rfl⟩
  rw [← ebbk_13, ← eccw_14] at hP hD
  have hb_15 : ∀ k, k < N + 1 → bk_13 k = bk_2 k := fun k h => by rw [ebbk_13]; exact va_up_ne _ _ (by omega)
  have a_16 : bk_13 (K) = h0 := (hb_15 (K) (by omega)).trans a_5
  have a_17 : bk_13 (N) = q_1 := (hb_15 (N) (by omega)).trans a_6
  have hbb : ∀ k, k < N → bk_13 k = bk k := fun k h => (hb_15 k (by omega)).trans (hbb k h)
  have a_18 : bk_13 (N + 1) = q_12 := by rw [ebbk_13]; exact va_up_self _ _ _
  have h_19 : cw_14 (K) = .inr (3, [.ref (q_1), .null, .int (0), .int (0), .int (0)]) := (show cw_14 (K) = cw_9 (K) by rw [eccw_14, va_up_ne _ _ (by omega)]).trans h_10
  have h_20 : cw_14 (N) = .inl (cs 0, 8, .inl (fun _ => 0)) := (show cw_14 (N) = cw_9 (N) by rw [eccw_14, va_up_ne _ _ (by omega)]).trans h_11
  have h_21 : cw_14 (N + 1) = .inl (cs 0, 8, .inl (fun _ => 0)) := by rw [eccw_14]; exact va_up_self _ _ _
  have hoth : ∀ k, k < N → k ≠ K → cw_14 k = cw k := fun k h1 h2 => (show cw_14 k = cw_9 k by rw [eccw_14, va_up_ne _ _ (by omega)]).trans (hoth k h1 h2)
  refine pw_putFA (ci := 3) (v := .ref (q_12)) (ty := (t_G 1)) (fs' := [.ref (q_1), .ref (q_12), .int (0), .int (0), .int (0)]) hx hb hw i_G t_G t_G_ok n_G hown hK hP hD hS (K) (by omega) a_16 h_19 rfl 1 (by decide) (hw _ kF_G_15) rfl hin rfl (t_G_ok 1 (by decide)) rfl rfl (Nat.le_of_ble_eq_true rfl) rfl d_G_init_17 (fun cw_22 H locs ecw_22 hP hD hS => ?_)
  have h_23 : cw_22 (K) = .inr (3, [.ref (q_1), .ref (q_12), .int (0), .int (0), .int (0)]) := by rw [ecw_22]; exact va_up_self _ _ _
  have h_24 : cw_22 (N) = .inl (cs 0, 8, .inl (fun _ => 0)) := by rw [ecw_22, va_up_ne _ _ (by omega)]; exact h_20
  have h_25 : cw_22 (N + 1) = .inl (cs 0, 8, .inl (fun _ => 0)) := by rw [ecw_22, va_up_ne _ _ (by omega)]; exact h_21
  have hoth : ∀ k, k < N → k ≠ K → cw_22 k = cw k := fun k h1 h2 => (show cw_22 k = cw_14 k by rw [ecw_22, va_up_ne _ _ (by omega)]).trans (hoth k h1 h2)
  refine lv_aload_n hx hb d_G_init_20 rfl (lv_at hl 0 rfl) ?_
  refine lv_iconst (v := 0) hx hb d_G_init_21 (by decide) ?_
  refine pw_putA (ci := 3) (v := .int (0)) (ty := .int) (fs' := [.ref (q_1), .ref (q_12), .int (0), .int (0), .int (0)]) hx hb hw i_G t_G t_G_ok n_G hown hK hP hD hS (K) (by omega) a_16 h_23 rfl 2 (by decide) (hw _ kF_G_18) rfl (t_G_ok 2 (by decide)) rfl rfl (Nat.le_of_ble_eq_true rfl) rfl d_G_init_22 (fun cw_26 H locs ecw_26 hP hD hS => ?_)
  have h_27 : cw_26 (K) = .inr (3, [.ref (q_1), .ref (q_12), .int (0), .int (0), .int (0)]) := by rw [ecw_26]; exact va_up_self _ _ _
  have h_28 : cw_26 (N) = .inl (cs 0, 8, .inl (fun _ => 0)) := by rw [ecw_26, va_up_ne _ _ (by omega)]; exact h_24
  have h_29 : cw_26 (N + 1) = .inl (cs 0, 8, .inl (fun _ => 0)) := by rw [ecw_26, va_up_ne _ _ (by omega)]; exact h_25
  have hoth : ∀ k, k < N → k ≠ K → cw_26 k = cw k := fun k h1 h2 => (show cw_26 k = cw_22 k by rw [ecw_26, va_up_ne _ _ (by omega)]).trans (hoth k h1 h2)
  refine lv_aload_n hx hb d_G_init_25 rfl (lv_at hl 0 rfl) ?_
  refine lv_iconst (v := -1) hx hb d_G_init_26 (by decide) ?_
  refine pw_putA (ci := 3) (v := .int (-1)) (ty := .int) (fs' := [.ref (q_1), .ref (q_12), .int (0), .int (-1), .int (0)]) hx hb hw i_G t_G t_G_ok n_G hown hK hP hD hS (K) (by omega) a_16 h_27 rfl 3 (by decide) (hw _ kF_G_22) rfl (t_G_ok 3 (by decide)) rfl rfl (Nat.le_of_ble_eq_true rfl) rfl d_G_init_27 (fun cw_30 H locs ecw_30 hP hD hS => ?_)
  have h_31 : cw_30 (K) = .inr (3, [.ref (q_1), .ref (q_12), .int (0), .int (-1), .int (0)]) := by rw [ecw_30]; exact va_up_self _ _ _
  have h_32 : cw_30 (N) = .inl (cs 0, 8, .inl (fun _ => 0)) := by rw [ecw_30, va_up_ne _ _ (by omega)]; exact h_28
  have h_33 : cw_30 (N + 1) = .inl (cs 0, 8, .inl (fun _ => 0)) := by rw [ecw_30, va_up_ne _ _ (by omega)]; exact h_29
  have hoth : ∀ k, k < N → k ≠ K → cw_30 k = cw k := fun k h1 h2 => (show cw_30 k = cw_26 k by rw [ecw_30, va_up_ne _ _ (by omega)]).trans (hoth k h1 h2)
  refine lv_aload_n hx hb d_G_init_30 rfl (lv_at hl 0 rfl) ?_
  refine lv_iconst (v := -1) hx hb d_G_init_31 (by decide) ?_
  refine pw_putA (ci := 3) (v := .int (-1)) (ty := .int) (fs' := [.ref (q_1), .ref (q_12), .int (0), .int (-1), .int (-1)]) hx hb hw i_G t_G t_G_ok n_G hown hK hP hD hS (K) (by omega) a_16 h_31 rfl 4 (by decide) (hw _ kF_G_25) rfl (t_G_ok 4 (by decide)) rfl rfl (Nat.le_of_ble_eq_true rfl) rfl d_G_init_32 (fun cw_34 H locs ecw_34 hP hD hS => ?_)
  have h_35 : cw_34 (K) = .inr (3, [.ref (q_1), .ref (q_12), .int (0), .int (-1), .int (-1)]) := by rw [ecw_34]; exact va_up_self _ _ _
  have h_36 : cw_34 (N) = .inl (cs 0, 8, .inl (fun _ => 0)) := by rw [ecw_34, va_up_ne _ _ (by omega)]; exact h_32
  have h_37 : cw_34 (N + 1) = .inl (cs 0, 8, .inl (fun _ => 0)) := by rw [ecw_34, va_up_ne _ _ (by omega)]; exact h_33
  have hoth : ∀ k, k < N → k ≠ K → cw_34 k = cw k := fun k h1 h2 => (show cw_34 k = cw_30 k by rw [ecw_34, va_up_ne _ _ (by omega)]).trans (hoth k h1 h2)
  exact W.vret hx hb hr (fun t ht hW => ⟨⟨(N + 1 + 1, bk_13, cw_34), rfl, ⟨rfl, hbb, hoth, by show cw_34 (K) = .inr (3, [.ref (bk_13 (N)), .ref (bk_13 (N + 1)), .int 0, .int (-1), .int (-1)]); rw [a_17, a_18]; exact h_35, h_36, h_37⟩, by rw [ht]; exact hP, va_K.moved hW.alike hK, hD⟩, hS.F ht⟩) hS.2.2 d_G_init_35
set_option maxHeartbeats 4000000 in
set_option maxRecDepth 100000 in
theorem c_V_init (l : Launch) (D : va_G) (cs : Nat → ClassId) (N : Nat) (bk : Nat → Nat) (cw : Nat → va_E) (sz : Nat) (K : Nat) (hk : K < N) (h0 : Nat) (ha : bk K = h0) (he : cw K = .inr (5, [.null, .null, .int (0)]))  : Met l y_V_init w_V_init ({ frames := 1, cells := 2, slots := 241, locals := 12 }) (va_Pc [.ref (h0)] (PB D classes (TY cs) N bk cw sz)) (va_Qv (fun u : Wt => u.1 = N + 1 + 1 ∧ (∀ k, k < N → u.2.1 k = bk k) ∧ (∀ k, k < N → k ≠ K → u.2.2 k = cw k) ∧ u.2.2 K = .inr (5, [.ref (u.2.1 (N)), .ref (u.2.1 (N + 1)), .int 0]) ∧ u.2.2 (N) = .inl (cs 0, 200, .inl (fun _ => 0)) ∧ u.2.2 (N + 1) = .inl (cs 0, 41, .inl (fun _ => 0))) (Wd D classes (TY cs) (AA N bk sz)) (AA N bk sz)) 2 241 (AA N bk sz) := by
  refine pw_entry (cc := b_V_init) (maxL := 1) (ret := none) (by decide +kernel) rfl (Nat.le_of_ble_eq_true rfl) ?_
  intro p_ e_ s m below_ meth_ c_ ls hx hb hr hml hts hown hlocks hin hsz hP hK hD hS hA hN hl
  have hw : ∀ w ∈ WA, w.before _ s = true := fun w h => hts w (List.mem_cons_of_mem _ h)
  have hown : s.vm.findClass "IssueRows$Volumes" = some m.cls := hown
  have hl : lv_has ls 1 [(0, .ref (h0))] := hl
  have hbb : ∀ k, k < N → bk k = bk k := fun _ _ => rfl
  have hoth : ∀ k, k < N → k ≠ K → cw k = cw k := fun _ _ _ => rfl
  refine lv_aload_n hx hb d_V_init_0 rfl (lv_at hl 0 rfl) ?_
  refine W.objInit hx hb hown (hw _ kM_V_3) (hw _ kI_O_init) (hw _ kC_O_init) rfl (by rw [hml]; exact hl.1) rfl d_V_init_1 (Nat.le_of_ble_eq_true rfl) (Nat.le_of_ble_eq_true rfl) ?_
  refine W.eq (g2 := F0 m 4 ls []) rfl ?_
  refine lv_aload_n hx hb d_V_init_4 rfl (lv_at hl 0 rfl) ?_
  refine lv_sipush (v := 200) hx hb d_V_init_5 (by decide) ?_
  refine pw_newa (atype := .int) hx hb (hw _ kR_int) rfl hK hP hD hS hA 0 rfl (200) rfl (by decide) (Nat.le_of_ble_eq_true rfl) (Nat.le_of_ble_eq_true rfl) d_V_init_8 (fun q_1 H hP hD hS => ?_)
  obtain ⟨bk_2, ebbk_2⟩ : ∃ x, x = va_up bk (N) q_1 := ⟨_, rfl⟩
  obtain ⟨cw_3, eccw_3⟩ : ∃ x, x = va_up cw (N) (.inl (cs 0, 200, .inl (fun _ => 0))) := ⟨_, rfl⟩
  rw [← ebbk_2, ← eccw_3] at hP hD
  have hb_4 : ∀ k, k < N → bk_2 k = bk k := fun k h => by rw [ebbk_2]; exact va_up_ne _ _ (by omega)
  have a_5 : bk_2 (K) = h0 := (hb_4 (K) (by omega)).trans ha
  have hbb : ∀ k, k < N → bk_2 k = bk k := fun k h => (hb_4 k (by omega)).trans (hbb k h)
  have a_6 : bk_2 (N) = q_1 := by rw [ebbk_2]; exact va_up_self _ _ _
  have h_7 : cw_3 (K) = .inr (5, [.null, .null, .int (0)]) := (show cw_3 (K) = cw (K) by rw [eccw_3, va_up_ne _ _ (by omega)]).trans he
  have h_8 : cw_3 (N) = .inl (cs 0, 200, .inl (fun _ => 0)) := by rw [eccw_3]; exact va_up_self _ _ _
  have hoth : ∀ k, k < N → k ≠ K → cw_3 k = cw k := fun k h1 h2 => (show cw_3 k = cw k by rw [eccw_3, va_up_ne _ _ (by omega)]).trans (hoth k h1 h2)
  refine pw_putFA (ci := 5) (v := .ref (q_1)) (ty := (t_V 0)) (fs' := [.ref (q_1), .null, .int (0)]) hx hb hw i_V t_V t_V_ok n_V hown hK hP hD hS (K) (by omega) a_5 h_7 rfl 0 (by decide) (hw _ kF_V_9) rfl hin rfl (t_V_ok 0 (by decide)) rfl rfl (Nat.le_of_ble_eq_true rfl) rfl d_V_init_10 (fun cw_9 H locs ecw_9 hP hD hS => ?_)
  have h_10 : cw_9 (K) = .inr (5, [.ref (q_1), .null, .int (0)]) := by rw [ecw_9]; exact va_up_self _ _ _
  have h_11 : cw_9 (N) = .inl (cs 0, 200, .inl (fun _ => 0)) := by rw [ecw_9, va_up_ne _ _ (by omega)]; exact h_8
  have hoth : ∀ k, k < N → k ≠ K → cw_9 k = cw k := fun k h1 h2 => (show cw_9 k = cw_3 k by rw [ecw_9, va_up_ne _ _ (by omega)]).trans (hoth k h1 h2)
  refine lv_aload_n hx hb d_V_init_13 rfl (lv_at hl 0 rfl) ?_
  refine lv_bipush (v := 41) hx hb d_V_init_14 (by decide) ?_
  refine pw_newa (atype := .int) hx hb (hw _ kR_int) rfl hK hP hD hS hA 0 rfl (41) rfl (by decide) (Nat.le_of_ble_eq_true rfl) (Nat.le_of_ble_eq_true rfl) d_V_init_16 (fun q_12 H hP hD hS => ?_)
  obtain ⟨bk_13, ebbk_13⟩ : ∃ x, x = va_up bk_2 (N + 1) q_12 := ⟨_, rfl⟩
  obtain ⟨cw_14, eccw_14⟩ : ∃ x, x = va_up cw_9 (N + 1) (.inl (cs 0, 41, .inl (fun _ => 0))) := ⟨_, rfl⟩
  rw [← ebbk_13, ← eccw_14] at hP hD
  have hb_15 : ∀ k, k < N + 1 → bk_13 k = bk_2 k := fun k h => by rw [ebbk_13]; exact va_up_ne _ _ (by omega)
  have a_16 : bk_13 (K) = h0 := (hb_15 (K) (by omega)).trans a_5
  have a_17 : bk_13 (N) = q_1 := (hb_15 (N) (by omega)).trans a_6
  have hbb : ∀ k, k < N → bk_13 k = bk k := fun k h => (hb_15 k (by omega)).trans (hbb k h)
  have a_18 : bk_13 (N + 1) = q_12 := by rw [ebbk_13]; exact va_up_self _ _ _
  have h_19 : cw_14 (K) = .inr (5, [.ref (q_1), .null, .int (0)]) := (show cw_14 (K) = cw_9 (K) by rw [eccw_14, va_up_ne _ _ (by omega)]).trans h_10
  have h_20 : cw_14 (N) = .inl (cs 0, 200, .inl (fun _ => 0)) := (show cw_14 (N) = cw_9 (N) by rw [eccw_14, va_up_ne _ _ (by omega)]).trans h_11
  have h_21 : cw_14 (N + 1) = .inl (cs 0, 41, .inl (fun _ => 0)) := by rw [eccw_14]; exact va_up_self _ _ _
  have hoth : ∀ k, k < N → k ≠ K → cw_14 k = cw k := fun k h1 h2 => (show cw_14 k = cw_9 k by rw [eccw_14, va_up_ne _ _ (by omega)]).trans (hoth k h1 h2)
  refine pw_putFA (ci := 5) (v := .ref (q_12)) (ty := (t_V 1)) (fs' := [.ref (q_1), .ref (q_12), .int (0)]) hx hb hw i_V t_V t_V_ok n_V hown hK hP hD hS (K) (by omega) a_16 h_19 rfl 1 (by decide) (hw _ kF_V_15) rfl hin rfl (t_V_ok 1 (by decide)) rfl rfl (Nat.le_of_ble_eq_true rfl) rfl d_V_init_18 (fun cw_22 H locs ecw_22 hP hD hS => ?_)
  have h_23 : cw_22 (K) = .inr (5, [.ref (q_1), .ref (q_12), .int (0)]) := by rw [ecw_22]; exact va_up_self _ _ _
  have h_24 : cw_22 (N) = .inl (cs 0, 200, .inl (fun _ => 0)) := by rw [ecw_22, va_up_ne _ _ (by omega)]; exact h_20
  have h_25 : cw_22 (N + 1) = .inl (cs 0, 41, .inl (fun _ => 0)) := by rw [ecw_22, va_up_ne _ _ (by omega)]; exact h_21
  have hoth : ∀ k, k < N → k ≠ K → cw_22 k = cw k := fun k h1 h2 => (show cw_22 k = cw_14 k by rw [ecw_22, va_up_ne _ _ (by omega)]).trans (hoth k h1 h2)
  refine lv_aload_n hx hb d_V_init_21 rfl (lv_at hl 0 rfl) ?_
  refine lv_iconst (v := 0) hx hb d_V_init_22 (by decide) ?_
  refine pw_putA (ci := 5) (v := .int (0)) (ty := .int) (fs' := [.ref (q_1), .ref (q_12), .int (0)]) hx hb hw i_V t_V t_V_ok n_V hown hK hP hD hS (K) (by omega) a_16 h_23 rfl 2 (by decide) (hw _ kF_V_18) rfl (t_V_ok 2 (by decide)) rfl rfl (Nat.le_of_ble_eq_true rfl) rfl d_V_init_23 (fun cw_26 H locs ecw_26 hP hD hS => ?_)
  have h_27 : cw_26 (K) = .inr (5, [.ref (q_1), .ref (q_12), .int (0)]) := by rw [ecw_26]; exact va_up_self _ _ _
  have h_28 : cw_26 (N) = .inl (cs 0, 200, .inl (fun _ => 0)) := by rw [ecw_26, va_up_ne _ _ (by omega)]; exact h_24
  have h_29 : cw_26 (N + 1) = .inl (cs 0, 41, .inl (fun _ => 0)) := by rw [ecw_26, va_up_ne _ _ (by omega)]; exact h_25
  have hoth : ∀ k, k < N → k ≠ K → cw_26 k = cw k := fun k h1 h2 => (show cw_26 k = cw_22 k by rw [ecw_26, va_up_ne _ _ (by omega)]).trans (hoth k h1 h2)
  exact W.vret hx hb hr (fun t ht hW => ⟨⟨(N + 1 + 1, bk_13, cw_26), rfl, ⟨rfl, hbb, hoth, by show cw_26 (K) = .inr (5, [.ref (bk_13 (N)), .ref (bk_13 (N + 1)), .int 0]); rw [a_17, a_18]; exact h_27, h_28, h_29⟩, by rw [ht]; exact hP, va_K.moved hW.alike hK, hD⟩, hS.F ht⟩) hS.2.2 d_V_init_26
set_option maxHeartbeats 4000000 in
set_option maxRecDepth 100000 in
theorem c_S_init (l : Launch) (D : va_G) (cs : Nat → ClassId) (N : Nat) (bk : Nat → Nat) (cw : Nat → va_E) (sz : Nat) (K : Nat) (hk : K < N) (h0 : Nat) (ha : bk K = h0) (he : cw K = .inr (6, [.null, .null, .null, .int (0)]))  : Met l y_S_init w_S_init ({ frames := 1, cells := 3, slots := 600, locals := 12 }) (va_Pc [.ref (h0)] (PB D classes (TY cs) N bk cw sz)) (va_Qv (fun u : Wt => u.1 = N + 1 + 1 + 1 ∧ (∀ k, k < N → u.2.1 k = bk k) ∧ (∀ k, k < N → k ≠ K → u.2.2 k = cw k) ∧ u.2.2 K = .inr (6, [.ref (u.2.1 (N)), .ref (u.2.1 (N + 1)), .ref (u.2.1 (N + 1 + 1)), .int 0]) ∧ u.2.2 (N) = .inl (cs 0, 200, .inl (fun _ => 0)) ∧ u.2.2 (N + 1) = .inl (cs 0, 200, .inl (fun _ => 0)) ∧ u.2.2 (N + 1 + 1) = .inl (cs 0, 200, .inl (fun _ => 0))) (Wd D classes (TY cs) (AA N bk sz)) (AA N bk sz)) 3 600 (AA N bk sz) := by
  refine pw_entry (cc := b_S_init) (maxL := 1) (ret := none) (by decide +kernel) rfl (Nat.le_of_ble_eq_true rfl) ?_
  intro p_ e_ s m below_ meth_ c_ ls hx hb hr hml hts hown hlocks hin hsz hP hK hD hS hA hN hl
  have hw : ∀ w ∈ WA, w.before _ s = true := fun w h => hts w (List.mem_cons_of_mem _ h)
  have hown : s.vm.findClass "IssueRows$Statement" = some m.cls := hown
  have hl : lv_has ls 1 [(0, .ref (h0))] := hl
  have hbb : ∀ k, k < N → bk k = bk k := fun _ _ => rfl
  have hoth : ∀ k, k < N → k ≠ K → cw k = cw k := fun _ _ _ => rfl
  refine lv_aload_n hx hb d_S_init_0 rfl (lv_at hl 0 rfl) ?_
  refine W.objInit hx hb hown (hw _ kM_S_3) (hw _ kI_O_init) (hw _ kC_O_init) rfl (by rw [hml]; exact hl.1) rfl d_S_init_1 (Nat.le_of_ble_eq_true rfl) (Nat.le_of_ble_eq_true rfl) ?_
  refine W.eq (g2 := F0 m 4 ls []) rfl ?_
  refine lv_aload_n hx hb d_S_init_4 rfl (lv_at hl 0 rfl) ?_
  refine lv_sipush (v := 200) hx hb d_S_init_5 (by decide) ?_
  refine pw_newa (atype := .int) hx hb (hw _ kR_int) rfl hK hP hD hS hA 0 rfl (200) rfl (by decide) (Nat.le_of_ble_eq_true rfl) (Nat.le_of_ble_eq_true rfl) d_S_init_8 (fun q_1 H hP hD hS => ?_)
  obtain ⟨bk_2, ebbk_2⟩ : ∃ x, x = va_up bk (N) q_1 := ⟨_, rfl⟩
  obtain ⟨cw_3, eccw_3⟩ : ∃ x, x = va_up cw (N) (.inl (cs 0, 200, .inl (fun _ => 0))) := ⟨_, rfl⟩
  rw [← ebbk_2, ← eccw_3] at hP hD
  have hb_4 : ∀ k, k < N → bk_2 k = bk k := fun k h => by rw [ebbk_2]; exact va_up_ne _ _ (by omega)
  have a_5 : bk_2 (K) = h0 := (hb_4 (K) (by omega)).trans ha
  have hbb : ∀ k, k < N → bk_2 k = bk k := fun k h => (hb_4 k (by omega)).trans (hbb k h)
  have a_6 : bk_2 (N) = q_1 := by rw [ebbk_2]; exact va_up_self _ _ _
  have h_7 : cw_3 (K) = .inr (6, [.null, .null, .null, .int (0)]) := (show cw_3 (K) = cw (K) by rw [eccw_3, va_up_ne _ _ (by omega)]).trans he
  have h_8 : cw_3 (N) = .inl (cs 0, 200, .inl (fun _ => 0)) := by rw [eccw_3]; exact va_up_self _ _ _
  have hoth : ∀ k, k < N → k ≠ K → cw_3 k = cw k := fun k h1 h2 => (show cw_3 k = cw k by rw [eccw_3, va_up_ne _ _ (by omega)]).trans (hoth k h1 h2)
  refine pw_putFA (ci := 6) (v := .ref (q_1)) (ty := (t_S 0)) (fs' := [.ref (q_1), .null, .null, .int (0)]) hx hb hw i_S t_S t_S_ok n_S hown hK hP hD hS (K) (by omega) a_5 h_7 rfl 0 (by decide) (hw _ kF_S_9) rfl hin rfl (t_S_ok 0 (by decide)) rfl rfl (Nat.le_of_ble_eq_true rfl) rfl d_S_init_10 (fun cw_9 H locs ecw_9 hP hD hS => ?_)
  have h_10 : cw_9 (K) = .inr (6, [.ref (q_1), .null, .null, .int (0)]) := by rw [ecw_9]; exact va_up_self _ _ _
  have h_11 : cw_9 (N) = .inl (cs 0, 200, .inl (fun _ => 0)) := by rw [ecw_9, va_up_ne _ _ (by omega)]; exact h_8
  have hoth : ∀ k, k < N → k ≠ K → cw_9 k = cw k := fun k h1 h2 => (show cw_9 k = cw_3 k by rw [ecw_9, va_up_ne _ _ (by omega)]).trans (hoth k h1 h2)
  refine lv_aload_n hx hb d_S_init_13 rfl (lv_at hl 0 rfl) ?_
  refine lv_sipush (v := 200) hx hb d_S_init_14 (by decide) ?_
  refine pw_newa (atype := .int) hx hb (hw _ kR_int) rfl hK hP hD hS hA 0 rfl (200) rfl (by decide) (Nat.le_of_ble_eq_true rfl) (Nat.le_of_ble_eq_true rfl) d_S_init_17 (fun q_12 H hP hD hS => ?_)
  obtain ⟨bk_13, ebbk_13⟩ : ∃ x, x = va_up bk_2 (N + 1) q_12 := ⟨_, rfl⟩
  obtain ⟨cw_14, eccw_14⟩ : ∃ x, x = va_up cw_9 (N + 1) (.inl (cs 0, 200, .inl (fun _ => 0))) := ⟨_, rfl⟩
  rw [← ebbk_13, ← eccw_14] at hP hD
  have hb_15 : ∀ k, k < N + 1 → bk_13 k = bk_2 k := fun k h => by rw [ebbk_13]; exact va_up_ne _ _ (by omega)
  have a_16 : bk_13 (K) = h0 := (hb_15 (K) (by omega)).trans a_5
  have a_17 : bk_13 (N) = q_1 := (hb_15 (N) (by omega)).trans a_6
  have hbb : ∀ k, k < N → bk_13 k = bk k := fun k h => (hb_15 k (by omega)).trans (hbb k h)
  have a_18 : bk_13 (N + 1) = q_12 := by rw [ebbk_13]; exact va_up_self _ _ _
  have h_19 : cw_14 (K) = .inr (6, [.ref (q_1), .null, .null, .int (0)]) := (show cw_14 (K) = cw_9 (K) by rw [eccw_14, va_up_ne _ _ (by omega)]).trans h_10
  have h_20 : cw_14 (N) = .inl (cs 0, 200, .inl (fun _ => 0)) := (show cw_14 (N) = cw_9 (N) by rw [eccw_14, va_up_ne _ _ (by omega)]).trans h_11
  have h_21 : cw_14 (N + 1) = .inl (cs 0, 200, .inl (fun _ => 0)) := by rw [eccw_14]; exact va_up_self _ _ _
  have hoth : ∀ k, k < N → k ≠ K → cw_14 k = cw k := fun k h1 h2 => (show cw_14 k = cw_9 k by rw [eccw_14, va_up_ne _ _ (by omega)]).trans (hoth k h1 h2)
  refine pw_putFA (ci := 6) (v := .ref (q_12)) (ty := (t_S 1)) (fs' := [.ref (q_1), .ref (q_12), .null, .int (0)]) hx hb hw i_S t_S t_S_ok n_S hown hK hP hD hS (K) (by omega) a_16 h_19 rfl 1 (by decide) (hw _ kF_S_15) rfl hin rfl (t_S_ok 1 (by decide)) rfl rfl (Nat.le_of_ble_eq_true rfl) rfl d_S_init_19 (fun cw_22 H locs ecw_22 hP hD hS => ?_)
  have h_23 : cw_22 (K) = .inr (6, [.ref (q_1), .ref (q_12), .null, .int (0)]) := by rw [ecw_22]; exact va_up_self _ _ _
  have h_24 : cw_22 (N) = .inl (cs 0, 200, .inl (fun _ => 0)) := by rw [ecw_22, va_up_ne _ _ (by omega)]; exact h_20
  have h_25 : cw_22 (N + 1) = .inl (cs 0, 200, .inl (fun _ => 0)) := by rw [ecw_22, va_up_ne _ _ (by omega)]; exact h_21
  have hoth : ∀ k, k < N → k ≠ K → cw_22 k = cw k := fun k h1 h2 => (show cw_22 k = cw_14 k by rw [ecw_22, va_up_ne _ _ (by omega)]).trans (hoth k h1 h2)
  refine lv_aload_n hx hb d_S_init_22 rfl (lv_at hl 0 rfl) ?_
  refine lv_sipush (v := 200) hx hb d_S_init_23 (by decide) ?_
  refine pw_newa (atype := .int) hx hb (hw _ kR_int) rfl hK hP hD hS hA 0 rfl (200) rfl (by decide) (Nat.le_of_ble_eq_true rfl) (Nat.le_of_ble_eq_true rfl) d_S_init_26 (fun q_26 H hP hD hS => ?_)
  obtain ⟨bk_27, ebbk_27⟩ : ∃ x, x = va_up bk_13 (N + 1 + 1) q_26 := ⟨_, rfl⟩
  obtain ⟨cw_28, eccw_28⟩ : ∃ x, x = va_up cw_22 (N + 1 + 1) (.inl (cs 0, 200, .inl (fun _ => 0))) := ⟨_, rfl⟩
  rw [← ebbk_27, ← eccw_28] at hP hD
  have hb_29 : ∀ k, k < N + 1 + 1 → bk_27 k = bk_13 k := fun k h => by rw [ebbk_27]; exact va_up_ne _ _ (by omega)
  have a_30 : bk_27 (K) = h0 := (hb_29 (K) (by omega)).trans a_16
  have a_31 : bk_27 (N) = q_1 := (hb_29 (N) (by omega)).trans a_17
  have a_32 : bk_27 (N + 1) = q_12 := (hb_29 (N + 1) (by omega)).trans a_18
  have hbb : ∀ k, k < N → bk_27 k = bk k := fun k h => (hb_29 k (by omega)).trans (hbb k h)
  have a_33 : bk_27 (N + 1 + 1) = q_26 := by rw [ebbk_27]; exact va_up_self _ _ _
  have h_34 : cw_28 (K) = .inr (6, [.ref (q_1), .ref (q_12), .null, .int (0)]) := (show cw_28 (K) = cw_22 (K) by rw [eccw_28, va_up_ne _ _ (by omega)]).trans h_23
  have h_35 : cw_28 (N) = .inl (cs 0, 200, .inl (fun _ => 0)) := (show cw_28 (N) = cw_22 (N) by rw [eccw_28, va_up_ne _ _ (by omega)]).trans h_24
  have h_36 : cw_28 (N + 1) = .inl (cs 0, 200, .inl (fun _ => 0)) := (show cw_28 (N + 1) = cw_22 (N + 1) by rw [eccw_28, va_up_ne _ _ (by omega)]).trans h_25
  have h_37 : cw_28 (N + 1 + 1) = .inl (cs 0, 200, .inl (fun _ => 0)) := by rw [eccw_28]; exact va_up_self _ _ _
  have hoth : ∀ k, k < N → k ≠ K → cw_28 k = cw k := fun k h1 h2 => (show cw_28 k = cw_22 k by rw [eccw_28, va_up_ne _ _ (by omega)]).trans (hoth k h1 h2)
  refine pw_putFA (ci := 6) (v := .ref (q_26)) (ty := (t_S 2)) (fs' := [.ref (q_1), .ref (q_12), .ref (q_26), .int (0)]) hx hb hw i_S t_S t_S_ok n_S hown hK hP hD hS (K) (by omega) a_30 h_34 rfl 2 (by decide) (hw _ kF_S_18) rfl hin rfl (t_S_ok 2 (by decide)) rfl rfl (Nat.le_of_ble_eq_true rfl) rfl d_S_init_28 (fun cw_38 H locs ecw_38 hP hD hS => ?_)
  have h_39 : cw_38 (K) = .inr (6, [.ref (q_1), .ref (q_12), .ref (q_26), .int (0)]) := by rw [ecw_38]; exact va_up_self _ _ _
  have h_40 : cw_38 (N) = .inl (cs 0, 200, .inl (fun _ => 0)) := by rw [ecw_38, va_up_ne _ _ (by omega)]; exact h_35
  have h_41 : cw_38 (N + 1) = .inl (cs 0, 200, .inl (fun _ => 0)) := by rw [ecw_38, va_up_ne _ _ (by omega)]; exact h_36
  have h_42 : cw_38 (N + 1 + 1) = .inl (cs 0, 200, .inl (fun _ => 0)) := by rw [ecw_38, va_up_ne _ _ (by omega)]; exact h_37
  have hoth : ∀ k, k < N → k ≠ K → cw_38 k = cw k := fun k h1 h2 => (show cw_38 k = cw_28 k by rw [ecw_38, va_up_ne _ _ (by omega)]).trans (hoth k h1 h2)
  refine lv_aload_n hx hb d_S_init_31 rfl (lv_at hl 0 rfl) ?_
  refine lv_iconst (v := 0) hx hb d_S_init_32 (by decide) ?_
  refine pw_putA (ci := 6) (v := .int (0)) (ty := .int) (fs' := [.ref (q_1), .ref (q_12), .ref (q_26), .int (0)]) hx hb hw i_S t_S t_S_ok n_S hown hK hP hD hS (K) (by omega) a_30 h_39 rfl 3 (by decide) (hw _ kF_S_21) rfl (t_S_ok 3 (by decide)) rfl rfl (Nat.le_of_ble_eq_true rfl) rfl d_S_init_33 (fun cw_43 H locs ecw_43 hP hD hS => ?_)
  have h_44 : cw_43 (K) = .inr (6, [.ref (q_1), .ref (q_12), .ref (q_26), .int (0)]) := by rw [ecw_43]; exact va_up_self _ _ _
  have h_45 : cw_43 (N) = .inl (cs 0, 200, .inl (fun _ => 0)) := by rw [ecw_43, va_up_ne _ _ (by omega)]; exact h_40
  have h_46 : cw_43 (N + 1) = .inl (cs 0, 200, .inl (fun _ => 0)) := by rw [ecw_43, va_up_ne _ _ (by omega)]; exact h_41
  have h_47 : cw_43 (N + 1 + 1) = .inl (cs 0, 200, .inl (fun _ => 0)) := by rw [ecw_43, va_up_ne _ _ (by omega)]; exact h_42
  have hoth : ∀ k, k < N → k ≠ K → cw_43 k = cw k := fun k h1 h2 => (show cw_43 k = cw_38 k by rw [ecw_43, va_up_ne _ _ (by omega)]).trans (hoth k h1 h2)
  exact W.vret hx hb hr (fun t ht hW => ⟨⟨(N + 1 + 1 + 1, bk_27, cw_43), rfl, ⟨rfl, hbb, hoth, by show cw_43 (K) = .inr (6, [.ref (bk_27 (N)), .ref (bk_27 (N + 1)), .ref (bk_27 (N + 1 + 1)), .int 0]); rw [a_31, a_32, a_33]; exact h_44, h_45, h_46, h_47⟩, by rw [ht]; exact hP, va_K.moved hW.alike hK, hD⟩, hS.F ht⟩) hS.2.2 d_S_init_36
set_option maxHeartbeats 4000000 in
set_option maxRecDepth 100000 in
theorem c_P_init200 (l : Launch) (D : va_G) (cs : Nat → ClassId) (N : Nat) (bk : Nat → Nat) (cw : Nat → va_E) (sz : Nat) (K : Nat) (hk : K < N) (h0 : Nat) (ha : bk K = h0) (he : cw K = .inr (4, [.null, .null, .int (0)]))  : Met l y_P_init w_P_init ({ frames := 1, cells := 2, slots := 400, locals := 14 }) (va_Pc [.ref (h0), .int (200)] (PB D classes (TY cs) N bk cw sz)) (va_Qv (fun u : Wt => u.1 = N + 1 + 1 ∧ (∀ k, k < N → u.2.1 k = bk k) ∧ (∀ k, k < N → k ≠ K → u.2.2 k = cw k) ∧ u.2.2 K = .inr (4, [.ref (u.2.1 (N)), .ref (u.2.1 (N + 1)), .int 0]) ∧ u.2.2 (N) = .inl (cs 0, 200, .inl (fun _ => 0)) ∧ u.2.2 (N + 1) = .inl (cs 0, 200, .inl (fun _ => 0))) (Wd D classes (TY cs) (AA N bk sz)) (AA N bk sz)) 2 400 (AA N bk sz) := by
  refine pw_entry (cc := b_P_init) (maxL := 3) (ret := none) (by decide +kernel) rfl (Nat.le_of_ble_eq_true rfl) ?_
  intro p_ e_ s m below_ meth_ c_ ls hx hb hr hml hts hown hlocks hin hsz hP hK hD hS hA hN hl
  have hw : ∀ w ∈ WA, w.before _ s = true := fun w h => hts w (List.mem_cons_of_mem _ h)
  have hown : s.vm.findClass "IssueRows$Pairs" = some m.cls := hown
  have hl : lv_has ls 3 [(0, .ref (h0)), (1, .int (200))] := hl
  have hbb : ∀ k, k < N → bk k = bk k := fun _ _ => rfl
  have hoth : ∀ k, k < N → k ≠ K → cw k = cw k := fun _ _ _ => rfl
  refine lv_aload_n hx hb d_P_init_0 rfl (lv_at hl 0 rfl) ?_
  refine W.objInit hx hb hown (hw _ kM_P_3) (hw _ kI_O_init) (hw _ kC_O_init) rfl (by rw [hml]; exact hl.1) rfl d_P_init_1 (Nat.le_of_ble_eq_true rfl) (Nat.le_of_ble_eq_true rfl) ?_
  refine W.eq (g2 := F0 m 4 ls []) rfl ?_
  refine lv_aload_n hx hb d_P_init_4 rfl (lv_at hl 0 rfl) ?_
  refine lv_iconst (v := 0) hx hb d_P_init_5 (by decide) ?_
  refine pw_putA (ci := 4) (v := .int (0)) (ty := .int) (fs' := [.null, .null, .int (0)]) hx hb hw i_P t_P t_P_ok n_P hown hK hP hD hS (K) (by omega) ha he rfl 2 (by decide) (hw _ kF_P_9) rfl (t_P_ok 2 (by decide)) rfl rfl (Nat.le_of_ble_eq_true rfl) rfl d_P_init_6 (fun cw_1 H locs ecw_1 hP hD hS => ?_)
  have h_2 : cw_1 (K) = .inr (4, [.null, .null, .int (0)]) := by rw [ecw_1]; exact va_up_self _ _ _
  have hoth : ∀ k, k < N → k ≠ K → cw_1 k = cw k := fun k h1 h2 => (show cw_1 k = cw k by rw [ecw_1, va_up_ne _ _ (by omega)]).trans (hoth k h1 h2)
  refine lv_iload_n hx hb d_P_init_9 rfl (lv_at hl 1 rfl) ?_
  refine lv_iconst (v := 0) hx hb d_P_init_10 (by decide) ?_
  refine va_mmax hx hb (hml.trans hl.1.symm) hown (hw _ kM_P_15) (hw _ kS_H_max) (hw _ kZ_H) (hw _ kC_H_max) (Nat.le_of_ble_eq_true rfl) (Nat.le_of_ble_eq_true rfl) (Nat.le_of_ble_eq_true rfl) (Nat.le_of_ble_eq_true rfl) d_P_init_11 ?_
  rw [show (if (200 : Int32) < 0 then (0 : Int32) else 200) = 200 from by decide]
  refine lv_istore_n (lv' := [(2, .int (200)), (0, .ref (h0)), (1, .int (200))]) hx hb d_P_init_14 rfl hl (by decide) rfl (fun ls hl => ?_)
  refine lv_aload_n hx hb d_P_init_15 rfl (lv_at hl 1 rfl) ?_
  refine lv_iload_n hx hb d_P_init_16 rfl (lv_at hl 0 rfl) ?_
  refine pw_newa (atype := .int) hx hb (hw _ kR_int) rfl hK hP hD hS hA 0 rfl (200) rfl (by decide) (Nat.le_of_ble_eq_true rfl) (Nat.le_of_ble_eq_true rfl) d_P_init_17 (fun q_3 H hP hD hS => ?_)
  obtain ⟨bk_4, ebbk_4⟩ : ∃ x, x = va_up bk (N) q_3 := ⟨_, rfl⟩
  obtain ⟨cw_5, eccw_5⟩ : ∃ x, x = va_up cw_1 (N) (.inl (cs 0, 200, .inl (fun _ => 0))) := ⟨_, rfl⟩
  rw [← ebbk_4, ← eccw_5] at hP hD
  have hb_6 : ∀ k, k < N → bk_4 k = bk k := fun k h => by rw [ebbk_4]; exact va_up_ne _ _ (by omega)
  have a_7 : bk_4 (K) = h0 := (hb_6 (K) (by omega)).trans ha
  have hbb : ∀ k, k < N → bk_4 k = bk k := fun k h => (hb_6 k (by omega)).trans (hbb k h)
  have a_8 : bk_4 (N) = q_3 := by rw [ebbk_4]; exact va_up_self _ _ _
  have h_9 : cw_5 (K) = .inr (4, [.null, .null, .int (0)]) := (show cw_5 (K) = cw_1 (K) by rw [eccw_5, va_up_ne _ _ (by omega)]).trans h_2
  have h_10 : cw_5 (N) = .inl (cs 0, 200, .inl (fun _ => 0)) := by rw [eccw_5]; exact va_up_self _ _ _
  have hoth : ∀ k, k < N → k ≠ K → cw_5 k = cw k := fun k h1 h2 => (show cw_5 k = cw_1 k by rw [eccw_5, va_up_ne _ _ (by omega)]).trans (hoth k h1 h2)
  refine pw_putFA (ci := 4) (v := .ref (q_3)) (ty := (t_P 0)) (fs' := [.ref (q_3), .null, .int (0)]) hx hb hw i_P t_P t_P_ok n_P hown hK hP hD hS (K) (by omega) a_7 h_9 rfl 0 (by decide) (hw _ kF_P_21) rfl hin rfl (t_P_ok 0 (by decide)) rfl rfl (Nat.le_of_ble_eq_true rfl) rfl d_P_init_19 (fun cw_11 H locs ecw_11 hP hD hS => ?_)
  have h_12 : cw_11 (K) = .inr (4, [.ref (q_3), .null, .int (0)]) := by rw [ecw_11]; exact va_up_self _ _ _
  have h_13 : cw_11 (N) = .inl (cs 0, 200, .inl (fun _ => 0)) := by rw [ecw_11, va_up_ne _ _ (by omega)]; exact h_10
  have hoth : ∀ k, k < N → k ≠ K → cw_11 k = cw k := fun k h1 h2 => (show cw_11 k = cw_5 k by rw [ecw_11, va_up_ne _ _ (by omega)]).trans (hoth k h1 h2)
  refine lv_aload_n hx hb d_P_init_22 rfl (lv_at hl 1 rfl) ?_
  refine lv_iload_n hx hb d_P_init_23 rfl (lv_at hl 0 rfl) ?_
  refine pw_newa (atype := .int) hx hb (hw _ kR_int) rfl hK hP hD hS hA 0 rfl (200) rfl (by decide) (Nat.le_of_ble_eq_true rfl) (Nat.le_of_ble_eq_true rfl) d_P_init_24 (fun q_14 H hP hD hS => ?_)
  obtain ⟨bk_15, ebbk_15⟩ : ∃ x, x = va_up bk_4 (N + 1) q_14 := ⟨_, rfl⟩
  obtain ⟨cw_16, eccw_16⟩ : ∃ x, x = va_up cw_11 (N + 1) (.inl (cs 0, 200, .inl (fun _ => 0))) := ⟨_, rfl⟩
  rw [← ebbk_15, ← eccw_16] at hP hD
  have hb_17 : ∀ k, k < N + 1 → bk_15 k = bk_4 k := fun k h => by rw [ebbk_15]; exact va_up_ne _ _ (by omega)
  have a_18 : bk_15 (K) = h0 := (hb_17 (K) (by omega)).trans a_7
  have a_19 : bk_15 (N) = q_3 := (hb_17 (N) (by omega)).trans a_8
  have hbb : ∀ k, k < N → bk_15 k = bk k := fun k h => (hb_17 k (by omega)).trans (hbb k h)
  have a_20 : bk_15 (N + 1) = q_14 := by rw [ebbk_15]; exact va_up_self _ _ _
  have h_21 : cw_16 (K) = .inr (4, [.ref (q_3), .null, .int (0)]) := (show cw_16 (K) = cw_11 (K) by rw [eccw_16, va_up_ne _ _ (by omega)]).trans h_12
  have h_22 : cw_16 (N) = .inl (cs 0, 200, .inl (fun _ => 0)) := (show cw_16 (N) = cw_11 (N) by rw [eccw_16, va_up_ne _ _ (by omega)]).trans h_13
  have h_23 : cw_16 (N + 1) = .inl (cs 0, 200, .inl (fun _ => 0)) := by rw [eccw_16]; exact va_up_self _ _ _
  have hoth : ∀ k, k < N → k ≠ K → cw_16 k = cw k := fun k h1 h2 => (show cw_16 k = cw_11 k by rw [eccw_16, va_up_ne _ _ (by omega)]).trans (hoth k h1 h2)
  refine pw_putFA (ci := 4) (v := .ref (q_14)) (ty := (t_P 1)) (fs' := [.ref (q_3), .ref (q_14), .int (0)]) hx hb hw i_P t_P t_P_ok n_P hown hK hP hD hS (K) (by omega) a_18 h_21 rfl 1 (by decide) (hw _ kF_P_25) rfl hin rfl (t_P_ok 1 (by decide)) rfl rfl (Nat.le_of_ble_eq_true rfl) rfl d_P_init_26 (fun cw_24 H locs ecw_24 hP hD hS => ?_)
  have h_25 : cw_24 (K) = .inr (4, [.ref (q_3), .ref (q_14), .int (0)]) := by rw [ecw_24]; exact va_up_self _ _ _
  have h_26 : cw_24 (N) = .inl (cs 0, 200, .inl (fun _ => 0)) := by rw [ecw_24, va_up_ne _ _ (by omega)]; exact h_22
  have h_27 : cw_24 (N + 1) = .inl (cs 0, 200, .inl (fun _ => 0)) := by rw [ecw_24, va_up_ne _ _ (by omega)]; exact h_23
  have hoth : ∀ k, k < N → k ≠ K → cw_24 k = cw k := fun k h1 h2 => (show cw_24 k = cw_16 k by rw [ecw_24, va_up_ne _ _ (by omega)]).trans (hoth k h1 h2)
  exact W.vret hx hb hr (fun t ht hW => ⟨⟨(N + 1 + 1, bk_15, cw_24), rfl, ⟨rfl, hbb, hoth, by show cw_24 (K) = .inr (4, [.ref (bk_15 (N)), .ref (bk_15 (N + 1)), .int 0]); rw [a_19, a_20]; exact h_25, h_26, h_27⟩, by rw [ht]; exact hP, va_K.moved hW.alike hK, hD⟩, hS.F ht⟩) hS.2.2 d_P_init_29
set_option maxHeartbeats 4000000 in
set_option maxRecDepth 100000 in
theorem c_P_init100 (l : Launch) (D : va_G) (cs : Nat → ClassId) (N : Nat) (bk : Nat → Nat) (cw : Nat → va_E) (sz : Nat) (K : Nat) (hk : K < N) (h0 : Nat) (ha : bk K = h0) (he : cw K = .inr (4, [.null, .null, .int (0)]))  : Met l y_P_init w_P_init ({ frames := 1, cells := 2, slots := 200, locals := 14 }) (va_Pc [.ref (h0), .int (100)] (PB D classes (TY cs) N bk cw sz)) (va_Qv (fun u : Wt => u.1 = N + 1 + 1 ∧ (∀ k, k < N → u.2.1 k = bk k) ∧ (∀ k, k < N → k ≠ K → u.2.2 k = cw k) ∧ u.2.2 K = .inr (4, [.ref (u.2.1 (N)), .ref (u.2.1 (N + 1)), .int 0]) ∧ u.2.2 (N) = .inl (cs 0, 100, .inl (fun _ => 0)) ∧ u.2.2 (N + 1) = .inl (cs 0, 100, .inl (fun _ => 0))) (Wd D classes (TY cs) (AA N bk sz)) (AA N bk sz)) 2 200 (AA N bk sz) := by
  refine pw_entry (cc := b_P_init) (maxL := 3) (ret := none) (by decide +kernel) rfl (Nat.le_of_ble_eq_true rfl) ?_
  intro p_ e_ s m below_ meth_ c_ ls hx hb hr hml hts hown hlocks hin hsz hP hK hD hS hA hN hl
  have hw : ∀ w ∈ WA, w.before _ s = true := fun w h => hts w (List.mem_cons_of_mem _ h)
  have hown : s.vm.findClass "IssueRows$Pairs" = some m.cls := hown
  have hl : lv_has ls 3 [(0, .ref (h0)), (1, .int (100))] := hl
  have hbb : ∀ k, k < N → bk k = bk k := fun _ _ => rfl
  have hoth : ∀ k, k < N → k ≠ K → cw k = cw k := fun _ _ _ => rfl
  refine lv_aload_n hx hb d_P_init_0 rfl (lv_at hl 0 rfl) ?_
  refine W.objInit hx hb hown (hw _ kM_P_3) (hw _ kI_O_init) (hw _ kC_O_init) rfl (by rw [hml]; exact hl.1) rfl d_P_init_1 (Nat.le_of_ble_eq_true rfl) (Nat.le_of_ble_eq_true rfl) ?_
  refine W.eq (g2 := F0 m 4 ls []) rfl ?_
  refine lv_aload_n hx hb d_P_init_4 rfl (lv_at hl 0 rfl) ?_
  refine lv_iconst (v := 0) hx hb d_P_init_5 (by decide) ?_
  refine pw_putA (ci := 4) (v := .int (0)) (ty := .int) (fs' := [.null, .null, .int (0)]) hx hb hw i_P t_P t_P_ok n_P hown hK hP hD hS (K) (by omega) ha he rfl 2 (by decide) (hw _ kF_P_9) rfl (t_P_ok 2 (by decide)) rfl rfl (Nat.le_of_ble_eq_true rfl) rfl d_P_init_6 (fun cw_1 H locs ecw_1 hP hD hS => ?_)
  have h_2 : cw_1 (K) = .inr (4, [.null, .null, .int (0)]) := by rw [ecw_1]; exact va_up_self _ _ _
  have hoth : ∀ k, k < N → k ≠ K → cw_1 k = cw k := fun k h1 h2 => (show cw_1 k = cw k by rw [ecw_1, va_up_ne _ _ (by omega)]).trans (hoth k h1 h2)
  refine lv_iload_n hx hb d_P_init_9 rfl (lv_at hl 1 rfl) ?_
  refine lv_iconst (v := 0) hx hb d_P_init_10 (by decide) ?_
  refine va_mmax hx hb (hml.trans hl.1.symm) hown (hw _ kM_P_15) (hw _ kS_H_max) (hw _ kZ_H) (hw _ kC_H_max) (Nat.le_of_ble_eq_true rfl) (Nat.le_of_ble_eq_true rfl) (Nat.le_of_ble_eq_true rfl) (Nat.le_of_ble_eq_true rfl) d_P_init_11 ?_
  rw [show (if (100 : Int32) < 0 then (0 : Int32) else 100) = 100 from by decide]
  refine lv_istore_n (lv' := [(2, .int (100)), (0, .ref (h0)), (1, .int (100))]) hx hb d_P_init_14 rfl hl (by decide) rfl (fun ls hl => ?_)
  refine lv_aload_n hx hb d_P_init_15 rfl (lv_at hl 1 rfl) ?_
  refine lv_iload_n hx hb d_P_init_16 rfl (lv_at hl 0 rfl) ?_
  refine pw_newa (atype := .int) hx hb (hw _ kR_int) rfl hK hP hD hS hA 0 rfl (100) rfl (by decide) (Nat.le_of_ble_eq_true rfl) (Nat.le_of_ble_eq_true rfl) d_P_init_17 (fun q_3 H hP hD hS => ?_)
  obtain ⟨bk_4, ebbk_4⟩ : ∃ x, x = va_up bk (N) q_3 := ⟨_, rfl⟩
  obtain ⟨cw_5, eccw_5⟩ : ∃ x, x = va_up cw_1 (N) (.inl (cs 0, 100, .inl (fun _ => 0))) := ⟨_, rfl⟩
  rw [← ebbk_4, ← eccw_5] at hP hD
  have hb_6 : ∀ k, k < N → bk_4 k = bk k := fun k h => by rw [ebbk_4]; exact va_up_ne _ _ (by omega)
  have a_7 : bk_4 (K) = h0 := (hb_6 (K) (by omega)).trans ha
  have hbb : ∀ k, k < N → bk_4 k = bk k := fun k h => (hb_6 k (by omega)).trans (hbb k h)
  have a_8 : bk_4 (N) = q_3 := by rw [ebbk_4]; exact va_up_self _ _ _
  have h_9 : cw_5 (K) = .inr (4, [.null, .null, .int (0)]) := (show cw_5 (K) = cw_1 (K) by rw [eccw_5, va_up_ne _ _ (by omega)]).trans h_2
  have h_10 : cw_5 (N) = .inl (cs 0, 100, .inl (fun _ => 0)) := by rw [eccw_5]; exact va_up_self _ _ _
  have hoth : ∀ k, k < N → k ≠ K → cw_5 k = cw k := fun k h1 h2 => (show cw_5 k = cw_1 k by rw [eccw_5, va_up_ne _ _ (by omega)]).trans (hoth k h1 h2)
  refine pw_putFA (ci := 4) (v := .ref (q_3)) (ty := (t_P 0)) (fs' := [.ref (q_3), .null, .int (0)]) hx hb hw i_P t_P t_P_ok n_P hown hK hP hD hS (K) (by omega) a_7 h_9 rfl 0 (by decide) (hw _ kF_P_21) rfl hin rfl (t_P_ok 0 (by decide)) rfl rfl (Nat.le_of_ble_eq_true rfl) rfl d_P_init_19 (fun cw_11 H locs ecw_11 hP hD hS => ?_)
  have h_12 : cw_11 (K) = .inr (4, [.ref (q_3), .null, .int (0)]) := by rw [ecw_11]; exact va_up_self _ _ _
  have h_13 : cw_11 (N) = .inl (cs 0, 100, .inl (fun _ => 0)) := by rw [ecw_11, va_up_ne _ _ (by omega)]; exact h_10
  have hoth : ∀ k, k < N → k ≠ K → cw_11 k = cw k := fun k h1 h2 => (show cw_11 k = cw_5 k by rw [ecw_11, va_up_ne _ _ (by omega)]).trans (hoth k h1 h2)
  refine lv_aload_n hx hb d_P_init_22 rfl (lv_at hl 1 rfl) ?_
  refine lv_iload_n hx hb d_P_init_23 rfl (lv_at hl 0 rfl) ?_
  refine pw_newa (atype := .int) hx hb (hw _ kR_int) rfl hK hP hD hS hA 0 rfl (100) rfl (by decide) (Nat.le_of_ble_eq_true rfl) (Nat.le_of_ble_eq_true rfl) d_P_init_24 (fun q_14 H hP hD hS => ?_)
  obtain ⟨bk_15, ebbk_15⟩ : ∃ x, x = va_up bk_4 (N + 1) q_14 := ⟨_, rfl⟩
  obtain ⟨cw_16, eccw_16⟩ : ∃ x, x = va_up cw_11 (N + 1) (.inl (cs 0, 100, .inl (fun _ => 0))) := ⟨_, rfl⟩
  rw [← ebbk_15, ← eccw_16] at hP hD
  have hb_17 : ∀ k, k < N + 1 → bk_15 k = bk_4 k := fun k h => by rw [ebbk_15]; exact va_up_ne _ _ (by omega)
  have a_18 : bk_15 (K) = h0 := (hb_17 (K) (by omega)).trans a_7
  have a_19 : bk_15 (N) = q_3 := (hb_17 (N) (by omega)).trans a_8
  have hbb : ∀ k, k < N → bk_15 k = bk k := fun k h => (hb_17 k (by omega)).trans (hbb k h)
  have a_20 : bk_15 (N + 1) = q_14 := by rw [ebbk_15]; exact va_up_self _ _ _
  have h_21 : cw_16 (K) = .inr (4, [.ref (q_3), .null, .int (0)]) := (show cw_16 (K) = cw_11 (K) by rw [eccw_16, va_up_ne _ _ (by omega)]).trans h_12
  have h_22 : cw_16 (N) = .inl (cs 0, 100, .inl (fun _ => 0)) := (show cw_16 (N) = cw_11 (N) by rw [eccw_16, va_up_ne _ _ (by omega)]).trans h_13
  have h_23 : cw_16 (N + 1) = .inl (cs 0, 100, .inl (fun _ => 0)) := by rw [eccw_16]; exact va_up_self _ _ _
  have hoth : ∀ k, k < N → k ≠ K → cw_16 k = cw k := fun k h1 h2 => (show cw_16 k = cw_11 k by rw [eccw_16, va_up_ne _ _ (by omega)]).trans (hoth k h1 h2)
  refine pw_putFA (ci := 4) (v := .ref (q_14)) (ty := (t_P 1)) (fs' := [.ref (q_3), .ref (q_14), .int (0)]) hx hb hw i_P t_P t_P_ok n_P hown hK hP hD hS (K) (by omega) a_18 h_21 rfl 1 (by decide) (hw _ kF_P_25) rfl hin rfl (t_P_ok 1 (by decide)) rfl rfl (Nat.le_of_ble_eq_true rfl) rfl d_P_init_26 (fun cw_24 H locs ecw_24 hP hD hS => ?_)
  have h_25 : cw_24 (K) = .inr (4, [.ref (q_3), .ref (q_14), .int (0)]) := by rw [ecw_24]; exact va_up_self _ _ _
  have h_26 : cw_24 (N) = .inl (cs 0, 100, .inl (fun _ => 0)) := by rw [ecw_24, va_up_ne _ _ (by omega)]; exact h_22
  have h_27 : cw_24 (N + 1) = .inl (cs 0, 100, .inl (fun _ => 0)) := by rw [ecw_24, va_up_ne _ _ (by omega)]; exact h_23
  have hoth : ∀ k, k < N → k ≠ K → cw_24 k = cw k := fun k h1 h2 => (show cw_24 k = cw_16 k by rw [ecw_24, va_up_ne _ _ (by omega)]).trans (hoth k h1 h2)
  exact W.vret hx hb hr (fun t ht hW => ⟨⟨(N + 1 + 1, bk_15, cw_24), rfl, ⟨rfl, hbb, hoth, by show cw_24 (K) = .inr (4, [.ref (bk_15 (N)), .ref (bk_15 (N + 1)), .int 0]); rw [a_19, a_20]; exact h_25, h_26, h_27⟩, by rw [ht]; exact hP, va_K.moved hW.alike hK, hD⟩, hS.F ht⟩) hS.2.2 d_P_init_29

theorem wl_eqP2 {D : va_G} {cl : List vw_C} {N N1 : Nat} {bk bk1 : Nat → Nat} {cw cw1 cw2 : Nat → va_E} {H : Heap} (e : ((N1, bk1, cw1) : Wt) = (N, bk, cw)) (E : cw = cw2) (h : va_P D cl (wl N1 bk1 cw1) H) : va_P D cl (wl N bk cw2) H := E ▸ wl_eqP e h
theorem wl_eqD2 {A : Nat → Prop} {N N1 : Nat} {bk bk1 : Nat → Nat} {cw cw1 cw2 : Nat → va_E} (e : ((N1, bk1, cw1) : Wt) = (N, bk, cw)) (E : cw = cw2) (h : va_D A (wl N1 bk1 cw1)) : va_D A (wl N bk cw2) := E ▸ wl_eqD e h
set_option maxHeartbeats 4000000 in
set_option maxRecDepth 100000 in
theorem c_X_find (l : Launch) (D : va_G) (cs : Nat → ClassId) (bk : Nat → Nat) (sz : Nat) (z bo : Nat → Nat) (g q pp dd : Nat → Nat → Int32) (hz0 : z 0 ≤ 200) (j : Nat) (hj : j < z 0) : Met l y_X_find w_X_find ({ frames := 1, cells := 0, slots := 0, locals := 22 }) (va_Pc [.ref (bk (0)), .int (nI j)] (PB D classes (TY cs) (27 + 4 * z 0) bk (CW cs z bo g q pp dd bk) sz)) (va_Sq (fun r => r = some (bk (27 + 4 * j)))) 0 0 (fun _ => False) := by
  refine pw_entry (cc := b_X_find) (maxL := 2) (ret := (some (.object "IssueRows$Issue"))) (by decide +kernel) rfl (Nat.le_of_ble_eq_true rfl) ?_
  intro p_ e_ s m below_ meth_ c_ ls hx hb hr hml hts hown hlocks hin hsz hP hK hD hS hA hN hl
  have hw : ∀ w ∈ WA, w.before _ s = true := fun w h => hts w (List.mem_cons_of_mem _ h)
  have hown : s.vm.findClass "IssueRows" = some m.cls := hown
  have hl : lv_has ls 2 [(0, .ref (bk (0))), (1, .int (nI j))] := hl
  refine lv_iload_n hx hb d_X_find_0 rfl (lv_at hl 1 rfl) ?_
  refine lv_iconst (v := 0) hx hb d_X_find_1 (by decide) ?_
  refine lv_aload_n hx hb d_X_find_2 rfl (lv_at hl 0 rfl) ?_
  refine pw_get (ci := 0) (v := .int (nI (z 0))) hx hb hw i_X hown hK hP (0) (by omega) rfl rfl 3 (by decide) (hw _ kF_X_24) rfl d_X_find_3 ?_
  refine lv_iconst (v := 1) hx hb d_X_find_6 (by decide) ?_
  refine lv_isub hx hb d_X_find_7 ?_
  refine pw_callSi (va_runS (As := [.int (nI j), .int (0), .int ((nI (z 0)) - 1)]) (rest := []) ⟨hx, hb, hml, hown, hw⟩ (c_X_within l D cs (27 + 4 * z 0) bk (CW cs z bo g q pp dd bk) s.heap.size (nI j) 0 ((nI (z 0)) - 1)) (cw_S 3 hw kM_X_59 kS_X_within kZ_X kC_X_within rfl rfl ⟨rfl, by decide, by decide, by decide +kernel⟩ ⟨Nat.le_of_ble_eq_true rfl, Nat.le_of_ble_eq_true rfl⟩) (pw_preS hN hK hP hD) rfl rfl hl.1 rfl (lv_room (Nat.le_of_ble_eq_true rfl)) d_X_find_8 ⟨Nat.le_of_ble_eq_true rfl, Nat.le_of_ble_eq_true rfl⟩) (fun r_1 hr_1 => ?_)
  have hr_1 : r_1 = bI (0 ≤ (nI j) ∧ (nI j) ≤ ((nI (z 0)) - 1)) := hr_1
  subst hr_1
  refine pw_ifeq (tgt := 23) hx hb d_X_find_11 (by decide) (fun c_2 => ?_) (fun c_2 => ?_)
  · have c_2 : ¬ (0 ≤ (nI j) ∧ (nI j) ≤ ((nI (z 0)) - 1)) := c_2
    exact absurd ⟨nI_pos' (by omega), (le_pr (by omega)).mpr ((nI_ltI (by omega) (by omega)).mpr hj)⟩ c_2
  · have c_2 : 0 ≤ (nI j) ∧ (nI j) ≤ ((nI (z 0)) - 1) := c_2
    refine lv_aload_n hx hb d_X_find_14 rfl (lv_at hl 0 rfl) ?_
    refine pw_get (ci := 0) (v := .ref (bk (2))) hx hb hw i_X hown hK hP (0) (by omega) rfl rfl 1 (by decide) (hw _ kF_X_17) rfl d_X_find_15 ?_
    refine lv_iload_n hx hb d_X_find_18 rfl (lv_at hl 1 rfl) ?_
    refine pw_aldq hx hb hK hP 3 (2) (by omega) rfl rfl (j) rfl (by omega) (by decide) (r := bk (27 + 4 * j)) (if_pos hj) d_X_find_19 ?_
    refine lv_goto (tgt := 24) hx hb d_X_find_20 (by decide) ?_
    exact W.aret (v := .ref (bk (27 + 4 * j))) (rt := .object "IssueRows$Issue") hx hb hr (Or.inl ⟨_, rfl⟩) (Or.inr ⟨_, rfl⟩) (fun t ht hW => ⟨some (bk (27 + 4 * j)), rfl, rfl, ht⟩) (fun q h => by cases h) d_X_find_24
set_option maxHeartbeats 4000000 in
set_option maxRecDepth 100000 in
theorem c_X_find_out (l : Launch) (D : va_G) (cs : Nat → ClassId) (bk : Nat → Nat) (sz : Nat) (z bo : Nat → Nat) (g q pp dd : Nat → Nat → Int32) (hz0 : z 0 ≤ 200) (x : Int32) (ho : ¬ (0 ≤ x ∧ x < nI (z 0))) : Met l y_X_find w_X_find ({ frames := 1, cells := 0, slots := 0, locals := 22 }) (va_Pc [.ref (bk (0)), .int (x)] (PB D classes (TY cs) (27 + 4 * z 0) bk (CW cs z bo g q pp dd bk) sz)) (va_Sq (fun r => r = none)) 0 0 (fun _ => False) := by
  refine pw_entry (cc := b_X_find) (maxL := 2) (ret := (some (.object "IssueRows$Issue"))) (by decide +kernel) rfl (Nat.le_of_ble_eq_true rfl) ?_
  intro p_ e_ s m below_ meth_ c_ ls hx hb hr hml hts hown hlocks hin hsz hP hK hD hS hA hN hl
  have hw : ∀ w ∈ WA, w.before _ s = true := fun w h => hts w (List.mem_cons_of_mem _ h)
  have hown : s.vm.findClass "IssueRows" = some m.cls := hown
  have hl : lv_has ls 2 [(0, .ref (bk (0))), (1, .int (x))] := hl
  refine lv_iload_n hx hb d_X_find_0 rfl (lv_at hl 1 rfl) ?_
  refine lv_iconst (v := 0) hx hb d_X_find_1 (by decide) ?_
  refine lv_aload_n hx hb d_X_find_2 rfl (lv_at hl 0 rfl) ?_
  refine pw_get (ci := 0) (v := .int (nI (z 0))) hx hb hw i_X hown hK hP (0) (by omega) rfl rfl 3 (by decide) (hw _ kF_X_24) rfl d_X_find_3 ?_
  refine lv_iconst (v := 1) hx hb d_X_find_6 (by decide) ?_
  refine lv_isub hx hb d_X_find_7 ?_
  refine pw_callSi (va_runS (As := [.int (x), .int (0), .int ((nI (z 0)) - 1)]) (rest := []) ⟨hx, hb, hml, hown, hw⟩ (c_X_within l D cs (27 + 4 * z 0) bk (CW cs z bo g q pp dd bk) s.heap.size x 0 ((nI (z 0)) - 1)) (cw_S 3 hw kM_X_59 kS_X_within kZ_X kC_X_within rfl rfl ⟨rfl, by decide, by decide, by decide +kernel⟩ ⟨Nat.le_of_ble_eq_true rfl, Nat.le_of_ble_eq_true rfl⟩) (pw_preS hN hK hP hD) rfl rfl hl.1 rfl (lv_room (Nat.le_of_ble_eq_true rfl)) d_X_find_8 ⟨Nat.le_of_ble_eq_true rfl, Nat.le_of_ble_eq_true rfl⟩) (fun r_1 hr_1 => ?_)
  have hr_1 : r_1 = bI (0 ≤ x ∧ x ≤ ((nI (z 0)) - 1)) := hr_1
  subst hr_1
  refine pw_ifeq (tgt := 23) hx hb d_X_find_11 (by decide) (fun c_2 => ?_) (fun c_2 => ?_)
  · have c_2 : ¬ (0 ≤ x ∧ x ≤ ((nI (z 0)) - 1)) := c_2
    refine lv_null hx hb d_X_find_23 ?_
    exact W.aret (v := .null) (rt := .object "IssueRows$Issue") hx hb hr (Or.inl ⟨_, rfl⟩) (Or.inl rfl) (fun t ht hW => ⟨none, rfl, rfl, ht⟩) (fun q h => by cases h) d_X_find_24
  · have c_2 : 0 ≤ x ∧ x ≤ ((nI (z 0)) - 1) := c_2
    exact absurd ⟨c_2.1, (le_pr (by omega)).mp c_2.2⟩ ho

/-! THE LAW'S START: the two objects and the array are made; then the loop. -/
theorem st_none (bk : Nat → Nat) (f : Nat → Nat) : (fun _ : Nat => (none : Option Nat)) = fun j => if j < z00 0 then some (bk (f j)) else none := by
  funext j
  exact (if_neg (Nat.not_lt_zero _)).symm
set_option maxHeartbeats 4000000 in
theorem st_X (cs : Nat → ClassId) (bk : Nat → Nat) (cw : Nat → va_E) (h : cw 0 = .inr (0, [.ref (bk (1)), .ref (bk (2)), .ref (bk (3)), .int 0, .ref (bk (4)), .ref (bk (7)), .ref (bk (10)), .ref (bk (13))]) ∧ cw 1 = .inl (cs 2, 10, .inr (.inr (.inr (.inr (va_up (va_up (va_up (va_up (va_up (va_up (va_up (va_up (va_up (va_up (fun _ => none) (0) (some (bk (17)))) (1) (some (bk (18)))) (2) (some (bk (19)))) (3) (some (bk (20)))) (4) (some (bk (21)))) (5) (some (bk (22)))) (6) (some (bk (23)))) (7) (some (bk (24)))) (8) (some (bk (25)))) (9) (some (bk (26)))))))) ∧ cw 2 = .inl (cs 3, 200, .inr (.inr (.inr (.inr (fun _ => none))))) ∧ cw 3 = .inl (cs 3, 200, .inr (.inr (.inr (.inr (fun _ => none))))) ∧ cw 4 = .inr (4, [.ref (bk (5)), .ref (bk (6)), .int 0]) ∧ cw 5 = .inl (cs 0, 200, .inl (fun _ => 0)) ∧ cw 6 = .inl (cs 0, 200, .inl (fun _ => 0)) ∧ cw 7 = .inr (4, [.ref (bk (8)), .ref (bk (9)), .int 0]) ∧ cw 8 = .inl (cs 0, 100, .inl (fun _ => 0)) ∧ cw 9 = .inl (cs 0, 100, .inl (fun _ => 0)) ∧ cw 10 = .inr (5, [.ref (bk (11)), .ref (bk (12)), .int 0]) ∧ cw 11 = .inl (cs 0, 200, .inl (fun _ => 0)) ∧ cw 12 = .inl (cs 0, 41, .inl (fun _ => 0)) ∧ cw 13 = .inr (6, [.ref (bk (14)), .ref (bk (15)), .ref (bk (16)), .int 0]) ∧ cw 14 = .inl (cs 0, 200, .inl (fun _ => 0)) ∧ cw 15 = .inl (cs 0, 200, .inl (fun _ => 0)) ∧ cw 16 = .inl (cs 0, 200, .inl (fun _ => 0)) ∧ cw 17 = .inr (1, [.int 30, .int 20, .int 3]) ∧ cw 18 = .inr (1, [.int 30, .int 20, .int 3]) ∧ cw 19 = .inr (1, [.int 30, .int 20, .int 3]) ∧ cw 20 = .inr (1, [.int 30, .int 20, .int 3]) ∧ cw 21 = .inr (1, [.int 30, .int 20, .int 3]) ∧ cw 22 = .inr (1, [.int 30, .int 20, .int 3]) ∧ cw 23 = .inr (1, [.int 30, .int 20, .int 3]) ∧ cw 24 = .inr (1, [.int 30, .int 20, .int 3]) ∧ cw 25 = .inr (1, [.int 30, .int 20, .int 3]) ∧ cw 26 = .inr (1, [.int 30, .int 20, .int 3])) : wl 27 bk cw = wX cs z00 z00 g00 q00 g00 g00 bk := by
  obtain ⟨e0, e1, e2, e3, e4, e5, e6, e7, e8, e9, e10, e11, e12, e13, e14, e15, e16, e17, e18, e19, e20, e21, e22, e23, e24, e25, e26⟩ := h
  show wl 27 bk cw = wl 27 bk (CW cs z00 z00 g00 q00 g00 g00 bk)
  refine wl_congr (fun k _ => rfl) (fun k hk => ?_)
  match k, hk with
  | 0, _ => exact e0
  | 1, _ => exact e1.trans (congrArg (fun f => (.inl (cs 2, 10, .inr (.inr (.inr (.inr f)))) : va_E)) (st_rules bk))
  | 2, _ => exact e2.trans (congrArg (fun f => (.inl (cs 3, 200, .inr (.inr (.inr (.inr f)))) : va_E)) (st_none bk (fun j => 27 + 4 * j)))
  | 3, _ => exact e3.trans (congrArg (fun f => (.inl (cs 3, 200, .inr (.inr (.inr (.inr f)))) : va_E)) (st_none bk (fun j => 27 + 4 * z00 j)))
  | 4, _ => exact e4
  | 5, _ => exact e5
  | 6, _ => exact e6
  | 7, _ => exact e7
  | 8, _ => exact e8
  | 9, _ => exact e9
  | 10, _ => exact e10
  | 11, _ => exact e11
  | 12, _ => exact e12
  | 13, _ => exact e13
  | 14, _ => exact e14
  | 15, _ => exact e15
  | 16, _ => exact e16
  | 17, _ => exact e17
  | 18, _ => exact e18
  | 19, _ => exact e19
  | 20, _ => exact e20
  | 21, _ => exact e21
  | 22, _ => exact e22
  | 23, _ => exact e23
  | 24, _ => exact e24
  | 25, _ => exact e25
  | 26, _ => exact e26
  | k + 27, h => exact absurd h (by omega)
set_option maxHeartbeats 4000000 in
theorem st_M (cs : Nat → ClassId) (bk : Nat → Nat) (cw : Nat → va_E) (h : cw 0 = .inr (7, [.int 0, .ref (bk (1)), .ref (bk (2)), .ref (bk (3)), .int 0, .ref (bk (4)), .ref (bk (5)), .ref (bk (6)), .ref (bk (7)), .ref (bk (8)), .ref (bk (9)), .ref (bk (10)), .ref (bk (11)), .ref (bk (12)), .ref (bk (13)), .ref (bk (14)), .ref (bk (15)), .ref (bk (16)), .ref (bk (17)), .ref (bk (18)), .ref (bk (19)), .ref (bk (20)), .int 0, .ref (bk (21)), .ref (bk (22)), .int 0, .int 0, .ref (bk (23)), .ref (bk (24)), .ref (bk (25)), .int 0, .ref (bk (26)), .ref (bk (27))]) ∧ cw 1 = .inl (cs 0, 10, .inl (upd (upd (upd (upd (upd (upd (upd (upd (upd (upd (fun _ => 0) (0) (30)) (1) (30)) (2) (30)) (3) (30)) (4) (30)) (5) (30)) (6) (30)) (7) (30)) (8) (30)) (9) (30))) ∧ cw 2 = .inl (cs 0, 10, .inl (upd (upd (upd (upd (upd (upd (upd (upd (upd (upd (fun _ => 0) (0) (20)) (1) (20)) (2) (20)) (3) (20)) (4) (20)) (5) (20)) (6) (20)) (7) (20)) (8) (20)) (9) (20))) ∧ cw 3 = .inl (cs 0, 10, .inl (upd (upd (upd (upd (upd (upd (upd (upd (upd (upd (fun _ => 0) (0) (3)) (1) (3)) (2) (3)) (3) (3)) (4) (3)) (5) (3)) (6) (3)) (7) (3)) (8) (3)) (9) (3))) ∧ cw 4 = .inl (cs 0, 200, .inl (fun _ => 0)) ∧ cw 5 = .inl (cs 0, 200, .inl (fun _ => 0)) ∧ cw 6 = .inl (cs 0, 200, .inl (fun _ => 0)) ∧ cw 7 = .inl (cs 0, 200, .inl (fun _ => 0)) ∧ cw 8 = .inl (cs 0, 200, .inl (fun _ => 0)) ∧ cw 9 = .inl (cs 0, 200, .inl (fun _ => 0)) ∧ cw 10 = .inl (cs 0, 200, .inl (fun _ => 0)) ∧ cw 11 = .inl (cs 0, 200, .inl (fun _ => 0)) ∧ cw 12 = .inl (cs 0, 200, .inl (fun _ => 0)) ∧ cw 13 = .inl (cs 0, 200, .inl (fun _ => 0)) ∧ cw 14 = .inl (cs 0, 200, .inl (fun _ => 0)) ∧ cw 15 = .inl (cs 1, 200, .inl (fun _ => 0)) ∧ cw 16 = .inl (cs 0, 200, .inl (fun _ => 0)) ∧ cw 17 = .inl (cs 0, 1600, .inl (fun _ => 0)) ∧ cw 18 = .inl (cs 0, 1600, .inl (fun _ => 0)) ∧ cw 19 = .inl (cs 0, 200, .inl (fun _ => 0)) ∧ cw 20 = .inl (cs 0, 200, .inl (fun _ => 0)) ∧ cw 21 = .inl (cs 0, 200, .inl (fun _ => 0)) ∧ cw 22 = .inl (cs 0, 200, .inl (fun _ => 0)) ∧ cw 23 = .inl (cs 0, 200, .inl (fun _ => 0)) ∧ cw 24 = .inl (cs 0, 200, .inl (fun _ => 0)) ∧ cw 25 = .inl (cs 0, 200, .inl (fun _ => 0)) ∧ cw 26 = .inl (cs 0, 100, .inl (fun _ => 0)) ∧ cw 27 = .inl (cs 0, 100, .inl (fun _ => 0))) : wl 28 bk cw = wM cs 0 z00 a00 bk := by
  obtain ⟨e0, e1, e2, e3, e4, e5, e6, e7, e8, e9, e10, e11, e12, e13, e14, e15, e16, e17, e18, e19, e20, e21, e22, e23, e24, e25, e26, e27⟩ := h
  refine wl_congr (fun k _ => rfl) (fun k hk => ?_)
  match k, hk with
  | 0, _ => exact e0
  | 1, _ => exact e1
  | 2, _ => exact e2
  | 3, _ => exact e3
  | 4, _ => exact e4
  | 5, _ => exact e5
  | 6, _ => exact e6
  | 7, _ => exact e7
  | 8, _ => exact e8
  | 9, _ => exact e9
  | 10, _ => exact e10
  | 11, _ => exact e11
  | 12, _ => exact e12
  | 13, _ => exact e13
  | 14, _ => exact e14
  | 15, _ => exact e15
  | 16, _ => exact e16
  | 17, _ => exact e17
  | 18, _ => exact e18
  | 19, _ => exact e19
  | 20, _ => exact e20
  | 21, _ => exact e21
  | 22, _ => exact e22
  | 23, _ => exact e23
  | 24, _ => exact e24
  | 25, _ => exact e25
  | 26, _ => exact e26
  | 27, _ => exact e27
  | k + 28, h => exact absurd h (by omega)
set_option maxHeartbeats 8000000 in
set_option maxRecDepth 100000 in
theorem lw_begin {p : Program} {l : Launch} {e : Env} {s : State} {m : MethodId} {below : List Frame} {meth : Method} {c : Code} {b L : Nat} {xs : Nat → Int32} {D : va_G} {cs : Nat → ClassId} (F : LF p l s m meth c b L xs D cs) {ls : Array Slot} (hl : lv_has ls 7 [(0, Value.ref b)]) : W p l e room_1 s m #[Value.ref b] below meth c s.heap [] 0 0 (lw_Z below #[Value.ref b] s) (F0 m 0 ls []) := by
  have F0 := F
  obtain ⟨hx, hb, hr, hml, hown, hw, hX, hbl, hlocks, hK, hN, hT, hlt, hL⟩ := F
  have hA : ∀ q, s.heap.size ≤ q → LA s q := fun _ h => h
  have hP0 : va_P D classes [] s.heap := fun k q h => by cases h
  have hD0 : va_D (LA s) [] := ⟨fun i j x y h => (by cases h), fun k q h => by cases h⟩
  refine va_new (ws := []) (ci := 0) (fs := [.null, .null, .null, .int (0), .null, .null, .null, .null]) hx hb hw i_X t_X t_X_ok hown (hw _ kL_L_8) (hw _ kA_X) (hw _ kZ_X) hK hP0 hD0 va_S.rf hA rfl (fun j hj => by match j, hj with | 0, _ => rfl | 1, _ => rfl | 2, _ => rfl | 3, _ => rfl | 4, _ => rfl | 5, _ => rfl | 6, _ => rfl | 7, _ => rfl | j + 8, h => exact absurd h (by omega)) (Nat.le_of_ble_eq_true rfl) (Nat.le_of_ble_eq_true rfl) d_L_law_0 (fun qx H hP hD hS => ?_)
  replace hP : va_P D classes (wl 1 (fun _ => qx) (fun _ => .inr (0, [.null, .null, .null, .int (0), .null, .null, .null, .null]))) H := hP
  replace hD : va_D (LA s) (wl 1 (fun _ => qx) (fun _ => .inr (0, [.null, .null, .null, .int (0), .null, .null, .null, .null]))) := hD
  refine lv_dup hx hb d_L_law_3 rfl ?_
  refine pw_callv (va_runI (As := []) (rest := [.ref qx]) ⟨hx, hb, hml, hown, hw⟩ (c_X_init l D cs (fun _ => qx) (fun _ => .inr (0, [.null, .null, .null, .int (0), .null, .null, .null, .null])) H.size qx rfl rfl) (cw_I 0 hw kM_L_21 kI_X_init kZ_X kC_X_init rfl rfl rfl ⟨by decide, by decide, by decide +kernel⟩ ⟨Nat.le_of_ble_eq_true rfl, Nat.le_of_ble_eq_true rfl⟩) (pw_preS hN hK hP hD) rfl rfl hl.1 rfl (lv_room (Nat.le_of_ble_eq_true rfl)) d_L_law_4 ⟨Nat.le_of_ble_eq_true rfl, Nat.le_of_ble_eq_true rfl⟩) hS (wl_free hD hS hA) (fun N1 bkX cw1 H locs hu hP hD hS => ?_)
  obtain ⟨hN1, h0x, hu⟩ := hu
  have hN1 : N1 = 27 := hN1
  subst hN1
  have h0x : bkX 0 = qx := h0x
  rw [st_X cs bkX cw1 hu] at hP hD
  clear hu
  refine lv_astore_n (i := 1) (lv' := [(1, .ref qx), (0, .ref b)]) hx hb d_L_law_7 rfl hl (by decide) rfl (fun ls hl => ?_)
  refine va_new (ci := 7) (fs := [.int (0), .null, .null, .null, .int (0), .null, .null, .null, .null, .null, .null, .null, .null, .null, .null, .null, .null, .null, .null, .null, .null, .null, .int (0), .null, .null, .int (0), .int (0), .null, .null, .null, .int (0), .null, .null]) hx hb hw i_M t_M t_M_ok hown (hw _ kL_L_22) (hw _ kA_M) (hw _ kZ_M) hK hP hD hS hA rfl (fun j hj => by match j, hj with | 0, _ => rfl | 1, _ => rfl | 2, _ => rfl | 3, _ => rfl | 4, _ => rfl | 5, _ => rfl | 6, _ => rfl | 7, _ => rfl | 8, _ => rfl | 9, _ => rfl | 10, _ => rfl | 11, _ => rfl | 12, _ => rfl | 13, _ => rfl | 14, _ => rfl | 15, _ => rfl | 16, _ => rfl | 17, _ => rfl | 18, _ => rfl | 19, _ => rfl | 20, _ => rfl | 21, _ => rfl | 22, _ => rfl | 23, _ => rfl | 24, _ => rfl | 25, _ => rfl | 26, _ => rfl | 27, _ => rfl | 28, _ => rfl | 29, _ => rfl | 30, _ => rfl | 31, _ => rfl | 32, _ => rfl | j + 33, h => exact absurd h (by omega)) (Nat.le_of_ble_eq_true rfl) (Nat.le_of_ble_eq_true rfl) d_L_law_8 (fun qm H hP hD hS => ?_)
  have hP := va_P_comm hP
  have hD := va_D_comm hD
  replace hP : va_P D classes (wl 1 (fun _ => qm) (fun _ => .inr (7, [.int (0), .null, .null, .null, .int (0), .null, .null, .null, .null, .null, .null, .null, .null, .null, .null, .null, .null, .null, .null, .null, .null, .null, .int (0), .null, .null, .int (0), .int (0), .null, .null, .null, .int (0), .null, .null])) ++ wX cs z00 z00 g00 q00 g00 g00 bkX) H := hP
  replace hD : va_D (LA s) (wl 1 (fun _ => qm) (fun _ => .inr (7, [.int (0), .null, .null, .null, .int (0), .null, .null, .null, .null, .null, .null, .null, .null, .null, .null, .null, .null, .null, .null, .null, .null, .null, .int (0), .null, .null, .int (0), .int (0), .null, .null, .null, .int (0), .null, .null])) ++ wX cs z00 z00 g00 q00 g00 g00 bkX) := hD
  refine lv_dup hx hb d_L_law_11 rfl ?_
  refine lw_callv (va_runI (As := []) (rest := [.ref qm]) ⟨hx, hb, hml, hown, hw⟩ (c_M_init l D cs (fun _ => qm) (fun _ => .inr (7, [.int (0), .null, .null, .null, .int (0), .null, .null, .null, .null, .null, .null, .null, .null, .null, .null, .null, .null, .null, .null, .null, .null, .null, .int (0), .null, .null, .int (0), .int (0), .null, .null, .null, .int (0), .null, .null])) H.size qm rfl rfl) (cw_I 0 hw kM_L_24 kI_M_init kZ_M kC_M_init rfl rfl rfl ⟨by decide, by decide, by decide +kernel⟩ ⟨Nat.le_of_ble_eq_true rfl, Nat.le_of_ble_eq_true rfl⟩) (pw_preS hN hK (va_P_l hP) (va_D_l hD)) rfl rfl hl.1 rfl (lv_room (Nat.le_of_ble_eq_true rfl)) d_L_law_12 ⟨Nat.le_of_ble_eq_true rfl, Nat.le_of_ble_eq_true rfl⟩) hP hD hS hA (fun N1 bkM cw1 H locs hu hP hD hS => ?_)
  obtain ⟨hN1, h0m, hu⟩ := hu
  have hN1 : N1 = 28 := hN1
  subst hN1
  have h0m : bkM 0 = qm := h0m
  rw [st_M cs bkM cw1 hu] at hP hD
  clear hu
  have hP := va_P_comm hP
  have hD := va_D_comm hD
  refine lv_astore_n (i := 2) (lv' := [(2, .ref qm), (1, .ref qx), (0, .ref b)]) hx hb d_L_law_15 rfl hl (by decide) rfl (fun ls hl => ?_)
  refine lv_iconst (v := 1) hx hb d_L_law_16 (by decide) ?_
  refine va_newa (atype := .long) (ty := .long) hx hb (hw _ kR_long) rfl hK hP hD hS hA (N' := 1) (a0 := (1, .inr (.inl (fun _ => 0)))) (fun _ => rfl) (by decide) (by decide) (by decide) (Nat.le_of_ble_eq_true rfl) (Nat.le_of_ble_eq_true rfl) d_L_law_17 (fun qa cA H hK1 hP hD hS => ?_)
  have h3 : cA = cs 4 := Option.some.inj ((hK1.2 5 (cA, .long) rfl).2.symm.trans (hK.2 4 (cs 4, .long) rfl).2)
  subst h3
  rw [List.append_assoc] at hP hD
  refine lv_astore_n (i := 3) (lv' := [(3, .ref qa), (2, .ref qm), (1, .ref qx), (0, .ref b)]) hx hb d_L_law_19 rfl hl (by decide) rfl (fun ls hl => ?_)
  refine lv_iconst (v := nI 0) hx hb d_L_law_20 (by decide) ?_
  refine lv_istore (lv' := [(4, .int (nI 0)), (3, .ref qa), (2, .ref qm), (1, .ref qx), (0, .ref b)]) hx hb d_L_law_21 hl (by decide) rfl (fun ls hl => ?_)
  exact lw_loop F0 (xa := qx) (ma := qm) (ba := qa) 512 0 _ _ (by omega) (by decide) (Nat.le_of_ble_eq_true rfl) (Nat.le_of_ble_eq_true rfl) z00 z00 z00 g00 q00 g00 g00 a00 0 (fun _ => 0) bkX bkM H locs ls Rl_00 h0x h0m hP hD hS ⟨hl.1, hl.2.1, fun q hq => hl.2.2 q (by simp only [Lv, List.mem_cons, List.not_mem_nil, or_false] at hq ⊢; rcases hq with h | h | h | h | h <;> simp [h])⟩
theorem whole_start {p : Program} {e : Env} {s : State} {m : MethodId} {below : List Frame} {meth : Method} {c : Code} (l : Launch) {b L : Nat} {xs : Nat → Int32} (hL : L ≤ 2560) (hlt : l.stackTraces = false) (C0 : lw_At p s m meth c b L xs) : W p l e room_1 s m #[Value.ref b] below meth c s.heap [] 0 0 (lw_Z below #[Value.ref b] s) (entryFrame m ([Value.ref b] : List Value).toArray 7) := by
  obtain ⟨hx, hb, hr, hml, hown, hts, hX, hbl, hlocks, hg⟩ := C0
  have hw : ∀ w ∈ WA, w.before #[Value.ref b] s = true := fun w h => hts w (List.mem_filter.mp h).1
  have hN := st_N hts
  obtain ⟨D, cs, hK⟩ := st_K hw hN
  have hl := lv_entry [Value.ref b] (n := 7) (Nat.le_of_ble_eq_true rfl)
  rw [lg_entry_eq]
  exact lw_begin ⟨hx, hb, hr, hml, hown, hw, hX, hbl, hlocks, hK, hN, st_T hts hg, hlt, hL⟩ hl

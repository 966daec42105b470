theorem tlz_le {z : Nat → Nat} (h : z 4 ≤ 100) : tlz z ≤ 100 := by
  unfold tlz
  by_cases q : nI (z 4) = 100
  · rw [if_pos q]; exact h
  · rw [if_neg q]
    have : z 4 ≠ 100 := fun e => q (by rw [e]; rfl)
    omega
theorem ask_inv {th : Int32} {z : Nat → Nat} {a : Nat → Nat → Int32} {j : Nat} {day : Int32} : (s_M_askFor th z a j day).2.1 = th ∧ (s_M_askFor th z a j day).2.2.1 0 = z 0 ∧ (s_M_askFor th z a j day).2.2.1 1 ≤ z 1 + 1 ∧ (z 4 ≤ 100 → (s_M_askFor th z a j day).2.2.1 4 ≤ 100) ∧ (s_M_askFor th z a j day).2.2.2 4 = a 4 := by
  unfold s_M_askFor
  repeat' split
  all_goals refine ⟨rfl, rfl, ?_, ?_, rfl⟩
  all_goals first | exact Nat.le_refl _ | exact Nat.le_succ _ | exact fun h => h | exact fun h => tlz_le h
def lp_claim (day : Int32) : Nat → Int32 → (Nat → Nat) → (Nat → Nat → Int32) → Nat → MS
  | 0, th, z, a, i => (nI (z 1), th, z, a)
  | k + 1, th, z, a, i => (lp_claim day k ((s_M_askFor th z a i day).2.1) ((s_M_askFor th z a i day).2.2.1) ((s_M_askFor th z a i day).2.2.2) (i + 1))
set_option maxHeartbeats 4000000 in
set_option maxRecDepth 100000 in
theorem l_M_claim {p_ : Program} {l : Launch} {e_ : Env} {s : State} {m : MethodId} {below_ : List Frame} {meth_ : Method} {c_ : Code} {D : va_G} {cs : Nat → ClassId} {bk : Nat → Nat} {sz : Nat} (n : Nat) (hn : n ≤ 200) (day : Int32) (R : MS) (hx : p_.tables.exec = Jvm.exec) (hb : c_.code = b_M_claim) (hr : meth_.sig.returnType = (some .int)) (hml : c_.maxLocals = 3) (hw : ∀ w ∈ WA, w.before ([.ref (bk (0)), .int (day)] : List Value).toArray s = true) (hown : s.vm.findClass "IssueRowsModel" = some m.cls) (hlocks : meth_.locks = false) (hA : ∀ q, s.heap.size ≤ q → AA 28 bk sz q) (hN : NN s) (hK : va_K D classes (TY cs) s) : ∀ (k : Nat) (th : Int32) (z : Nat → Nat) (a : Nat → Nat → Int32) (i : Nat), (i + k = n) → (z 0 = n) → (z 1 ≤ i) → (z 4 ≤ 100) → (∀ j, j < n → 0 ≤ a 4 j ∧ a 4 j ≤ 9) → (R = lp_claim day k th z a i) → ∀ (H : Heap) (locs : List Loc) (ls : Array Slot), va_P D classes (wl 28 bk (MW cs th z a bk)) H → va_D (AA 28 bk sz) (wl 28 bk (MW cs th z a bk)) → va_S (AA 28 bk sz) s.heap H locs → lv_has ls 3 [(0, .ref (bk (0))), (1, .int (day)), (2, .int (nI i))] → W p_ l e_ ({ frames := 2, cells := 0, slots := 0, locals := 46 }) s m ([.ref (bk (0)), .int (day)] : List Value).toArray below_ meth_ c_ H locs 0 0 (MQ below_ (va_Qi (Mr cs bk R) (Wd D classes (TY cs) (AA 28 bk sz)) (AA 28 bk sz)) ([.ref (bk (0)), .int (day)] : List Value).toArray s 0 0 (AA 28 bk sz)) (F0 m 22 ls []) := by
  intro k
  induction k with
  | zero =>
    intro th z a i hf hz0 hz1 hz4 hpa hR H locs ls hP hD hS hl
    refine lv_iload_n hx hb d_M_claim_22 rfl (lv_at hl 2 rfl) ?_
    refine lv_aload_n hx hb d_M_claim_23 rfl (lv_at hl 0 rfl) ?_
    refine pw_get (ci := 7) (v := .int (nI (z 0))) hx hb hw i_M hown hK hP (0) (by decide) rfl rfl 4 (by decide) (hw _ kF_M_101) rfl d_M_claim_24 ?_
    refine lv_icmp_ge (tgt := 42) hx hb d_M_claim_27 (by decide) (fun c_1 => ?_) (fun c_1 => ?_)
    · have c_1 : (nI (z 0)) ≤ (nI i) := c_1
      refine lv_aload_n hx hb d_M_claim_42 rfl (lv_at hl 0 rfl) ?_
      refine pw_get (ci := 7) (v := .int (nI (z 1))) hx hb hw i_M hown hK hP (0) (by decide) rfl rfl 22 (by decide) (hw _ kF_M_122) rfl d_M_claim_43 ?_
      exact W.iret (v := nI (z 1)) hx hb hr (fun t ht hW => ⟨⟨nI (z 1), (28, bk, MW cs th z a bk), rfl, Mr_of (by rw [hR, lp_claim]), by rw [ht]; exact hP, va_K.moved hW.alike hK, hD⟩, hS.F ht⟩) hS.2.2 d_M_claim_46
    · have c_1 : ¬ (nI (z 0)) ≤ (nI i) := c_1
      exact absurd ((nI_leI (by omega) (by omega)).mpr (by omega)) c_1
  | succ k ih =>
    intro th z a i hf hz0 hz1 hz4 hpa hR H locs ls hP hD hS hl
    refine lv_iload_n hx hb d_M_claim_22 rfl (lv_at hl 2 rfl) ?_
    refine lv_aload_n hx hb d_M_claim_23 rfl (lv_at hl 0 rfl) ?_
    refine pw_get (ci := 7) (v := .int (nI (z 0))) hx hb hw i_M hown hK hP (0) (by decide) rfl rfl 4 (by decide) (hw _ kF_M_101) rfl d_M_claim_24 ?_
    refine lv_icmp_ge (tgt := 42) hx hb d_M_claim_27 (by decide) (fun c_101 => ?_) (fun c_101 => ?_)
    · have c_101 : (nI (z 0)) ≤ (nI i) := c_101
      exact absurd ((nI_leI (by omega) (by omega)).mp c_101) (by omega)
    · have c_101 : ¬ (nI (z 0)) ≤ (nI i) := c_101
      refine lv_aload_n hx hb d_M_claim_30 rfl (lv_at hl 0 rfl) ?_
      refine lv_iload_n hx hb d_M_claim_31 rfl (lv_at hl 2 rfl) ?_
      refine lv_iload_n hx hb d_M_claim_32 rfl (lv_at hl 1 rfl) ?_
      refine pm_callv (va_runV (As := [.int (nI i), .int (day)]) (rest := []) ⟨hx, hb, hml, hown, hw⟩ (c_M_askFor l D cs bk H.size th z a i (by omega) hz4 (by omega) (hpa i (by omega)) day) (cw_V 2 hw kM_M_125 kI_M_askFor kV_M_askFor kZ_M kC_M_askFor rfl rfl ⟨rfl, by decide, by decide, by decide +kernel⟩ ⟨Nat.le_of_ble_eq_true rfl, Nat.le_of_ble_eq_true rfl⟩) (pw_preV hN hK hP hD (0) (by decide) rfl rfl) rfl rfl hl.1 rfl (lv_room (Nat.le_of_ble_eq_true rfl)) d_M_claim_33 ⟨Nat.le_of_ble_eq_true rfl, Nat.le_of_ble_eq_true rfl⟩) hS (wl_free hD hS hA) (fun H locs hP hD hS => ?_)
      obtain ⟨q0, q1, q2, q3, q4⟩ := ask_inv (th := th) (z := z) (a := a) (j := i) (day := day)
      refine lv_iinc (v := nI (i + 1)) (lv' := [(2, .int (nI (i + 1))), (0, .ref (bk (0))), (1, .int (day))]) hx hb d_M_claim_36 hl (k := 2) rfl (nI_1 _) (by decide) rfl (fun ls hl => ?_)
      refine lv_goto (tgt := 22) hx hb d_M_claim_39 (by decide) ?_
      exact ih ((s_M_askFor th z a i day).2.1) ((s_M_askFor th z a i day).2.2.1) ((s_M_askFor th z a i day).2.2.2) (i + 1) (by omega) (by rw [q1]; exact hz0) (by omega) (q3 hz4) (by rw [q4]; exact hpa) (by rw [hR, lp_claim]) _ _ _ hP hD hS (lv_sub hl [1, 2, 0] rfl)
def s_M_claim (th : Int32) (z : Nat → Nat) (a : Nat → Nat → Int32) (day : Int32) : MS := (if 0 ≤ day ∧ day ≤ 1000000 then (lp_claim day (z 0) 0 (va_up z 1 (0)) a 0) else (-2, 0, z, a))
set_option maxHeartbeats 4000000 in
set_option maxRecDepth 100000 in
theorem c_M_claim (l : Launch) (D : va_G) (cs : Nat → ClassId) (bk : Nat → Nat) (sz : Nat) (th : Int32) (z : Nat → Nat) (a : Nat → Nat → Int32) (hz : z 0 ≤ 200) (hz4 : z 4 ≤ 100) (hpa : ∀ j, j < z 0 → 0 ≤ a 4 j ∧ a 4 j ≤ 9) (day : Int32) : Met l y_M_claim w_M_claim ({ frames := 2, cells := 0, slots := 0, locals := 46 }) (va_Pc [.ref (bk (0)), .int (day)] (PB D classes (TY cs) 28 bk (MW cs th z a bk) sz)) (va_Qi (Mr cs bk (s_M_claim th z a day)) (Wd D classes (TY cs) (AA 28 bk sz)) (AA 28 bk sz)) 0 0 (AA 28 bk sz) := by
  refine pw_entry (cc := b_M_claim) (maxL := 3) (ret := (some .int)) (by decide +kernel) rfl (Nat.le_of_ble_eq_true rfl) ?_
  intro p_ e_ s m below_ meth_ c_ ls hx hb hr hml hts hown hlocks hin hsz hP hK hD hS hA hN hl
  have hw : ∀ w ∈ WA, w.before _ s = true := fun w h => hts w (List.mem_cons_of_mem _ h)
  have hown : s.vm.findClass "IssueRowsModel" = some m.cls := hown
  have hl : lv_has ls 3 [(0, .ref (bk (0))), (1, .int (day))] := hl
  refine lv_aload_n hx hb d_M_claim_0 rfl (lv_at hl 0 rfl) ?_
  refine lv_iconst (v := 0) hx hb d_M_claim_1 (by decide) ?_
  refine pw_put (ci := 7) (v := .int (0)) (ty := .int) (fs' := [.int (0), .ref (bk (1)), .ref (bk (2)), .ref (bk (3)), .int (nI (z 0)), .ref (bk (4)), .ref (bk (5)), .ref (bk (6)), .ref (bk (7)), .ref (bk (8)), .ref (bk (9)), .ref (bk (10)), .ref (bk (11)), .ref (bk (12)), .ref (bk (13)), .ref (bk (14)), .ref (bk (15)), .ref (bk (16)), .ref (bk (17)), .ref (bk (18)), .ref (bk (19)), .ref (bk (20)), .int (nI (z 1)), .ref (bk (21)), .ref (bk (22)), .int (nI (z 2)), .int (nI (z 3)), .ref (bk (23)), .ref (bk (24)), .ref (bk (25)), .int (nI (z 4)), .ref (bk (26)), .ref (bk (27))]) hx hb hw i_M t_M t_M_ok n_M hown hK hP hD hS (0) (by decide) rfl rfl 0 (by decide) (hw _ kF_M_92) rfl (t_M_ok 0 (by decide)) rfl rfl (Nat.le_of_ble_eq_true rfl) rfl d_M_claim_2 (fun cw_1 H locs ecw_1 hP hD hS => ?_)
  obtain rfl : cw_1 = MW cs 0 z a bk := by rw [ecw_1]; exact MW_obj 0 z
  refine lv_iload_n hx hb d_M_claim_5 rfl (lv_at hl 1 rfl) ?_
  refine pw_callSi (va_runS (As := [.int (day)]) (rest := []) ⟨hx, hb, hml, hown, hw⟩ (c_M_isDay l D cs bk H.size 0 z a day) (cw_S 1 hw kM_M_107 kS_M_isDay kZ_M kC_M_isDay rfl rfl ⟨rfl, by decide, by decide, by decide +kernel⟩ ⟨Nat.le_of_ble_eq_true rfl, Nat.le_of_ble_eq_true rfl⟩) (pw_preS hN hK hP hD) rfl rfl hl.1 rfl (lv_room (Nat.le_of_ble_eq_true rfl)) d_M_claim_6 ⟨Nat.le_of_ble_eq_true rfl, Nat.le_of_ble_eq_true rfl⟩) (fun r_2 hr_2 => ?_)
  have hr_2 : r_2 = bI (0 ≤ day ∧ day ≤ 1000000) := hr_2
  subst hr_2
  refine pw_ifne (tgt := 15) hx hb d_M_claim_9 (by decide) (fun c_3 => ?_) (fun c_3 => ?_)
  · have c_3 : 0 ≤ day ∧ day ≤ 1000000 := c_3
    refine lv_aload_n hx hb d_M_claim_15 rfl (lv_at hl 0 rfl) ?_
    refine lv_iconst (v := 0) hx hb d_M_claim_16 (by decide) ?_
    refine pw_put (ci := 7) (v := .int (0)) (ty := .int) (fs' := [.int (0), .ref (bk (1)), .ref (bk (2)), .ref (bk (3)), .int (nI (z 0)), .ref (bk (4)), .ref (bk (5)), .ref (bk (6)), .ref (bk (7)), .ref (bk (8)), .ref (bk (9)), .ref (bk (10)), .ref (bk (11)), .ref (bk (12)), .ref (bk (13)), .ref (bk (14)), .ref (bk (15)), .ref (bk (16)), .ref (bk (17)), .ref (bk (18)), .ref (bk (19)), .ref (bk (20)), .int (0), .ref (bk (21)), .ref (bk (22)), .int (nI (z 2)), .int (nI (z 3)), .ref (bk (23)), .ref (bk (24)), .ref (bk (25)), .int (nI (z 4)), .ref (bk (26)), .ref (bk (27))]) hx hb hw i_M t_M t_M_ok n_M hown hK hP hD hS (0) (by decide) rfl rfl 22 (by decide) (hw _ kF_M_122) rfl (t_M_ok 22 (by decide)) rfl rfl (Nat.le_of_ble_eq_true rfl) rfl d_M_claim_17 (fun cw_4 H locs ecw_4 hP hD hS => ?_)
    obtain rfl : cw_4 = MW cs 0 (va_up z 1 (0)) a bk := by rw [ecw_4]; exact MW_obj 0 (va_up z 1 (0))
    refine lv_iconst (v := 0) hx hb d_M_claim_20 (by decide) ?_
    refine lv_istore_n (lv' := [(2, .int (0)), (0, .ref (bk (0))), (1, .int (day))]) hx hb d_M_claim_21 rfl hl (by decide) rfl (fun ls hl => ?_)
    exact l_M_claim (z 0) hz day _ hx hb hr hml hw hown hlocks hA hN hK (z 0) 0 (va_up z 1 (0)) a 0 (by omega) rfl (Nat.le_refl _) hz4 hpa (by rw [s_M_claim, if_pos c_3]) _ _ _ hP hD hS (lv_sub hl [1, 2, 0] rfl)
  · have c_3 : ¬ (0 ≤ day ∧ day ≤ 1000000) := c_3
    refine lv_bipush (v := -2) hx hb d_M_claim_12 (by decide) ?_
    exact W.iret (v := -2) hx hb hr (fun t ht hW => ⟨⟨-2, (28, bk, MW cs 0 z a bk), rfl, Mr_of (by rw [s_M_claim, if_neg c_3]), by rw [ht]; exact hP, va_K.moved hW.alike hK, hD⟩, hS.F ht⟩) hS.2.2 d_M_claim_14

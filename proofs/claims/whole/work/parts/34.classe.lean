def lp_has (g : Nat → Nat → Int32) (pt od : Int32) : Nat → Nat → Int32
  | 0, i => 0
  | k + 1, i => (if ((g i) 0) = pt then (if ((g i) 1) = od then 1 else (lp_has g pt od k (i + 1))) else (lp_has g pt od k (i + 1)))
set_option maxHeartbeats 4000000 in
set_option maxRecDepth 100000 in
theorem l_X_hasOrdinal {p_ : Program} {l : Launch} {e_ : Env} {s : State} {m : MethodId} {below_ : List Frame} {meth_ : Method} {c_ : Code} {D : va_G} {cs : Nat → ClassId} {bk : Nat → Nat} {sz : Nat} (z : Nat → Nat) (bo : Nat → Nat) (g : Nat → Nat → Int32) (q : Nat → Nat → Int32) (pp : Nat → Nat → Int32) (dd : Nat → Nat → Int32) (n : Nat) (hn : n ≤ 200) (hzn : z 0 = n) (pt od : Int32) (R : Int32) (hx : p_.tables.exec = Jvm.exec) (hb : c_.code = b_X_hasOrdinal) (hr : meth_.sig.returnType = (some .boolean)) (hml : c_.maxLocals = 4) (hw : ∀ w ∈ WA, w.before ([.ref (bk (0)), .int (pt), .int (od)] : List Value).toArray s = true) (hown : s.vm.findClass "IssueRows" = some m.cls) (hlocks : meth_.locks = false) (hA : ∀ q, s.heap.size ≤ q → AA (27 + 4 * n) bk sz q) (hN : NN s) (hK : va_K D classes (TY cs) s) (hP : va_P D classes (wl (27 + 4 * n) bk (CW cs z bo g q pp dd bk)) s.heap) (hD : va_D (AA (27 + 4 * n) bk sz) (wl (27 + 4 * n) bk (CW cs z bo g q pp dd bk))) : ∀ (k : Nat) (i : Nat), (i + k = n) → (R = lp_has g pt od k i) → ∀ (ls : Array Slot), lv_has ls 4 [(0, .ref (bk (0))), (1, .int (pt)), (2, .int (od)), (3, .int (nI i))] → W p_ l e_ ({ frames := 0, cells := 0, slots := 0, locals := 0 }) s m ([.ref (bk (0)), .int (pt), .int (od)] : List Value).toArray below_ meth_ c_ s.heap [] 0 0 (MQ below_ (vp_Si (fun r => r = R)) ([.ref (bk (0)), .int (pt), .int (od)] : List Value).toArray s 0 0 (fun _ => False)) (F0 m 2 ls []) := by
  intro k
  induction k with
  | zero =>
    intro i hf hR ls hl
    refine lv_iload_n hx hb d_X_hasOrdinal_2 rfl (lv_at hl 3 rfl) ?_
    refine lv_aload_n hx hb d_X_hasOrdinal_3 rfl (lv_at hl 0 rfl) ?_
    refine pw_get (ci := 0) (v := .int (nI (z 0))) hx hb hw i_X hown hK hP (0) (by omega) rfl rfl 3 (by decide) (hw _ kF_X_24) rfl d_X_hasOrdinal_4 ?_
    refine lv_icmp_ge (tgt := 44) hx hb d_X_hasOrdinal_7 (by decide) (fun c_1 => ?_) (fun c_1 => ?_)
    · have c_1 : (nI (z 0)) ≤ (nI i) := c_1
      refine lv_iconst (v := 0) hx hb d_X_hasOrdinal_44 (by decide) ?_
      exact W.zret (v := 0) (ty := .boolean) hx hb hr (by decide) (fun t ht hW => ⟨0, rfl, (by rw [hR, lp_has]), ht⟩) (fun q h => by cases h) d_X_hasOrdinal_45
    · have c_1 : ¬ (nI (z 0)) ≤ (nI i) := c_1
      exact absurd ((nI_leI (by omega) (by omega)).mpr (by omega)) c_1
  | succ k ih =>
    intro i hf hR ls hl
    refine lv_iload_n hx hb d_X_hasOrdinal_2 rfl (lv_at hl 3 rfl) ?_
    refine lv_aload_n hx hb d_X_hasOrdinal_3 rfl (lv_at hl 0 rfl) ?_
    refine pw_get (ci := 0) (v := .int (nI (z 0))) hx hb hw i_X hown hK hP (0) (by omega) rfl rfl 3 (by decide) (hw _ kF_X_24) rfl d_X_hasOrdinal_4 ?_
    refine lv_icmp_ge (tgt := 44) hx hb d_X_hasOrdinal_7 (by decide) (fun c_101 => ?_) (fun c_101 => ?_)
    · have c_101 : (nI (z 0)) ≤ (nI i) := c_101
      exact absurd ((nI_leI (by omega) (by omega)).mp c_101) (by omega)
    · have c_101 : ¬ (nI (z 0)) ≤ (nI i) := c_101
      refine lv_aload_n hx hb d_X_hasOrdinal_10 rfl (lv_at hl 0 rfl) ?_
      refine pw_get (ci := 0) (v := .ref (bk (2))) hx hb hw i_X hown hK hP (0) (by omega) rfl rfl 1 (by decide) (hw _ kF_X_17) rfl d_X_hasOrdinal_11 ?_
      refine lv_iload_n hx hb d_X_hasOrdinal_14 rfl (lv_at hl 3 rfl) ?_
      refine pw_aldq hx hb hK hP 3 (2) (by omega) rfl rfl (i) rfl (by omega) (by decide) (r := bk (27 + 4 * i)) (if_pos (by omega)) d_X_hasOrdinal_15 ?_
      refine pw_get (ci := 2) (v := .int ((g i) 0)) hx hb hw i_I hown hK hP (27 + 4 * i) (by omega) (CW_iss i) rfl 1 (by decide) (hw _ kF_X_167) rfl d_X_hasOrdinal_16 ?_
      refine lv_iload_n hx hb d_X_hasOrdinal_19 rfl (lv_at hl 1 rfl) ?_
      refine lv_icmp_ne (tgt := 38) hx hb d_X_hasOrdinal_20 (by decide) (fun c_102 => ?_) (fun c_102 => ?_)
      · have c_102 : ¬ ((g i) 0) = pt := c_102
        refine lv_iinc (v := nI (i + 1)) (lv' := [(3, .int (nI (i + 1))), (0, .ref (bk (0))), (1, .int (pt)), (2, .int (od))]) hx hb d_X_hasOrdinal_38 hl (k := 3) rfl (nI_1 _) (by decide) rfl (fun ls hl => ?_)
        refine lv_goto (tgt := 2) hx hb d_X_hasOrdinal_41 (by decide) ?_
        exact ih (i + 1) (by omega) (by rw [hR, lp_has, if_neg c_102]) _ (lv_sub hl [1, 2, 3, 0] rfl)
      · have c_102 : ((g i) 0) = pt := c_102
        refine lv_aload_n hx hb d_X_hasOrdinal_23 rfl (lv_at hl 0 rfl) ?_
        refine pw_get (ci := 0) (v := .ref (bk (2))) hx hb hw i_X hown hK hP (0) (by omega) rfl rfl 1 (by decide) (hw _ kF_X_17) rfl d_X_hasOrdinal_24 ?_
        refine lv_iload_n hx hb d_X_hasOrdinal_27 rfl (lv_at hl 3 rfl) ?_
        refine pw_aldq hx hb hK hP 3 (2) (by omega) rfl rfl (i) rfl (by omega) (by decide) (r := bk (27 + 4 * i)) (if_pos (by omega)) d_X_hasOrdinal_28 ?_
        refine pw_get (ci := 2) (v := .int ((g i) 1)) hx hb hw i_I hown hK hP (27 + 4 * i) (by omega) (CW_iss i) rfl 2 (by decide) (hw _ kF_X_170) rfl d_X_hasOrdinal_29 ?_
        refine lv_iload_n hx hb d_X_hasOrdinal_32 rfl (lv_at hl 2 rfl) ?_
        refine lv_icmp_ne (tgt := 38) hx hb d_X_hasOrdinal_33 (by decide) (fun c_103 => ?_) (fun c_103 => ?_)
        · have c_103 : ¬ ((g i) 1) = od := c_103
          refine lv_iinc (v := nI (i + 1)) (lv' := [(3, .int (nI (i + 1))), (0, .ref (bk (0))), (1, .int (pt)), (2, .int (od))]) hx hb d_X_hasOrdinal_38 hl (k := 3) rfl (nI_1 _) (by decide) rfl (fun ls hl => ?_)
          refine lv_goto (tgt := 2) hx hb d_X_hasOrdinal_41 (by decide) ?_
          exact ih (i + 1) (by omega) (by rw [hR, lp_has, if_pos c_102, if_neg c_103]) _ (lv_sub hl [1, 2, 3, 0] rfl)
        · have c_103 : ((g i) 1) = od := c_103
          refine lv_iconst (v := 1) hx hb d_X_hasOrdinal_36 (by decide) ?_
          exact W.zret (v := 1) (ty := .boolean) hx hb hr (by decide) (fun t ht hW => ⟨1, rfl, (by rw [hR, lp_has, if_pos c_102, if_pos c_103]), ht⟩) (fun q h => by cases h) d_X_hasOrdinal_37
set_option maxHeartbeats 4000000 in
set_option maxRecDepth 100000 in
theorem c_X_hasOrdinal (l : Launch) (D : va_G) (cs : Nat → ClassId) (bk : Nat → Nat) (sz : Nat) (z bo : Nat → Nat) (g q pp dd : Nat → Nat → Int32) (hz0 : z 0 ≤ 200) (pt od : Int32) : Met l y_X_hasOrdinal w_X_hasOrdinal ({ frames := 0, cells := 0, slots := 0, locals := 0 }) (va_Pc [.ref (bk (0)), .int (pt), .int (od)] (PB D classes (TY cs) (27 + 4 * z 0) bk (CW cs z bo g q pp dd bk) sz)) (vp_Si (fun r => r = lp_has g pt od (z 0) 0)) 0 0 (fun _ => False) := by
  refine pw_entry (cc := b_X_hasOrdinal) (maxL := 4) (ret := (some .boolean)) (by decide +kernel) rfl (Nat.le_of_ble_eq_true rfl) ?_
  intro p_ e_ s m below_ meth_ c_ ls hx hb hr hml hts hown hlocks hin hsz hP hK hD hS hA hN hl
  have hw : ∀ w ∈ WA, w.before _ s = true := fun w h => hts w (List.mem_cons_of_mem _ h)
  have hown : s.vm.findClass "IssueRows" = some m.cls := hown
  have hl : lv_has ls 4 [(0, .ref (bk (0))), (1, .int (pt)), (2, .int (od))] := hl
  refine lv_iconst (v := 0) hx hb d_X_hasOrdinal_0 (by decide) ?_
  refine lv_istore_n (lv' := [(3, .int (0)), (0, .ref (bk (0))), (1, .int (pt)), (2, .int (od))]) hx hb d_X_hasOrdinal_1 rfl hl (by decide) rfl (fun ls hl => ?_)
  exact l_X_hasOrdinal z bo g q pp dd (z 0) hz0 rfl pt od _ hx hb hr hml hw hown hlocks hA hN hK hP hD (z 0) 0 (by omega) rfl _ (lv_sub hl [1, 2, 3, 0] rfl)
def lp_xlate (z : Nat → Nat) (bo : Nat → Nat) (g : Nat → Nat → Int32) (q : Nat → Nat → Int32) (pp : Nat → Nat → Int32) (dd : Nat → Nat → Int32) (pt : Int32) : Nat → Nat → Int32 → XS
  | 0, i, sum => (sum, z, bo, g, q, pp, dd)
  | k + 1, i, sum => (if ((g i) 0) = pt then (lp_xlate z bo g q pp dd pt k (i + 1) (sum + (if (¬ ((g i) 8) = -1 ∧ ¬ ((g i) 2) = -1 ∧ ((g i) 3) = 0) ∧ ((g i) 2) < ((g i) 8) then ((g i) 8) - ((g i) 2) else 0))) else (lp_xlate z bo g q pp dd pt k (i + 1) sum))
set_option maxHeartbeats 4000000 in
set_option maxRecDepth 100000 in
theorem l_X_lateness {p_ : Program} {l : Launch} {e_ : Env} {s : State} {m : MethodId} {below_ : List Frame} {meth_ : Method} {c_ : Code} {D : va_G} {cs : Nat → ClassId} {bk : Nat → Nat} {sz : Nat} (z : Nat → Nat) (bo : Nat → Nat) (g : Nat → Nat → Int32) (q : Nat → Nat → Int32) (pp : Nat → Nat → Int32) (dd : Nat → Nat → Int32) (n : Nat) (hn : n ≤ 200) (hzn : z 0 = n) (pt : Int32) (R : XS) (hx : p_.tables.exec = Jvm.exec) (hb : c_.code = b_X_lateness) (hr : meth_.sig.returnType = (some .int)) (hml : c_.maxLocals = 4) (hw : ∀ w ∈ WA, w.before ([.ref (bk (0)), .int (pt)] : List Value).toArray s = true) (hown : s.vm.findClass "IssueRows" = some m.cls) (hlocks : meth_.locks = false) (hA : ∀ q, s.heap.size ≤ q → AA (27 + 4 * n) bk sz q) (hN : NN s) (hK : va_K D classes (TY cs) s) : ∀ (k : Nat) (i : Nat) (sum : Int32), (i + k = n) → (R = lp_xlate z bo g q pp dd pt k i sum) → ∀ (H : Heap) (locs : List Loc) (ls : Array Slot), va_P D classes (wl (27 + 4 * n) bk (CW cs z bo g q pp dd bk)) H → va_D (AA (27 + 4 * n) bk sz) (wl (27 + 4 * n) bk (CW cs z bo g q pp dd bk)) → va_S (AA (27 + 4 * n) bk sz) s.heap H locs → lv_has ls 4 [(0, .ref (bk (0))), (1, .int (pt)), (2, .int (sum)), (3, .int (nI i))] → W p_ l e_ ({ frames := 2, cells := 0, slots := 0, locals := 42 }) s m ([.ref (bk (0)), .int (pt)] : List Value).toArray below_ meth_ c_ H locs 0 0 (MQ below_ (va_Qi (Xr cs bk R) (Wd D classes (TY cs) (AA (27 + 4 * n) bk sz)) (AA (27 + 4 * n) bk sz)) ([.ref (bk (0)), .int (pt)] : List Value).toArray s 0 0 (AA (27 + 4 * n) bk sz)) (F0 m 13 ls []) := by
  intro k
  induction k with
  | zero =>
    intro i sum hf hR H locs ls hP hD hS hl
    refine lv_iload_n hx hb d_X_lateness_13 rfl (lv_at hl 3 rfl) ?_
    refine lv_aload_n hx hb d_X_lateness_14 rfl (lv_at hl 0 rfl) ?_
    refine pw_get (ci := 0) (v := .int (nI (z 0))) hx hb hw i_X hown hK hP (0) (by omega) rfl rfl 3 (by decide) (hw _ kF_X_24) rfl d_X_lateness_15 ?_
    refine lv_icmp_ge (tgt := 52) hx hb d_X_lateness_18 (by decide) (fun c_1 => ?_) (fun c_1 => ?_)
    · have c_1 : (nI (z 0)) ≤ (nI i) := c_1
      refine lv_iload_n hx hb d_X_lateness_52 rfl (lv_at hl 2 rfl) ?_
      exact W.iret (v := sum) hx hb hr (fun t ht hW => ⟨⟨sum, ((27 + 4 * n), bk, CW cs z bo g q pp dd bk), rfl, Xr_of (by rw [hR, lp_xlate]) (congrArg (fun t => 27 + 4 * t) hzn.symm), by rw [ht]; exact hP, va_K.moved hW.alike hK, hD⟩, hS.F ht⟩) hS.2.2 d_X_lateness_53
    · have c_1 : ¬ (nI (z 0)) ≤ (nI i) := c_1
      exact absurd ((nI_leI (by omega) (by omega)).mpr (by omega)) c_1
  | succ k ih =>
    intro i sum hf hR H locs ls hP hD hS hl
    refine lv_iload_n hx hb d_X_lateness_13 rfl (lv_at hl 3 rfl) ?_
    refine lv_aload_n hx hb d_X_lateness_14 rfl (lv_at hl 0 rfl) ?_
    refine pw_get (ci := 0) (v := .int (nI (z 0))) hx hb hw i_X hown hK hP (0) (by omega) rfl rfl 3 (by decide) (hw _ kF_X_24) rfl d_X_lateness_15 ?_
    refine lv_icmp_ge (tgt := 52) hx hb d_X_lateness_18 (by decide) (fun c_101 => ?_) (fun c_101 => ?_)
    · have c_101 : (nI (z 0)) ≤ (nI i) := c_101
      exact absurd ((nI_leI (by omega) (by omega)).mp c_101) (by omega)
    · have c_101 : ¬ (nI (z 0)) ≤ (nI i) := c_101
      refine lv_aload_n hx hb d_X_lateness_21 rfl (lv_at hl 0 rfl) ?_
      refine pw_get (ci := 0) (v := .ref (bk (2))) hx hb hw i_X hown hK hP (0) (by omega) rfl rfl 1 (by decide) (hw _ kF_X_17) rfl d_X_lateness_22 ?_
      refine lv_iload_n hx hb d_X_lateness_25 rfl (lv_at hl 3 rfl) ?_
      refine pw_aldq hx hb hK hP 3 (2) (by omega) rfl rfl (i) rfl (by omega) (by decide) (r := bk (27 + 4 * i)) (if_pos (by omega)) d_X_lateness_26 ?_
      refine pw_get (ci := 2) (v := .int ((g i) 0)) hx hb hw i_I hown hK hP (27 + 4 * i) (by omega) (CW_iss i) rfl 1 (by decide) (hw _ kF_X_167) rfl d_X_lateness_27 ?_
      refine lv_iload_n hx hb d_X_lateness_30 rfl (lv_at hl 1 rfl) ?_
      refine lv_icmp_ne (tgt := 46) hx hb d_X_lateness_31 (by decide) (fun c_102 => ?_) (fun c_102 => ?_)
      · have c_102 : ¬ ((g i) 0) = pt := c_102
        refine lv_iinc (v := nI (i + 1)) (lv' := [(3, .int (nI (i + 1))), (0, .ref (bk (0))), (1, .int (pt)), (2, .int (sum))]) hx hb d_X_lateness_46 hl (k := 3) rfl (nI_1 _) (by decide) rfl (fun ls hl => ?_)
        refine lv_goto (tgt := 13) hx hb d_X_lateness_49 (by decide) ?_
        exact ih (i + 1) sum (by omega) (by rw [hR, lp_xlate, if_neg c_102]) _ _ _ hP hD hS (lv_sub hl [1, 2, 3, 0] rfl)
      · have c_102 : ((g i) 0) = pt := c_102
        refine lv_iload_n hx hb d_X_lateness_34 rfl (lv_at hl 2 rfl) ?_
        refine lv_aload_n hx hb d_X_lateness_35 rfl (lv_at hl 0 rfl) ?_
        refine pw_get (ci := 0) (v := .ref (bk (2))) hx hb hw i_X hown hK hP (0) (by omega) rfl rfl 1 (by decide) (hw _ kF_X_17) rfl d_X_lateness_36 ?_
        refine lv_iload_n hx hb d_X_lateness_39 rfl (lv_at hl 3 rfl) ?_
        refine pw_aldq hx hb hK hP 3 (2) (by omega) rfl rfl (i) rfl (by omega) (by decide) (r := bk (27 + 4 * i)) (if_pos (by omega)) d_X_lateness_40 ?_
        refine pw_callSi (va_runV (As := []) (rest := [.int (sum)]) ⟨hx, hb, hml, hown, hw⟩ (c_I_daysLate l D cs (27 + 4 * n) bk (CW cs z bo g q pp dd bk) H.size (27 + 4 * i) (28 + 4 * i) (by omega) (nI i) ((g i) 0) ((g i) 1) ((g i) 2) ((g i) 3) ((g i) 4) ((g i) 5) ((g i) 6) ((g i) 7) ((g i) 8) ((g i) 9) ((g i) 10) ((g i) 11) (CW_iss i)) (cw_V 0 hw kM_X_209 kI_I_daysLate kV_I_daysLate kZ_I kC_I_daysLate rfl rfl ⟨rfl, by decide, by decide, by decide +kernel⟩ ⟨Nat.le_of_ble_eq_true rfl, Nat.le_of_ble_eq_true rfl⟩) (pw_preV hN hK hP hD (27 + 4 * i) (by omega) (CW_iss i) rfl) rfl rfl hl.1 rfl (lv_room (Nat.le_of_ble_eq_true rfl)) d_X_lateness_41 ⟨Nat.le_of_ble_eq_true rfl, Nat.le_of_ble_eq_true rfl⟩) (fun r_103 hr_103 => ?_)
        have hr_103 : r_103 = if (¬ ((g i) 8) = -1 ∧ ¬ ((g i) 2) = -1 ∧ ((g i) 3) = 0) ∧ ((g i) 2) < ((g i) 8) then ((g i) 8) - ((g i) 2) else 0 := hr_103
        subst hr_103
        refine lv_iadd hx hb d_X_lateness_44 ?_
        refine lv_istore_n (lv' := [(2, .int (sum + (if (¬ ((g i) 8) = -1 ∧ ¬ ((g i) 2) = -1 ∧ ((g i) 3) = 0) ∧ ((g i) 2) < ((g i) 8) then ((g i) 8) - ((g i) 2) else 0))), (0, .ref (bk (0))), (1, .int (pt)), (3, .int (nI i))]) hx hb d_X_lateness_45 rfl hl (by decide) rfl (fun ls hl => ?_)
        refine lv_iinc (v := nI (i + 1)) (lv' := [(3, .int (nI (i + 1))), (2, .int (sum + (if (¬ ((g i) 8) = -1 ∧ ¬ ((g i) 2) = -1 ∧ ((g i) 3) = 0) ∧ ((g i) 2) < ((g i) 8) then ((g i) 8) - ((g i) 2) else 0))), (0, .ref (bk (0))), (1, .int (pt))]) hx hb d_X_lateness_46 hl (k := 3) rfl (nI_1 _) (by decide) rfl (fun ls hl => ?_)
        refine lv_goto (tgt := 13) hx hb d_X_lateness_49 (by decide) ?_
        exact ih (i + 1) (sum + (if (¬ ((g i) 8) = -1 ∧ ¬ ((g i) 2) = -1 ∧ ((g i) 3) = 0) ∧ ((g i) 2) < ((g i) 8) then ((g i) 8) - ((g i) 2) else 0)) (by omega) (by rw [hR, lp_xlate, if_pos c_102]) _ _ _ hP hD hS (lv_sub hl [2, 3, 1, 0] rfl)
def s_X_lateness (z bo : Nat → Nat) (g q pp dd : Nat → Nat → Int32) (pt : Int32) : XS := (if 0 ≤ pt ∧ pt ≤ 9 then (lp_xlate z bo g q pp dd pt (z 0) 0 0) else (-1, z, bo, g, q, pp, dd))
set_option maxHeartbeats 4000000 in
set_option maxRecDepth 100000 in
theorem c_X_lateness (l : Launch) (D : va_G) (cs : Nat → ClassId) (bk : Nat → Nat) (sz : Nat) (z bo : Nat → Nat) (g q pp dd : Nat → Nat → Int32) (hz0 : z 0 ≤ 200) (pt : Int32) : Met l y_X_lateness w_X_lateness ({ frames := 2, cells := 0, slots := 0, locals := 42 }) (va_Pc [.ref (bk (0)), .int (pt)] (PB D classes (TY cs) (27 + 4 * z 0) bk (CW cs z bo g q pp dd bk) sz)) (va_Qi (Xr cs bk (s_X_lateness z bo g q pp dd pt)) (Wd D classes (TY cs) (AA (27 + 4 * z 0) bk sz)) (AA (27 + 4 * z 0) bk sz)) 0 0 (AA (27 + 4 * z 0) bk sz) := by
  refine pw_entry (cc := b_X_lateness) (maxL := 4) (ret := (some .int)) (by decide +kernel) rfl (Nat.le_of_ble_eq_true rfl) ?_
  intro p_ e_ s m below_ meth_ c_ ls hx hb hr hml hts hown hlocks hin hsz hP hK hD hS hA hN hl
  have hw : ∀ w ∈ WA, w.before _ s = true := fun w h => hts w (List.mem_cons_of_mem _ h)
  have hown : s.vm.findClass "IssueRows" = some m.cls := hown
  have hl : lv_has ls 4 [(0, .ref (bk (0))), (1, .int (pt))] := hl
  refine lv_iload_n hx hb d_X_lateness_0 rfl (lv_at hl 1 rfl) ?_
  refine pw_callSi (va_runS (As := [.int (pt)]) (rest := []) ⟨hx, hb, hml, hown, hw⟩ (c_X_isPattern l D cs (27 + 4 * z 0) bk (CW cs z bo g q pp dd bk) s.heap.size pt) (cw_S 1 hw kM_X_55 kS_X_isPattern kZ_X kC_X_isPattern rfl rfl ⟨rfl, by decide, by decide, by decide +kernel⟩ ⟨Nat.le_of_ble_eq_true rfl, Nat.le_of_ble_eq_true rfl⟩) (pw_preS hN hK hP hD) rfl rfl hl.1 rfl (lv_room (Nat.le_of_ble_eq_true rfl)) d_X_lateness_1 ⟨Nat.le_of_ble_eq_true rfl, Nat.le_of_ble_eq_true rfl⟩) (fun r_1 hr_1 => ?_)
  have hr_1 : r_1 = bI (0 ≤ pt ∧ pt ≤ 9) := hr_1
  subst hr_1
  refine pw_ifne (tgt := 9) hx hb d_X_lateness_4 (by decide) (fun c_2 => ?_) (fun c_2 => ?_)
  · have c_2 : 0 ≤ pt ∧ pt ≤ 9 := c_2
    refine lv_iconst (v := 0) hx hb d_X_lateness_9 (by decide) ?_
    refine lv_istore_n (lv' := [(2, .int (0)), (0, .ref (bk (0))), (1, .int (pt))]) hx hb d_X_lateness_10 rfl hl (by decide) rfl (fun ls hl => ?_)
    refine lv_iconst (v := 0) hx hb d_X_lateness_11 (by decide) ?_
    refine lv_istore_n (lv' := [(3, .int (0)), (2, .int (0)), (0, .ref (bk (0))), (1, .int (pt))]) hx hb d_X_lateness_12 rfl hl (by decide) rfl (fun ls hl => ?_)
    exact l_X_lateness z bo g q pp dd (z 0) hz0 rfl pt _ hx hb hr hml hw hown hlocks hA hN hK (z 0) 0 0 (by omega) (by rw [s_X_lateness, if_pos c_2]) _ _ _ hP hD hS (lv_sub hl [2, 3, 1, 0] rfl)
  · have c_2 : ¬ (0 ≤ pt ∧ pt ≤ 9) := c_2
    refine lv_iconst (v := -1) hx hb d_X_lateness_7 (by decide) ?_
    exact W.iret (v := -1) hx hb hr (fun t ht hW => ⟨⟨-1, (27 + 4 * z 0, bk, CW cs z bo g q pp dd bk), rfl, Xr_of (by rw [s_X_lateness, if_neg c_2]) rfl, by rw [ht]; exact hP, va_K.moved hW.alike hK, hD⟩, hS.F ht⟩) hS.2.2 d_X_lateness_8
theorem nz_le {n L : Nat} (h : n ≤ L) : nz n L ≤ L := by
  unfold nz
  by_cases c : n < L
  · rw [if_pos c]; exact c
  · rw [if_neg c]; exact h
theorem va_up_f {g : Nat → Nat → Int32} {j f : Nat} {h : Nat → Int32} (hh : h f = g j f) (i : Nat) : va_up g j h i f = g i f := by
  by_cases hi : i = j
  · subst hi; rw [va_up_self]; exact hh
  · rw [va_up_ne _ _ hi]
theorem cid_inv {z bo : Nat → Nat} {g q pp dd : Nat → Nat → Int32} {j p : Nat} {day : Int32} : (s_X_claimIfDue z bo g q pp dd j p day).2.1 0 = z 0 ∧ (s_X_claimIfDue z bo g q pp dd j p day).2.1 1 ≤ z 1 + 1 ∧ (z 2 ≤ 100 → (s_X_claimIfDue z bo g q pp dd j p day).2.1 2 ≤ 100) ∧ ∀ i, (s_X_claimIfDue z bo g q pp dd j p day).2.2.2.1 i 0 = g i 0 := by
  unfold s_X_claimIfDue
  repeat' split
  all_goals refine ⟨rfl, ?_, ?_, fun i => ?_⟩
  all_goals first | exact Nat.le_refl _ | exact Nat.le_succ _ | exact fun h => h | exact fun h => nz_le h | rfl | (refine va_up_f (g := g) (j := j) (f := 0) ?_ i; rfl)
theorem px_p {x : Int32} (h : 0 ≤ x ∧ x ≤ 9) : x.toNatClampNeg < 10 ∧ x = nI x.toNatClampNeg := by
  obtain ⟨k, hk, rfl⟩ := nI_of (x := x) (Int32.not_lt.mpr h.1)
  have h2 := h.2
  rw [Int32.le_iff_toInt_le, nI_toInt hk, T9] at h2
  rw [nI_clamp hk]
  exact ⟨by omega, rfl⟩
def lp_xclaim (day : Int32) : Nat → (Nat → Nat) → (Nat → Nat) → (Nat → Nat → Int32) → (Nat → Nat → Int32) → (Nat → Nat → Int32) → (Nat → Nat → Int32) → Nat → XS
  | 0, z, bo, g, q, pp, dd, i => (nI (z 1), z, bo, g, q, pp, dd)
  | k + 1, z, bo, g, q, pp, dd, i => (lp_xclaim day k ((s_X_claimIfDue z bo g q pp dd i (g i 0).toNatClampNeg day).2.1) ((s_X_claimIfDue z bo g q pp dd i (g i 0).toNatClampNeg day).2.2.1) ((s_X_claimIfDue z bo g q pp dd i (g i 0).toNatClampNeg day).2.2.2.1) ((s_X_claimIfDue z bo g q pp dd i (g i 0).toNatClampNeg day).2.2.2.2.1) ((s_X_claimIfDue z bo g q pp dd i (g i 0).toNatClampNeg day).2.2.2.2.2.1) ((s_X_claimIfDue z bo g q pp dd i (g i 0).toNatClampNeg day).2.2.2.2.2.2) (i + 1))
set_option maxHeartbeats 4000000 in
set_option maxRecDepth 100000 in
theorem l_X_claim {p_ : Program} {l : Launch} {e_ : Env} {s : State} {m : MethodId} {below_ : List Frame} {meth_ : Method} {c_ : Code} {D : va_G} {cs : Nat → ClassId} {bk : Nat → Nat} {sz : Nat} (n : Nat) (hn : n ≤ 200) (day : Int32) (R : XS) (hx : p_.tables.exec = Jvm.exec) (hb : c_.code = b_X_claim) (hr : meth_.sig.returnType = (some .int)) (hml : c_.maxLocals = 3) (hw : ∀ w ∈ WA, w.before ([.ref (bk (0)), .int (day)] : List Value).toArray s = true) (hown : s.vm.findClass "IssueRows" = some m.cls) (hlocks : meth_.locks = false) (hA : ∀ q, s.heap.size ≤ q → AA (27 + 4 * n) bk sz q) (hN : NN s) (hK : va_K D classes (TY cs) s) : ∀ (k : Nat) (z : Nat → Nat) (bo : Nat → Nat) (g : Nat → Nat → Int32) (q : Nat → Nat → Int32) (pp : Nat → Nat → Int32) (dd : Nat → Nat → Int32) (i : Nat), (i + k = n) → (z 0 = n) → (z 1 ≤ i) → (z 2 ≤ 100) → (∀ j, j < n → 0 ≤ g j 0 ∧ g j 0 ≤ 9) → (R = lp_xclaim day k z bo g q pp dd i) → ∀ (H : Heap) (locs : List Loc) (ls : Array Slot), va_P D classes (wl (27 + 4 * n) bk (CW cs z bo g q pp dd bk)) H → va_D (AA (27 + 4 * n) bk sz) (wl (27 + 4 * n) bk (CW cs z bo g q pp dd bk)) → va_S (AA (27 + 4 * n) bk sz) s.heap H locs → lv_has ls 3 [(0, .ref (bk (0))), (1, .int (day)), (2, .int (nI i))] → W p_ l e_ ({ frames := 2, cells := 0, slots := 0, locals := 45 }) s m ([.ref (bk (0)), .int (day)] : List Value).toArray below_ meth_ c_ H locs 0 0 (MQ below_ (va_Qi (Xr cs bk R) (Wd D classes (TY cs) (AA (27 + 4 * n) bk sz)) (AA (27 + 4 * n) bk sz)) ([.ref (bk (0)), .int (day)] : List Value).toArray s 0 0 (AA (27 + 4 * n) bk sz)) (F0 m 19 ls []) := by
  intro k
  induction k with
  | zero =>
    intro z bo g q pp dd i hf hzn hz1 hz2 hpa hR H locs ls hP hD hS hl
    refine lv_iload_n hx hb d_X_claim_19 rfl (lv_at hl 2 rfl) ?_
    refine lv_aload_n hx hb d_X_claim_20 rfl (lv_at hl 0 rfl) ?_
    refine pw_get (ci := 0) (v := .int (nI (z 0))) hx hb hw i_X hown hK hP (0) (by omega) rfl rfl 3 (by decide) (hw _ kF_X_24) rfl d_X_claim_21 ?_
    refine lv_icmp_ge (tgt := 44) hx hb d_X_claim_24 (by decide) (fun c_1 => ?_) (fun c_1 => ?_)
    · have c_1 : (nI (z 0)) ≤ (nI i) := c_1
      refine lv_aload_n hx hb d_X_claim_44 rfl (lv_at hl 0 rfl) ?_
      refine pw_get (ci := 0) (v := .ref (bk (4))) hx hb hw i_X hown hK hP (0) (by omega) rfl rfl 4 (by decide) (hw _ kF_X_33) rfl d_X_claim_45 ?_
      refine pw_get (ci := 4) (v := .int (nI (z 1))) hx hb hw i_P hown hK hP (4) (by omega) rfl rfl 2 (by decide) (hw _ kF_X_117) rfl d_X_claim_48 ?_
      exact W.iret (v := nI (z 1)) hx hb hr (fun t ht hW => ⟨⟨nI (z 1), ((27 + 4 * n), bk, CW cs z bo g q pp dd bk), rfl, Xr_of (by rw [hR, lp_xclaim]) (congrArg (fun t => 27 + 4 * t) hzn.symm), by rw [ht]; exact hP, va_K.moved hW.alike hK, hD⟩, hS.F ht⟩) hS.2.2 d_X_claim_51
    · have c_1 : ¬ (nI (z 0)) ≤ (nI i) := c_1
      exact absurd ((nI_leI (by omega) (by omega)).mpr (by omega)) c_1
  | succ k ih =>
    intro z bo g q pp dd i hf hzn hz1 hz2 hpa hR H locs ls hP hD hS hl
    refine lv_iload_n hx hb d_X_claim_19 rfl (lv_at hl 2 rfl) ?_
    refine lv_aload_n hx hb d_X_claim_20 rfl (lv_at hl 0 rfl) ?_
    refine pw_get (ci := 0) (v := .int (nI (z 0))) hx hb hw i_X hown hK hP (0) (by omega) rfl rfl 3 (by decide) (hw _ kF_X_24) rfl d_X_claim_21 ?_
    refine lv_icmp_ge (tgt := 44) hx hb d_X_claim_24 (by decide) (fun c_101 => ?_) (fun c_101 => ?_)
    · have c_101 : (nI (z 0)) ≤ (nI i) := c_101
      exact absurd ((nI_leI (by omega) (by omega)).mp c_101) (by omega)
    · have c_101 : ¬ (nI (z 0)) ≤ (nI i) := c_101
      refine lv_aload_n hx hb d_X_claim_27 rfl (lv_at hl 0 rfl) ?_
      refine lv_aload_n hx hb d_X_claim_28 rfl (lv_at hl 0 rfl) ?_
      refine pw_get (ci := 0) (v := .ref (bk (2))) hx hb hw i_X hown hK hP (0) (by omega) rfl rfl 1 (by decide) (hw _ kF_X_17) rfl d_X_claim_29 ?_
      refine lv_iload_n hx hb d_X_claim_32 rfl (lv_at hl 2 rfl) ?_
      refine pw_aldq hx hb hK hP 3 (2) (by omega) rfl rfl (i) rfl (by omega) (by decide) (r := bk (27 + 4 * i)) (if_pos (by omega)) d_X_claim_33 ?_
      refine lv_iload_n hx hb d_X_claim_34 rfl (lv_at hl 1 rfl) ?_
      refine pw_callv (va_runV (As := [.ref (bk (27 + 4 * i)), .int (day)]) (rest := []) ⟨hx, hb, hml, hown, hw⟩ (hzn ▸ c_X_claimIfDue l D cs bk H.size z bo g q pp dd (by omega) hz2 i (by omega) (g i 0).toNatClampNeg (px_p (hpa i (by omega))).1 (px_p (hpa i (by omega))).2 day) (cw_V 2 hw kM_X_113 kI_X_claimIfDue kV_X_claimIfDue kZ_X kC_X_claimIfDue rfl rfl ⟨rfl, by decide, by decide, by decide +kernel⟩ ⟨Nat.le_of_ble_eq_true rfl, Nat.le_of_ble_eq_true rfl⟩) (pw_preV hN hK hP hD (0) (by omega) rfl rfl) rfl rfl hl.1 rfl (lv_room (Nat.le_of_ble_eq_true rfl)) d_X_claim_35 ⟨Nat.le_of_ble_eq_true rfl, Nat.le_of_ble_eq_true rfl⟩) hS (wl_free hD hS hA) (fun N1 bk1 cw1 H locs hu hP hD hS => ?_)
      obtain ⟨q1, q2, q3, q4⟩ := cid_inv (z := z) (bo := bo) (g := g) (q := q) (pp := pp) (dd := dd) (j := i) (p := (g i 0).toNatClampNeg) (day := day)
      have hu : ((N1, bk1, cw1) : Wt) = (27 + 4 * n, bk, CW cs ((s_X_claimIfDue z bo g q pp dd i (g i 0).toNatClampNeg day).2.1) ((s_X_claimIfDue z bo g q pp dd i (g i 0).toNatClampNeg day).2.2.1) ((s_X_claimIfDue z bo g q pp dd i (g i 0).toNatClampNeg day).2.2.2.1) ((s_X_claimIfDue z bo g q pp dd i (g i 0).toNatClampNeg day).2.2.2.2.1) ((s_X_claimIfDue z bo g q pp dd i (g i 0).toNatClampNeg day).2.2.2.2.2.1) ((s_X_claimIfDue z bo g q pp dd i (g i 0).toNatClampNeg day).2.2.2.2.2.2) bk) := by rw [show (27 + 4 * n) = 27 + 4 * (s_X_claimIfDue z bo g q pp dd i (g i 0).toNatClampNeg day).2.1 0 by rw [q1, hzn]]; exact hu
      have hP := wl_eqP hu hP
      have hD := wl_eqD hu hD
      refine lv_iinc (v := nI (i + 1)) (lv' := [(2, .int (nI (i + 1))), (0, .ref (bk (0))), (1, .int (day))]) hx hb d_X_claim_38 hl (k := 2) rfl (nI_1 _) (by decide) rfl (fun ls hl => ?_)
      refine lv_goto (tgt := 19) hx hb d_X_claim_41 (by decide) ?_
      exact ih ((s_X_claimIfDue z bo g q pp dd i (g i 0).toNatClampNeg day).2.1) ((s_X_claimIfDue z bo g q pp dd i (g i 0).toNatClampNeg day).2.2.1) ((s_X_claimIfDue z bo g q pp dd i (g i 0).toNatClampNeg day).2.2.2.1) ((s_X_claimIfDue z bo g q pp dd i (g i 0).toNatClampNeg day).2.2.2.2.1) ((s_X_claimIfDue z bo g q pp dd i (g i 0).toNatClampNeg day).2.2.2.2.2.1) ((s_X_claimIfDue z bo g q pp dd i (g i 0).toNatClampNeg day).2.2.2.2.2.2) (i + 1) (by omega) (by rw [q1]; exact hzn) (by omega) (q3 hz2) (fun j hj => by rw [q4]; exact hpa j hj) (by rw [hR, lp_xclaim]) _ _ _ hP hD hS (lv_sub hl [1, 2, 0] rfl)
def s_X_claim (z bo : Nat → Nat) (g q pp dd : Nat → Nat → Int32) (day : Int32) : XS := (if 0 ≤ day ∧ day ≤ 1000000 then (lp_xclaim day (z 0) (va_up z 1 0) bo g q pp dd 0) else (-2, z, bo, g, q, pp, dd))
set_option maxHeartbeats 4000000 in
set_option maxRecDepth 100000 in
theorem c_X_claim (l : Launch) (D : va_G) (cs : Nat → ClassId) (bk : Nat → Nat) (sz : Nat) (z bo : Nat → Nat) (g q pp dd : Nat → Nat → Int32) (hz0 : z 0 ≤ 200) (hz2 : z 2 ≤ 100) (hpa : ∀ j, j < z 0 → 0 ≤ g j 0 ∧ g j 0 ≤ 9) (day : Int32) : Met l y_X_claim w_X_claim ({ frames := 2, cells := 0, slots := 0, locals := 45 }) (va_Pc [.ref (bk (0)), .int (day)] (PB D classes (TY cs) (27 + 4 * z 0) bk (CW cs z bo g q pp dd bk) sz)) (va_Qi (Xr cs bk (s_X_claim z bo g q pp dd day)) (Wd D classes (TY cs) (AA (27 + 4 * z 0) bk sz)) (AA (27 + 4 * z 0) bk sz)) 0 0 (AA (27 + 4 * z 0) bk sz) := by
  refine pw_entry (cc := b_X_claim) (maxL := 3) (ret := (some .int)) (by decide +kernel) rfl (Nat.le_of_ble_eq_true rfl) ?_
  intro p_ e_ s m below_ meth_ c_ ls hx hb hr hml hts hown hlocks hin hsz hP hK hD hS hA hN hl
  have hw : ∀ w ∈ WA, w.before _ s = true := fun w h => hts w (List.mem_cons_of_mem _ h)
  have hown : s.vm.findClass "IssueRows" = some m.cls := hown
  have hl : lv_has ls 3 [(0, .ref (bk (0))), (1, .int (day))] := hl
  refine lv_iload_n hx hb d_X_claim_0 rfl (lv_at hl 1 rfl) ?_
  refine pw_callSi (va_runS (As := [.int (day)]) (rest := []) ⟨hx, hb, hml, hown, hw⟩ (c_X_isDay l D cs (27 + 4 * z 0) bk (CW cs z bo g q pp dd bk) s.heap.size day) (cw_S 1 hw kM_X_72 kS_X_isDay kZ_X kC_X_isDay rfl rfl ⟨rfl, by decide, by decide, by decide +kernel⟩ ⟨Nat.le_of_ble_eq_true rfl, Nat.le_of_ble_eq_true rfl⟩) (pw_preS hN hK hP hD) rfl rfl hl.1 rfl (lv_room (Nat.le_of_ble_eq_true rfl)) d_X_claim_1 ⟨Nat.le_of_ble_eq_true rfl, Nat.le_of_ble_eq_true rfl⟩) (fun r_1 hr_1 => ?_)
  have hr_1 : r_1 = bI (0 ≤ day ∧ day ≤ 1000000) := hr_1
  subst hr_1
  refine pw_ifne (tgt := 10) hx hb d_X_claim_4 (by decide) (fun c_2 => ?_) (fun c_2 => ?_)
  · have c_2 : 0 ≤ day ∧ day ≤ 1000000 := c_2
    refine lv_aload_n hx hb d_X_claim_10 rfl (lv_at hl 0 rfl) ?_
    refine pw_get (ci := 0) (v := .ref (bk (4))) hx hb hw i_X hown hK hP (0) (by omega) rfl rfl 4 (by decide) (hw _ kF_X_33) rfl d_X_claim_11 ?_
    refine pw_callv (va_runV (As := []) (rest := []) ⟨hx, hb, hml, hown, hw⟩ (c_P_clear l D cs (27 + 4 * z 0) bk (CW cs z bo g q pp dd bk) s.heap.size 4 5 6 (by omega) (nI (z 1)) rfl) (cw_V 0 hw kM_X_110 kI_P_clear kV_P_clear kZ_P kC_P_clear rfl rfl ⟨rfl, by decide, by decide, by decide +kernel⟩ ⟨Nat.le_of_ble_eq_true rfl, Nat.le_of_ble_eq_true rfl⟩) (pw_preV hN hK hP hD (4) (by omega) rfl rfl) rfl rfl hl.1 rfl (lv_room (Nat.le_of_ble_eq_true rfl)) d_X_claim_14 ⟨Nat.le_of_ble_eq_true rfl, Nat.le_of_ble_eq_true rfl⟩) hS (wl_free hD hS hA) (fun N1 bk1 cw1 H locs hu hP hD hS => ?_)
    have hP : va_P D classes (wl (27 + 4 * z 0) bk (CW cs (va_up z 1 0) bo g q pp dd bk)) H := wl_eqP2 hu (CW_set4 0) hP
    have hD : va_D (AA (27 + 4 * z 0) bk sz) (wl (27 + 4 * z 0) bk (CW cs (va_up z 1 0) bo g q pp dd bk)) := wl_eqD2 hu (CW_set4 0) hD
    refine lv_iconst (v := 0) hx hb d_X_claim_17 (by decide) ?_
    refine lv_istore_n (lv' := [(2, .int (0)), (0, .ref (bk (0))), (1, .int (day))]) hx hb d_X_claim_18 rfl hl (by decide) rfl (fun ls hl => ?_)
    exact l_X_claim (z 0) hz0 day _ hx hb hr hml hw hown hlocks hA hN hK (z 0) (va_up z 1 0) bo g q pp dd 0 (by omega) rfl (Nat.le_refl _) hz2 hpa (by rw [s_X_claim, if_pos c_2]) _ _ _ hP hD hS (lv_sub hl [1, 2, 0] rfl)
  · have c_2 : ¬ (0 ≤ day ∧ day ≤ 1000000) := c_2
    refine lv_bipush (v := -2) hx hb d_X_claim_7 (by decide) ?_
    exact W.iret (v := -2) hx hb hr (fun t ht hW => ⟨⟨-2, (27 + 4 * z 0, bk, CW cs z bo g q pp dd bk), rfl, Xr_of (by rw [s_X_claim, if_neg c_2]) rfl, by rw [ht]; exact hP, va_K.moved hW.alike hK, hD⟩, hS.F ht⟩) hS.2.2 d_X_claim_9

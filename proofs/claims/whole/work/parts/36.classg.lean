theorem st_uu {f : Nat → Int32} {k : Nat} : upd (upd f k 0) k (0 + 1) = upd f k 1 := by
  funext j
  by_cases h : j = k
  · subst h; rw [pk_us, pk_us]; rfl
  · rw [pk_un h, pk_un h, pk_un h]
theorem st_vv {q : Nat → Nat → Int32} {a b c d : Nat → Int32} : va_up (va_up (va_up (va_up q 9 a) 11 b) 10 c) 11 d = va_up (va_up (va_up q 9 a) 11 d) 10 c := by
  funext j
  by_cases h11 : j = 11
  · subst h11; rfl
  · rw [va_up_ne _ _ h11]
    by_cases h10 : j = 10
    · subst h10; rfl
    · rw [va_up_ne _ _ h10, va_up_ne _ _ h11, va_up_ne _ _ h10, va_up_ne _ _ h11]
def lp_stat (pt : Int32) : Nat → (Nat → Nat) → (Nat → Nat) → (Nat → Nat → Int32) → (Nat → Nat → Int32) → (Nat → Nat → Int32) → (Nat → Nat → Int32) → Nat → Int32 → XS
  | 0, z, bo, g, q, pp, dd, i, it => (nI (z 4), z, bo, g, q, pp, dd)
  | k + 1, z, bo, g, q, pp, dd, i, it => (if ((g (bo i)) 0) = pt then (if ((g (bo i)) 4) = 6 then (lp_stat pt k z bo g q pp dd (i + 1) it) else (if ((g (bo i)) 4) = 3 ∨ ((g (bo i)) 4) = 5 then (if it = 0 then (lp_stat pt k z bo g (va_up (va_up q 10 (upd (q 10) (z 4 - 1) ((g (bo i)) 1))) 11 (upd (q 11) (z 4 - 1) (q 11 (z 4 - 1) + 1))) pp dd (i + 1) 0) else (lp_stat pt k (va_up z 4 (z 4 + 1)) bo g (va_up (va_up (va_up q 9 (upd (q 9) (z 4) ((g (bo i)) 1))) 11 (upd (q 11) (z 4) 1)) 10 (upd (q 10) (z 4) ((g (bo i)) 1))) pp dd (i + 1) 0)) else (lp_stat pt k z bo g q pp dd (i + 1) 1))) else (lp_stat pt k z bo g q pp dd (i + 1) it))
set_option maxHeartbeats 4000000 in
set_option maxRecDepth 100000 in
theorem l_X_statement {p_ : Program} {l : Launch} {e_ : Env} {s : State} {m : MethodId} {below_ : List Frame} {meth_ : Method} {c_ : Code} {D : va_G} {cs : Nat → ClassId} {bk : Nat → Nat} {sz : Nat} (n : Nat) (hn : n ≤ 200) (pt : Int32) (R : XS) (hx : p_.tables.exec = Jvm.exec) (hb : c_.code = b_X_statement) (hr : meth_.sig.returnType = (some .int)) (hml : c_.maxLocals = 5) (hw : ∀ w ∈ WA, w.before ([.ref (bk (0)), .int (pt)] : List Value).toArray s = true) (hown : s.vm.findClass "IssueRows" = some m.cls) (hlocks : meth_.locks = false) (hA : ∀ q, s.heap.size ≤ q → AA (27 + 4 * n) bk sz q) (hN : NN s) (hK : va_K D classes (TY cs) s) : ∀ (k : Nat) (z : Nat → Nat) (bo : Nat → Nat) (g : Nat → Nat → Int32) (q : Nat → Nat → Int32) (pp : Nat → Nat → Int32) (dd : Nat → Nat → Int32) (i : Nat) (it : Int32), (i + k = n) → (z 0 = n) → (∀ t, t < n → bo t < n) → (z 4 ≤ i) → (it = 0 → 0 < z 4) → (R = lp_stat pt k z bo g q pp dd i it) → ∀ (H : Heap) (locs : List Loc) (ls : Array Slot), va_P D classes (wl (27 + 4 * n) bk (CW cs z bo g q pp dd bk)) H → va_D (AA (27 + 4 * n) bk sz) (wl (27 + 4 * n) bk (CW cs z bo g q pp dd bk)) → va_S (AA (27 + 4 * n) bk sz) s.heap H locs → lv_has ls 5 [(0, .ref (bk (0))), (1, .int (pt)), (2, .int (it)), (3, .int (nI i))] → W p_ l e_ ({ frames := 2, cells := 0, slots := 0, locals := 42 }) s m ([.ref (bk (0)), .int (pt)] : List Value).toArray below_ meth_ c_ H locs 0 0 (MQ below_ (va_Qi (Xr cs bk R) (Wd D classes (TY cs) (AA (27 + 4 * n) bk sz)) (AA (27 + 4 * n) bk sz)) ([.ref (bk (0)), .int (pt)] : List Value).toArray s 0 0 (AA (27 + 4 * n) bk sz)) (F0 m 20 ls []) := by
  intro k
  induction k with
  | zero =>
    intro z bo g q pp dd i it hf hzn hbo hz4 hit hR H locs ls hP hD hS hl
    refine lv_iload_n hx hb d_X_statement_20 rfl (lv_at hl 3 rfl) ?_
    refine lv_aload_n hx hb d_X_statement_21 rfl (lv_at hl 0 rfl) ?_
    refine pw_get (ci := 0) (v := .int (nI (z 0))) hx hb hw i_X hown hK hP (0) (by omega) rfl rfl 3 (by decide) (hw _ kF_X_24) rfl d_X_statement_22 ?_
    refine lv_icmp_ge (tgt := 99) hx hb d_X_statement_25 (by decide) (fun c_1 => ?_) (fun c_1 => ?_)
    · have c_1 : (nI (z 0)) ≤ (nI i) := c_1
      refine lv_aload_n hx hb d_X_statement_99 rfl (lv_at hl 0 rfl) ?_
      refine pw_get (ci := 0) (v := .ref (bk (13))) hx hb hw i_X hown hK hP (0) (by omega) rfl rfl 7 (by decide) (hw _ kF_X_50) rfl d_X_statement_100 ?_
      refine pw_get (ci := 6) (v := .int (nI (z 4))) hx hb hw i_S hown hK hP (13) (by omega) rfl rfl 3 (by decide) (hw _ kF_X_196) rfl d_X_statement_103 ?_
      exact W.iret (v := nI (z 4)) hx hb hr (fun t ht hW => ⟨⟨nI (z 4), ((27 + 4 * n), bk, CW cs z bo g q pp dd bk), rfl, Xr_of (by rw [hR, lp_stat]) (congrArg (fun t => 27 + 4 * t) hzn.symm), by rw [ht]; exact hP, va_K.moved hW.alike hK, hD⟩, hS.F ht⟩) hS.2.2 d_X_statement_106
    · have c_1 : ¬ (nI (z 0)) ≤ (nI i) := c_1
      exact absurd ((nI_leI (by omega) (by omega)).mpr (by omega)) c_1
  | succ k ih =>
    intro z bo g q pp dd i it hf hzn hbo hz4 hit hR H locs ls hP hD hS hl
    have hbi := hbo i (by omega)
    refine lv_iload_n hx hb d_X_statement_20 rfl (lv_at hl 3 rfl) ?_
    refine lv_aload_n hx hb d_X_statement_21 rfl (lv_at hl 0 rfl) ?_
    refine pw_get (ci := 0) (v := .int (nI (z 0))) hx hb hw i_X hown hK hP (0) (by omega) rfl rfl 3 (by decide) (hw _ kF_X_24) rfl d_X_statement_22 ?_
    refine lv_icmp_ge (tgt := 99) hx hb d_X_statement_25 (by decide) (fun c_101 => ?_) (fun c_101 => ?_)
    · have c_101 : (nI (z 0)) ≤ (nI i) := c_101
      exact absurd ((nI_leI (by omega) (by omega)).mp c_101) (by omega)
    · have c_101 : ¬ (nI (z 0)) ≤ (nI i) := c_101
      refine lv_aload_n hx hb d_X_statement_28 rfl (lv_at hl 0 rfl) ?_
      refine pw_get (ci := 0) (v := .ref (bk (3))) hx hb hw i_X hown hK hP (0) (by omega) rfl rfl 2 (by decide) (hw _ kF_X_21) rfl d_X_statement_29 ?_
      refine lv_iload_n hx hb d_X_statement_32 rfl (lv_at hl 3 rfl) ?_
      refine pw_aldq hx hb hK hP 3 (3) (by omega) rfl rfl (i) rfl (by omega) (by decide) (r := bk (27 + 4 * (bo i))) (if_pos (by omega)) d_X_statement_33 ?_
      refine lv_astore (lv' := [(4, .ref (bk (27 + 4 * (bo i)))), (0, .ref (bk (0))), (1, .int (pt)), (2, .int (it)), (3, .int (nI i))]) hx hb d_X_statement_34 hl (by decide) rfl (fun ls hl => ?_)
      refine lv_aload hx hb d_X_statement_36 (lv_at hl 0 rfl) ?_
      refine pw_get (ci := 2) (v := .int ((g (bo i)) 0)) hx hb hw i_I hown hK hP (27 + 4 * (bo i)) (by omega) (CW_iss (bo i)) rfl 1 (by decide) (hw _ kF_X_167) rfl d_X_statement_38 ?_
      refine lv_iload_n hx hb d_X_statement_41 rfl (lv_at hl 2 rfl) ?_
      refine lv_icmp_ne (tgt := 93) hx hb d_X_statement_42 (by decide) (fun c_102 => ?_) (fun c_102 => ?_)
      · have c_102 : ¬ ((g (bo i)) 0) = pt := c_102
        refine lv_iinc (v := nI (i + 1)) (lv' := [(3, .int (nI (i + 1))), (4, .ref (bk (27 + 4 * (bo i)))), (0, .ref (bk (0))), (1, .int (pt)), (2, .int (it))]) hx hb d_X_statement_93 hl (k := 4) rfl (nI_1 _) (by decide) rfl (fun ls hl => ?_)
        refine lv_goto (tgt := 20) hx hb d_X_statement_96 (by decide) ?_
        exact ih z bo g q pp dd (i + 1) it (by omega) hzn hbo (by omega) hit (by rw [hR, lp_stat, if_neg c_102]) _ _ _ hP hD hS (lv_sub hl [2, 3, 4, 0] rfl)
      · have c_102 : ((g (bo i)) 0) = pt := c_102
        refine lv_aload hx hb d_X_statement_45 (lv_at hl 0 rfl) ?_
        refine pw_get (ci := 2) (v := .int ((g (bo i)) 4)) hx hb hw i_I hown hK hP (27 + 4 * (bo i)) (by omega) (CW_iss (bo i)) rfl 6 (by decide) (hw _ kF_X_97) rfl d_X_statement_47 ?_
        refine lv_bipush (v := 6) hx hb d_X_statement_50 (by decide) ?_
        refine lv_icmp_ne (tgt := 58) hx hb d_X_statement_52 (by decide) (fun c_103 => ?_) (fun c_103 => ?_)
        · have c_103 : ¬ ((g (bo i)) 4) = 6 := c_103
          refine lv_aload hx hb d_X_statement_58 (lv_at hl 0 rfl) ?_
          refine pw_callSi (va_runV (As := []) (rest := []) ⟨hx, hb, hml, hown, hw⟩ (c_I_isThere l D cs (27 + 4 * n) bk (CW cs z bo g q pp dd bk) H.size (27 + 4 * (bo i)) (28 + 4 * (bo i)) (by omega) (nI (bo i)) ((g (bo i)) 0) ((g (bo i)) 1) ((g (bo i)) 2) ((g (bo i)) 3) ((g (bo i)) 4) ((g (bo i)) 5) ((g (bo i)) 6) ((g (bo i)) 7) ((g (bo i)) 8) ((g (bo i)) 9) ((g (bo i)) 10) ((g (bo i)) 11) (CW_iss (bo i))) (cw_V 0 hw kM_X_190 kI_I_isThere kV_I_isThere kZ_I kC_I_isThere rfl rfl ⟨rfl, by decide, by decide, by decide +kernel⟩ ⟨Nat.le_of_ble_eq_true rfl, Nat.le_of_ble_eq_true rfl⟩) (pw_preV hN hK hP hD (27 + 4 * (bo i)) (by omega) (CW_iss (bo i)) rfl) rfl rfl hl.1 rfl (lv_room (Nat.le_of_ble_eq_true rfl)) d_X_statement_60 ⟨Nat.le_of_ble_eq_true rfl, Nat.le_of_ble_eq_true rfl⟩) (fun r_104 hr_104 => ?_)
          have hr_104 : r_104 = bI (((g (bo i)) 4) = 3 ∨ ((g (bo i)) 4) = 5) := hr_104
          subst hr_104
          refine pw_ifeq (tgt := 79) hx hb d_X_statement_63 (by decide) (fun c_105 => ?_) (fun c_105 => ?_)
          · have c_105 : ¬ (((g (bo i)) 4) = 3 ∨ ((g (bo i)) 4) = 5) := c_105
            refine lv_aload hx hb d_X_statement_79 (lv_at hl 0 rfl) ?_
            refine pw_callSi (va_runV (As := []) (rest := []) ⟨hx, hb, hml, hown, hw⟩ (c_I_isThere l D cs (27 + 4 * n) bk (CW cs z bo g q pp dd bk) H.size (27 + 4 * (bo i)) (28 + 4 * (bo i)) (by omega) (nI (bo i)) ((g (bo i)) 0) ((g (bo i)) 1) ((g (bo i)) 2) ((g (bo i)) 3) ((g (bo i)) 4) ((g (bo i)) 5) ((g (bo i)) 6) ((g (bo i)) 7) ((g (bo i)) 8) ((g (bo i)) 9) ((g (bo i)) 10) ((g (bo i)) 11) (CW_iss (bo i))) (cw_V 0 hw kM_X_190 kI_I_isThere kV_I_isThere kZ_I kC_I_isThere rfl rfl ⟨rfl, by decide, by decide, by decide +kernel⟩ ⟨Nat.le_of_ble_eq_true rfl, Nat.le_of_ble_eq_true rfl⟩) (pw_preV hN hK hP hD (27 + 4 * (bo i)) (by omega) (CW_iss (bo i)) rfl) rfl rfl hl.1 rfl (lv_room (Nat.le_of_ble_eq_true rfl)) d_X_statement_81 ⟨Nat.le_of_ble_eq_true rfl, Nat.le_of_ble_eq_true rfl⟩) (fun r_106 hr_106 => ?_)
            have hr_106 : r_106 = bI (((g (bo i)) 4) = 3 ∨ ((g (bo i)) 4) = 5) := hr_106
            subst hr_106
            refine pw_ifne (tgt := 91) hx hb d_X_statement_84 (by decide) (fun c_107 => ?_) (fun c_107 => ?_)
            · have c_107 : ((g (bo i)) 4) = 3 ∨ ((g (bo i)) 4) = 5 := c_107
              exact absurd c_107 c_105
            · have c_107 : ¬ (((g (bo i)) 4) = 3 ∨ ((g (bo i)) 4) = 5) := c_107
              refine lv_iconst (v := 1) hx hb d_X_statement_87 (by decide) ?_
              refine lv_goto (tgt := 92) hx hb d_X_statement_88 (by decide) ?_
              refine lv_istore_n (lv' := [(2, .int (1)), (4, .ref (bk (27 + 4 * (bo i)))), (0, .ref (bk (0))), (1, .int (pt)), (3, .int (nI i))]) hx hb d_X_statement_92 rfl hl (by decide) rfl (fun ls hl => ?_)
              refine lv_iinc (v := nI (i + 1)) (lv' := [(3, .int (nI (i + 1))), (2, .int (1)), (4, .ref (bk (27 + 4 * (bo i)))), (0, .ref (bk (0))), (1, .int (pt))]) hx hb d_X_statement_93 hl (k := 4) rfl (nI_1 _) (by decide) rfl (fun ls hl => ?_)
              refine lv_goto (tgt := 20) hx hb d_X_statement_96 (by decide) ?_
              exact ih z bo g q pp dd (i + 1) 1 (by omega) hzn hbo (by omega) (fun h => absurd h (by decide)) (by rw [hR, lp_stat, if_pos c_102, if_neg c_103, if_neg c_105]) _ _ _ hP hD hS (lv_sub hl [3, 4, 1, 0] rfl)
          · have c_105 : ((g (bo i)) 4) = 3 ∨ ((g (bo i)) 4) = 5 := c_105
            refine lv_aload_n hx hb d_X_statement_66 rfl (lv_at hl 1 rfl) ?_
            refine pw_get (ci := 0) (v := .ref (bk (13))) hx hb hw i_X hown hK hP (0) (by omega) rfl rfl 7 (by decide) (hw _ kF_X_50) rfl d_X_statement_67 ?_
            refine lv_aload hx hb d_X_statement_70 (lv_at hl 0 rfl) ?_
            refine pw_get (ci := 2) (v := .int ((g (bo i)) 1)) hx hb hw i_I hown hK hP (27 + 4 * (bo i)) (by omega) (CW_iss (bo i)) rfl 2 (by decide) (hw _ kF_X_170) rfl d_X_statement_72 ?_
            refine lv_iload_n hx hb d_X_statement_75 rfl (lv_at hl 3 rfl) ?_
            by_cases c_108 : it = 0
            · skip
              have hp4 := hit c_108
              refine pw_callv (va_runV (As := [.int ((g (bo i)) 1), .int (it)]) (rest := []) ⟨hx, hb, hml, hown, hw⟩ (c_S_add0 l D cs (27 + 4 * n) bk (CW cs z bo g q pp dd bk) H.size 13 14 15 16 (by omega) (z 4 - 1) (by rw [Nat.sub_add_cancel hp4]; rfl) (by omega) (q 9) (q 10) (q 11) (by omega) rfl (by omega) rfl (by omega) rfl (by decide) (by decide) (by decide) (by decide) (by decide) (by decide) ((g (bo i)) 1) it c_108) (cw_V 2 hw kM_X_193 kI_S_add kV_S_add kZ_S kC_S_add rfl rfl ⟨rfl, by decide, by decide, by decide +kernel⟩ ⟨Nat.le_of_ble_eq_true rfl, Nat.le_of_ble_eq_true rfl⟩) (pw_preV hN hK hP hD (13) (by omega) rfl rfl) rfl rfl hl.1 rfl (lv_room (Nat.le_of_ble_eq_true rfl)) d_X_statement_76 ⟨Nat.le_of_ble_eq_true rfl, Nat.le_of_ble_eq_true rfl⟩) hS (wl_free hD hS hA) (fun N1 bk1 cw1 H locs hu hP hD hS => ?_)
              have hP : va_P D classes (wl (27 + 4 * n) bk (CW cs z bo g (va_up (va_up q 10 (upd (q 10) (z 4 - 1) ((g (bo i)) 1))) 11 (upd (q 11) (z 4 - 1) (q 11 (z 4 - 1) + 1))) pp dd bk)) H := wl_eqP2 hu (by rw [CW_set15, CW_set16]) hP
              have hD : va_D (AA (27 + 4 * n) bk sz) (wl (27 + 4 * n) bk (CW cs z bo g (va_up (va_up q 10 (upd (q 10) (z 4 - 1) ((g (bo i)) 1))) 11 (upd (q 11) (z 4 - 1) (q 11 (z 4 - 1) + 1))) pp dd bk)) := wl_eqD2 hu (by rw [CW_set15, CW_set16]) hD
              refine lv_aload hx hb d_X_statement_79 (lv_at hl 0 rfl) ?_
              refine pw_callSi (va_runV (As := []) (rest := []) ⟨hx, hb, hml, hown, hw⟩ (c_I_isThere l D cs (27 + 4 * n) bk (CW cs z bo g (va_up (va_up q 10 (upd (q 10) (z 4 - 1) ((g (bo i)) 1))) 11 (upd (q 11) (z 4 - 1) (q 11 (z 4 - 1) + 1))) pp dd bk) H.size (27 + 4 * (bo i)) (28 + 4 * (bo i)) (by omega) (nI (bo i)) ((g (bo i)) 0) ((g (bo i)) 1) ((g (bo i)) 2) ((g (bo i)) 3) ((g (bo i)) 4) ((g (bo i)) 5) ((g (bo i)) 6) ((g (bo i)) 7) ((g (bo i)) 8) ((g (bo i)) 9) ((g (bo i)) 10) ((g (bo i)) 11) (CW_iss (bo i))) (cw_V 0 hw kM_X_190 kI_I_isThere kV_I_isThere kZ_I kC_I_isThere rfl rfl ⟨rfl, by decide, by decide, by decide +kernel⟩ ⟨Nat.le_of_ble_eq_true rfl, Nat.le_of_ble_eq_true rfl⟩) (pw_preV hN hK hP hD (27 + 4 * (bo i)) (by omega) (CW_iss (bo i)) rfl) rfl rfl hl.1 rfl (lv_room (Nat.le_of_ble_eq_true rfl)) d_X_statement_81 ⟨Nat.le_of_ble_eq_true rfl, Nat.le_of_ble_eq_true rfl⟩) (fun r_109 hr_109 => ?_)
              have hr_109 : r_109 = bI (((g (bo i)) 4) = 3 ∨ ((g (bo i)) 4) = 5) := hr_109
              subst hr_109
              refine pw_ifne (tgt := 91) hx hb d_X_statement_84 (by decide) (fun c_110 => ?_) (fun c_110 => ?_)
              · have c_110 : ((g (bo i)) 4) = 3 ∨ ((g (bo i)) 4) = 5 := c_110
                refine lv_iconst (v := 0) hx hb d_X_statement_91 (by decide) ?_
                refine lv_istore_n (lv' := [(2, .int (0)), (4, .ref (bk (27 + 4 * (bo i)))), (0, .ref (bk (0))), (1, .int (pt)), (3, .int (nI i))]) hx hb d_X_statement_92 rfl hl (by decide) rfl (fun ls hl => ?_)
                refine lv_iinc (v := nI (i + 1)) (lv' := [(3, .int (nI (i + 1))), (2, .int (0)), (4, .ref (bk (27 + 4 * (bo i)))), (0, .ref (bk (0))), (1, .int (pt))]) hx hb d_X_statement_93 hl (k := 4) rfl (nI_1 _) (by decide) rfl (fun ls hl => ?_)
                refine lv_goto (tgt := 20) hx hb d_X_statement_96 (by decide) ?_
                exact ih z bo g (va_up (va_up q 10 (upd (q 10) (z 4 - 1) ((g (bo i)) 1))) 11 (upd (q 11) (z 4 - 1) (q 11 (z 4 - 1) + 1))) pp dd (i + 1) 0 (by omega) hzn hbo (by omega) (fun _ => hp4) (by rw [hR, lp_stat, if_pos c_102, if_neg c_103, if_pos c_105, if_pos c_108]) _ _ _ hP hD hS (lv_sub hl [3, 4, 1, 0] rfl)
              · have c_110 : ¬ (((g (bo i)) 4) = 3 ∨ ((g (bo i)) 4) = 5) := c_110
                exact absurd c_105 c_110
            · skip
              refine pw_callv (va_runV (As := [.int ((g (bo i)) 1), .int (it)]) (rest := []) ⟨hx, hb, hml, hown, hw⟩ (c_S_add1 l D cs (27 + 4 * n) bk (CW cs z bo g q pp dd bk) H.size 13 14 15 16 (by omega) (z 4) rfl (by omega) (q 9) (q 10) (q 11) (by omega) rfl (by omega) rfl (by omega) rfl (by decide) (by decide) (by decide) (by decide) (by decide) (by decide) ((g (bo i)) 1) it c_108 (by omega)) (cw_V 2 hw kM_X_193 kI_S_add kV_S_add kZ_S kC_S_add rfl rfl ⟨rfl, by decide, by decide, by decide +kernel⟩ ⟨Nat.le_of_ble_eq_true rfl, Nat.le_of_ble_eq_true rfl⟩) (pw_preV hN hK hP hD (13) (by omega) rfl rfl) rfl rfl hl.1 rfl (lv_room (Nat.le_of_ble_eq_true rfl)) d_X_statement_76 ⟨Nat.le_of_ble_eq_true rfl, Nat.le_of_ble_eq_true rfl⟩) hS (wl_free hD hS hA) (fun N1 bk1 cw1 H locs hu hP hD hS => ?_)
              have hP : va_P D classes (wl (27 + 4 * n) bk (CW cs (va_up z 4 (z 4 + 1)) bo g (va_up (va_up (va_up q 9 (upd (q 9) (z 4) ((g (bo i)) 1))) 11 (upd (q 11) (z 4) 1)) 10 (upd (q 10) (z 4) ((g (bo i)) 1))) pp dd bk)) H := wl_eqP2 hu (by rw [CW_set14, CW_set16, CW_set13, CW_set15, CW_set16, pk_us, st_uu, st_vv]) hP
              have hD : va_D (AA (27 + 4 * n) bk sz) (wl (27 + 4 * n) bk (CW cs (va_up z 4 (z 4 + 1)) bo g (va_up (va_up (va_up q 9 (upd (q 9) (z 4) ((g (bo i)) 1))) 11 (upd (q 11) (z 4) 1)) 10 (upd (q 10) (z 4) ((g (bo i)) 1))) pp dd bk)) := wl_eqD2 hu (by rw [CW_set14, CW_set16, CW_set13, CW_set15, CW_set16, pk_us, st_uu, st_vv]) hD
              refine lv_aload hx hb d_X_statement_79 (lv_at hl 0 rfl) ?_
              refine pw_callSi (va_runV (As := []) (rest := []) ⟨hx, hb, hml, hown, hw⟩ (c_I_isThere l D cs (27 + 4 * n) bk (CW cs (va_up z 4 (z 4 + 1)) bo g (va_up (va_up (va_up q 9 (upd (q 9) (z 4) ((g (bo i)) 1))) 11 (upd (q 11) (z 4) 1)) 10 (upd (q 10) (z 4) ((g (bo i)) 1))) pp dd bk) H.size (27 + 4 * (bo i)) (28 + 4 * (bo i)) (by omega) (nI (bo i)) ((g (bo i)) 0) ((g (bo i)) 1) ((g (bo i)) 2) ((g (bo i)) 3) ((g (bo i)) 4) ((g (bo i)) 5) ((g (bo i)) 6) ((g (bo i)) 7) ((g (bo i)) 8) ((g (bo i)) 9) ((g (bo i)) 10) ((g (bo i)) 11) (CW_iss (bo i))) (cw_V 0 hw kM_X_190 kI_I_isThere kV_I_isThere kZ_I kC_I_isThere rfl rfl ⟨rfl, by decide, by decide, by decide +kernel⟩ ⟨Nat.le_of_ble_eq_true rfl, Nat.le_of_ble_eq_true rfl⟩) (pw_preV hN hK hP hD (27 + 4 * (bo i)) (by omega) (CW_iss (bo i)) rfl) rfl rfl hl.1 rfl (lv_room (Nat.le_of_ble_eq_true rfl)) d_X_statement_81 ⟨Nat.le_of_ble_eq_true rfl, Nat.le_of_ble_eq_true rfl⟩) (fun r_111 hr_111 => ?_)
              have hr_111 : r_111 = bI (((g (bo i)) 4) = 3 ∨ ((g (bo i)) 4) = 5) := hr_111
              subst hr_111
              refine pw_ifne (tgt := 91) hx hb d_X_statement_84 (by decide) (fun c_112 => ?_) (fun c_112 => ?_)
              · have c_112 : ((g (bo i)) 4) = 3 ∨ ((g (bo i)) 4) = 5 := c_112
                refine lv_iconst (v := 0) hx hb d_X_statement_91 (by decide) ?_
                refine lv_istore_n (lv' := [(2, .int (0)), (4, .ref (bk (27 + 4 * (bo i)))), (0, .ref (bk (0))), (1, .int (pt)), (3, .int (nI i))]) hx hb d_X_statement_92 rfl hl (by decide) rfl (fun ls hl => ?_)
                refine lv_iinc (v := nI (i + 1)) (lv' := [(3, .int (nI (i + 1))), (2, .int (0)), (4, .ref (bk (27 + 4 * (bo i)))), (0, .ref (bk (0))), (1, .int (pt))]) hx hb d_X_statement_93 hl (k := 4) rfl (nI_1 _) (by decide) rfl (fun ls hl => ?_)
                refine lv_goto (tgt := 20) hx hb d_X_statement_96 (by decide) ?_
                exact ih (va_up z 4 (z 4 + 1)) bo g (va_up (va_up (va_up q 9 (upd (q 9) (z 4) ((g (bo i)) 1))) 11 (upd (q 11) (z 4) 1)) 10 (upd (q 10) (z 4) ((g (bo i)) 1))) pp dd (i + 1) 0 (by omega) hzn hbo (by show z 4 + 1 ≤ i + 1; omega) (fun _ => Nat.succ_pos _) (by rw [hR, lp_stat, if_pos c_102, if_neg c_103, if_pos c_105, if_neg c_108]) _ _ _ hP hD hS (lv_sub hl [3, 4, 1, 0] rfl)
              · have c_112 : ¬ (((g (bo i)) 4) = 3 ∨ ((g (bo i)) 4) = 5) := c_112
                exact absurd c_105 c_112
        · have c_103 : ((g (bo i)) 4) = 6 := c_103
          refine lv_goto (tgt := 93) hx hb d_X_statement_55 (by decide) ?_
          refine lv_iinc (v := nI (i + 1)) (lv' := [(3, .int (nI (i + 1))), (4, .ref (bk (27 + 4 * (bo i)))), (0, .ref (bk (0))), (1, .int (pt)), (2, .int (it))]) hx hb d_X_statement_93 hl (k := 4) rfl (nI_1 _) (by decide) rfl (fun ls hl => ?_)
          refine lv_goto (tgt := 20) hx hb d_X_statement_96 (by decide) ?_
          exact ih z bo g q pp dd (i + 1) it (by omega) hzn hbo (by omega) hit (by rw [hR, lp_stat, if_pos c_102, if_pos c_103]) _ _ _ hP hD hS (lv_sub hl [2, 3, 4, 0] rfl)
def s_X_statement (z bo : Nat → Nat) (g q pp dd : Nat → Nat → Int32) (pt : Int32) : XS := (if 0 ≤ pt ∧ pt ≤ 9 then (lp_stat pt (z 0) (va_up z 4 0) bo g q pp dd 0 1) else (-1, z, bo, g, q, pp, dd))
set_option maxHeartbeats 4000000 in
set_option maxRecDepth 100000 in
theorem c_X_statement (l : Launch) (D : va_G) (cs : Nat → ClassId) (bk : Nat → Nat) (sz : Nat) (z bo : Nat → Nat) (g q pp dd : Nat → Nat → Int32) (hz0 : z 0 ≤ 200) (hbo : ∀ t, t < z 0 → bo t < z 0) (pt : Int32) : Met l y_X_statement w_X_statement ({ frames := 2, cells := 0, slots := 0, locals := 42 }) (va_Pc [.ref (bk (0)), .int (pt)] (PB D classes (TY cs) (27 + 4 * z 0) bk (CW cs z bo g q pp dd bk) sz)) (va_Qi (Xr cs bk (s_X_statement z bo g q pp dd pt)) (Wd D classes (TY cs) (AA (27 + 4 * z 0) bk sz)) (AA (27 + 4 * z 0) bk sz)) 0 0 (AA (27 + 4 * z 0) bk sz) := by
  refine pw_entry (cc := b_X_statement) (maxL := 5) (ret := (some .int)) (by decide +kernel) rfl (Nat.le_of_ble_eq_true rfl) ?_
  intro p_ e_ s m below_ meth_ c_ ls hx hb hr hml hts hown hlocks hin hsz hP hK hD hS hA hN hl
  have hw : ∀ w ∈ WA, w.before _ s = true := fun w h => hts w (List.mem_cons_of_mem _ h)
  have hown : s.vm.findClass "IssueRows" = some m.cls := hown
  have hl : lv_has ls 5 [(0, .ref (bk (0))), (1, .int (pt))] := hl
  refine lv_iload_n hx hb d_X_statement_0 rfl (lv_at hl 1 rfl) ?_
  refine pw_callSi (va_runS (As := [.int (pt)]) (rest := []) ⟨hx, hb, hml, hown, hw⟩ (c_X_isPattern l D cs (27 + 4 * z 0) bk (CW cs z bo g q pp dd bk) s.heap.size pt) (cw_S 1 hw kM_X_55 kS_X_isPattern kZ_X kC_X_isPattern rfl rfl ⟨rfl, by decide, by decide, by decide +kernel⟩ ⟨Nat.le_of_ble_eq_true rfl, Nat.le_of_ble_eq_true rfl⟩) (pw_preS hN hK hP hD) rfl rfl hl.1 rfl (lv_room (Nat.le_of_ble_eq_true rfl)) d_X_statement_1 ⟨Nat.le_of_ble_eq_true rfl, Nat.le_of_ble_eq_true rfl⟩) (fun r_1 hr_1 => ?_)
  have hr_1 : r_1 = bI (0 ≤ pt ∧ pt ≤ 9) := hr_1
  subst hr_1
  refine pw_ifne (tgt := 9) hx hb d_X_statement_4 (by decide) (fun c_2 => ?_) (fun c_2 => ?_)
  · have c_2 : 0 ≤ pt ∧ pt ≤ 9 := c_2
    refine lv_aload_n hx hb d_X_statement_9 rfl (lv_at hl 0 rfl) ?_
    refine pw_get (ci := 0) (v := .ref (bk (13))) hx hb hw i_X hown hK hP (0) (by omega) rfl rfl 7 (by decide) (hw _ kF_X_50) rfl d_X_statement_10 ?_
    refine pw_callv (va_runV (As := []) (rest := []) ⟨hx, hb, hml, hown, hw⟩ (c_S_clear l D cs (27 + 4 * z 0) bk (CW cs z bo g q pp dd bk) s.heap.size 13 14 15 16 (by omega) (nI (z 4)) rfl) (cw_V 0 hw kM_X_189 kI_S_clear kV_S_clear kZ_S kC_S_clear rfl rfl ⟨rfl, by decide, by decide, by decide +kernel⟩ ⟨Nat.le_of_ble_eq_true rfl, Nat.le_of_ble_eq_true rfl⟩) (pw_preV hN hK hP hD (13) (by omega) rfl rfl) rfl rfl hl.1 rfl (lv_room (Nat.le_of_ble_eq_true rfl)) d_X_statement_13 ⟨Nat.le_of_ble_eq_true rfl, Nat.le_of_ble_eq_true rfl⟩) hS (wl_free hD hS hA) (fun N1 bk1 cw1 H locs hu hP hD hS => ?_)
    have hP : va_P D classes (wl (27 + 4 * z 0) bk (CW cs (va_up z 4 0) bo g q pp dd bk)) H := wl_eqP2 hu (CW_set13 0) hP
    have hD : va_D (AA (27 + 4 * z 0) bk sz) (wl (27 + 4 * z 0) bk (CW cs (va_up z 4 0) bo g q pp dd bk)) := wl_eqD2 hu (CW_set13 0) hD
    refine lv_iconst (v := 1) hx hb d_X_statement_16 (by decide) ?_
    refine lv_istore_n (lv' := [(2, .int (1)), (0, .ref (bk (0))), (1, .int (pt))]) hx hb d_X_statement_17 rfl hl (by decide) rfl (fun ls hl => ?_)
    refine lv_iconst (v := 0) hx hb d_X_statement_18 (by decide) ?_
    refine lv_istore_n (lv' := [(3, .int (0)), (2, .int (1)), (0, .ref (bk (0))), (1, .int (pt))]) hx hb d_X_statement_19 rfl hl (by decide) rfl (fun ls hl => ?_)
    exact l_X_statement (z 0) hz0 pt _ hx hb hr hml hw hown hlocks hA hN hK (z 0) (va_up z 4 0) bo g q pp dd 0 1 (by omega) rfl hbo (Nat.le_refl _) (fun h => absurd h (by decide)) (by rw [s_X_statement, if_pos c_2]) _ _ _ hP hD hS (lv_sub hl [2, 3, 1, 0] rfl)
  · have c_2 : ¬ (0 ≤ pt ∧ pt ≤ 9) := c_2
    refine lv_iconst (v := -1) hx hb d_X_statement_7 (by decide) ?_
    exact W.iret (v := -1) hx hb hr (fun t ht hW => ⟨⟨-1, (27 + 4 * z 0, bk, CW cs z bo g q pp dd bk), rfl, Xr_of (by rw [s_X_statement, if_neg c_2]) rfl, by rw [ht]; exact hP, va_K.moved hW.alike hK, hD⟩, hS.F ht⟩) hS.2.2 d_X_statement_8

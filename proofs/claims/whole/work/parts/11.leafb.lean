set_option maxHeartbeats 4000000 in
set_option maxRecDepth 100000 in
theorem c_U_isDue (l : Launch) (D : va_G) (cs : Nat → ClassId) (N : Nat) (bk : Nat → Nat) (cw : Nat → va_E) (sz : Nat) (K KR : Nat) (hk : K < N) (nu pa od ex rp sa cl cd co ca vo rb ce : Int32) (he : cw K = .inr (2, [.int nu, .int pa, .int od, .int ex, .int rp, .ref (bk KR), .int sa, .int cl, .int cd, .int co, .int ca, .int vo, .int rb, .int ce])) (KU : Nat) (hku : KU < N) (f1 f2 f3 : Int32) (heu : cw KU = .inr (1, [.int f1, .int f2, .int f3])) (day : Int32) : Met l y_U_isDue w_U_isDue ({ frames := 0, cells := 0, slots := 0, locals := 0 }) (va_Pc [.ref (bk (KU)), .ref (bk (K)), .int (day)] (PB D classes (TY cs) N bk cw sz)) (vp_Si (fun r => r = bI ((sa = 1 ∧ f1 ≤ day - ex) ∨ (sa = 2 ∧ f2 ≤ day - cd)))) 0 0 (fun _ => False) := by
  refine pw_entry (cc := b_U_isDue) (maxL := 3) (ret := (some .boolean)) (by decide +kernel) rfl (Nat.le_of_ble_eq_true rfl) ?_
  intro p_ e_ s m below_ meth_ c_ ls hx hb hr hml hts hown hlocks hin hsz hP hK hD hS hA hN hl
  have hw : ∀ w ∈ WA, w.before _ s = true := fun w h => hts w (List.mem_cons_of_mem _ h)
  have hown : s.vm.findClass "IssueRows$Rule" = some m.cls := hown
  have hl : lv_has ls 3 [(0, .ref (bk (KU))), (1, .ref (bk (K))), (2, .int (day))] := hl
  refine lv_aload_n hx hb d_U_isDue_0 rfl (lv_at hl 1 rfl) ?_
  refine pw_get (ci := 2) (v := .int (sa)) hx hb hw i_I hown hK hP (K) hk he rfl 6 (by decide) (hw _ kF_U_21) rfl d_U_isDue_1 ?_
  refine lv_iconst (v := 1) hx hb d_U_isDue_4 (by decide) ?_
  refine lv_icmp_ne (tgt := 27) hx hb d_U_isDue_5 (by decide) (fun c_1 => ?_) (fun c_1 => ?_)
  · have c_1 : ¬ sa = 1 := c_1
    refine lv_aload_n hx hb d_U_isDue_27 rfl (lv_at hl 1 rfl) ?_
    refine pw_get (ci := 2) (v := .int (sa)) hx hb hw i_I hown hK hP (K) hk he rfl 6 (by decide) (hw _ kF_U_21) rfl d_U_isDue_28 ?_
    refine lv_iconst (v := 2) hx hb d_U_isDue_31 (by decide) ?_
    refine lv_icmp_ne (tgt := 52) hx hb d_U_isDue_32 (by decide) (fun c_2 => ?_) (fun c_2 => ?_)
    · have c_2 : ¬ sa = 2 := c_2
      refine lv_iconst (v := 0) hx hb d_U_isDue_52 (by decide) ?_
      exact W.zret (v := 0) (ty := .boolean) hx hb hr (by decide) (fun t ht hW => ⟨0, rfl, (bI_f (by simp only [Int32.lt_iff_toInt_lt, Int32.le_iff_toInt_le, ← Int32.toInt_inj, T0, T1, T2, T3, T4, T5, T6, T7, T8, T9, T10, T40, T50, T99, T100, T200, T999, T1000, T9999, T1000000, T10000000, T1000000000, Tm1] at c_1 c_2 ⊢; omega)).symm, ht⟩) (fun q h => by cases h) d_U_isDue_53
    · have c_2 : sa = 2 := c_2
      refine lv_iload_n hx hb d_U_isDue_35 rfl (lv_at hl 2 rfl) ?_
      refine lv_aload_n hx hb d_U_isDue_36 rfl (lv_at hl 1 rfl) ?_
      refine pw_get (ci := 2) (v := .int (cd)) hx hb hw i_I hown hK hP (K) hk he rfl 8 (by decide) (hw _ kF_U_29) rfl d_U_isDue_37 ?_
      refine lv_isub hx hb d_U_isDue_40 ?_
      refine lv_aload_n hx hb d_U_isDue_41 rfl (lv_at hl 0 rfl) ?_
      refine pw_get (ci := 1) (v := .int (f2)) hx hb hw i_U hown hK hP (KU) hku heu rfl 1 (by decide) (hw _ kF_U_15) rfl d_U_isDue_42 ?_
      refine lv_icmp_lt (tgt := 52) hx hb d_U_isDue_45 (by decide) (fun c_3 => ?_) (fun c_3 => ?_)
      · have c_3 : (day - cd) < f2 := c_3
        refine lv_iconst (v := 0) hx hb d_U_isDue_52 (by decide) ?_
        exact W.zret (v := 0) (ty := .boolean) hx hb hr (by decide) (fun t ht hW => ⟨0, rfl, (bI_f (by simp only [Int32.lt_iff_toInt_lt, Int32.le_iff_toInt_le, ← Int32.toInt_inj, T0, T1, T2, T3, T4, T5, T6, T7, T8, T9, T10, T40, T50, T99, T100, T200, T999, T1000, T9999, T1000000, T10000000, T1000000000, Tm1] at c_1 c_2 c_3 ⊢; omega)).symm, ht⟩) (fun q h => by cases h) d_U_isDue_53
      · have c_3 : ¬ (day - cd) < f2 := c_3
        refine lv_iconst (v := 1) hx hb d_U_isDue_48 (by decide) ?_
        refine lv_goto (tgt := 53) hx hb d_U_isDue_49 (by decide) ?_
        exact W.zret (v := 1) (ty := .boolean) hx hb hr (by decide) (fun t ht hW => ⟨1, rfl, (bI_t (by simp only [Int32.lt_iff_toInt_lt, Int32.le_iff_toInt_le, ← Int32.toInt_inj, T0, T1, T2, T3, T4, T5, T6, T7, T8, T9, T10, T40, T50, T99, T100, T200, T999, T1000, T9999, T1000000, T10000000, T1000000000, Tm1] at c_1 c_2 c_3 ⊢; omega)).symm, ht⟩) (fun q h => by cases h) d_U_isDue_53
  · have c_1 : sa = 1 := c_1
    refine lv_iload_n hx hb d_U_isDue_8 rfl (lv_at hl 2 rfl) ?_
    refine lv_aload_n hx hb d_U_isDue_9 rfl (lv_at hl 1 rfl) ?_
    refine pw_get (ci := 2) (v := .int (ex)) hx hb hw i_I hown hK hP (K) hk he rfl 3 (by decide) (hw _ kF_U_26) rfl d_U_isDue_10 ?_
    refine lv_isub hx hb d_U_isDue_13 ?_
    refine lv_aload_n hx hb d_U_isDue_14 rfl (lv_at hl 0 rfl) ?_
    refine pw_get (ci := 1) (v := .int (f1)) hx hb hw i_U hown hK hP (KU) hku heu rfl 0 (by decide) (hw _ kF_U_9) rfl d_U_isDue_15 ?_
    refine lv_icmp_lt (tgt := 25) hx hb d_U_isDue_18 (by decide) (fun c_4 => ?_) (fun c_4 => ?_)
    · have c_4 : (day - ex) < f1 := c_4
      refine lv_iconst (v := 0) hx hb d_U_isDue_25 (by decide) ?_
      exact W.zret (v := 0) (ty := .boolean) hx hb hr (by decide) (fun t ht hW => ⟨0, rfl, (bI_f (by simp only [Int32.lt_iff_toInt_lt, Int32.le_iff_toInt_le, ← Int32.toInt_inj, T0, T1, T2, T3, T4, T5, T6, T7, T8, T9, T10, T40, T50, T99, T100, T200, T999, T1000, T9999, T1000000, T10000000, T1000000000, Tm1] at c_1 c_4 ⊢; omega)).symm, ht⟩) (fun q h => by cases h) d_U_isDue_26
    · have c_4 : ¬ (day - ex) < f1 := c_4
      refine lv_iconst (v := 1) hx hb d_U_isDue_21 (by decide) ?_
      refine lv_goto (tgt := 26) hx hb d_U_isDue_22 (by decide) ?_
      exact W.zret (v := 1) (ty := .boolean) hx hb hr (by decide) (fun t ht hW => ⟨1, rfl, (bI_t (by simp only [Int32.lt_iff_toInt_lt, Int32.le_iff_toInt_le, ← Int32.toInt_inj, T0, T1, T2, T3, T4, T5, T6, T7, T8, T9, T10, T40, T50, T99, T100, T200, T999, T1000, T9999, T1000000, T10000000, T1000000000, Tm1] at c_1 c_4 ⊢; omega)).symm, ht⟩) (fun q h => by cases h) d_U_isDue_26
